/-- Writer.rule -/
theorem M387 {σ0 σ : rS} {D N : Nat → Nat} {F : hF} {A : hA} {d c s : Nat} {Q : wQ} (H : HS σ0 σ D N F A) {a1 a2 : Int} (h0 : inr (a1)) (h1 : inr (a2)) (h2 : 0 ≤ (a1) ∧ (a1) ≤ 3 ∧ 0 ≤ (a2) ∧ (a2) ≤ 8) (k : ∀ σ F' A', HS σ0 σ D N F' A' → SF [(6, 1), (6, 2)] F F' → SA [] A A' → ∀ y6_2 : Int, F' 6 2 = y6_2 → ((y6_2) = (a2)) → Q none σ c s) : Ew 387 (d + 0) 0 (rargs 0 [.ref (D 6), I a1, I a2]) [] σ c s Q := by
  refine Ew_of (pc' := 1) (fun _ => x_aload_n rfl rfl) ?_
  refine Ew_of (pc' := 2) (fun _ => x_iload_n rfl rfl) ?_
  refine w_pI H (o := 6) rfl rfl (H.perm 6 rfl) rfl rfl rfl (fun _ => rfl) rfl (show (0 : Int) ≤ a1 ∧ a1 ≤ 3 by omega) (fun σ H => ?_)
  refine Ew_of (pc' := 6) (fun _ => x_aload_n rfl rfl) ?_
  refine Ew_of (pc' := 7) (fun _ => x_iload_n rfl rfl) ?_
  refine w_pI H (o := 6) rfl rfl (H.perm 6 rfl) rfl rfl rfl (fun _ => rfl) rfl (show (0 : Int) ≤ a2 ∧ a2 ≤ 8 by omega) (fun σ H => ?_)
  exact w_ret rfl (k σ _ _ H (SF_upd (SF_upd (SF_refl) rfl) rfl) (SA_refl) (a2) (rfl) (show (a2) = a2 by omega))
/-- Writer.put -/
theorem M389 {σ0 σ : rS} {D N : Nat → Nat} {F : hF} {A : hA} {d c s : Nat} {Q : wQ} (H : HS σ0 σ D N F A) {a1 a2 : Int} (u6_35 : Int) (eu6_35 : F 6 35 = u6_35) (w69 : Int → Int) (ew69 : A 69 = w69) (h0 : inr (a1)) (h1 : inr (a2)) (h2 : 0 ≤ (a2) ∧ (a2) ≤ 31) (h3 : 0 ≤ (u6_35) ∧ (u6_35) ≤ 90000000) (k : ∀ σ F' A', HS σ0 σ D N F' A' → SF [(6, 35)] F F' → SA [69] A A' → ∀ y6_35 : Int, F' 6 35 = y6_35 → ∀ v69 : Int → Int, A' 69 = v69 → ((y6_35) = (u6_35) + (a2)) → (IMP ((u6_35) + (a2) ≤ 192000) (MDA ((w69)) ((u6_35)) ((v69)) ((y6_35)) (btw ((a1)) ((a2))))) → Q none σ c s) : Ew 389 (d + 0) 0 (rargs 0 [.ref (D 6), I a1, I a2]) [] σ c s Q := by
  have r1 : (0 : Int) ≤ u6_35 ∧ u6_35 ≤ 100000000 := by have h1 : (0 : Int) ≤ F 6 35 ∧ F 6 35 ≤ 100000000 := H.frng 6 35; rw [show F 6 35 = u6_35 from (eu6_35)] at h1; exact h1
  refine Ew_of (pc' := 1) (fun _ => x_iconst rfl) ?_
  refine Ew_of (pc' := 2) (fun _ => x_istore_n rfl) ?_
  have : IMP ((u6_35) + (a2) ≤ 192000) (MDA ((w69)) ((u6_35)) ((w69)) ((u6_35)) (btw ((a1)) 0)) := fun _ => MDA_0
  suffices hl2 : ∀ (m : Nat), ∀ (ls : rO) (σ : rS) (F_2 : hF) (A_2 : hA) (x2_3 : Int), rlook ls 0 = some (.ref (D 6)) → rlook ls 1 = some (I (a1)) → rlook ls 2 = some (I (a2)) → rlook ls 3 = some (I (x2_3)) → HS σ0 σ D N F_2 A_2 → SF [(6, 35)] F F_2 → SA [69] A A_2 → ∀ y2_6_35 : Int, F_2 6 35 = y2_6_35 → ∀ w2_69 : Int → Int, A_2 69 = w2_69 → (inr (x2_3)) → ((0) ≤ (x2_3)) → ((x2_3) ≤ (0) ∨ (x2_3) ≤ ((a2))) → ((y2_6_35) = (u6_35) + (x2_3)) → (IMP ((u6_35) + (a2) ≤ 192000) (MDA ((w69)) ((u6_35)) ((w2_69)) ((y2_6_35)) (btw ((a1)) ((x2_3))))) → (((a2)) - (x2_3)).toNat = m → Ew 389 (d + 0) 2 ls [] σ c s Q from
    hl2 _ _ σ _ _ (0) (rk_o (rfl) rfl rfl) (rk_o (rfl) rfl rfl) (rk_o (rfl) rfl rfl) (rk_s) H (SF_refl) (SA_refl) (u6_35) ((eu6_35)) (w69) (ew69) (show inr (0) by omega) (show (0) ≤ (0) by omega) (show (0) ≤ (0) ∨ (0) ≤ ((a2)) by omega) (show (u6_35) = (u6_35) + (0) by omega) (show IMP ((u6_35) + (a2) ≤ 192000) (MDA ((w69)) ((u6_35)) ((w69)) ((u6_35)) (btw ((a1)) ((0)))) by assumption) rfl
  as_aux_lemma =>
  intro m
  induction m using Nat.strongRecOn with
  | _ m ih2 =>
    intro ls σ F_2 A_2 x2_3 l2_0 l2_1 l2_2 l2_3 H hS_2 hA_2 y2_6_35 ey2_6_35 w2_69 ew2_69 j2_0 j2_1 j2_2 j2_3 j2_4 hm2
    have r2 : (0 : Int) ≤ y2_6_35 ∧ y2_6_35 ≤ 100000000 := by have h1 : (0 : Int) ≤ F_2 6 35 ∧ F_2 6 35 ≤ 100000000 := H.frng 6 35; rw [show F_2 6 35 = y2_6_35 from (ey2_6_35)] at h1; exact h1
    have j2_q : IMP ((u6_35) + (a2) ≤ 192000) (MDA ((w69)) ((u6_35)) ((w2_69)) ((y2_6_35)) (btw ((a1)) ((x2_3)))) := by assumption
    refine Ew_of (pc' := 3) (fun _ => x_iload_n rfl l2_3) ?_
    refine Ew_of (pc' := 4) (fun _ => x_iload_n rfl l2_2) ?_
    refine w_icmpge (t := 70) rfl rfl (show inr (x2_3) by omega) (show inr (a2) by omega) (fun b3 => ?_) (fun b3 => ?_)
    · have : IMP ((u6_35) + (a2) ≤ 192000) (MDA ((w69)) ((u6_35)) ((w2_69)) ((y2_6_35)) (btw ((a1)) ((a2)))) := fun q => by rw [show (a2) = (x2_3) by omega]; exact j2_q (by omega)
      exact w_ret rfl (k σ _ _ H (SF_trans (SF_refl) hS_2 (any_sub rfl)) (SA_trans (SA_refl) hA_2 (any_subA rfl)) (y2_6_35) ((ey2_6_35)) (w2_69) (ew2_69) (show (y2_6_35) = (u6_35) + a2 by omega) (show IMP ((u6_35) + a2 ≤ 192000) (MDA ((w69)) ((u6_35)) ((w2_69)) ((y2_6_35)) (btw (a1) (a2))) by assumption))
    · refine Ew_of (pc' := 8) (fun _ => x_aload_n rfl l2_0) ?_
      refine w_gI H (o := 6) (w := y2_6_35) rfl (H.perm 6 rfl) rfl rfl rfl (fun _ => rfl) (ey2_6_35) ?_
      refine Ew_of (pc' := 13) (fun _ => x_ldc (z := 192000) rfl (by decide)) ?_
      refine w_icmpge (t := 54) rfl rfl (show inr (y2_6_35) by omega) (show inr (192000) by omega) (fun b4 => ?_) (fun b4 => ?_)
      · refine Ew_of (pc' := 55) (fun _ => x_aload_n rfl l2_0) ?_
        refine Ew_of (pc' := 56) (fun _ => x_dup rfl rfl) ?_
        refine w_gI H (o := 6) (w := y2_6_35) rfl (H.perm 6 rfl) rfl rfl rfl (fun _ => rfl) (ey2_6_35) ?_
        refine Ew_of (pc' := 60) (fun _ => x_iconst rfl) ?_
        refine w_iadd rfl ?_
        refine w_pI H (o := 6) rfl rfl (H.perm 6 rfl) rfl rfl rfl (fun _ => rfl) rfl (show (0 : Int) ≤ (y2_6_35 + 1) ∧ (y2_6_35 + 1) ≤ 100000000 by omega) (fun σ H => ?_)
        refine Ew_of (pc' := 67) (fun _ => x_iinc (len := 3) rfl (l2_3)) ?_
        refine Ew_of (pc' := 2) (fun _ => x_goto rfl rfl) ?_
        have : IMP ((u6_35) + (a2) ≤ 192000) (MDA ((w69)) ((u6_35)) ((w2_69)) (((y2_6_35 + 1))) (btw ((a1)) (((x2_3 + 1))))) := by first | exact fun q => MDA_p (j2_q q) (MDA_1 rfl (hzz trivial) (by omega) (by omega) (by omega)) (by omega) rfl | exact fun q => absurd q (by omega)
        exact ih2 _ (by omega) _ σ _ _ ((x2_3 + 1)) (rk_o (l2_0) rfl rfl) (rk_o (l2_1) rfl rfl) (rk_o (l2_2) rfl rfl) (rk_s) H (SF_upd (hS_2) rfl) (hA_2) ((y2_6_35 + 1)) (rfl) (w2_69) (ew2_69) (show inr ((x2_3 + 1)) by omega) (show (0) ≤ ((x2_3 + 1)) by omega) (show ((x2_3 + 1)) ≤ (0) ∨ ((x2_3 + 1)) ≤ ((a2)) by omega) (show ((y2_6_35 + 1)) = (u6_35) + ((x2_3 + 1)) by omega) (show IMP ((u6_35) + (a2) ≤ 192000) (MDA ((w69)) ((u6_35)) ((w2_69)) (((y2_6_35 + 1))) (btw ((a1)) (((x2_3 + 1))))) by assumption) rfl
      · refine Ew_of (pc' := 17) (fun _ => x_aload_n rfl l2_0) ?_
        refine w_gT H (o := 6) (t := 69) rfl (H.perm 6 rfl) rfl rfl rfl rfl rfl rfl ?_
        refine Ew_of (pc' := 21) (fun _ => x_aload_n rfl l2_0) ?_
        refine w_gI H (o := 6) (w := y2_6_35) rfl (H.perm 6 rfl) rfl rfl rfl (fun _ => rfl) (ey2_6_35) ?_
        refine Ew_of (pc' := 26) (fun _ => x_bipush (z := 8) rfl (by decide)) ?_
        refine w_idiv rfl (show inr (y2_6_35) ∧ 0 ≤ y2_6_35 by omega) (show inr (8) ∧ 0 < 8 by omega) ?_
        refine Ew_of (pc' := 28) (fun _ => x_aload_n rfl l2_0) ?_
        refine w_gT H (o := 6) (t := 69) rfl (H.perm 6 rfl) rfl rfl rfl rfl rfl rfl ?_
        refine Ew_of (pc' := 32) (fun _ => x_aload_n rfl l2_0) ?_
        refine w_gI H (o := 6) (w := y2_6_35) rfl (H.perm 6 rfl) rfl rfl rfl (fun _ => rfl) (ey2_6_35) ?_
        refine Ew_of (pc' := 37) (fun _ => x_bipush (z := 8) rfl (by decide)) ?_
        refine w_idiv rfl (show inr (y2_6_35) ∧ 0 ≤ y2_6_35 by omega) (show inr (8) ∧ 0 < 8 by omega) ?_
        refine w_lI H (o := 69) (n := 24000) rfl (H.perm 69 rfl) rfl rfl (H.fix 69 rfl rfl) (show 0 ≤ (y2_6_35 / 8) ∧ (y2_6_35 / 8) < ((24000 : Nat) : Int) by omega) (by decide) (fun v5 ev5 qv5 => ?_)
        have qv5 : (0 : Int) ≤ v5 ∧ v5 ≤ 255 := qv5
        have ev5 : (w2_69) ((y2_6_35 / 8)) = v5 := (congrFun (ew2_69) ((y2_6_35 / 8))).symm.trans ev5
        have hm := ev5
        refine Ew_of (pc' := 40) (fun _ => x_iload_n rfl l2_1) ?_
        refine Ew_of (pc' := 41) (fun _ => x_iload_n rfl l2_3) ?_
        refine w_ishrG rfl ?_
        have g6 : inr (srI (a1) (x2_3)) := toI_inr _
        refine Ew_of (pc' := 43) (fun _ => x_iconst rfl) ?_
        refine w_iandG rfl ?_
        have g7 : inr (andI ((srI (a1) (x2_3))) (1)) := toI_inr _
        refine Ew_of (pc' := 45) (fun _ => x_aload_n rfl l2_0) ?_
        refine w_gI H (o := 6) (w := y2_6_35) rfl (H.perm 6 rfl) rfl rfl rfl (fun _ => rfl) (ey2_6_35) ?_
        refine Ew_of (pc' := 50) (fun _ => x_bipush (z := 8) rfl (by decide)) ?_
        refine w_irem rfl (show inr (y2_6_35) ∧ 0 ≤ y2_6_35 by omega) (show inr (8) ∧ 0 < 8 by omega) ?_
        refine w_ishlE rfl ?_
        have g8 : inr (slI ((andI ((srI (a1) (x2_3))) (1))) ((y2_6_35 % 8))) := toI_inr _
        refine w_iorE rfl ?_
        have g9 : inr (orI (v5) ((slI ((andI ((srI (a1) (x2_3))) (1))) ((y2_6_35 % 8))))) := toI_inr _
        have hz : ((orI (v5) ((slI ((andI ((srI (a1) (x2_3))) (1))) ((y2_6_35 % 8)))))) = orI (((w2_69)) ((y2_6_35) / 8)) (slI ((a1) / p2 ((x2_3)) % 2) ((y2_6_35) % 8)) := by rw [hm, andI_1, srI_g (by omega) (by omega)]
        have hzb : (0 : Int) ≤ ((orI (v5) ((slI ((andI ((srI (a1) (x2_3))) (1))) ((y2_6_35 % 8)))))) ∧ ((orI (v5) ((slI ((andI ((srI (a1) (x2_3))) (1))) ((y2_6_35 % 8)))))) ≤ 255 := by rw [hz]; exact orI_sb (by omega) (by omega) (by omega)
        obtain ⟨qz, hqz⟩ : ∃ q : Int, q = ((orI (v5) ((slI ((andI ((srI (a1) (x2_3))) (1))) ((y2_6_35 % 8)))))) := ⟨_, rfl⟩
        rw [← hqz]
        have gqz : inr qz := by rw [hqz]; first | assumption | omega
        replace hqz : IMP True (qz = ((orI (v5) ((slI ((andI ((srI (a1) (x2_3))) (1))) ((y2_6_35 % 8))))))) := fun _ => hqz
        try clear g9
        try clear g8
        try clear g7
        try clear g6
        have hqb : 0 ≤ qz ∧ qz ≤ 255 := by rw [hqz trivial]; exact hzb
        clear hzb
        have hzz : IMP True (qz = orI (((w2_69)) ((y2_6_35) / 8)) (slI ((a1) / p2 ((x2_3)) % 2) ((y2_6_35) % 8))) := fun _ => (hqz trivial).trans hz
        clear hz
        refine w_sI H (o := 69) (n := 24000) rfl (H.perm 69 rfl) rfl rfl (H.fix 69 rfl rfl) (show 0 ≤ (y2_6_35 / 8) ∧ (y2_6_35 / 8) < ((24000 : Nat) : Int) by omega) (by decide) (show (0 : Int) ≤ qz ∧ qz ≤ 255 by omega) (fun σ H => ?_)
        refine Ew_of (pc' := 55) (fun _ => x_aload_n rfl l2_0) ?_
        refine Ew_of (pc' := 56) (fun _ => x_dup rfl rfl) ?_
        refine w_gI H (o := 6) (w := y2_6_35) rfl (H.perm 6 rfl) rfl rfl rfl (fun _ => rfl) (ey2_6_35) ?_
        refine Ew_of (pc' := 60) (fun _ => x_iconst rfl) ?_
        refine w_iadd rfl ?_
        refine w_pI H (o := 6) rfl rfl (H.perm 6 rfl) rfl rfl rfl (fun _ => rfl) rfl (show (0 : Int) ≤ (y2_6_35 + 1) ∧ (y2_6_35 + 1) ≤ 100000000 by omega) (fun σ H => ?_)
        refine Ew_of (pc' := 67) (fun _ => x_iinc (len := 3) rfl (l2_3)) ?_
        refine Ew_of (pc' := 2) (fun _ => x_goto rfl rfl) ?_
        have : IMP ((u6_35) + (a2) ≤ 192000) (MDA ((w69)) ((u6_35)) ((upd1 (w2_69) ((y2_6_35 / 8)) (qz))) (((y2_6_35 + 1))) (btw ((a1)) (((x2_3 + 1))))) := by first | exact fun q => MDA_p (j2_q q) (MDA_1 rfl (hzz trivial) (by omega) (by omega) (by omega)) (by omega) rfl | exact fun q => absurd q (by omega)
        exact ih2 _ (by omega) _ σ _ _ ((x2_3 + 1)) (rk_o (l2_0) rfl rfl) (rk_o (l2_1) rfl rfl) (rk_o (l2_2) rfl rfl) (rk_s) H (SF_upd (hS_2) rfl) (SA_upd (hA_2) rfl) ((y2_6_35 + 1)) (rfl) (upd1 (w2_69) ((y2_6_35 / 8)) (qz)) (congrArg (fun q => upd1 q ((y2_6_35 / 8)) (qz)) (ew2_69)) (show inr ((x2_3 + 1)) by omega) (show (0) ≤ ((x2_3 + 1)) by omega) (show ((x2_3 + 1)) ≤ (0) ∨ ((x2_3 + 1)) ≤ ((a2)) by omega) (show ((y2_6_35 + 1)) = (u6_35) + ((x2_3 + 1)) by omega) (show IMP ((u6_35) + (a2) ≤ 192000) (MDA ((w69)) ((u6_35)) ((upd1 (w2_69) ((y2_6_35 / 8)) (qz))) (((y2_6_35 + 1))) (btw ((a1)) (((x2_3 + 1))))) by assumption) rfl
/-- Writer.fill -/
theorem M390 {σ0 σ : rS} {D N : Nat → Nat} {F : hF} {A : hA} {d c s : Nat} {Q : wQ} (H : HS σ0 σ D N F A)  (u6_35 : Int) (eu6_35 : F 6 35 = u6_35) (w69 : Int → Int) (ew69 : A 69 = w69) (h0 : 0 ≤ (u6_35) ∧ (u6_35) ≤ 99000000) (k : ∀ σ F' A', HS σ0 σ D N F' A' → SF [(6, 35)] F F' → SA [] A A' → ∀ y6_35 : Int, F' 6 35 = y6_35 → ((u6_35) ≤ (y6_35) ∧ (y6_35) ≤ (u6_35) + 7) → (MDP ((w69)) ((u6_35)) ((w69)) ((y6_35))) → ((y6_35) % 8 = 0) → Q none σ c s) : Ew 390 (d + 0) 0 (rargs 0 [.ref (D 6)]) [] σ c s Q := by
  have r1 : (0 : Int) ≤ u6_35 ∧ u6_35 ≤ 100000000 := by have h1 : (0 : Int) ≤ F 6 35 ∧ F 6 35 ≤ 100000000 := H.frng 6 35; rw [show F 6 35 = u6_35 from (eu6_35)] at h1; exact h1
  have : MDQ ((w69)) ((u6_35)) ((u6_35)) := fun B h => MDF_0 h
  suffices hl0 : ∀ (m : Nat), ∀ (ls : rO) (σ : rS) (F_0 : hF) (A_0 : hA) , rlook ls 0 = some (.ref (D 6)) → HS σ0 σ D N F_0 A_0 → SF [(6, 35)] F F_0 → SA [] A A_0 → ∀ y0_6_35 : Int, F_0 6 35 = y0_6_35 → ((u6_35) ≤ (y0_6_35) ∧ (y0_6_35) ≤ (u6_35) + 7) → (((y0_6_35) - 1) / 8 = ((u6_35) - 1) / 8) → (MDQ ((w69)) ((u6_35)) ((y0_6_35))) → ((u6_35) + 8 - (y0_6_35)).toNat = m → Ew 390 (d + 0) 0 ls [] σ c s Q from
    hl0 _ _ σ _ _  (rfl) H (SF_refl) (SA_refl) (u6_35) ((eu6_35))  (show (u6_35) ≤ (u6_35) ∧ (u6_35) ≤ (u6_35) + 7 by omega) (show ((u6_35) - 1) / 8 = ((u6_35) - 1) / 8 by omega) (show MDQ ((w69)) ((u6_35)) ((u6_35)) by assumption) rfl
  as_aux_lemma =>
  intro m
  induction m using Nat.strongRecOn with
  | _ m ih0 =>
    intro ls σ F_0 A_0  l0_0 H hS_0 hA_0 y0_6_35 ey0_6_35  j0_0 j0_1 j0_2 hm0
    have r2 : (0 : Int) ≤ y0_6_35 ∧ y0_6_35 ≤ 100000000 := by have h1 : (0 : Int) ≤ F_0 6 35 ∧ F_0 6 35 ≤ 100000000 := H.frng 6 35; rw [show F_0 6 35 = y0_6_35 from (ey0_6_35)] at h1; exact h1
    have j0_q : MDQ ((w69)) ((u6_35)) ((y0_6_35)) := by assumption
    refine Ew_of (pc' := 1) (fun _ => x_aload_n rfl l0_0) ?_
    refine w_gI H (o := 6) (w := y0_6_35) rfl (H.perm 6 rfl) rfl rfl rfl (fun _ => rfl) (ey0_6_35) ?_
    refine Ew_of (pc' := 6) (fun _ => x_bipush (z := 8) rfl (by decide)) ?_
    refine w_irem rfl (show inr (y0_6_35) ∧ 0 ≤ y0_6_35 by omega) (show inr (8) ∧ 0 < 8 by omega) ?_
    refine w_ifeq (t := 23) rfl rfl (show inr ((y0_6_35 % 8)) by omega) (fun b3 => ?_) (fun b3 => ?_)
    · have : MDP ((w69)) ((u6_35)) ((w69)) ((y0_6_35)) := fun B h => MDF_e (j0_q B h) (by omega)
      exact w_ret rfl (k σ _ _ H (SF_trans (SF_refl) hS_0 (any_sub rfl)) (SA_trans (SA_refl) hA_0 (any_subA rfl)) (y0_6_35) ((ey0_6_35)) (show (u6_35) ≤ (y0_6_35) ∧ (y0_6_35) ≤ (u6_35) + 7 by omega) (show MDP ((w69)) ((u6_35)) ((w69)) ((y0_6_35)) by assumption) (show (y0_6_35) % 8 = 0 by omega))
    · refine Ew_of (pc' := 11) (fun _ => x_aload_n rfl l0_0) ?_
      refine Ew_of (pc' := 12) (fun _ => x_dup rfl rfl) ?_
      refine w_gI H (o := 6) (w := y0_6_35) rfl (H.perm 6 rfl) rfl rfl rfl (fun _ => rfl) (ey0_6_35) ?_
      refine Ew_of (pc' := 16) (fun _ => x_iconst rfl) ?_
      refine w_iadd rfl ?_
      refine w_pI H (o := 6) rfl rfl (H.perm 6 rfl) rfl rfl rfl (fun _ => rfl) rfl (show (0 : Int) ≤ (y0_6_35 + 1) ∧ (y0_6_35 + 1) ≤ 100000000 by omega) (fun σ H => ?_)
      refine Ew_of (pc' := 0) (fun _ => x_goto rfl rfl) ?_
      have : MDQ ((w69)) ((u6_35)) (((y0_6_35 + 1))) := fun B h => MDF_s (j0_q B h) (by omega) rfl
      exact ih0 _ (by omega) _ σ _ _  (l0_0) H (SF_upd (hS_0) rfl) (hA_0) ((y0_6_35 + 1)) (rfl)  (show (u6_35) ≤ ((y0_6_35 + 1)) ∧ ((y0_6_35 + 1)) ≤ (u6_35) + 7 by omega) (show (((y0_6_35 + 1)) - 1) / 8 = ((u6_35) - 1) / 8 by omega) (show MDQ ((w69)) ((u6_35)) (((y0_6_35 + 1))) by assumption) rfl
/-- Writer.begin -/
theorem M391 {σ0 σ : rS} {D N : Nat → Nat} {F : hF} {A : hA} {d c s : Nat} {Q : wQ} (H : HS σ0 σ D N F A)  (u6_35 : Int) (eu6_35 : F 6 35 = u6_35) (w69 : Int → Int) (ew69 : A 69 = w69) (k : ∀ σ F' A', HS σ0 σ D N F' A' → SF [(6, 35)] F F' → SA [69] A A' → ∀ y6_35 : Int, F' 6 35 = y6_35 → ∀ v69 : Int → Int, A' 69 = v69 → ((y6_35) = 0) → (IMP (MDX ((w69)) ((u6_35))) (MDB ((v69)) 0 [])) → Q none σ c s) : Ew 391 (d + 0) 0 (rargs 0 [.ref (D 6)]) [] σ c s Q := by
  have r1 : (0 : Int) ≤ u6_35 ∧ u6_35 ≤ 100000000 := by have h1 : (0 : Int) ≤ F 6 35 ∧ F 6 35 ≤ 100000000 := H.frng 6 35; rw [show F 6 35 = u6_35 from (eu6_35)] at h1; exact h1
  refine Ew_of (pc' := 1) (fun _ => x_iconst rfl) ?_
  refine Ew_of (pc' := 2) (fun _ => x_istore_n rfl) ?_
  have : ZBL ((w69)) ((w69)) 0 := ZBL_0
  suffices hl2 : ∀ (m : Nat), ∀ (ls : rO) (σ : rS) (F_2 : hF) (A_2 : hA) (x2_1 : Int), rlook ls 0 = some (.ref (D 6)) → rlook ls 1 = some (I (x2_1)) → HS σ0 σ D N F_2 A_2 → SF [] F F_2 → SA [69] A A_2 → ∀ w2_69 : Int → Int, A_2 69 = w2_69 → (inr (x2_1)) → (0 ≤ (x2_1) ∧ (x2_1) ≤ 24000) → (ZBL ((w69)) ((w2_69)) ((x2_1))) → (24000 - (x2_1)).toNat = m → Ew 391 (d + 0) 2 ls [] σ c s Q from
    hl2 _ _ σ _ _ (0) (rk_o (rfl) rfl rfl) (rk_s) H (SF_refl) (SA_refl)  (w69) (ew69) (show inr (0) by omega) (show 0 ≤ (0) ∧ (0) ≤ 24000 by omega) (show ZBL ((w69)) ((w69)) ((0)) by assumption) rfl
  as_aux_lemma =>
  intro m
  induction m using Nat.strongRecOn with
  | _ m ih2 =>
    intro ls σ F_2 A_2 x2_1 l2_0 l2_1 H hS_2 hA_2  w2_69 ew2_69 j2_0 j2_1 j2_2 hm2
    have j2_q : ZBL ((w69)) ((w2_69)) ((x2_1)) := by assumption
    refine Ew_of (pc' := 3) (fun _ => x_iload_n rfl l2_1) ?_
    refine Ew_of (pc' := 6) (fun _ => x_sipush (z := 24000) rfl (by decide)) ?_
    refine w_icmpge (t := 33) rfl rfl (show inr (x2_1) by omega) (show inr (24000) by omega) (fun b2 => ?_) (fun b2 => ?_)
    · have hmx : IMP (MDX ((w69)) ((u6_35))) (MDB ((w2_69)) 0 []) := fun h => by obtain ⟨B, h⟩ := h; exact ZBL_e j2_q h (by omega)
      refine Ew_of (pc' := 34) (fun _ => x_aload_n rfl l2_0) ?_
      refine Ew_of (pc' := 35) (fun _ => x_iconst rfl) ?_
      refine w_pI H (o := 6) rfl rfl (H.perm 6 rfl) rfl rfl rfl (fun _ => rfl) rfl (show (0 : Int) ≤ 0 ∧ 0 ≤ 100000000 by omega) (fun σ H => ?_)
      have : IMP (MDX ((w69)) ((u6_35))) (MDB ((w2_69)) 0 []) := hmx
      exact w_ret rfl (k σ _ _ H (SF_upd (SF_trans (SF_refl) hS_2 (any_sub rfl)) rfl) (SA_trans (SA_refl) hA_2 (any_subA rfl)) (0) (rfl) (w2_69) (ew2_69) (show (0) = 0 by omega) (show IMP (MDX ((w69)) ((u6_35))) (MDB ((w2_69)) 0 []) by assumption))
    · refine Ew_of (pc' := 11) (fun _ => x_bipush (z := 8) rfl (by decide)) ?_
      refine Ew_of (pc' := 12) (fun _ => x_iload_n rfl l2_1) ?_
      refine w_imul rfl ?_
      refine Ew_of (pc' := 14) (fun _ => x_aload_n rfl l2_0) ?_
      refine w_gI H (o := 6) (w := u6_35) rfl (H.perm 6 rfl) rfl rfl rfl (fun _ => rfl) ((hS_2 6 35 rfl).trans (eu6_35)) ?_
      refine w_icmpge (t := 33) rfl rfl (show inr ((8 * x2_1)) by omega) (show inr (u6_35) by omega) (fun b3 => ?_) (fun b3 => ?_)
      · have hmx : IMP (MDX ((w69)) ((u6_35))) (MDB ((w2_69)) 0 []) := fun h => by obtain ⟨B, h⟩ := h; exact ZBL_e j2_q h (by omega)
        refine Ew_of (pc' := 34) (fun _ => x_aload_n rfl l2_0) ?_
        refine Ew_of (pc' := 35) (fun _ => x_iconst rfl) ?_
        refine w_pI H (o := 6) rfl rfl (H.perm 6 rfl) rfl rfl rfl (fun _ => rfl) rfl (show (0 : Int) ≤ 0 ∧ 0 ≤ 100000000 by omega) (fun σ H => ?_)
        have : IMP (MDX ((w69)) ((u6_35))) (MDB ((w2_69)) 0 []) := hmx
        exact w_ret rfl (k σ _ _ H (SF_upd (SF_trans (SF_refl) hS_2 (any_sub rfl)) rfl) (SA_trans (SA_refl) hA_2 (any_subA rfl)) (0) (rfl) (w2_69) (ew2_69) (show (0) = 0 by omega) (show IMP (MDX ((w69)) ((u6_35))) (MDB ((w2_69)) 0 []) by assumption))
      · refine Ew_of (pc' := 21) (fun _ => x_aload_n rfl l2_0) ?_
        refine w_gT H (o := 6) (t := 69) rfl (H.perm 6 rfl) rfl rfl rfl rfl rfl rfl ?_
        refine Ew_of (pc' := 25) (fun _ => x_iload_n rfl l2_1) ?_
        refine Ew_of (pc' := 26) (fun _ => x_iconst rfl) ?_
        refine w_sI H (o := 69) (n := 24000) rfl (H.perm 69 rfl) rfl rfl (H.fix 69 rfl rfl) (show 0 ≤ x2_1 ∧ x2_1 < ((24000 : Nat) : Int) by omega) (by decide) (show (0 : Int) ≤ 0 ∧ 0 ≤ 255 by omega) (fun σ H => ?_)
        refine Ew_of (pc' := 30) (fun _ => x_iinc (len := 3) rfl (l2_1)) ?_
        refine Ew_of (pc' := 2) (fun _ => x_goto rfl rfl) ?_
        have : ZBL ((w69)) ((upd1 (w2_69) (x2_1) (0))) (((x2_1 + 1))) := ZBL_s j2_q (by omega) rfl
        exact ih2 _ (by omega) _ σ _ _ ((x2_1 + 1)) (rk_o (l2_0) rfl rfl) (rk_s) H (hS_2) (SA_upd (hA_2) rfl)  (upd1 (w2_69) (x2_1) (0)) (congrArg (fun q => upd1 q (x2_1) (0)) (ew2_69)) (show inr ((x2_1 + 1)) by omega) (show 0 ≤ ((x2_1 + 1)) ∧ ((x2_1 + 1)) ≤ 24000 by omega) (show ZBL ((w69)) ((upd1 (w2_69) (x2_1) (0))) (((x2_1 + 1))) by assumption) rfl
/-- Writer.say -/
theorem M392 {σ0 σ : rS} {D N : Nat → Nat} {F : hF} {A : hA} {d c s : Nat} {Q : wQ} (H : HS σ0 σ D N F A) {a1 : Int} (u6_37 : Int) (eu6_37 : F 6 37 = u6_37) (w70 : Int → Int) (ew70 : A 70 = w70) (h0 : inr (a1)) (h1 : 0 ≤ (u6_37) ∧ (u6_37) ≤ 99999999) (k : ∀ σ F' A', HS σ0 σ D N F' A' → SF [(6, 37)] F F' → SA [70] A A' → ∀ y6_37 : Int, F' 6 37 = y6_37 → ∀ v70 : Int → Int, A' 70 = v70 → ((y6_37) = (u6_37) + 1) → (QAP 65536 ((w70)) ((u6_37)) ((v70)) ((y6_37)) ([u8 ((a1))])) → Q none σ c s) : Ew 392 (d + 0) 0 (rargs 0 [.ref (D 6), I a1]) [] σ c s Q := by
  have r1 : (0 : Int) ≤ u6_37 ∧ u6_37 ≤ 100000000 := by have h1 : (0 : Int) ≤ F 6 37 ∧ F 6 37 ≤ 100000000 := H.frng 6 37; rw [show F 6 37 = u6_37 from (eu6_37)] at h1; exact h1
  refine Ew_of (pc' := 1) (fun _ => x_aload_n rfl rfl) ?_
  refine w_gI H (o := 6) (w := u6_37) rfl (H.perm 6 rfl) rfl rfl rfl (fun _ => rfl) (eu6_37) ?_
  refine Ew_of (pc' := 6) (fun _ => x_ldc (z := 65536) rfl (by decide)) ?_
  refine w_icmpge (t := 23) rfl rfl (show inr (u6_37) by omega) (show inr (65536) by omega) (fun b2 => ?_) (fun b2 => ?_)
  · refine Ew_of (pc' := 24) (fun _ => x_aload_n rfl rfl) ?_
    refine Ew_of (pc' := 25) (fun _ => x_dup rfl rfl) ?_
    refine w_gI H (o := 6) (w := u6_37) rfl (H.perm 6 rfl) rfl rfl rfl (fun _ => rfl) (eu6_37) ?_
    refine Ew_of (pc' := 29) (fun _ => x_iconst rfl) ?_
    refine w_iadd rfl ?_
    refine w_pI H (o := 6) rfl rfl (H.perm 6 rfl) rfl rfl rfl (fun _ => rfl) rfl (show (0 : Int) ≤ (u6_37 + 1) ∧ (u6_37 + 1) ≤ 100000000 by omega) (fun σ H => ?_)
    have : QAP 65536 ((w70)) ((u6_37)) ((w70)) (((u6_37 + 1))) ([u8 ((a1))]) := by first | exact QAP_iu (by omega) (hqa2 trivial) rfl | exact QAP_out (by omega) rfl
    exact w_ret rfl (k σ _ _ H (SF_upd (SF_refl) rfl) (SA_refl) ((u6_37 + 1)) (rfl) (w70) (ew70) (show ((u6_37 + 1)) = (u6_37) + 1 by omega) (show QAP 65536 ((w70)) ((u6_37)) ((w70)) (((u6_37 + 1))) ([u8 (a1)]) by assumption))
  · refine Ew_of (pc' := 10) (fun _ => x_aload_n rfl rfl) ?_
    refine w_gT H (o := 6) (t := 70) rfl (H.perm 6 rfl) rfl rfl rfl rfl rfl rfl ?_
    refine Ew_of (pc' := 14) (fun _ => x_aload_n rfl rfl) ?_
    refine w_gI H (o := 6) (w := u6_37) rfl (H.perm 6 rfl) rfl rfl rfl (fun _ => rfl) (eu6_37) ?_
    refine Ew_of (pc' := 18) (fun _ => x_iload_n rfl rfl) ?_
    refine Ew_of (pc' := 21) (fun _ => x_sipush (z := 255) rfl (by decide)) ?_
    refine w_iandG rfl ?_
    have g3 : inr (andI (a1) (255)) := toI_inr _
    obtain ⟨qa, hqa⟩ : ∃ q : Int, q = ((andI (a1) (255))) := ⟨_, rfl⟩
    rw [← hqa]
    have gqa : inr qa := by rw [hqa]; first | assumption | omega
    replace hqa : IMP True (qa = ((andI (a1) (255)))) := fun _ => hqa
    try clear g3
    have hqa2 : qa = u8 ((a1)) := (hqa trivial).trans (andI_255 ((a1)))
    have hqr := u8_rng ((a1))
    rw [← hqa2] at hqr
    replace hqa2 : IMP True (qa = u8 ((a1))) := fun _ => hqa2
    refine w_sI H (o := 70) (n := 65536) rfl (H.perm 70 rfl) rfl rfl (H.fix 70 rfl rfl) (show 0 ≤ u6_37 ∧ u6_37 < ((65536 : Nat) : Int) by omega) (by decide) (show (0 : Int) ≤ qa ∧ qa ≤ 255 by omega) (fun σ H => ?_)
    refine Ew_of (pc' := 24) (fun _ => x_aload_n rfl rfl) ?_
    refine Ew_of (pc' := 25) (fun _ => x_dup rfl rfl) ?_
    refine w_gI H (o := 6) (w := u6_37) rfl (H.perm 6 rfl) rfl rfl rfl (fun _ => rfl) (eu6_37) ?_
    refine Ew_of (pc' := 29) (fun _ => x_iconst rfl) ?_
    refine w_iadd rfl ?_
    refine w_pI H (o := 6) rfl rfl (H.perm 6 rfl) rfl rfl rfl (fun _ => rfl) rfl (show (0 : Int) ≤ (u6_37 + 1) ∧ (u6_37 + 1) ≤ 100000000 by omega) (fun σ H => ?_)
    have : QAP 65536 ((w70)) ((u6_37)) ((upd1 (w70) (u6_37) (qa))) (((u6_37 + 1))) ([u8 ((a1))]) := by first | exact QAP_iu (by omega) (hqa2 trivial) rfl | exact QAP_out (by omega) rfl
    exact w_ret rfl (k σ _ _ H (SF_upd (SF_refl) rfl) (SA_upd (SA_refl) rfl) ((u6_37 + 1)) (rfl) (upd1 (w70) (u6_37) (qa)) (congrArg (fun q => upd1 q (u6_37) (qa)) (ew70)) (show ((u6_37 + 1)) = (u6_37) + 1 by omega) (show QAP 65536 ((w70)) ((u6_37)) ((upd1 (w70) (u6_37) (qa))) (((u6_37 + 1))) ([u8 (a1)]) by assumption))
/-- Writer.sayNumber -/
theorem M393 {σ0 σ : rS} {D N : Nat → Nat} {F : hF} {A : hA} {d c s : Nat} {Q : wQ} (H : HS σ0 σ D N F A) {a1 a2 : Int} (u6_37 : Int) (eu6_37 : F 6 37 = u6_37) (w70 : Int → Int) (ew70 : A 70 = w70) (h0 : inrJ (a1)) (h1 : inr (a2)) (h2 : 0 ≤ (a2) ∧ (a2) ≤ 8) (h3 : 0 ≤ (u6_37) ∧ (u6_37) ≤ 90000000) (k : ∀ σ F' A', HS σ0 σ D N F' A' → SF [(6, 37)] F F' → SA [70] A A' → ∀ y6_37 : Int, F' 6 37 = y6_37 → ∀ v70 : Int → Int, A' 70 = v70 → ((y6_37) = (u6_37) + (a2)) → (QAP 65536 ((w70)) ((u6_37)) ((v70)) ((y6_37)) (nb ((a1)) ((a2)))) → Q none σ c s) : Ew 393 (d + 1) 0 (rargs 0 [.ref (D 6), J a1, I a2]) [] σ c s Q := by
  have r1 : (0 : Int) ≤ u6_37 ∧ u6_37 ≤ 100000000 := by have h1 : (0 : Int) ≤ F 6 37 ∧ F 6 37 ≤ 100000000 := H.frng 6 37; rw [show F 6 37 = u6_37 from (eu6_37)] at h1; exact h1
  refine Ew_of (pc' := 1) (fun _ => x_iconst rfl) ?_
  refine Ew_of (pc' := 3) (fun _ => x_istore rfl) ?_
  have : QAP 65536 ((w70)) ((u6_37)) ((w70)) ((u6_37)) (nb ((a1)) 0) := QAP_refl
  suffices hl3 : ∀ (m : Nat), ∀ (ls : rO) (σ : rS) (F_3 : hF) (A_3 : hA) (x3_4 : Int), rlook ls 0 = some (.ref (D 6)) → rlook ls 1 = some (J (a1)) → rlook ls 3 = some (I (a2)) → rlook ls 4 = some (I (x3_4)) → HS σ0 σ D N F_3 A_3 → SF [(6, 37)] F F_3 → SA [70] A A_3 → ∀ y3_6_37 : Int, F_3 6 37 = y3_6_37 → ∀ w3_70 : Int → Int, A_3 70 = w3_70 → (inr (x3_4)) → ((0) ≤ (x3_4)) → ((x3_4) ≤ (0) ∨ (x3_4) ≤ ((a2))) → ((y3_6_37) = (u6_37) + (x3_4)) → (QAP 65536 ((w70)) ((u6_37)) ((w3_70)) ((y3_6_37)) (nb ((a1)) ((x3_4)))) → (((a2)) - (x3_4)).toNat = m → Ew 393 (d + 1) 3 ls [] σ c s Q from
    hl3 _ _ σ _ _ (0) (rk_o (rfl) rfl rfl) (rk_o (rfl) rfl rfl) (rk_o (rfl) rfl rfl) (rk_s) H (SF_refl) (SA_refl) (u6_37) ((eu6_37)) (w70) (ew70) (show inr (0) by omega) (show (0) ≤ (0) by omega) (show (0) ≤ (0) ∨ (0) ≤ ((a2)) by omega) (show (u6_37) = (u6_37) + (0) by omega) (show QAP 65536 ((w70)) ((u6_37)) ((w70)) ((u6_37)) (nb ((a1)) ((0))) by assumption) rfl
  as_aux_lemma =>
  intro m
  induction m using Nat.strongRecOn with
  | _ m ih3 =>
    intro ls σ F_3 A_3 x3_4 l3_0 l3_1 l3_3 l3_4 H hS_3 hA_3 y3_6_37 ey3_6_37 w3_70 ew3_70 j3_0 j3_1 j3_2 j3_3 j3_4 hm3
    have r2 : (0 : Int) ≤ y3_6_37 ∧ y3_6_37 ≤ 100000000 := by have h1 : (0 : Int) ≤ F_3 6 37 ∧ F_3 6 37 ≤ 100000000 := H.frng 6 37; rw [show F_3 6 37 = y3_6_37 from (ey3_6_37)] at h1; exact h1
    have j3_q : QAP 65536 ((w70)) ((u6_37)) ((w3_70)) ((y3_6_37)) (nb ((a1)) ((x3_4))) := by assumption
    refine Ew_of (pc' := 5) (fun _ => x_iload rfl l3_4) ?_
    refine Ew_of (pc' := 6) (fun _ => x_iload_n rfl l3_3) ?_
    refine w_icmpge (t := 31) rfl rfl (show inr (x3_4) by omega) (show inr (a2) by omega) (fun b3 => ?_) (fun b3 => ?_)
    · have : QAP 65536 ((w70)) ((u6_37)) ((w3_70)) ((y3_6_37)) (nb ((a1)) ((a2))) := by rw [show (a2) = (x3_4) by omega]; exact j3_q
      exact w_ret rfl (k σ _ _ H (SF_trans (SF_refl) hS_3 (any_sub rfl)) (SA_trans (SA_refl) hA_3 (any_subA rfl)) (y3_6_37) ((ey3_6_37)) (w3_70) (ew3_70) (show (y3_6_37) = (u6_37) + a2 by omega) (show QAP 65536 ((w70)) ((u6_37)) ((w3_70)) ((y3_6_37)) (nb (a1) (a2)) by assumption))
    · refine Ew_of (pc' := 10) (fun _ => x_aload_n rfl l3_0) ?_
      refine Ew_of (pc' := 11) (fun _ => x_lload_n rfl l3_1) ?_
      refine Ew_of (pc' := 13) (fun _ => x_bipush (z := 8) rfl (by decide)) ?_
      refine Ew_of (pc' := 15) (fun _ => x_iload rfl l3_4) ?_
      refine w_imul rfl ?_
      refine w_lshrE rfl ?_
      have g4 : inrJ (srJ (a1) ((8 * x3_4))) := toJ_inr _
      refine Ew_of (pc' := 20) (fun _ => x_ldc2 (z := 255) rfl (by decide)) ?_
      refine w_landE rfl ?_
      have g5 : inrJ (anJ ((srJ (a1) ((8 * x3_4)))) (255)) := toJ_inr _
      refine w_l2i rfl ?_
      have hby : ((anJ ((srJ (a1) ((8 * x3_4)))) (255))) = u8 ((a1) / p2 (8 * (x3_4))) := an_sr (by omega) (by omega)
      have hbr := u8_rng ((a1) / p2 (8 * (x3_4)))
      rw [← hby] at hbr
      refine w_inv H (o := 6) rfl rfl rfl (H.perm 6 rfl) rfl rfl (by rfl) (M392 H (y3_6_37) ((ey3_6_37)) (w3_70) (ew3_70) (show inr ((anJ ((srJ (a1) ((8 * x3_4)))) (255))) by omega) (show 0 ≤ (y3_6_37) ∧ (y3_6_37) ≤ 99999999 by omega) (fun σ F6 A7 H hS8 hA9 y11 ey12 wq13 ewq14 pz10_0 pz10_1 => ⟨rfl, ?_⟩))
      have r15 : (0 : Int) ≤ y11 ∧ y11 ≤ 100000000 := by have h1 : (0 : Int) ≤ F6 6 37 ∧ F6 6 37 ≤ 100000000 := H.frng 6 37; rw [show F6 6 37 = y11 from (ey12)] at h1; exact h1
      have hmk := pz10_1
      rw [u8_id hbr, hby] at hmk
      refine Ew_of (pc' := 28) (fun _ => x_iinc (len := 3) rfl (l3_4)) ?_
      refine Ew_of (pc' := 3) (fun _ => x_goto rfl rfl) ?_
      have : QAP 65536 ((w70)) ((u6_37)) ((wq13)) ((y11)) (nb ((a1)) (((x3_4 + 1)))) := by rw [nb_s (by omega) rfl]; exact QAP_trans j3_q hmk
      exact ih3 _ (by omega) _ σ _ _ ((x3_4 + 1)) (rk_o (l3_0) rfl rfl) (rk_o (l3_1) rfl rfl) (rk_o (l3_3) rfl rfl) (rk_s) H (SF_trans (hS_3) hS8 (any_sub rfl)) (SA_trans (hA_3) hA9 (any_subA rfl)) (y11) ((ey12)) (wq13) (ewq14) (show inr ((x3_4 + 1)) by omega) (show (0) ≤ ((x3_4 + 1)) by omega) (show ((x3_4 + 1)) ≤ (0) ∨ ((x3_4 + 1)) ≤ ((a2)) by omega) (show (y11) = (u6_37) + ((x3_4 + 1)) by omega) (show QAP 65536 ((w70)) ((u6_37)) ((wq13)) ((y11)) (nb ((a1)) (((x3_4 + 1)))) by assumption) rfl
/-- Writer.sayMade -/
theorem M394 {σ0 σ : rS} {D N : Nat → Nat} {F : hF} {A : hA} {d c s : Nat} {Q : wQ} (H : HS σ0 σ D N F A)  (u6_35 : Int) (eu6_35 : F 6 35 = u6_35) (u6_37 : Int) (eu6_37 : F 6 37 = u6_37) (w69 : Int → Int) (ew69 : A 69 = w69) (w70 : Int → Int) (ew70 : A 70 = w70) (h0 : 0 ≤ (u6_35) ∧ (u6_35) ≤ 192000) (h1 : 0 ≤ (u6_37) ∧ (u6_37) ≤ 90000000) (k : ∀ σ F' A', HS σ0 σ D N F' A' → SF [(6, 37)] F F' → SA [70] A A' → ∀ y6_37 : Int, F' 6 37 = y6_37 → ∀ v70 : Int → Int, A' 70 = v70 → ((y6_37) = (u6_37) + (u6_35) / 8) → (QAP 65536 ((w70)) ((u6_37)) ((v70)) ((y6_37)) (sc ((w69)) 0 ((u6_35) / 8))) → Q none σ c s) : Ew 394 (d + 1) 0 (rargs 0 [.ref (D 6)]) [] σ c s Q := by
  have r1 : (0 : Int) ≤ u6_35 ∧ u6_35 ≤ 100000000 := by have h1 : (0 : Int) ≤ F 6 35 ∧ F 6 35 ≤ 100000000 := H.frng 6 35; rw [show F 6 35 = u6_35 from (eu6_35)] at h1; exact h1
  have r2 : (0 : Int) ≤ u6_37 ∧ u6_37 ≤ 100000000 := by have h1 : (0 : Int) ≤ F 6 37 ∧ F 6 37 ≤ 100000000 := H.frng 6 37; rw [show F 6 37 = u6_37 from (eu6_37)] at h1; exact h1
  refine Ew_of (pc' := 1) (fun _ => x_iconst rfl) ?_
  refine Ew_of (pc' := 2) (fun _ => x_istore_n rfl) ?_
  have : QAP 65536 ((w70)) ((u6_37)) ((w70)) ((u6_37)) (sc ((w69)) 0 (0)) := by rw [sc_nil (Int.le_refl 0)]; exact QAP_refl
  suffices hl2 : ∀ (m : Nat), ∀ (ls : rO) (σ : rS) (F_2 : hF) (A_2 : hA) (x2_1 : Int), rlook ls 0 = some (.ref (D 6)) → rlook ls 1 = some (I (x2_1)) → HS σ0 σ D N F_2 A_2 → SF [(6, 37)] F F_2 → SA [70] A A_2 → ∀ y2_6_37 : Int, F_2 6 37 = y2_6_37 → ∀ w2_70 : Int → Int, A_2 70 = w2_70 → (inr (x2_1)) → (0 ≤ (x2_1) ∧ (x2_1) ≤ (u6_35) / 8) → ((y2_6_37) = (u6_37) + (x2_1)) → (QAP 65536 ((w70)) ((u6_37)) ((w2_70)) ((y2_6_37)) (sc ((w69)) 0 ((x2_1)))) → ((u6_35) / 8 - (x2_1)).toNat = m → Ew 394 (d + 1) 2 ls [] σ c s Q from
    hl2 _ _ σ _ _ (0) (rk_o (rfl) rfl rfl) (rk_s) H (SF_refl) (SA_refl) (u6_37) ((eu6_37)) (w70) (ew70) (show inr (0) by omega) (show 0 ≤ (0) ∧ (0) ≤ (u6_35) / 8 by omega) (show (u6_37) = (u6_37) + (0) by omega) (show QAP 65536 ((w70)) ((u6_37)) ((w70)) ((u6_37)) (sc ((w69)) 0 ((0))) by assumption) rfl
  as_aux_lemma =>
  intro m
  induction m using Nat.strongRecOn with
  | _ m ih2 =>
    intro ls σ F_2 A_2 x2_1 l2_0 l2_1 H hS_2 hA_2 y2_6_37 ey2_6_37 w2_70 ew2_70 j2_0 j2_1 j2_2 j2_3 hm2
    have r3 : (0 : Int) ≤ y2_6_37 ∧ y2_6_37 ≤ 100000000 := by have h1 : (0 : Int) ≤ F_2 6 37 ∧ F_2 6 37 ≤ 100000000 := H.frng 6 37; rw [show F_2 6 37 = y2_6_37 from (ey2_6_37)] at h1; exact h1
    have j2_q : QAP 65536 ((w70)) ((u6_37)) ((w2_70)) ((y2_6_37)) (sc ((w69)) 0 ((x2_1))) := by assumption
    obtain ⟨ql1, hql1⟩ : ∃ q : Int, q = (x2_1) := ⟨_, rfl⟩
    refine Ew_of (pc' := 3) (fun _ => x_iload_n rfl l2_1) ?_
    refine Ew_of (pc' := 4) (fun _ => x_aload_n rfl l2_0) ?_
    refine w_gI H (o := 6) (w := u6_35) rfl (H.perm 6 rfl) rfl rfl rfl (fun _ => rfl) ((hS_2 6 35 rfl).trans (eu6_35)) ?_
    refine Ew_of (pc' := 9) (fun _ => x_bipush (z := 8) rfl (by decide)) ?_
    refine w_idiv rfl (show inr (u6_35) ∧ 0 ≤ u6_35 by omega) (show inr (8) ∧ 0 < 8 by omega) ?_
    refine w_icmpge (t := 29) rfl rfl (show inr (x2_1) by omega) (show inr ((u6_35 / 8)) by omega) (fun b4 => ?_) (fun b4 => ?_)
    · have : QAP 65536 ((w70)) ((u6_37)) ((w2_70)) ((y2_6_37)) (sc ((w69)) 0 ((u6_35) / 8)) := by rw [show (u6_35) / 8 = (x2_1) by omega]; exact j2_q
      exact w_ret rfl (k σ _ _ H (SF_trans (SF_refl) hS_2 (any_sub rfl)) (SA_trans (SA_refl) hA_2 (any_subA rfl)) (y2_6_37) ((ey2_6_37)) (w2_70) (ew2_70) (show (y2_6_37) = (u6_37) + (u6_35) / 8 by omega) (show QAP 65536 ((w70)) ((u6_37)) ((w2_70)) ((y2_6_37)) (sc ((w69)) 0 ((u6_35) / 8)) by assumption))
    · refine Ew_of (pc' := 14) (fun _ => x_aload_n rfl l2_0) ?_
      refine Ew_of (pc' := 15) (fun _ => x_aload_n rfl l2_0) ?_
      refine w_gT H (o := 6) (t := 69) rfl (H.perm 6 rfl) rfl rfl rfl rfl rfl rfl ?_
      refine Ew_of (pc' := 19) (fun _ => x_iload_n rfl l2_1) ?_
      refine w_lI H (o := 69) (n := 24000) rfl (H.perm 69 rfl) rfl rfl (H.fix 69 rfl rfl) (show 0 ≤ x2_1 ∧ x2_1 < ((24000 : Nat) : Int) by omega) (by decide) (fun v5 ev5 qv5 => ?_)
      have qv5 : (0 : Int) ≤ v5 ∧ v5 ≤ 255 := qv5
      have ev5 : (w69) (x2_1) = v5 := (congrFun ((funext (hA_2 69 rfl)).trans (ew69)) (x2_1)).symm.trans ev5
      have hv := ev5
      refine w_inv H (o := 6) rfl rfl rfl (H.perm 6 rfl) rfl rfl (by rfl) (M392 H (y2_6_37) ((ey2_6_37)) (w2_70) (ew2_70) (show inr (v5) by omega) (show 0 ≤ (y2_6_37) ∧ (y2_6_37) ≤ 99999999 by omega) (fun σ F6 A7 H hS8 hA9 y11 ey12 wq13 ewq14 pz10_0 pz10_1 => ⟨rfl, ?_⟩))
      have r15 : (0 : Int) ≤ y11 ∧ y11 ≤ 100000000 := by have h1 : (0 : Int) ≤ F6 6 37 ∧ F6 6 37 ≤ 100000000 := H.frng 6 37; rw [show F6 6 37 = y11 from (ey12)] at h1; exact h1
      have hmk := pz10_1
      rw [← hv] at hmk
      refine Ew_of (pc' := 26) (fun _ => x_iinc (len := 3) rfl (l2_1)) ?_
      refine Ew_of (pc' := 2) (fun _ => x_goto rfl rfl) ?_
      have : QAP 65536 ((w70)) ((u6_37)) ((wq13)) ((y11)) (sc ((w69)) 0 (((x2_1 + 1)))) := by rw [sc_snoc (b := ql1) (by omega) (by omega), hql1]; exact QAP_trans j2_q hmk
      exact ih2 _ (by omega) _ σ _ _ ((x2_1 + 1)) (rk_o (l2_0) rfl rfl) (rk_s) H (SF_trans (hS_2) hS8 (any_sub rfl)) (SA_trans (hA_2) hA9 (any_subA rfl)) (y11) ((ey12)) (wq13) (ewq14) (show inr ((x2_1 + 1)) by omega) (show 0 ≤ ((x2_1 + 1)) ∧ ((x2_1 + 1)) ≤ (u6_35) / 8 by omega) (show (y11) = (u6_37) + ((x2_1 + 1)) by omega) (show QAP 65536 ((w70)) ((u6_37)) ((wq13)) ((y11)) (sc ((w69)) 0 (((x2_1 + 1)))) by assumption) rfl
/-- Writer.show -/
theorem M395 {σ0 σ : rS} {D N : Nat → Nat} {F : hF} {A : hA} {d c s : Nat} {Q : wQ} (H : HS σ0 σ D N F A)  (u6_37 : Int) (eu6_37 : F 6 37 = u6_37) (w70 : Int → Int) (ew70 : A 70 = w70) (h0 : 0 ≤ (u6_37) ∧ (u6_37) ≤ 100000000) (k : ∀ (z : Int) σ F' A', HS σ0 σ D N F' A' → SF [(1, 3)] F F' → SA [15] A A' → ∀ y1_3 : Int, F' 1 3 = y1_3 → ∀ v15 : Int → Int, A' 15 = v15 → (inr (z)) → (-1 ≤ (z) ∧ (z) ≤ 65536) → ((z) = -1 ∧ 65536 < (u6_37) ∨ (z) = (u6_37) ∧ (u6_37) ≤ 65536 ∧ (y1_3) = (u6_37)) → (IMP ((0 : Int) ≤ (z)) (CPY ((w70)) ((v15)) (0) (0) ((u6_37)))) → Q (some (I z)) σ c s) : Ew 395 (d + 0) 0 (rargs 0 [.ref (D 6)]) [] σ c s Q := by
  have r1 : (0 : Int) ≤ u6_37 ∧ u6_37 ≤ 100000000 := by have h1 : (0 : Int) ≤ F 6 37 ∧ F 6 37 ≤ 100000000 := H.frng 6 37; rw [show F 6 37 = u6_37 from (eu6_37)] at h1; exact h1
  refine Ew_of (pc' := 1) (fun _ => x_aload_n rfl rfl) ?_
  refine w_gI H (o := 6) (w := u6_37) rfl (H.perm 6 rfl) rfl rfl rfl (fun _ => rfl) (eu6_37) ?_
  refine Ew_of (pc' := 6) (fun _ => x_ldc (z := 65536) rfl (by decide)) ?_
  refine w_icmple (t := 11) rfl rfl (show inr (u6_37) by omega) (show inr (65536) by omega) (fun b2 => ?_) (fun b2 => ?_)
  · refine Ew_of (pc' := 12) (fun _ => x_iconst rfl) ?_
    refine Ew_of (pc' := 13) (fun _ => x_istore_n rfl) ?_
    have : CPY ((w70)) ((A 15)) (0) (0) (0) := CPY_0
    suffices hl13 : ∀ (m : Nat), ∀ (ls : rO) (σ : rS) (F_13 : hF) (A_13 : hA) (x13_1 : Int), rlook ls 0 = some (.ref (D 6)) → rlook ls 1 = some (I (x13_1)) → HS σ0 σ D N F_13 A_13 → SF [] F F_13 → SA [15] A A_13 → ∀ w13_15 : Int → Int, A_13 15 = w13_15 → (inr (x13_1)) → ((0) ≤ (x13_1)) → ((x13_1) ≤ (0) ∨ (x13_1) ≤ ((u6_37))) → (CPY ((w70)) ((w13_15)) (0) (0) ((x13_1))) → (((u6_37)) - (x13_1)).toNat = m → Ew 395 (d + 0) 13 ls [] σ c s Q from
      hl13 _ _ σ _ _ (0) (rk_o (rfl) rfl rfl) (rk_s) H (SF_refl) (SA_refl)  (A 15) (rfl) (show inr (0) by omega) (show (0) ≤ (0) by omega) (show (0) ≤ (0) ∨ (0) ≤ ((u6_37)) by omega) (show CPY ((w70)) ((A 15)) (0) (0) ((0)) by assumption) rfl
    as_aux_lemma =>
    intro m
    induction m using Nat.strongRecOn with
    | _ m ih13 =>
      intro ls σ F_13 A_13 x13_1 l13_0 l13_1 H hS_13 hA_13  w13_15 ew13_15 j13_0 j13_1 j13_2 j13_3 hm13
      have j13_c : CPY ((w70)) ((w13_15)) (0) (0) ((x13_1)) := by assumption
      refine Ew_of (pc' := 14) (fun _ => x_iload_n rfl l13_1) ?_
      refine Ew_of (pc' := 15) (fun _ => x_aload_n rfl l13_0) ?_
      refine w_gI H (o := 6) (w := u6_37) rfl (H.perm 6 rfl) rfl rfl rfl (fun _ => rfl) ((hS_13 6 37 rfl).trans (eu6_37)) ?_
      refine w_icmpge (t := 42) rfl rfl (show inr (x13_1) by omega) (show inr (u6_37) by omega) (fun b3 => ?_) (fun b3 => ?_)
      · refine Ew_of (pc' := 43) (fun _ => x_aload_n rfl l13_0) ?_
        refine w_gT H (o := 6) (t := 1) rfl (H.perm 6 rfl) rfl rfl rfl rfl rfl rfl ?_
        refine Ew_of (pc' := 47) (fun _ => x_aload_n rfl l13_0) ?_
        refine w_gI H (o := 6) (w := u6_37) rfl (H.perm 6 rfl) rfl rfl rfl (fun _ => rfl) ((hS_13 6 37 rfl).trans (eu6_37)) ?_
        refine w_pI H (o := 1) rfl rfl (H.perm 1 rfl) rfl rfl rfl (fun _ => rfl) rfl (show (0 : Int) ≤ u6_37 ∧ u6_37 ≤ 65536 by omega) (fun σ H => ?_)
        refine Ew_of (pc' := 54) (fun _ => x_aload_n rfl l13_0) ?_
        refine w_gT H (o := 6) (t := 1) rfl (H.perm 6 rfl) rfl rfl rfl rfl rfl rfl ?_
        refine w_gI H (o := 1) (w := u6_37) rfl (H.perm 1 rfl) rfl rfl rfl (fun _ => rfl) rfl ?_
        have : IMP ((0 : Int) ≤ (u6_37)) (CPY ((w70)) ((w13_15)) (0) (0) ((u6_37))) := fun _ => by rw [show (u6_37) = (x13_1) by omega]; exact j13_c
        exact w_ireturn rfl (k (u6_37) σ _ _ H (SF_upd (SF_trans (SF_refl) hS_13 (any_sub rfl)) rfl) (SA_trans (SA_refl) hA_13 (any_subA rfl)) (u6_37) (rfl) (w13_15) (ew13_15) (show inr (u6_37) by omega) (show -1 ≤ (u6_37) ∧ (u6_37) ≤ 65536 by omega) (show (u6_37) = -1 ∧ 65536 < (u6_37) ∨ (u6_37) = (u6_37) ∧ (u6_37) ≤ 65536 ∧ (u6_37) = (u6_37) by omega) (show IMP ((0 : Int) ≤ (u6_37)) (CPY ((w70)) ((w13_15)) (0) (0) ((u6_37))) by assumption))
      · refine Ew_of (pc' := 22) (fun _ => x_aload_n rfl l13_0) ?_
        refine w_gT H (o := 6) (t := 1) rfl (H.perm 6 rfl) rfl rfl rfl rfl rfl rfl ?_
        refine w_gT H (o := 1) (t := 15) rfl (H.perm 1 rfl) rfl rfl rfl rfl rfl rfl ?_
        refine Ew_of (pc' := 29) (fun _ => x_iload_n rfl l13_1) ?_
        refine Ew_of (pc' := 30) (fun _ => x_aload_n rfl l13_0) ?_
        refine w_gT H (o := 6) (t := 70) rfl (H.perm 6 rfl) rfl rfl rfl rfl rfl rfl ?_
        refine Ew_of (pc' := 34) (fun _ => x_iload_n rfl l13_1) ?_
        refine w_lI H (o := 70) (n := 65536) rfl (H.perm 70 rfl) rfl rfl (H.fix 70 rfl rfl) (show 0 ≤ x13_1 ∧ x13_1 < ((65536 : Nat) : Int) by omega) (by decide) (fun v4 ev4 qv4 => ?_)
        have qv4 : (0 : Int) ≤ v4 ∧ v4 ≤ 255 := qv4
        have ev4 : (w70) (x13_1) = v4 := (congrFun ((funext (hA_13 70 rfl)).trans (ew70)) (x13_1)).symm.trans ev4
        have hv := ev4
        refine w_sI H (o := 15) (n := 65536) rfl (H.perm 15 rfl) rfl rfl (H.fix 15 rfl rfl) (show 0 ≤ x13_1 ∧ x13_1 < ((65536 : Nat) : Int) by omega) (by decide) (show (0 : Int) ≤ v4 ∧ v4 ≤ 255 by omega) (fun σ H => ?_)
        refine Ew_of (pc' := 39) (fun _ => x_iinc (len := 3) rfl (l13_1)) ?_
        refine Ew_of (pc' := 13) (fun _ => x_goto rfl rfl) ?_
        have : CPY ((w70)) ((upd1 (w13_15) (x13_1) (v4))) (0) (0) (((x13_1 + 1))) := CPY_s j13_c hv (by omega) (by omega) rfl
        exact ih13 _ (by omega) _ σ _ _ ((x13_1 + 1)) (rk_o (l13_0) rfl rfl) (rk_s) H (hS_13) (SA_upd (hA_13) rfl)  (upd1 (w13_15) (x13_1) (v4)) (congrArg (fun q => upd1 q (x13_1) (v4)) (ew13_15)) (show inr ((x13_1 + 1)) by omega) (show (0) ≤ ((x13_1 + 1)) by omega) (show ((x13_1 + 1)) ≤ (0) ∨ ((x13_1 + 1)) ≤ ((u6_37)) by omega) (show CPY ((w70)) ((upd1 (w13_15) (x13_1) (v4))) (0) (0) (((x13_1 + 1))) by assumption) rfl
  · refine Ew_of (pc' := 10) (fun _ => x_iconst rfl) ?_
    have : IMP ((0 : Int) ≤ -1) (CPY ((w70)) ((A 15)) (0) (0) ((u6_37))) := fun z => absurd z (by omega)
    have r5 : (0 : Int) ≤ F 1 3 ∧ F 1 3 ≤ 65536 := by have h1 : (0 : Int) ≤ F 1 3 ∧ F 1 3 ≤ 65536 := H.frng 1 3; rw [show F 1 3 = F 1 3 from rfl] at h1; exact h1
    exact w_ireturn rfl (k ((-1)) σ _ _ H (SF_refl) (SA_refl) (F 1 3) (rfl) (A 15) (rfl) (show inr ((-1)) by omega) (show -1 ≤ ((-1)) ∧ ((-1)) ≤ 65536 by omega) (show ((-1)) = -1 ∧ 65536 < (u6_37) ∨ ((-1)) = (u6_37) ∧ (u6_37) ≤ 65536 ∧ (F 1 3) = (u6_37) by omega) (show IMP ((0 : Int) ≤ ((-1))) (CPY ((w70)) ((A 15)) (0) (0) ((u6_37))) by assumption))
/-- Writer.alike -/
theorem M396 {σ0 σ : rS} {D N : Nat → Nat} {F : hF} {A : hA} {d c s : Nat} {Q : wQ} (H : HS σ0 σ D N F A) {a1 a2 a3 : Int} (w61 : Int → Int) (ew61 : A 61 = w61) (h0 : inr (a1)) (h1 : inr (a2)) (h2 : inr (a3)) (h3 : 0 ≤ (a1) ∧ (a1) < (a2) ∧ (a3) + (a2) ≤ 16384 ∧ 0 ≤ (a3)) (k : ∀ (z : Int) σ F' A', HS σ0 σ D N F' A' → SF [] F F' → SA [] A A' → (inr (z)) → (0 ≤ (z) ∧ (z) ≤ (a3)) → ((z) = cpl ((w61)) ((a1)) ((a2)) ((a2) + (a3))) → Q (some (I z)) σ c s) : Ew 396 (d + 0) 0 (rargs 0 [.ref (D 6), I a1, I a2, I a3]) [] σ c s Q := by
  refine Ew_of (pc' := 1) (fun _ => x_iconst rfl) ?_
  refine Ew_of (pc' := 3) (fun _ => x_istore rfl) ?_
  have : EQB ((w61)) ((a1)) ((a2)) (0) := EQB_0
  suffices hl3 : ∀ (m : Nat), ∀ (ls : rO) (σ : rS) (F_3 : hF) (A_3 : hA) (x3_4 : Int), rlook ls 0 = some (.ref (D 6)) → rlook ls 1 = some (I (a1)) → rlook ls 2 = some (I (a2)) → rlook ls 3 = some (I (a3)) → rlook ls 4 = some (I (x3_4)) → HS σ0 σ D N F_3 A_3 → SF [] F F_3 → SA [] A A_3 → (inr (x3_4)) → ((0) ≤ (x3_4)) → ((x3_4) ≤ (0) ∨ (x3_4) ≤ ((a3))) → (EQB ((w61)) ((a1)) ((a2)) ((x3_4))) → (((a3)) - (x3_4)).toNat = m → Ew 396 (d + 0) 3 ls [] σ c s Q from
    hl3 _ _ σ _ _ (0) (rk_o (rfl) rfl rfl) (rk_o (rfl) rfl rfl) (rk_o (rfl) rfl rfl) (rk_o (rfl) rfl rfl) (rk_s) H (SF_refl) (SA_refl)   (show inr (0) by omega) (show (0) ≤ (0) by omega) (show (0) ≤ (0) ∨ (0) ≤ ((a3)) by omega) (show EQB ((w61)) ((a1)) ((a2)) ((0)) by assumption) rfl
  as_aux_lemma =>
  intro m
  induction m using Nat.strongRecOn with
  | _ m ih3 =>
    intro ls σ F_3 A_3 x3_4 l3_0 l3_1 l3_2 l3_3 l3_4 H hS_3 hA_3   j3_0 j3_1 j3_2 j3_3 hm3
    have j3_q : EQB ((w61)) ((a1)) ((a2)) ((x3_4)) := by assumption
    refine Ew_of (pc' := 5) (fun _ => x_iload rfl l3_4) ?_
    refine Ew_of (pc' := 6) (fun _ => x_iload_n rfl l3_3) ?_
    refine w_icmpge (t := 36) rfl rfl (show inr (x3_4) by omega) (show inr (a3) by omega) (fun b1 => ?_) (fun b1 => ?_)
    · have : (x3_4) = cpl ((w61)) ((a1)) ((a2)) ((a2) + (a3)) := (cpl_is (by omega) (by omega) j3_q (by first | exact .inl (by omega) | exact .inr (by rw [hb1, hb2]; omega))).symm
      refine Ew_of (pc' := 38) (fun _ => x_iload rfl l3_4) ?_
      exact w_ireturn rfl (k (x3_4) σ _ _ H (SF_trans (SF_refl) hS_3 (any_sub rfl)) (SA_trans (SA_refl) hA_3 (any_subA rfl)) (show inr (x3_4) by omega) (show 0 ≤ (x3_4) ∧ (x3_4) ≤ a3 by omega) (show (x3_4) = cpl ((w61)) (a1) (a2) (a2 + a3) by assumption))
    · refine Ew_of (pc' := 10) (fun _ => x_aload_n rfl l3_0) ?_
      refine w_gT H (o := 6) (t := 61) rfl (H.perm 6 rfl) rfl rfl rfl rfl rfl rfl ?_
      refine Ew_of (pc' := 14) (fun _ => x_iload_n rfl l3_1) ?_
      refine Ew_of (pc' := 16) (fun _ => x_iload rfl l3_4) ?_
      refine w_iadd rfl ?_
      refine w_lI H (o := 61) (n := 16384) rfl (H.perm 61 rfl) rfl rfl (H.fix 61 rfl rfl) (show 0 ≤ (a1 + x3_4) ∧ (a1 + x3_4) < ((16384 : Nat) : Int) by omega) (by decide) (fun v2 ev2 qv2 => ?_)
      have qv2 : (0 : Int) ≤ v2 ∧ v2 ≤ 255 := qv2
      have ev2 : (w61) ((a1 + x3_4)) = v2 := (congrFun ((funext (hA_3 61 rfl)).trans (ew61)) ((a1 + x3_4))).symm.trans ev2
      refine Ew_of (pc' := 19) (fun _ => x_aload_n rfl l3_0) ?_
      refine w_gT H (o := 6) (t := 61) rfl (H.perm 6 rfl) rfl rfl rfl rfl rfl rfl ?_
      refine Ew_of (pc' := 23) (fun _ => x_iload_n rfl l3_2) ?_
      refine Ew_of (pc' := 25) (fun _ => x_iload rfl l3_4) ?_
      refine w_iadd rfl ?_
      refine w_lI H (o := 61) (n := 16384) rfl (H.perm 61 rfl) rfl rfl (H.fix 61 rfl rfl) (show 0 ≤ (a2 + x3_4) ∧ (a2 + x3_4) < ((16384 : Nat) : Int) by omega) (by decide) (fun v3 ev3 qv3 => ?_)
      have qv3 : (0 : Int) ≤ v3 ∧ v3 ≤ 255 := qv3
      have ev3 : (w61) ((a2 + x3_4)) = v3 := (congrFun ((funext (hA_3 61 rfl)).trans (ew61)) ((a2 + x3_4))).symm.trans ev3
      have hb1 := ev2
      have hb2 := ev3
      refine w_icmpne (t := 36) rfl rfl (show inr (v2) by omega) (show inr (v3) by omega) (fun b4 => ?_) (fun b4 => ?_)
      · have : (x3_4) = cpl ((w61)) ((a1)) ((a2)) ((a2) + (a3)) := (cpl_is (by omega) (by omega) j3_q (by first | exact .inl (by omega) | exact .inr (by rw [hb1, hb2]; omega))).symm
        refine Ew_of (pc' := 38) (fun _ => x_iload rfl l3_4) ?_
        exact w_ireturn rfl (k (x3_4) σ _ _ H (SF_trans (SF_refl) hS_3 (any_sub rfl)) (SA_trans (SA_refl) hA_3 (any_subA rfl)) (show inr (x3_4) by omega) (show 0 ≤ (x3_4) ∧ (x3_4) ≤ a3 by omega) (show (x3_4) = cpl ((w61)) (a1) (a2) (a2 + a3) by assumption))
      · have : EQB ((w61)) ((a1)) ((a2)) ((x3_4) + 1) := EQB_s j3_q (by rw [hb1, hb2]; omega) rfl
        refine Ew_of (pc' := 33) (fun _ => x_iinc (len := 3) rfl (l3_4)) ?_
        refine Ew_of (pc' := 3) (fun _ => x_goto rfl rfl) ?_
        exact ih3 _ (by omega) _ σ _ _ ((x3_4 + 1)) (rk_o (l3_0) rfl rfl) (rk_o (l3_1) rfl rfl) (rk_o (l3_2) rfl rfl) (rk_o (l3_3) rfl rfl) (rk_s) H (hS_3) (hA_3)   (show inr ((x3_4 + 1)) by omega) (show (0) ≤ ((x3_4 + 1)) by omega) (show ((x3_4 + 1)) ≤ (0) ∨ ((x3_4 + 1)) ≤ ((a3)) by omega) (show EQB ((w61)) ((a1)) ((a2)) (((x3_4 + 1))) by assumption) rfl
/-- Writer.match -/
theorem M397 {σ0 σ : rS} {D N : Nat → Nat} {F : hF} {A : hA} {d c s : Nat} {Q : wQ} (H : HS σ0 σ D N F A) {a1 a2 : Int} (u6_2 : Int) (eu6_2 : F 6 2 = u6_2) (u6_22 : Int) (eu6_22 : F 6 22 = u6_22) (u6_24 : Int) (eu6_24 : F 6 24 = u6_24) (w61 : Int → Int) (ew61 : A 61 = w61) (h0 : inr (a1)) (h1 : inr (a2)) (h2 : 0 ≤ (a1) ∧ (a1) < (u6_22)) (h3 : 0 ≤ (a2) ∧ (a2) ≤ 2) (h4 : 0 ≤ (u6_22) ∧ (u6_22) ≤ 16384) (h5 : 3 ≤ (u6_2) ∧ (u6_2) ≤ 8) (k : ∀ (z : Int) σ F' A', HS σ0 σ D N F' A' → SF [(6, 23)] F F' → SA [] A A' → ∀ y6_23 : Int, F' 6 23 = y6_23 → (inr (z)) → (0 ≤ (z)) → ((z) = 0 ∨ (u6_2) ≤ (z) ∧ (z) ≤ (u6_22) - (a1) ∧ (y6_23) < (a1)) → (MTL ((w61)) ((u6_22)) ((u6_24)) ((u6_2)) ((a2)) ((u6_22) - (u6_2)) ((a1)) ((z)) ((a1) - (y6_23))) → Q (some (I z)) σ c s) : Ew 397 (d + 1) 0 (rargs 0 [.ref (D 6), I a1, I a2]) [] σ c s Q := by
  have r1 : (0 : Int) ≤ u6_2 ∧ u6_2 ≤ 8 := by have h1 : (0 : Int) ≤ F 6 2 ∧ F 6 2 ≤ 8 := H.frng 6 2; rw [show F 6 2 = u6_2 from (eu6_2)] at h1; exact h1
  have r2 : (0 : Int) ≤ u6_22 ∧ u6_22 ≤ 16384 := by have h1 : (0 : Int) ≤ F 6 22 ∧ F 6 22 ≤ 16384 := H.frng 6 22; rw [show F 6 22 = u6_22 from (eu6_22)] at h1; exact h1
  have r3 : (0 : Int) ≤ u6_24 ∧ u6_24 ≤ 16777216 := by have h1 : (0 : Int) ≤ F 6 24 ∧ F 6 24 ≤ 16777216 := H.frng 6 24; rw [show F 6 24 = u6_24 from (eu6_24)] at h1; exact h1
  refine Ew_of (pc' := 1) (fun _ => x_aload_n rfl rfl) ?_
  refine w_gI H (o := 6) (w := u6_22) rfl (H.perm 6 rfl) rfl rfl rfl (fun _ => rfl) (eu6_22) ?_
  refine Ew_of (pc' := 5) (fun _ => x_iload_n rfl rfl) ?_
  refine w_isub rfl ?_
  refine Ew_of (pc' := 8) (fun _ => x_ldc (z := 131074) rfl (by decide)) ?_
  have hc22 : ∀ (tc22_0 : Int), ∀ (ls : rO) (σ : rS) (F_c22 : hF) (A_c22 : hA) , rlook ls 0 = some (.ref (D 6)) → rlook ls 1 = some (I (a1)) → rlook ls 2 = some (I (a2)) → HS σ0 σ D N F_c22 A_c22 → SF [] F F_c22 → SA [] A A_c22 → (inr (tc22_0)) → ((((u6_22 - a1)) ≥ (131074) ∧ (tc22_0) = (131074)) ∨ (((u6_22 - a1)) < (131074) ∧ (tc22_0) = ((u6_22 - a1)))) → Ew 397 (d + 1) 22 ls [I (tc22_0)] σ c s Q := by
   as_aux_lemma =>
    intro tc22_0 ls σ F_c22 A_c22  lc22_0 lc22_1 lc22_2 H hS_c22 hA_c22   jc22_0 jc22_1
    refine Ew_of (pc' := 23) (fun _ => x_istore_n rfl) ?_
    refine Ew_of (pc' := 24) (fun _ => x_iconst rfl) ?_
    refine Ew_of (pc' := 26) (fun _ => x_istore rfl) ?_
    refine Ew_of (pc' := 27) (fun _ => x_iload_n rfl (rk_o (rk_o (lc22_1) rfl rfl) rfl rfl)) ?_
    refine Ew_of (pc' := 28) (fun _ => x_iconst rfl) ?_
    refine w_isub rfl ?_
    refine Ew_of (pc' := 31) (fun _ => x_istore rfl) ?_
    have r4 : (0 : Int) ≤ F 6 23 ∧ F 6 23 ≤ 16384 := by have h1 : (0 : Int) ≤ F_c22 6 23 ∧ F_c22 6 23 ≤ 16384 := H.frng 6 23; rw [show F_c22 6 23 = F 6 23 from (hS_c22 6 23 rfl)] at h1; exact h1
    have : SCI ((w61)) ((u6_22)) ((u6_24)) ((u6_2)) ((a2)) ((a1)) ((a1) - 1) 0 ((a1) - (F 6 23)) := SCI_0 (by omega) (by omega)
    suffices hl31 : ∀ (m : Nat), ∀ (ls : rO) (σ : rS) (F_31 : hF) (A_31 : hA) (x31_4 : Int) (x31_5 : Int), rlook ls 0 = some (.ref (D 6)) → rlook ls 1 = some (I (a1)) → rlook ls 2 = some (I (a2)) → rlook ls 3 = some (I (tc22_0)) → rlook ls 4 = some (I (x31_4)) → rlook ls 5 = some (I (x31_5)) → HS σ0 σ D N F_31 A_31 → SF [(6, 23)] F_c22 F_31 → SA [] A_c22 A_31 → ∀ y31_6_23 : Int, F_31 6 23 = y31_6_23 → (inr (x31_4)) → (inr (x31_5)) → (-1 ≤ (x31_5) ∧ (x31_5) < (a1)) → ((x31_4) = 0 ∨ (u6_2) ≤ (x31_4) ∧ (x31_4) ≤ (tc22_0) ∧ (y31_6_23) < (a1)) → (SCI ((w61)) ((u6_22)) ((u6_24)) ((u6_2)) ((a2)) ((a1)) ((x31_5)) ((x31_4)) ((a1) - (y31_6_23))) → ((x31_5) + 1).toNat = m → Ew 397 (d + 1) 31 ls [] σ c s Q from
      hl31 _ _ σ _ _ (0) ((a1 - 1)) (rk_o (rk_o (rk_o (lc22_0) rfl rfl) rfl rfl) rfl rfl) (rk_o (rk_o (rk_o (lc22_1) rfl rfl) rfl rfl) rfl rfl) (rk_o (rk_o (rk_o (lc22_2) rfl rfl) rfl rfl) rfl rfl) (rk_o (rk_o (rk_s) rfl rfl) rfl rfl) (rk_o (rk_s) rfl rfl) (rk_s) H (SF_refl) (SA_refl) (F 6 23) ((hS_c22 6 23 rfl))  (show inr (0) by omega) (show inr ((a1 - 1)) by omega) (show -1 ≤ ((a1 - 1)) ∧ ((a1 - 1)) < (a1) by omega) (show (0) = 0 ∨ (u6_2) ≤ (0) ∧ (0) ≤ (tc22_0) ∧ (F 6 23) < (a1) by omega) (show SCI ((w61)) ((u6_22)) ((u6_24)) ((u6_2)) ((a2)) ((a1)) (((a1 - 1))) ((0)) ((a1) - (F 6 23)) by assumption) rfl
    as_aux_lemma =>
    intro m
    induction m using Nat.strongRecOn with
    | _ m ih31 =>
      intro ls σ F_31 A_31 x31_4 x31_5 l31_0 l31_1 l31_2 l31_3 l31_4 l31_5 H hS_31 hA_31 y31_6_23 ey31_6_23  j31_0 j31_1 j31_2 j31_3 j31_4 hm31
      have r5 : (0 : Int) ≤ y31_6_23 ∧ y31_6_23 ≤ 16384 := by have h1 : (0 : Int) ≤ F_31 6 23 ∧ F_31 6 23 ≤ 16384 := H.frng 6 23; rw [show F_31 6 23 = y31_6_23 from (ey31_6_23)] at h1; exact h1
      have j31_s : SCI ((w61)) ((u6_22)) ((u6_24)) ((u6_2)) ((a2)) ((a1)) ((x31_5)) ((x31_4)) ((a1) - (y31_6_23)) := by assumption
      refine Ew_of (pc' := 33) (fun _ => x_iload rfl l31_5) ?_
      refine w_iflt (t := 154) rfl rfl (show inr (x31_5) by omega) (fun b6 => ?_) (fun b6 => ?_)
      · refine Ew_of (pc' := 156) (fun _ => x_iload rfl l31_4) ?_
        have : MTL ((w61)) ((u6_22)) ((u6_24)) ((u6_2)) ((a2)) ((u6_22) - (u6_2)) ((a1)) ((x31_4)) ((a1) - (y31_6_23)) := by by_cases z : (a1) ≤ (u6_22) - (u6_2); (exact .inl ⟨z, SCI_fu j31_s (by omega) (by omega)⟩); (exact .inr ⟨by omega, by omega⟩)
        exact w_ireturn rfl (k (x31_4) σ _ _ H (SF_trans (SF_trans (SF_refl) hS_c22 (any_sub rfl)) hS_31 (any_sub rfl)) (SA_trans (SA_trans (SA_refl) hA_c22 (any_subA rfl)) hA_31 (any_subA rfl)) (y31_6_23) ((ey31_6_23)) (show inr (x31_4) by omega) (show 0 ≤ (x31_4) by omega) (show (x31_4) = 0 ∨ (u6_2) ≤ (x31_4) ∧ (x31_4) ≤ (u6_22) - a1 ∧ (y31_6_23) < a1 by omega) (show MTL ((w61)) ((u6_22)) ((u6_24)) ((u6_2)) (a2) ((u6_22) - (u6_2)) (a1) ((x31_4)) (a1 - (y31_6_23)) by assumption))
      · refine Ew_of (pc' := 37) (fun _ => x_iload_n rfl l31_1) ?_
        refine Ew_of (pc' := 39) (fun _ => x_iload rfl l31_5) ?_
        refine w_isub rfl ?_
        refine Ew_of (pc' := 41) (fun _ => x_aload_n rfl l31_0) ?_
        refine w_gI H (o := 6) (w := u6_24) rfl (H.perm 6 rfl) rfl rfl rfl (fun _ => rfl) (((hS_31 6 24 rfl).trans (hS_c22 6 24 rfl)).trans (eu6_24)) ?_
        refine w_icmpgt (t := 154) rfl rfl (show inr ((a1 - x31_5)) by omega) (show inr (u6_24) by omega) (fun b7 => ?_) (fun b7 => ?_)
        · refine Ew_of (pc' := 156) (fun _ => x_iload rfl l31_4) ?_
          have : MTL ((w61)) ((u6_22)) ((u6_24)) ((u6_2)) ((a2)) ((u6_22) - (u6_2)) ((a1)) ((x31_4)) ((a1) - (y31_6_23)) := by by_cases z : (a1) ≤ (u6_22) - (u6_2); (exact .inl ⟨z, SCI_fu j31_s (by omega) (by omega)⟩); (exact .inr ⟨by omega, by omega⟩)
          exact w_ireturn rfl (k (x31_4) σ _ _ H (SF_trans (SF_trans (SF_refl) hS_c22 (any_sub rfl)) hS_31 (any_sub rfl)) (SA_trans (SA_trans (SA_refl) hA_c22 (any_subA rfl)) hA_31 (any_subA rfl)) (y31_6_23) ((ey31_6_23)) (show inr (x31_4) by omega) (show 0 ≤ (x31_4) by omega) (show (x31_4) = 0 ∨ (u6_2) ≤ (x31_4) ∧ (x31_4) ≤ (u6_22) - a1 ∧ (y31_6_23) < a1 by omega) (show MTL ((w61)) ((u6_22)) ((u6_24)) ((u6_2)) (a2) ((u6_22) - (u6_2)) (a1) ((x31_4)) (a1 - (y31_6_23)) by assumption))
        · refine Ew_of (pc' := 49) (fun _ => x_iload rfl l31_4) ?_
          refine Ew_of (pc' := 50) (fun _ => x_iload_n rfl l31_3) ?_
          refine w_icmpge (t := 154) rfl rfl (show inr (x31_4) by omega) (show inr (tc22_0) by omega) (fun b8 => ?_) (fun b8 => ?_)
          · refine Ew_of (pc' := 156) (fun _ => x_iload rfl l31_4) ?_
            have : MTL ((w61)) ((u6_22)) ((u6_24)) ((u6_2)) ((a2)) ((u6_22) - (u6_2)) ((a1)) ((x31_4)) ((a1) - (y31_6_23)) := by by_cases z : (a1) ≤ (u6_22) - (u6_2); (exact .inl ⟨z, SCI_fu j31_s (by omega) (by omega)⟩); (exact .inr ⟨by omega, by omega⟩)
            exact w_ireturn rfl (k (x31_4) σ _ _ H (SF_trans (SF_trans (SF_refl) hS_c22 (any_sub rfl)) hS_31 (any_sub rfl)) (SA_trans (SA_trans (SA_refl) hA_c22 (any_subA rfl)) hA_31 (any_subA rfl)) (y31_6_23) ((ey31_6_23)) (show inr (x31_4) by omega) (show 0 ≤ (x31_4) by omega) (show (x31_4) = 0 ∨ (u6_2) ≤ (x31_4) ∧ (x31_4) ≤ (u6_22) - a1 ∧ (y31_6_23) < a1 by omega) (show MTL ((w61)) ((u6_22)) ((u6_24)) ((u6_2)) (a2) ((u6_22) - (u6_2)) (a1) ((x31_4)) (a1 - (y31_6_23)) by assumption))
          · refine Ew_of (pc' := 54) (fun _ => x_aload_n rfl l31_0) ?_
            refine Ew_of (pc' := 56) (fun _ => x_iload rfl l31_5) ?_
            refine Ew_of (pc' := 57) (fun _ => x_iload_n rfl l31_1) ?_
            refine Ew_of (pc' := 58) (fun _ => x_iload_n rfl l31_3) ?_
            refine w_inv H (o := 6) rfl rfl rfl (H.perm 6 rfl) rfl rfl (by rfl) (M396 H (w61) ((funext (hA_31 61 rfl)).trans ((funext (hA_c22 61 rfl)).trans (ew61))) (show inr (x31_5) by omega) (show inr (a1) by omega) (show inr (tc22_0) by omega) (show 0 ≤ (x31_5) ∧ (x31_5) < (a1) ∧ (tc22_0) + (a1) ≤ 16384 ∧ 0 ≤ (tc22_0) by omega) (fun z13 σ F9 A10 H hS11 hA12 pz13_0 pz13_1 pz13_2 => ⟨rfl, ?_⟩))
            have hcp : cpl ((w61)) ((x31_5)) ((a1)) ((u6_22)) = (z13) := by have h := pz13_2; rw [show (a1) + (tc22_0) = (u6_22) by omega] at h; exact h.symm
            refine Ew_of (pc' := 63) (fun _ => x_istore rfl) ?_
            refine Ew_of (pc' := 64) (fun _ => x_iload_n rfl (rk_o (l31_2) rfl rfl)) ?_
            refine Ew_of (pc' := 65) (fun _ => x_iconst rfl) ?_
            refine w_icmpne (t := 83) rfl rfl (show inr (a2) by omega) (show inr (2) by omega) (fun b14 => ?_) (fun b14 => ?_)
            · refine Ew_of (pc' := 85) (fun _ => x_iload rfl (rk_o (l31_4) rfl rfl)) ?_
              refine w_ifeq (t := 107) rfl rfl (show inr (x31_4) by omega) (fun b15 => ?_) (fun b15 => ?_)
              · refine Ew_of (pc' := 108) (fun _ => x_iconst rfl) ?_
                refine Ew_of (pc' := 112) (fun _ => x_goto rfl rfl) ?_
                refine Ew_of (pc' := 114) (fun _ => x_istore rfl) ?_
                refine Ew_of (pc' := 116) (fun _ => x_iload rfl (rk_o (rk_s) rfl rfl)) ?_
                refine Ew_of (pc' := 117) (fun _ => x_aload_n rfl (rk_o (rk_o (l31_0) rfl rfl) rfl rfl)) ?_
                refine w_gI H (o := 6) (w := u6_2) rfl (H.perm 6 rfl) rfl rfl rfl (fun _ => rfl) ((((hS11 6 2 rfl).trans (hS_31 6 2 rfl)).trans (hS_c22 6 2 rfl)).trans (eu6_2)) ?_
                refine w_icmplt (t := 148) rfl rfl (show inr (z13) by omega) (show inr (u6_2) by omega) (fun b16 => ?_) (fun b16 => ?_)
                · refine Ew_of (pc' := 151) (fun _ => x_iinc (len := 3) rfl (rk_o (rk_o (l31_5) rfl rfl) rfl rfl)) ?_
                  refine Ew_of (pc' := 31) (fun _ => x_goto rfl rfl) ?_
                  have : SCI ((w61)) ((u6_22)) ((u6_24)) ((u6_2)) ((a2)) ((a1)) (((x31_5 + (-1)))) ((x31_4)) ((a1) - (y31_6_23)) := by first | exact SCI_y j31_s rfl (by omega) (by omega) (by omega) hcp (by unfold BET; omega) (by omega) | exact SCI_n j31_s rfl hcp (by unfold BET; omega) (by omega)
                  exact ih31 _ (by omega) _ σ _ _ (x31_4) ((x31_5 + (-1))) (rk_o (rk_o (rk_o (l31_0) rfl rfl) rfl rfl) rfl rfl) (rk_o (rk_o (rk_o (l31_1) rfl rfl) rfl rfl) rfl rfl) (rk_o (rk_o (rk_o (l31_2) rfl rfl) rfl rfl) rfl rfl) (rk_o (rk_o (rk_o (l31_3) rfl rfl) rfl rfl) rfl rfl) (rk_o (rk_o (rk_o (l31_4) rfl rfl) rfl rfl) rfl rfl) (rk_s) H (SF_trans (hS_31) hS11 (any_sub rfl)) (SA_trans (hA_31) hA12 (any_subA rfl)) (y31_6_23) (((hS11 6 23 rfl).trans (ey31_6_23)))  (show inr (x31_4) by omega) (show inr ((x31_5 + (-1))) by omega) (show -1 ≤ ((x31_5 + (-1))) ∧ ((x31_5 + (-1))) < (a1) by omega) (show (x31_4) = 0 ∨ (u6_2) ≤ (x31_4) ∧ (x31_4) ≤ (tc22_0) ∧ (y31_6_23) < (a1) by omega) (show SCI ((w61)) ((u6_22)) ((u6_24)) ((u6_2)) ((a2)) ((a1)) (((x31_5 + (-1)))) ((x31_4)) ((a1) - (y31_6_23)) by assumption) rfl
                · refine Ew_of (pc' := 125) (fun _ => x_iload rfl rk_s) ?_
                  refine w_ifne (t := 131) rfl rfl (show inr (1) by omega) (fun b17 => ?_) (fun b17 => ?_)
                  · refine Ew_of (pc' := 133) (fun _ => x_iload rfl (rk_o (rk_s) rfl rfl)) ?_
                    refine Ew_of (pc' := 135) (fun _ => x_istore rfl) ?_
                    refine Ew_of (pc' := 136) (fun _ => x_aload_n rfl (rk_o (rk_o (rk_o (l31_0) rfl rfl) rfl rfl) rfl rfl)) ?_
                    refine Ew_of (pc' := 138) (fun _ => x_iload rfl (rk_o (rk_o (rk_o (l31_5) rfl rfl) rfl rfl) rfl rfl)) ?_
                    refine w_pI H (o := 6) rfl rfl (H.perm 6 rfl) rfl rfl rfl (fun _ => rfl) rfl (show (0 : Int) ≤ x31_5 ∧ x31_5 ≤ 16384 by omega) (fun σ H => ?_)
                    refine Ew_of (pc' := 142) (fun _ => x_iload_n rfl (rk_o (rk_o (rk_o (l31_2) rfl rfl) rfl rfl) rfl rfl)) ?_
                    refine w_ifne (t := 148) rfl rfl (show inr (a2) by omega) (fun b18 => ?_) (fun b18 => ?_)
                    · refine Ew_of (pc' := 151) (fun _ => x_iinc (len := 3) rfl (rk_o (rk_o (rk_o (l31_5) rfl rfl) rfl rfl) rfl rfl)) ?_
                      refine Ew_of (pc' := 31) (fun _ => x_goto rfl rfl) ?_
                      have : SCI ((w61)) ((u6_22)) ((u6_24)) ((u6_2)) ((a2)) ((a1)) (((x31_5 + (-1)))) ((z13)) ((a1) - (x31_5)) := by first | exact SCI_y j31_s rfl (by omega) (by omega) (by omega) hcp (by unfold BET; omega) (by omega) | exact SCI_n j31_s rfl hcp (by unfold BET; omega) (by omega)
                      exact ih31 _ (by omega) _ σ _ _ (z13) ((x31_5 + (-1))) (rk_o (rk_o (rk_o (rk_o (l31_0) rfl rfl) rfl rfl) rfl rfl) rfl rfl) (rk_o (rk_o (rk_o (rk_o (l31_1) rfl rfl) rfl rfl) rfl rfl) rfl rfl) (rk_o (rk_o (rk_o (rk_o (l31_2) rfl rfl) rfl rfl) rfl rfl) rfl rfl) (rk_o (rk_o (rk_o (rk_o (l31_3) rfl rfl) rfl rfl) rfl rfl) rfl rfl) (rk_o (rk_s) rfl rfl) (rk_s) H (SF_upd (SF_trans (hS_31) hS11 (any_sub rfl)) rfl) (SA_trans (hA_31) hA12 (any_subA rfl)) (x31_5) (rfl)  (show inr (z13) by omega) (show inr ((x31_5 + (-1))) by omega) (show -1 ≤ ((x31_5 + (-1))) ∧ ((x31_5 + (-1))) < (a1) by omega) (show (z13) = 0 ∨ (u6_2) ≤ (z13) ∧ (z13) ≤ (tc22_0) ∧ (x31_5) < (a1) by omega) (show SCI ((w61)) ((u6_22)) ((u6_24)) ((u6_2)) ((a2)) ((a1)) (((x31_5 + (-1)))) ((z13)) ((a1) - (x31_5)) by assumption) rfl
                    · refine Ew_of (pc' := 147) (fun _ => x_iload rfl rk_s) ?_
                      have : MTL ((w61)) ((u6_22)) ((u6_24)) ((u6_2)) ((a2)) ((u6_22) - (u6_2)) ((a1)) ((z13)) ((a1) - (x31_5)) := .inl ⟨by omega, SCI_r0 (SCI_y j31_s rfl (by omega) (by omega) (by omega) hcp (by unfold BET; omega) (by omega)) (by omega) (by omega)⟩
                      exact w_ireturn rfl (k (z13) σ _ _ H (SF_upd (SF_trans (SF_trans (SF_trans (SF_refl) hS_c22 (any_sub rfl)) hS_31 (any_sub rfl)) hS11 (any_sub rfl)) rfl) (SA_trans (SA_trans (SA_trans (SA_refl) hA_c22 (any_subA rfl)) hA_31 (any_subA rfl)) hA12 (any_subA rfl)) (x31_5) (rfl) (show inr (z13) by omega) (show 0 ≤ (z13) by omega) (show (z13) = 0 ∨ (u6_2) ≤ (z13) ∧ (z13) ≤ (u6_22) - a1 ∧ (x31_5) < a1 by omega) (show MTL ((w61)) ((u6_22)) ((u6_24)) ((u6_2)) (a2) ((u6_22) - (u6_2)) (a1) ((z13)) (a1 - (x31_5)) by assumption))
                  · refine Ew_of (pc' := 148) (fun _ => x_goto rfl rfl) ?_
                    refine Ew_of (pc' := 151) (fun _ => x_iinc (len := 3) rfl (rk_o (rk_o (l31_5) rfl rfl) rfl rfl)) ?_
                    refine Ew_of (pc' := 31) (fun _ => x_goto rfl rfl) ?_
                    have : SCI ((w61)) ((u6_22)) ((u6_24)) ((u6_2)) ((a2)) ((a1)) (((x31_5 + (-1)))) ((x31_4)) ((a1) - (y31_6_23)) := by first | exact SCI_y j31_s rfl (by omega) (by omega) (by omega) hcp (by unfold BET; omega) (by omega) | exact SCI_n j31_s rfl hcp (by unfold BET; omega) (by omega)
                    exact ih31 _ (by omega) _ σ _ _ (x31_4) ((x31_5 + (-1))) (rk_o (rk_o (rk_o (l31_0) rfl rfl) rfl rfl) rfl rfl) (rk_o (rk_o (rk_o (l31_1) rfl rfl) rfl rfl) rfl rfl) (rk_o (rk_o (rk_o (l31_2) rfl rfl) rfl rfl) rfl rfl) (rk_o (rk_o (rk_o (l31_3) rfl rfl) rfl rfl) rfl rfl) (rk_o (rk_o (rk_o (l31_4) rfl rfl) rfl rfl) rfl rfl) (rk_s) H (SF_trans (hS_31) hS11 (any_sub rfl)) (SA_trans (hA_31) hA12 (any_subA rfl)) (y31_6_23) (((hS11 6 23 rfl).trans (ey31_6_23)))  (show inr (x31_4) by omega) (show inr ((x31_5 + (-1))) by omega) (show -1 ≤ ((x31_5 + (-1))) ∧ ((x31_5 + (-1))) < (a1) by omega) (show (x31_4) = 0 ∨ (u6_2) ≤ (x31_4) ∧ (x31_4) ≤ (tc22_0) ∧ (y31_6_23) < (a1) by omega) (show SCI ((w61)) ((u6_22)) ((u6_24)) ((u6_2)) ((a2)) ((a1)) (((x31_5 + (-1)))) ((x31_4)) ((a1) - (y31_6_23)) by assumption) rfl
              · refine Ew_of (pc' := 89) (fun _ => x_iload_n rfl (rk_o (l31_2) rfl rfl)) ?_
                refine Ew_of (pc' := 90) (fun _ => x_iconst rfl) ?_
                refine w_icmpne (t := 111) rfl rfl (show inr (a2) by omega) (show inr (1) by omega) (fun b19 => ?_) (fun b19 => ?_)
                · refine Ew_of (pc' := 112) (fun _ => x_iconst rfl) ?_
                  refine Ew_of (pc' := 114) (fun _ => x_istore rfl) ?_
                  refine Ew_of (pc' := 116) (fun _ => x_iload rfl (rk_o (rk_s) rfl rfl)) ?_
                  refine Ew_of (pc' := 117) (fun _ => x_aload_n rfl (rk_o (rk_o (l31_0) rfl rfl) rfl rfl)) ?_
                  refine w_gI H (o := 6) (w := u6_2) rfl (H.perm 6 rfl) rfl rfl rfl (fun _ => rfl) ((((hS11 6 2 rfl).trans (hS_31 6 2 rfl)).trans (hS_c22 6 2 rfl)).trans (eu6_2)) ?_
                  refine w_icmplt (t := 148) rfl rfl (show inr (z13) by omega) (show inr (u6_2) by omega) (fun b20 => ?_) (fun b20 => ?_)
                  · refine Ew_of (pc' := 151) (fun _ => x_iinc (len := 3) rfl (rk_o (rk_o (l31_5) rfl rfl) rfl rfl)) ?_
                    refine Ew_of (pc' := 31) (fun _ => x_goto rfl rfl) ?_
                    have : SCI ((w61)) ((u6_22)) ((u6_24)) ((u6_2)) ((a2)) ((a1)) (((x31_5 + (-1)))) ((x31_4)) ((a1) - (y31_6_23)) := by first | exact SCI_y j31_s rfl (by omega) (by omega) (by omega) hcp (by unfold BET; omega) (by omega) | exact SCI_n j31_s rfl hcp (by unfold BET; omega) (by omega)
                    exact ih31 _ (by omega) _ σ _ _ (x31_4) ((x31_5 + (-1))) (rk_o (rk_o (rk_o (l31_0) rfl rfl) rfl rfl) rfl rfl) (rk_o (rk_o (rk_o (l31_1) rfl rfl) rfl rfl) rfl rfl) (rk_o (rk_o (rk_o (l31_2) rfl rfl) rfl rfl) rfl rfl) (rk_o (rk_o (rk_o (l31_3) rfl rfl) rfl rfl) rfl rfl) (rk_o (rk_o (rk_o (l31_4) rfl rfl) rfl rfl) rfl rfl) (rk_s) H (SF_trans (hS_31) hS11 (any_sub rfl)) (SA_trans (hA_31) hA12 (any_subA rfl)) (y31_6_23) (((hS11 6 23 rfl).trans (ey31_6_23)))  (show inr (x31_4) by omega) (show inr ((x31_5 + (-1))) by omega) (show -1 ≤ ((x31_5 + (-1))) ∧ ((x31_5 + (-1))) < (a1) by omega) (show (x31_4) = 0 ∨ (u6_2) ≤ (x31_4) ∧ (x31_4) ≤ (tc22_0) ∧ (y31_6_23) < (a1) by omega) (show SCI ((w61)) ((u6_22)) ((u6_24)) ((u6_2)) ((a2)) ((a1)) (((x31_5 + (-1)))) ((x31_4)) ((a1) - (y31_6_23)) by assumption) rfl
                  · refine Ew_of (pc' := 125) (fun _ => x_iload rfl rk_s) ?_
                    refine w_ifne (t := 131) rfl rfl (show inr (0) by omega) (fun b21 => ?_) (fun b21 => ?_)
                    · refine Ew_of (pc' := 133) (fun _ => x_iload rfl (rk_o (rk_s) rfl rfl)) ?_
                      refine Ew_of (pc' := 135) (fun _ => x_istore rfl) ?_
                      refine Ew_of (pc' := 136) (fun _ => x_aload_n rfl (rk_o (rk_o (rk_o (l31_0) rfl rfl) rfl rfl) rfl rfl)) ?_
                      refine Ew_of (pc' := 138) (fun _ => x_iload rfl (rk_o (rk_o (rk_o (l31_5) rfl rfl) rfl rfl) rfl rfl)) ?_
                      refine w_pI H (o := 6) rfl rfl (H.perm 6 rfl) rfl rfl rfl (fun _ => rfl) rfl (show (0 : Int) ≤ x31_5 ∧ x31_5 ≤ 16384 by omega) (fun σ H => ?_)
                      refine Ew_of (pc' := 142) (fun _ => x_iload_n rfl (rk_o (rk_o (rk_o (l31_2) rfl rfl) rfl rfl) rfl rfl)) ?_
                      refine w_ifne (t := 148) rfl rfl (show inr (a2) by omega) (fun b22 => ?_) (fun b22 => ?_)
                      · refine Ew_of (pc' := 151) (fun _ => x_iinc (len := 3) rfl (rk_o (rk_o (rk_o (l31_5) rfl rfl) rfl rfl) rfl rfl)) ?_
                        refine Ew_of (pc' := 31) (fun _ => x_goto rfl rfl) ?_
                        have : SCI ((w61)) ((u6_22)) ((u6_24)) ((u6_2)) ((a2)) ((a1)) (((x31_5 + (-1)))) ((z13)) ((a1) - (x31_5)) := by first | exact SCI_y j31_s rfl (by omega) (by omega) (by omega) hcp (by unfold BET; omega) (by omega) | exact SCI_n j31_s rfl hcp (by unfold BET; omega) (by omega)
                        exact ih31 _ (by omega) _ σ _ _ (z13) ((x31_5 + (-1))) (rk_o (rk_o (rk_o (rk_o (l31_0) rfl rfl) rfl rfl) rfl rfl) rfl rfl) (rk_o (rk_o (rk_o (rk_o (l31_1) rfl rfl) rfl rfl) rfl rfl) rfl rfl) (rk_o (rk_o (rk_o (rk_o (l31_2) rfl rfl) rfl rfl) rfl rfl) rfl rfl) (rk_o (rk_o (rk_o (rk_o (l31_3) rfl rfl) rfl rfl) rfl rfl) rfl rfl) (rk_o (rk_s) rfl rfl) (rk_s) H (SF_upd (SF_trans (hS_31) hS11 (any_sub rfl)) rfl) (SA_trans (hA_31) hA12 (any_subA rfl)) (x31_5) (rfl)  (show inr (z13) by omega) (show inr ((x31_5 + (-1))) by omega) (show -1 ≤ ((x31_5 + (-1))) ∧ ((x31_5 + (-1))) < (a1) by omega) (show (z13) = 0 ∨ (u6_2) ≤ (z13) ∧ (z13) ≤ (tc22_0) ∧ (x31_5) < (a1) by omega) (show SCI ((w61)) ((u6_22)) ((u6_24)) ((u6_2)) ((a2)) ((a1)) (((x31_5 + (-1)))) ((z13)) ((a1) - (x31_5)) by assumption) rfl
                      · refine Ew_of (pc' := 147) (fun _ => x_iload rfl rk_s) ?_
                        have : MTL ((w61)) ((u6_22)) ((u6_24)) ((u6_2)) ((a2)) ((u6_22) - (u6_2)) ((a1)) ((z13)) ((a1) - (x31_5)) := .inl ⟨by omega, SCI_r0 (SCI_y j31_s rfl (by omega) (by omega) (by omega) hcp (by unfold BET; omega) (by omega)) (by omega) (by omega)⟩
                        exact w_ireturn rfl (k (z13) σ _ _ H (SF_upd (SF_trans (SF_trans (SF_trans (SF_refl) hS_c22 (any_sub rfl)) hS_31 (any_sub rfl)) hS11 (any_sub rfl)) rfl) (SA_trans (SA_trans (SA_trans (SA_refl) hA_c22 (any_subA rfl)) hA_31 (any_subA rfl)) hA12 (any_subA rfl)) (x31_5) (rfl) (show inr (z13) by omega) (show 0 ≤ (z13) by omega) (show (z13) = 0 ∨ (u6_2) ≤ (z13) ∧ (z13) ≤ (u6_22) - a1 ∧ (x31_5) < a1 by omega) (show MTL ((w61)) ((u6_22)) ((u6_24)) ((u6_2)) (a2) ((u6_22) - (u6_2)) (a1) ((z13)) (a1 - (x31_5)) by assumption))
                    · refine Ew_of (pc' := 148) (fun _ => x_goto rfl rfl) ?_
                      refine Ew_of (pc' := 151) (fun _ => x_iinc (len := 3) rfl (rk_o (rk_o (l31_5) rfl rfl) rfl rfl)) ?_
                      refine Ew_of (pc' := 31) (fun _ => x_goto rfl rfl) ?_
                      have : SCI ((w61)) ((u6_22)) ((u6_24)) ((u6_2)) ((a2)) ((a1)) (((x31_5 + (-1)))) ((x31_4)) ((a1) - (y31_6_23)) := by first | exact SCI_y j31_s rfl (by omega) (by omega) (by omega) hcp (by unfold BET; omega) (by omega) | exact SCI_n j31_s rfl hcp (by unfold BET; omega) (by omega)
                      exact ih31 _ (by omega) _ σ _ _ (x31_4) ((x31_5 + (-1))) (rk_o (rk_o (rk_o (l31_0) rfl rfl) rfl rfl) rfl rfl) (rk_o (rk_o (rk_o (l31_1) rfl rfl) rfl rfl) rfl rfl) (rk_o (rk_o (rk_o (l31_2) rfl rfl) rfl rfl) rfl rfl) (rk_o (rk_o (rk_o (l31_3) rfl rfl) rfl rfl) rfl rfl) (rk_o (rk_o (rk_o (l31_4) rfl rfl) rfl rfl) rfl rfl) (rk_s) H (SF_trans (hS_31) hS11 (any_sub rfl)) (SA_trans (hA_31) hA12 (any_subA rfl)) (y31_6_23) (((hS11 6 23 rfl).trans (ey31_6_23)))  (show inr (x31_4) by omega) (show inr ((x31_5 + (-1))) by omega) (show -1 ≤ ((x31_5 + (-1))) ∧ ((x31_5 + (-1))) < (a1) by omega) (show (x31_4) = 0 ∨ (u6_2) ≤ (x31_4) ∧ (x31_4) ≤ (tc22_0) ∧ (y31_6_23) < (a1) by omega) (show SCI ((w61)) ((u6_22)) ((u6_24)) ((u6_2)) ((a2)) ((a1)) (((x31_5 + (-1)))) ((x31_4)) ((a1) - (y31_6_23)) by assumption) rfl
                · refine Ew_of (pc' := 95) (fun _ => x_iload rfl (rk_o (l31_4) rfl rfl)) ?_
                  refine Ew_of (pc' := 97) (fun _ => x_bipush (z := 8) rfl (by decide)) ?_
                  refine w_icmpge (t := 111) rfl rfl (show inr (x31_4) by omega) (show inr (8) by omega) (fun b23 => ?_) (fun b23 => ?_)
                  · refine Ew_of (pc' := 112) (fun _ => x_iconst rfl) ?_
                    refine Ew_of (pc' := 114) (fun _ => x_istore rfl) ?_
                    refine Ew_of (pc' := 116) (fun _ => x_iload rfl (rk_o (rk_s) rfl rfl)) ?_
                    refine Ew_of (pc' := 117) (fun _ => x_aload_n rfl (rk_o (rk_o (l31_0) rfl rfl) rfl rfl)) ?_
                    refine w_gI H (o := 6) (w := u6_2) rfl (H.perm 6 rfl) rfl rfl rfl (fun _ => rfl) ((((hS11 6 2 rfl).trans (hS_31 6 2 rfl)).trans (hS_c22 6 2 rfl)).trans (eu6_2)) ?_
                    refine w_icmplt (t := 148) rfl rfl (show inr (z13) by omega) (show inr (u6_2) by omega) (fun b24 => ?_) (fun b24 => ?_)
                    · refine Ew_of (pc' := 151) (fun _ => x_iinc (len := 3) rfl (rk_o (rk_o (l31_5) rfl rfl) rfl rfl)) ?_
                      refine Ew_of (pc' := 31) (fun _ => x_goto rfl rfl) ?_
                      have : SCI ((w61)) ((u6_22)) ((u6_24)) ((u6_2)) ((a2)) ((a1)) (((x31_5 + (-1)))) ((x31_4)) ((a1) - (y31_6_23)) := by first | exact SCI_y j31_s rfl (by omega) (by omega) (by omega) hcp (by unfold BET; omega) (by omega) | exact SCI_n j31_s rfl hcp (by unfold BET; omega) (by omega)
                      exact ih31 _ (by omega) _ σ _ _ (x31_4) ((x31_5 + (-1))) (rk_o (rk_o (rk_o (l31_0) rfl rfl) rfl rfl) rfl rfl) (rk_o (rk_o (rk_o (l31_1) rfl rfl) rfl rfl) rfl rfl) (rk_o (rk_o (rk_o (l31_2) rfl rfl) rfl rfl) rfl rfl) (rk_o (rk_o (rk_o (l31_3) rfl rfl) rfl rfl) rfl rfl) (rk_o (rk_o (rk_o (l31_4) rfl rfl) rfl rfl) rfl rfl) (rk_s) H (SF_trans (hS_31) hS11 (any_sub rfl)) (SA_trans (hA_31) hA12 (any_subA rfl)) (y31_6_23) (((hS11 6 23 rfl).trans (ey31_6_23)))  (show inr (x31_4) by omega) (show inr ((x31_5 + (-1))) by omega) (show -1 ≤ ((x31_5 + (-1))) ∧ ((x31_5 + (-1))) < (a1) by omega) (show (x31_4) = 0 ∨ (u6_2) ≤ (x31_4) ∧ (x31_4) ≤ (tc22_0) ∧ (y31_6_23) < (a1) by omega) (show SCI ((w61)) ((u6_22)) ((u6_24)) ((u6_2)) ((a2)) ((a1)) (((x31_5 + (-1)))) ((x31_4)) ((a1) - (y31_6_23)) by assumption) rfl
                    · refine Ew_of (pc' := 125) (fun _ => x_iload rfl rk_s) ?_
                      refine w_ifne (t := 131) rfl rfl (show inr (0) by omega) (fun b25 => ?_) (fun b25 => ?_)
                      · refine Ew_of (pc' := 133) (fun _ => x_iload rfl (rk_o (rk_s) rfl rfl)) ?_
                        refine Ew_of (pc' := 135) (fun _ => x_istore rfl) ?_
                        refine Ew_of (pc' := 136) (fun _ => x_aload_n rfl (rk_o (rk_o (rk_o (l31_0) rfl rfl) rfl rfl) rfl rfl)) ?_
                        refine Ew_of (pc' := 138) (fun _ => x_iload rfl (rk_o (rk_o (rk_o (l31_5) rfl rfl) rfl rfl) rfl rfl)) ?_
                        refine w_pI H (o := 6) rfl rfl (H.perm 6 rfl) rfl rfl rfl (fun _ => rfl) rfl (show (0 : Int) ≤ x31_5 ∧ x31_5 ≤ 16384 by omega) (fun σ H => ?_)
                        refine Ew_of (pc' := 142) (fun _ => x_iload_n rfl (rk_o (rk_o (rk_o (l31_2) rfl rfl) rfl rfl) rfl rfl)) ?_
                        refine w_ifne (t := 148) rfl rfl (show inr (a2) by omega) (fun b26 => ?_) (fun b26 => ?_)
                        · refine Ew_of (pc' := 151) (fun _ => x_iinc (len := 3) rfl (rk_o (rk_o (rk_o (l31_5) rfl rfl) rfl rfl) rfl rfl)) ?_
                          refine Ew_of (pc' := 31) (fun _ => x_goto rfl rfl) ?_
                          have : SCI ((w61)) ((u6_22)) ((u6_24)) ((u6_2)) ((a2)) ((a1)) (((x31_5 + (-1)))) ((z13)) ((a1) - (x31_5)) := by first | exact SCI_y j31_s rfl (by omega) (by omega) (by omega) hcp (by unfold BET; omega) (by omega) | exact SCI_n j31_s rfl hcp (by unfold BET; omega) (by omega)
                          exact ih31 _ (by omega) _ σ _ _ (z13) ((x31_5 + (-1))) (rk_o (rk_o (rk_o (rk_o (l31_0) rfl rfl) rfl rfl) rfl rfl) rfl rfl) (rk_o (rk_o (rk_o (rk_o (l31_1) rfl rfl) rfl rfl) rfl rfl) rfl rfl) (rk_o (rk_o (rk_o (rk_o (l31_2) rfl rfl) rfl rfl) rfl rfl) rfl rfl) (rk_o (rk_o (rk_o (rk_o (l31_3) rfl rfl) rfl rfl) rfl rfl) rfl rfl) (rk_o (rk_s) rfl rfl) (rk_s) H (SF_upd (SF_trans (hS_31) hS11 (any_sub rfl)) rfl) (SA_trans (hA_31) hA12 (any_subA rfl)) (x31_5) (rfl)  (show inr (z13) by omega) (show inr ((x31_5 + (-1))) by omega) (show -1 ≤ ((x31_5 + (-1))) ∧ ((x31_5 + (-1))) < (a1) by omega) (show (z13) = 0 ∨ (u6_2) ≤ (z13) ∧ (z13) ≤ (tc22_0) ∧ (x31_5) < (a1) by omega) (show SCI ((w61)) ((u6_22)) ((u6_24)) ((u6_2)) ((a2)) ((a1)) (((x31_5 + (-1)))) ((z13)) ((a1) - (x31_5)) by assumption) rfl
                        · refine Ew_of (pc' := 147) (fun _ => x_iload rfl rk_s) ?_
                          have : MTL ((w61)) ((u6_22)) ((u6_24)) ((u6_2)) ((a2)) ((u6_22) - (u6_2)) ((a1)) ((z13)) ((a1) - (x31_5)) := .inl ⟨by omega, SCI_r0 (SCI_y j31_s rfl (by omega) (by omega) (by omega) hcp (by unfold BET; omega) (by omega)) (by omega) (by omega)⟩
                          exact w_ireturn rfl (k (z13) σ _ _ H (SF_upd (SF_trans (SF_trans (SF_trans (SF_refl) hS_c22 (any_sub rfl)) hS_31 (any_sub rfl)) hS11 (any_sub rfl)) rfl) (SA_trans (SA_trans (SA_trans (SA_refl) hA_c22 (any_subA rfl)) hA_31 (any_subA rfl)) hA12 (any_subA rfl)) (x31_5) (rfl) (show inr (z13) by omega) (show 0 ≤ (z13) by omega) (show (z13) = 0 ∨ (u6_2) ≤ (z13) ∧ (z13) ≤ (u6_22) - a1 ∧ (x31_5) < a1 by omega) (show MTL ((w61)) ((u6_22)) ((u6_24)) ((u6_2)) (a2) ((u6_22) - (u6_2)) (a1) ((z13)) (a1 - (x31_5)) by assumption))
                      · refine Ew_of (pc' := 148) (fun _ => x_goto rfl rfl) ?_
                        refine Ew_of (pc' := 151) (fun _ => x_iinc (len := 3) rfl (rk_o (rk_o (l31_5) rfl rfl) rfl rfl)) ?_
                        refine Ew_of (pc' := 31) (fun _ => x_goto rfl rfl) ?_
                        have : SCI ((w61)) ((u6_22)) ((u6_24)) ((u6_2)) ((a2)) ((a1)) (((x31_5 + (-1)))) ((x31_4)) ((a1) - (y31_6_23)) := by first | exact SCI_y j31_s rfl (by omega) (by omega) (by omega) hcp (by unfold BET; omega) (by omega) | exact SCI_n j31_s rfl hcp (by unfold BET; omega) (by omega)
                        exact ih31 _ (by omega) _ σ _ _ (x31_4) ((x31_5 + (-1))) (rk_o (rk_o (rk_o (l31_0) rfl rfl) rfl rfl) rfl rfl) (rk_o (rk_o (rk_o (l31_1) rfl rfl) rfl rfl) rfl rfl) (rk_o (rk_o (rk_o (l31_2) rfl rfl) rfl rfl) rfl rfl) (rk_o (rk_o (rk_o (l31_3) rfl rfl) rfl rfl) rfl rfl) (rk_o (rk_o (rk_o (l31_4) rfl rfl) rfl rfl) rfl rfl) (rk_s) H (SF_trans (hS_31) hS11 (any_sub rfl)) (SA_trans (hA_31) hA12 (any_subA rfl)) (y31_6_23) (((hS11 6 23 rfl).trans (ey31_6_23)))  (show inr (x31_4) by omega) (show inr ((x31_5 + (-1))) by omega) (show -1 ≤ ((x31_5 + (-1))) ∧ ((x31_5 + (-1))) < (a1) by omega) (show (x31_4) = 0 ∨ (u6_2) ≤ (x31_4) ∧ (x31_4) ≤ (tc22_0) ∧ (y31_6_23) < (a1) by omega) (show SCI ((w61)) ((u6_22)) ((u6_24)) ((u6_2)) ((a2)) ((a1)) (((x31_5 + (-1)))) ((x31_4)) ((a1) - (y31_6_23)) by assumption) rfl
                  · refine Ew_of (pc' := 102) (fun _ => x_iload rfl rk_s) ?_
                    refine Ew_of (pc' := 104) (fun _ => x_bipush (z := 7) rfl (by decide)) ?_
                    refine w_icmple (t := 111) rfl rfl (show inr (z13) by omega) (show inr (7) by omega) (fun b27 => ?_) (fun b27 => ?_)
                    · refine Ew_of (pc' := 112) (fun _ => x_iconst rfl) ?_
                      refine Ew_of (pc' := 114) (fun _ => x_istore rfl) ?_
                      refine Ew_of (pc' := 116) (fun _ => x_iload rfl (rk_o (rk_s) rfl rfl)) ?_
                      refine Ew_of (pc' := 117) (fun _ => x_aload_n rfl (rk_o (rk_o (l31_0) rfl rfl) rfl rfl)) ?_
                      refine w_gI H (o := 6) (w := u6_2) rfl (H.perm 6 rfl) rfl rfl rfl (fun _ => rfl) ((((hS11 6 2 rfl).trans (hS_31 6 2 rfl)).trans (hS_c22 6 2 rfl)).trans (eu6_2)) ?_
                      refine w_icmplt (t := 148) rfl rfl (show inr (z13) by omega) (show inr (u6_2) by omega) (fun b28 => ?_) (fun b28 => ?_)
                      · refine Ew_of (pc' := 151) (fun _ => x_iinc (len := 3) rfl (rk_o (rk_o (l31_5) rfl rfl) rfl rfl)) ?_
                        refine Ew_of (pc' := 31) (fun _ => x_goto rfl rfl) ?_
                        have : SCI ((w61)) ((u6_22)) ((u6_24)) ((u6_2)) ((a2)) ((a1)) (((x31_5 + (-1)))) ((x31_4)) ((a1) - (y31_6_23)) := by first | exact SCI_y j31_s rfl (by omega) (by omega) (by omega) hcp (by unfold BET; omega) (by omega) | exact SCI_n j31_s rfl hcp (by unfold BET; omega) (by omega)
                        exact ih31 _ (by omega) _ σ _ _ (x31_4) ((x31_5 + (-1))) (rk_o (rk_o (rk_o (l31_0) rfl rfl) rfl rfl) rfl rfl) (rk_o (rk_o (rk_o (l31_1) rfl rfl) rfl rfl) rfl rfl) (rk_o (rk_o (rk_o (l31_2) rfl rfl) rfl rfl) rfl rfl) (rk_o (rk_o (rk_o (l31_3) rfl rfl) rfl rfl) rfl rfl) (rk_o (rk_o (rk_o (l31_4) rfl rfl) rfl rfl) rfl rfl) (rk_s) H (SF_trans (hS_31) hS11 (any_sub rfl)) (SA_trans (hA_31) hA12 (any_subA rfl)) (y31_6_23) (((hS11 6 23 rfl).trans (ey31_6_23)))  (show inr (x31_4) by omega) (show inr ((x31_5 + (-1))) by omega) (show -1 ≤ ((x31_5 + (-1))) ∧ ((x31_5 + (-1))) < (a1) by omega) (show (x31_4) = 0 ∨ (u6_2) ≤ (x31_4) ∧ (x31_4) ≤ (tc22_0) ∧ (y31_6_23) < (a1) by omega) (show SCI ((w61)) ((u6_22)) ((u6_24)) ((u6_2)) ((a2)) ((a1)) (((x31_5 + (-1)))) ((x31_4)) ((a1) - (y31_6_23)) by assumption) rfl
                      · refine Ew_of (pc' := 125) (fun _ => x_iload rfl rk_s) ?_
                        refine w_ifne (t := 131) rfl rfl (show inr (0) by omega) (fun b29 => ?_) (fun b29 => ?_)
                        · refine Ew_of (pc' := 133) (fun _ => x_iload rfl (rk_o (rk_s) rfl rfl)) ?_
                          refine Ew_of (pc' := 135) (fun _ => x_istore rfl) ?_
                          refine Ew_of (pc' := 136) (fun _ => x_aload_n rfl (rk_o (rk_o (rk_o (l31_0) rfl rfl) rfl rfl) rfl rfl)) ?_
                          refine Ew_of (pc' := 138) (fun _ => x_iload rfl (rk_o (rk_o (rk_o (l31_5) rfl rfl) rfl rfl) rfl rfl)) ?_
                          refine w_pI H (o := 6) rfl rfl (H.perm 6 rfl) rfl rfl rfl (fun _ => rfl) rfl (show (0 : Int) ≤ x31_5 ∧ x31_5 ≤ 16384 by omega) (fun σ H => ?_)
                          refine Ew_of (pc' := 142) (fun _ => x_iload_n rfl (rk_o (rk_o (rk_o (l31_2) rfl rfl) rfl rfl) rfl rfl)) ?_
                          refine w_ifne (t := 148) rfl rfl (show inr (a2) by omega) (fun b30 => ?_) (fun b30 => ?_)
                          · refine Ew_of (pc' := 151) (fun _ => x_iinc (len := 3) rfl (rk_o (rk_o (rk_o (l31_5) rfl rfl) rfl rfl) rfl rfl)) ?_
                            refine Ew_of (pc' := 31) (fun _ => x_goto rfl rfl) ?_
                            have : SCI ((w61)) ((u6_22)) ((u6_24)) ((u6_2)) ((a2)) ((a1)) (((x31_5 + (-1)))) ((z13)) ((a1) - (x31_5)) := by first | exact SCI_y j31_s rfl (by omega) (by omega) (by omega) hcp (by unfold BET; omega) (by omega) | exact SCI_n j31_s rfl hcp (by unfold BET; omega) (by omega)
                            exact ih31 _ (by omega) _ σ _ _ (z13) ((x31_5 + (-1))) (rk_o (rk_o (rk_o (rk_o (l31_0) rfl rfl) rfl rfl) rfl rfl) rfl rfl) (rk_o (rk_o (rk_o (rk_o (l31_1) rfl rfl) rfl rfl) rfl rfl) rfl rfl) (rk_o (rk_o (rk_o (rk_o (l31_2) rfl rfl) rfl rfl) rfl rfl) rfl rfl) (rk_o (rk_o (rk_o (rk_o (l31_3) rfl rfl) rfl rfl) rfl rfl) rfl rfl) (rk_o (rk_s) rfl rfl) (rk_s) H (SF_upd (SF_trans (hS_31) hS11 (any_sub rfl)) rfl) (SA_trans (hA_31) hA12 (any_subA rfl)) (x31_5) (rfl)  (show inr (z13) by omega) (show inr ((x31_5 + (-1))) by omega) (show -1 ≤ ((x31_5 + (-1))) ∧ ((x31_5 + (-1))) < (a1) by omega) (show (z13) = 0 ∨ (u6_2) ≤ (z13) ∧ (z13) ≤ (tc22_0) ∧ (x31_5) < (a1) by omega) (show SCI ((w61)) ((u6_22)) ((u6_24)) ((u6_2)) ((a2)) ((a1)) (((x31_5 + (-1)))) ((z13)) ((a1) - (x31_5)) by assumption) rfl
                          · refine Ew_of (pc' := 147) (fun _ => x_iload rfl rk_s) ?_
                            have : MTL ((w61)) ((u6_22)) ((u6_24)) ((u6_2)) ((a2)) ((u6_22) - (u6_2)) ((a1)) ((z13)) ((a1) - (x31_5)) := .inl ⟨by omega, SCI_r0 (SCI_y j31_s rfl (by omega) (by omega) (by omega) hcp (by unfold BET; omega) (by omega)) (by omega) (by omega)⟩
                            exact w_ireturn rfl (k (z13) σ _ _ H (SF_upd (SF_trans (SF_trans (SF_trans (SF_refl) hS_c22 (any_sub rfl)) hS_31 (any_sub rfl)) hS11 (any_sub rfl)) rfl) (SA_trans (SA_trans (SA_trans (SA_refl) hA_c22 (any_subA rfl)) hA_31 (any_subA rfl)) hA12 (any_subA rfl)) (x31_5) (rfl) (show inr (z13) by omega) (show 0 ≤ (z13) by omega) (show (z13) = 0 ∨ (u6_2) ≤ (z13) ∧ (z13) ≤ (u6_22) - a1 ∧ (x31_5) < a1 by omega) (show MTL ((w61)) ((u6_22)) ((u6_24)) ((u6_2)) (a2) ((u6_22) - (u6_2)) (a1) ((z13)) (a1 - (x31_5)) by assumption))
                        · refine Ew_of (pc' := 148) (fun _ => x_goto rfl rfl) ?_
                          refine Ew_of (pc' := 151) (fun _ => x_iinc (len := 3) rfl (rk_o (rk_o (l31_5) rfl rfl) rfl rfl)) ?_
                          refine Ew_of (pc' := 31) (fun _ => x_goto rfl rfl) ?_
                          have : SCI ((w61)) ((u6_22)) ((u6_24)) ((u6_2)) ((a2)) ((a1)) (((x31_5 + (-1)))) ((x31_4)) ((a1) - (y31_6_23)) := by first | exact SCI_y j31_s rfl (by omega) (by omega) (by omega) hcp (by unfold BET; omega) (by omega) | exact SCI_n j31_s rfl hcp (by unfold BET; omega) (by omega)
                          exact ih31 _ (by omega) _ σ _ _ (x31_4) ((x31_5 + (-1))) (rk_o (rk_o (rk_o (l31_0) rfl rfl) rfl rfl) rfl rfl) (rk_o (rk_o (rk_o (l31_1) rfl rfl) rfl rfl) rfl rfl) (rk_o (rk_o (rk_o (l31_2) rfl rfl) rfl rfl) rfl rfl) (rk_o (rk_o (rk_o (l31_3) rfl rfl) rfl rfl) rfl rfl) (rk_o (rk_o (rk_o (l31_4) rfl rfl) rfl rfl) rfl rfl) (rk_s) H (SF_trans (hS_31) hS11 (any_sub rfl)) (SA_trans (hA_31) hA12 (any_subA rfl)) (y31_6_23) (((hS11 6 23 rfl).trans (ey31_6_23)))  (show inr (x31_4) by omega) (show inr ((x31_5 + (-1))) by omega) (show -1 ≤ ((x31_5 + (-1))) ∧ ((x31_5 + (-1))) < (a1) by omega) (show (x31_4) = 0 ∨ (u6_2) ≤ (x31_4) ∧ (x31_4) ≤ (tc22_0) ∧ (y31_6_23) < (a1) by omega) (show SCI ((w61)) ((u6_22)) ((u6_24)) ((u6_2)) ((a2)) ((a1)) (((x31_5 + (-1)))) ((x31_4)) ((a1) - (y31_6_23)) by assumption) rfl
                    · refine Ew_of (pc' := 108) (fun _ => x_iconst rfl) ?_
                      refine Ew_of (pc' := 112) (fun _ => x_goto rfl rfl) ?_
                      refine Ew_of (pc' := 114) (fun _ => x_istore rfl) ?_
                      refine Ew_of (pc' := 116) (fun _ => x_iload rfl (rk_o (rk_s) rfl rfl)) ?_
                      refine Ew_of (pc' := 117) (fun _ => x_aload_n rfl (rk_o (rk_o (l31_0) rfl rfl) rfl rfl)) ?_
                      refine w_gI H (o := 6) (w := u6_2) rfl (H.perm 6 rfl) rfl rfl rfl (fun _ => rfl) ((((hS11 6 2 rfl).trans (hS_31 6 2 rfl)).trans (hS_c22 6 2 rfl)).trans (eu6_2)) ?_
                      refine w_icmplt (t := 148) rfl rfl (show inr (z13) by omega) (show inr (u6_2) by omega) (fun b31 => ?_) (fun b31 => ?_)
                      · refine Ew_of (pc' := 151) (fun _ => x_iinc (len := 3) rfl (rk_o (rk_o (l31_5) rfl rfl) rfl rfl)) ?_
                        refine Ew_of (pc' := 31) (fun _ => x_goto rfl rfl) ?_
                        have : SCI ((w61)) ((u6_22)) ((u6_24)) ((u6_2)) ((a2)) ((a1)) (((x31_5 + (-1)))) ((x31_4)) ((a1) - (y31_6_23)) := by first | exact SCI_y j31_s rfl (by omega) (by omega) (by omega) hcp (by unfold BET; omega) (by omega) | exact SCI_n j31_s rfl hcp (by unfold BET; omega) (by omega)
                        exact ih31 _ (by omega) _ σ _ _ (x31_4) ((x31_5 + (-1))) (rk_o (rk_o (rk_o (l31_0) rfl rfl) rfl rfl) rfl rfl) (rk_o (rk_o (rk_o (l31_1) rfl rfl) rfl rfl) rfl rfl) (rk_o (rk_o (rk_o (l31_2) rfl rfl) rfl rfl) rfl rfl) (rk_o (rk_o (rk_o (l31_3) rfl rfl) rfl rfl) rfl rfl) (rk_o (rk_o (rk_o (l31_4) rfl rfl) rfl rfl) rfl rfl) (rk_s) H (SF_trans (hS_31) hS11 (any_sub rfl)) (SA_trans (hA_31) hA12 (any_subA rfl)) (y31_6_23) (((hS11 6 23 rfl).trans (ey31_6_23)))  (show inr (x31_4) by omega) (show inr ((x31_5 + (-1))) by omega) (show -1 ≤ ((x31_5 + (-1))) ∧ ((x31_5 + (-1))) < (a1) by omega) (show (x31_4) = 0 ∨ (u6_2) ≤ (x31_4) ∧ (x31_4) ≤ (tc22_0) ∧ (y31_6_23) < (a1) by omega) (show SCI ((w61)) ((u6_22)) ((u6_24)) ((u6_2)) ((a2)) ((a1)) (((x31_5 + (-1)))) ((x31_4)) ((a1) - (y31_6_23)) by assumption) rfl
                      · refine Ew_of (pc' := 125) (fun _ => x_iload rfl rk_s) ?_
                        refine w_ifne (t := 131) rfl rfl (show inr (1) by omega) (fun b32 => ?_) (fun b32 => ?_)
                        · refine Ew_of (pc' := 133) (fun _ => x_iload rfl (rk_o (rk_s) rfl rfl)) ?_
                          refine Ew_of (pc' := 135) (fun _ => x_istore rfl) ?_
                          refine Ew_of (pc' := 136) (fun _ => x_aload_n rfl (rk_o (rk_o (rk_o (l31_0) rfl rfl) rfl rfl) rfl rfl)) ?_
                          refine Ew_of (pc' := 138) (fun _ => x_iload rfl (rk_o (rk_o (rk_o (l31_5) rfl rfl) rfl rfl) rfl rfl)) ?_
                          refine w_pI H (o := 6) rfl rfl (H.perm 6 rfl) rfl rfl rfl (fun _ => rfl) rfl (show (0 : Int) ≤ x31_5 ∧ x31_5 ≤ 16384 by omega) (fun σ H => ?_)
                          refine Ew_of (pc' := 142) (fun _ => x_iload_n rfl (rk_o (rk_o (rk_o (l31_2) rfl rfl) rfl rfl) rfl rfl)) ?_
                          refine w_ifne (t := 148) rfl rfl (show inr (a2) by omega) (fun b33 => ?_) (fun b33 => ?_)
                          · refine Ew_of (pc' := 151) (fun _ => x_iinc (len := 3) rfl (rk_o (rk_o (rk_o (l31_5) rfl rfl) rfl rfl) rfl rfl)) ?_
                            refine Ew_of (pc' := 31) (fun _ => x_goto rfl rfl) ?_
                            have : SCI ((w61)) ((u6_22)) ((u6_24)) ((u6_2)) ((a2)) ((a1)) (((x31_5 + (-1)))) ((z13)) ((a1) - (x31_5)) := by first | exact SCI_y j31_s rfl (by omega) (by omega) (by omega) hcp (by unfold BET; omega) (by omega) | exact SCI_n j31_s rfl hcp (by unfold BET; omega) (by omega)
                            exact ih31 _ (by omega) _ σ _ _ (z13) ((x31_5 + (-1))) (rk_o (rk_o (rk_o (rk_o (l31_0) rfl rfl) rfl rfl) rfl rfl) rfl rfl) (rk_o (rk_o (rk_o (rk_o (l31_1) rfl rfl) rfl rfl) rfl rfl) rfl rfl) (rk_o (rk_o (rk_o (rk_o (l31_2) rfl rfl) rfl rfl) rfl rfl) rfl rfl) (rk_o (rk_o (rk_o (rk_o (l31_3) rfl rfl) rfl rfl) rfl rfl) rfl rfl) (rk_o (rk_s) rfl rfl) (rk_s) H (SF_upd (SF_trans (hS_31) hS11 (any_sub rfl)) rfl) (SA_trans (hA_31) hA12 (any_subA rfl)) (x31_5) (rfl)  (show inr (z13) by omega) (show inr ((x31_5 + (-1))) by omega) (show -1 ≤ ((x31_5 + (-1))) ∧ ((x31_5 + (-1))) < (a1) by omega) (show (z13) = 0 ∨ (u6_2) ≤ (z13) ∧ (z13) ≤ (tc22_0) ∧ (x31_5) < (a1) by omega) (show SCI ((w61)) ((u6_22)) ((u6_24)) ((u6_2)) ((a2)) ((a1)) (((x31_5 + (-1)))) ((z13)) ((a1) - (x31_5)) by assumption) rfl
                          · refine Ew_of (pc' := 147) (fun _ => x_iload rfl rk_s) ?_
                            have : MTL ((w61)) ((u6_22)) ((u6_24)) ((u6_2)) ((a2)) ((u6_22) - (u6_2)) ((a1)) ((z13)) ((a1) - (x31_5)) := .inl ⟨by omega, SCI_r0 (SCI_y j31_s rfl (by omega) (by omega) (by omega) hcp (by unfold BET; omega) (by omega)) (by omega) (by omega)⟩
                            exact w_ireturn rfl (k (z13) σ _ _ H (SF_upd (SF_trans (SF_trans (SF_trans (SF_refl) hS_c22 (any_sub rfl)) hS_31 (any_sub rfl)) hS11 (any_sub rfl)) rfl) (SA_trans (SA_trans (SA_trans (SA_refl) hA_c22 (any_subA rfl)) hA_31 (any_subA rfl)) hA12 (any_subA rfl)) (x31_5) (rfl) (show inr (z13) by omega) (show 0 ≤ (z13) by omega) (show (z13) = 0 ∨ (u6_2) ≤ (z13) ∧ (z13) ≤ (u6_22) - a1 ∧ (x31_5) < a1 by omega) (show MTL ((w61)) ((u6_22)) ((u6_24)) ((u6_2)) (a2) ((u6_22) - (u6_2)) (a1) ((z13)) (a1 - (x31_5)) by assumption))
                        · refine Ew_of (pc' := 148) (fun _ => x_goto rfl rfl) ?_
                          refine Ew_of (pc' := 151) (fun _ => x_iinc (len := 3) rfl (rk_o (rk_o (l31_5) rfl rfl) rfl rfl)) ?_
                          refine Ew_of (pc' := 31) (fun _ => x_goto rfl rfl) ?_
                          have : SCI ((w61)) ((u6_22)) ((u6_24)) ((u6_2)) ((a2)) ((a1)) (((x31_5 + (-1)))) ((x31_4)) ((a1) - (y31_6_23)) := by first | exact SCI_y j31_s rfl (by omega) (by omega) (by omega) hcp (by unfold BET; omega) (by omega) | exact SCI_n j31_s rfl hcp (by unfold BET; omega) (by omega)
                          exact ih31 _ (by omega) _ σ _ _ (x31_4) ((x31_5 + (-1))) (rk_o (rk_o (rk_o (l31_0) rfl rfl) rfl rfl) rfl rfl) (rk_o (rk_o (rk_o (l31_1) rfl rfl) rfl rfl) rfl rfl) (rk_o (rk_o (rk_o (l31_2) rfl rfl) rfl rfl) rfl rfl) (rk_o (rk_o (rk_o (l31_3) rfl rfl) rfl rfl) rfl rfl) (rk_o (rk_o (rk_o (l31_4) rfl rfl) rfl rfl) rfl rfl) (rk_s) H (SF_trans (hS_31) hS11 (any_sub rfl)) (SA_trans (hA_31) hA12 (any_subA rfl)) (y31_6_23) (((hS11 6 23 rfl).trans (ey31_6_23)))  (show inr (x31_4) by omega) (show inr ((x31_5 + (-1))) by omega) (show -1 ≤ ((x31_5 + (-1))) ∧ ((x31_5 + (-1))) < (a1) by omega) (show (x31_4) = 0 ∨ (u6_2) ≤ (x31_4) ∧ (x31_4) ≤ (tc22_0) ∧ (y31_6_23) < (a1) by omega) (show SCI ((w61)) ((u6_22)) ((u6_24)) ((u6_2)) ((a2)) ((a1)) (((x31_5 + (-1)))) ((x31_4)) ((a1) - (y31_6_23)) by assumption) rfl
            · refine Ew_of (pc' := 70) (fun _ => x_iload rfl rk_s) ?_
              refine Ew_of (pc' := 72) (fun _ => x_iload rfl (rk_o (l31_4) rfl rfl)) ?_
              refine w_icmple (t := 79) rfl rfl (show inr (z13) by omega) (show inr (x31_4) by omega) (fun b34 => ?_) (fun b34 => ?_)
              · refine Ew_of (pc' := 80) (fun _ => x_iconst rfl) ?_
                refine Ew_of (pc' := 112) (fun _ => x_goto rfl rfl) ?_
                refine Ew_of (pc' := 114) (fun _ => x_istore rfl) ?_
                refine Ew_of (pc' := 116) (fun _ => x_iload rfl (rk_o (rk_s) rfl rfl)) ?_
                refine Ew_of (pc' := 117) (fun _ => x_aload_n rfl (rk_o (rk_o (l31_0) rfl rfl) rfl rfl)) ?_
                refine w_gI H (o := 6) (w := u6_2) rfl (H.perm 6 rfl) rfl rfl rfl (fun _ => rfl) ((((hS11 6 2 rfl).trans (hS_31 6 2 rfl)).trans (hS_c22 6 2 rfl)).trans (eu6_2)) ?_
                refine w_icmplt (t := 148) rfl rfl (show inr (z13) by omega) (show inr (u6_2) by omega) (fun b35 => ?_) (fun b35 => ?_)
                · refine Ew_of (pc' := 151) (fun _ => x_iinc (len := 3) rfl (rk_o (rk_o (l31_5) rfl rfl) rfl rfl)) ?_
                  refine Ew_of (pc' := 31) (fun _ => x_goto rfl rfl) ?_
                  have : SCI ((w61)) ((u6_22)) ((u6_24)) ((u6_2)) ((a2)) ((a1)) (((x31_5 + (-1)))) ((x31_4)) ((a1) - (y31_6_23)) := by first | exact SCI_y j31_s rfl (by omega) (by omega) (by omega) hcp (by unfold BET; omega) (by omega) | exact SCI_n j31_s rfl hcp (by unfold BET; omega) (by omega)
                  exact ih31 _ (by omega) _ σ _ _ (x31_4) ((x31_5 + (-1))) (rk_o (rk_o (rk_o (l31_0) rfl rfl) rfl rfl) rfl rfl) (rk_o (rk_o (rk_o (l31_1) rfl rfl) rfl rfl) rfl rfl) (rk_o (rk_o (rk_o (l31_2) rfl rfl) rfl rfl) rfl rfl) (rk_o (rk_o (rk_o (l31_3) rfl rfl) rfl rfl) rfl rfl) (rk_o (rk_o (rk_o (l31_4) rfl rfl) rfl rfl) rfl rfl) (rk_s) H (SF_trans (hS_31) hS11 (any_sub rfl)) (SA_trans (hA_31) hA12 (any_subA rfl)) (y31_6_23) (((hS11 6 23 rfl).trans (ey31_6_23)))  (show inr (x31_4) by omega) (show inr ((x31_5 + (-1))) by omega) (show -1 ≤ ((x31_5 + (-1))) ∧ ((x31_5 + (-1))) < (a1) by omega) (show (x31_4) = 0 ∨ (u6_2) ≤ (x31_4) ∧ (x31_4) ≤ (tc22_0) ∧ (y31_6_23) < (a1) by omega) (show SCI ((w61)) ((u6_22)) ((u6_24)) ((u6_2)) ((a2)) ((a1)) (((x31_5 + (-1)))) ((x31_4)) ((a1) - (y31_6_23)) by assumption) rfl
                · refine Ew_of (pc' := 125) (fun _ => x_iload rfl rk_s) ?_
                  refine w_ifne (t := 131) rfl rfl (show inr (0) by omega) (fun b36 => ?_) (fun b36 => ?_)
                  · refine Ew_of (pc' := 133) (fun _ => x_iload rfl (rk_o (rk_s) rfl rfl)) ?_
                    refine Ew_of (pc' := 135) (fun _ => x_istore rfl) ?_
                    refine Ew_of (pc' := 136) (fun _ => x_aload_n rfl (rk_o (rk_o (rk_o (l31_0) rfl rfl) rfl rfl) rfl rfl)) ?_
                    refine Ew_of (pc' := 138) (fun _ => x_iload rfl (rk_o (rk_o (rk_o (l31_5) rfl rfl) rfl rfl) rfl rfl)) ?_
                    refine w_pI H (o := 6) rfl rfl (H.perm 6 rfl) rfl rfl rfl (fun _ => rfl) rfl (show (0 : Int) ≤ x31_5 ∧ x31_5 ≤ 16384 by omega) (fun σ H => ?_)
                    refine Ew_of (pc' := 142) (fun _ => x_iload_n rfl (rk_o (rk_o (rk_o (l31_2) rfl rfl) rfl rfl) rfl rfl)) ?_
                    refine w_ifne (t := 148) rfl rfl (show inr (a2) by omega) (fun b37 => ?_) (fun b37 => ?_)
                    · refine Ew_of (pc' := 151) (fun _ => x_iinc (len := 3) rfl (rk_o (rk_o (rk_o (l31_5) rfl rfl) rfl rfl) rfl rfl)) ?_
                      refine Ew_of (pc' := 31) (fun _ => x_goto rfl rfl) ?_
                      have : SCI ((w61)) ((u6_22)) ((u6_24)) ((u6_2)) ((a2)) ((a1)) (((x31_5 + (-1)))) ((z13)) ((a1) - (x31_5)) := by first | exact SCI_y j31_s rfl (by omega) (by omega) (by omega) hcp (by unfold BET; omega) (by omega) | exact SCI_n j31_s rfl hcp (by unfold BET; omega) (by omega)
                      exact ih31 _ (by omega) _ σ _ _ (z13) ((x31_5 + (-1))) (rk_o (rk_o (rk_o (rk_o (l31_0) rfl rfl) rfl rfl) rfl rfl) rfl rfl) (rk_o (rk_o (rk_o (rk_o (l31_1) rfl rfl) rfl rfl) rfl rfl) rfl rfl) (rk_o (rk_o (rk_o (rk_o (l31_2) rfl rfl) rfl rfl) rfl rfl) rfl rfl) (rk_o (rk_o (rk_o (rk_o (l31_3) rfl rfl) rfl rfl) rfl rfl) rfl rfl) (rk_o (rk_s) rfl rfl) (rk_s) H (SF_upd (SF_trans (hS_31) hS11 (any_sub rfl)) rfl) (SA_trans (hA_31) hA12 (any_subA rfl)) (x31_5) (rfl)  (show inr (z13) by omega) (show inr ((x31_5 + (-1))) by omega) (show -1 ≤ ((x31_5 + (-1))) ∧ ((x31_5 + (-1))) < (a1) by omega) (show (z13) = 0 ∨ (u6_2) ≤ (z13) ∧ (z13) ≤ (tc22_0) ∧ (x31_5) < (a1) by omega) (show SCI ((w61)) ((u6_22)) ((u6_24)) ((u6_2)) ((a2)) ((a1)) (((x31_5 + (-1)))) ((z13)) ((a1) - (x31_5)) by assumption) rfl
                    · refine Ew_of (pc' := 147) (fun _ => x_iload rfl rk_s) ?_
                      have : MTL ((w61)) ((u6_22)) ((u6_24)) ((u6_2)) ((a2)) ((u6_22) - (u6_2)) ((a1)) ((z13)) ((a1) - (x31_5)) := .inl ⟨by omega, SCI_r0 (SCI_y j31_s rfl (by omega) (by omega) (by omega) hcp (by unfold BET; omega) (by omega)) (by omega) (by omega)⟩
                      exact w_ireturn rfl (k (z13) σ _ _ H (SF_upd (SF_trans (SF_trans (SF_trans (SF_refl) hS_c22 (any_sub rfl)) hS_31 (any_sub rfl)) hS11 (any_sub rfl)) rfl) (SA_trans (SA_trans (SA_trans (SA_refl) hA_c22 (any_subA rfl)) hA_31 (any_subA rfl)) hA12 (any_subA rfl)) (x31_5) (rfl) (show inr (z13) by omega) (show 0 ≤ (z13) by omega) (show (z13) = 0 ∨ (u6_2) ≤ (z13) ∧ (z13) ≤ (u6_22) - a1 ∧ (x31_5) < a1 by omega) (show MTL ((w61)) ((u6_22)) ((u6_24)) ((u6_2)) (a2) ((u6_22) - (u6_2)) (a1) ((z13)) (a1 - (x31_5)) by assumption))
                  · refine Ew_of (pc' := 148) (fun _ => x_goto rfl rfl) ?_
                    refine Ew_of (pc' := 151) (fun _ => x_iinc (len := 3) rfl (rk_o (rk_o (l31_5) rfl rfl) rfl rfl)) ?_
                    refine Ew_of (pc' := 31) (fun _ => x_goto rfl rfl) ?_
                    have : SCI ((w61)) ((u6_22)) ((u6_24)) ((u6_2)) ((a2)) ((a1)) (((x31_5 + (-1)))) ((x31_4)) ((a1) - (y31_6_23)) := by first | exact SCI_y j31_s rfl (by omega) (by omega) (by omega) hcp (by unfold BET; omega) (by omega) | exact SCI_n j31_s rfl hcp (by unfold BET; omega) (by omega)
                    exact ih31 _ (by omega) _ σ _ _ (x31_4) ((x31_5 + (-1))) (rk_o (rk_o (rk_o (l31_0) rfl rfl) rfl rfl) rfl rfl) (rk_o (rk_o (rk_o (l31_1) rfl rfl) rfl rfl) rfl rfl) (rk_o (rk_o (rk_o (l31_2) rfl rfl) rfl rfl) rfl rfl) (rk_o (rk_o (rk_o (l31_3) rfl rfl) rfl rfl) rfl rfl) (rk_o (rk_o (rk_o (l31_4) rfl rfl) rfl rfl) rfl rfl) (rk_s) H (SF_trans (hS_31) hS11 (any_sub rfl)) (SA_trans (hA_31) hA12 (any_subA rfl)) (y31_6_23) (((hS11 6 23 rfl).trans (ey31_6_23)))  (show inr (x31_4) by omega) (show inr ((x31_5 + (-1))) by omega) (show -1 ≤ ((x31_5 + (-1))) ∧ ((x31_5 + (-1))) < (a1) by omega) (show (x31_4) = 0 ∨ (u6_2) ≤ (x31_4) ∧ (x31_4) ≤ (tc22_0) ∧ (y31_6_23) < (a1) by omega) (show SCI ((w61)) ((u6_22)) ((u6_24)) ((u6_2)) ((a2)) ((a1)) (((x31_5 + (-1)))) ((x31_4)) ((a1) - (y31_6_23)) by assumption) rfl
              · refine Ew_of (pc' := 76) (fun _ => x_iconst rfl) ?_
                refine Ew_of (pc' := 112) (fun _ => x_goto rfl rfl) ?_
                refine Ew_of (pc' := 114) (fun _ => x_istore rfl) ?_
                refine Ew_of (pc' := 116) (fun _ => x_iload rfl (rk_o (rk_s) rfl rfl)) ?_
                refine Ew_of (pc' := 117) (fun _ => x_aload_n rfl (rk_o (rk_o (l31_0) rfl rfl) rfl rfl)) ?_
                refine w_gI H (o := 6) (w := u6_2) rfl (H.perm 6 rfl) rfl rfl rfl (fun _ => rfl) ((((hS11 6 2 rfl).trans (hS_31 6 2 rfl)).trans (hS_c22 6 2 rfl)).trans (eu6_2)) ?_
                refine w_icmplt (t := 148) rfl rfl (show inr (z13) by omega) (show inr (u6_2) by omega) (fun b38 => ?_) (fun b38 => ?_)
                · refine Ew_of (pc' := 151) (fun _ => x_iinc (len := 3) rfl (rk_o (rk_o (l31_5) rfl rfl) rfl rfl)) ?_
                  refine Ew_of (pc' := 31) (fun _ => x_goto rfl rfl) ?_
                  have : SCI ((w61)) ((u6_22)) ((u6_24)) ((u6_2)) ((a2)) ((a1)) (((x31_5 + (-1)))) ((x31_4)) ((a1) - (y31_6_23)) := by first | exact SCI_y j31_s rfl (by omega) (by omega) (by omega) hcp (by unfold BET; omega) (by omega) | exact SCI_n j31_s rfl hcp (by unfold BET; omega) (by omega)
                  exact ih31 _ (by omega) _ σ _ _ (x31_4) ((x31_5 + (-1))) (rk_o (rk_o (rk_o (l31_0) rfl rfl) rfl rfl) rfl rfl) (rk_o (rk_o (rk_o (l31_1) rfl rfl) rfl rfl) rfl rfl) (rk_o (rk_o (rk_o (l31_2) rfl rfl) rfl rfl) rfl rfl) (rk_o (rk_o (rk_o (l31_3) rfl rfl) rfl rfl) rfl rfl) (rk_o (rk_o (rk_o (l31_4) rfl rfl) rfl rfl) rfl rfl) (rk_s) H (SF_trans (hS_31) hS11 (any_sub rfl)) (SA_trans (hA_31) hA12 (any_subA rfl)) (y31_6_23) (((hS11 6 23 rfl).trans (ey31_6_23)))  (show inr (x31_4) by omega) (show inr ((x31_5 + (-1))) by omega) (show -1 ≤ ((x31_5 + (-1))) ∧ ((x31_5 + (-1))) < (a1) by omega) (show (x31_4) = 0 ∨ (u6_2) ≤ (x31_4) ∧ (x31_4) ≤ (tc22_0) ∧ (y31_6_23) < (a1) by omega) (show SCI ((w61)) ((u6_22)) ((u6_24)) ((u6_2)) ((a2)) ((a1)) (((x31_5 + (-1)))) ((x31_4)) ((a1) - (y31_6_23)) by assumption) rfl
                · refine Ew_of (pc' := 125) (fun _ => x_iload rfl rk_s) ?_
                  refine w_ifne (t := 131) rfl rfl (show inr (1) by omega) (fun b39 => ?_) (fun b39 => ?_)
                  · refine Ew_of (pc' := 133) (fun _ => x_iload rfl (rk_o (rk_s) rfl rfl)) ?_
                    refine Ew_of (pc' := 135) (fun _ => x_istore rfl) ?_
                    refine Ew_of (pc' := 136) (fun _ => x_aload_n rfl (rk_o (rk_o (rk_o (l31_0) rfl rfl) rfl rfl) rfl rfl)) ?_
                    refine Ew_of (pc' := 138) (fun _ => x_iload rfl (rk_o (rk_o (rk_o (l31_5) rfl rfl) rfl rfl) rfl rfl)) ?_
                    refine w_pI H (o := 6) rfl rfl (H.perm 6 rfl) rfl rfl rfl (fun _ => rfl) rfl (show (0 : Int) ≤ x31_5 ∧ x31_5 ≤ 16384 by omega) (fun σ H => ?_)
                    refine Ew_of (pc' := 142) (fun _ => x_iload_n rfl (rk_o (rk_o (rk_o (l31_2) rfl rfl) rfl rfl) rfl rfl)) ?_
                    refine w_ifne (t := 148) rfl rfl (show inr (a2) by omega) (fun b40 => ?_) (fun b40 => ?_)
                    · refine Ew_of (pc' := 151) (fun _ => x_iinc (len := 3) rfl (rk_o (rk_o (rk_o (l31_5) rfl rfl) rfl rfl) rfl rfl)) ?_
                      refine Ew_of (pc' := 31) (fun _ => x_goto rfl rfl) ?_
                      have : SCI ((w61)) ((u6_22)) ((u6_24)) ((u6_2)) ((a2)) ((a1)) (((x31_5 + (-1)))) ((z13)) ((a1) - (x31_5)) := by first | exact SCI_y j31_s rfl (by omega) (by omega) (by omega) hcp (by unfold BET; omega) (by omega) | exact SCI_n j31_s rfl hcp (by unfold BET; omega) (by omega)
                      exact ih31 _ (by omega) _ σ _ _ (z13) ((x31_5 + (-1))) (rk_o (rk_o (rk_o (rk_o (l31_0) rfl rfl) rfl rfl) rfl rfl) rfl rfl) (rk_o (rk_o (rk_o (rk_o (l31_1) rfl rfl) rfl rfl) rfl rfl) rfl rfl) (rk_o (rk_o (rk_o (rk_o (l31_2) rfl rfl) rfl rfl) rfl rfl) rfl rfl) (rk_o (rk_o (rk_o (rk_o (l31_3) rfl rfl) rfl rfl) rfl rfl) rfl rfl) (rk_o (rk_s) rfl rfl) (rk_s) H (SF_upd (SF_trans (hS_31) hS11 (any_sub rfl)) rfl) (SA_trans (hA_31) hA12 (any_subA rfl)) (x31_5) (rfl)  (show inr (z13) by omega) (show inr ((x31_5 + (-1))) by omega) (show -1 ≤ ((x31_5 + (-1))) ∧ ((x31_5 + (-1))) < (a1) by omega) (show (z13) = 0 ∨ (u6_2) ≤ (z13) ∧ (z13) ≤ (tc22_0) ∧ (x31_5) < (a1) by omega) (show SCI ((w61)) ((u6_22)) ((u6_24)) ((u6_2)) ((a2)) ((a1)) (((x31_5 + (-1)))) ((z13)) ((a1) - (x31_5)) by assumption) rfl
                    · refine Ew_of (pc' := 147) (fun _ => x_iload rfl rk_s) ?_
                      have : MTL ((w61)) ((u6_22)) ((u6_24)) ((u6_2)) ((a2)) ((u6_22) - (u6_2)) ((a1)) ((z13)) ((a1) - (x31_5)) := .inl ⟨by omega, SCI_r0 (SCI_y j31_s rfl (by omega) (by omega) (by omega) hcp (by unfold BET; omega) (by omega)) (by omega) (by omega)⟩
                      exact w_ireturn rfl (k (z13) σ _ _ H (SF_upd (SF_trans (SF_trans (SF_trans (SF_refl) hS_c22 (any_sub rfl)) hS_31 (any_sub rfl)) hS11 (any_sub rfl)) rfl) (SA_trans (SA_trans (SA_trans (SA_refl) hA_c22 (any_subA rfl)) hA_31 (any_subA rfl)) hA12 (any_subA rfl)) (x31_5) (rfl) (show inr (z13) by omega) (show 0 ≤ (z13) by omega) (show (z13) = 0 ∨ (u6_2) ≤ (z13) ∧ (z13) ≤ (u6_22) - a1 ∧ (x31_5) < a1 by omega) (show MTL ((w61)) ((u6_22)) ((u6_24)) ((u6_2)) (a2) ((u6_22) - (u6_2)) (a1) ((z13)) (a1 - (x31_5)) by assumption))
                  · refine Ew_of (pc' := 148) (fun _ => x_goto rfl rfl) ?_
                    refine Ew_of (pc' := 151) (fun _ => x_iinc (len := 3) rfl (rk_o (rk_o (l31_5) rfl rfl) rfl rfl)) ?_
                    refine Ew_of (pc' := 31) (fun _ => x_goto rfl rfl) ?_
                    have : SCI ((w61)) ((u6_22)) ((u6_24)) ((u6_2)) ((a2)) ((a1)) (((x31_5 + (-1)))) ((x31_4)) ((a1) - (y31_6_23)) := by first | exact SCI_y j31_s rfl (by omega) (by omega) (by omega) hcp (by unfold BET; omega) (by omega) | exact SCI_n j31_s rfl hcp (by unfold BET; omega) (by omega)
                    exact ih31 _ (by omega) _ σ _ _ (x31_4) ((x31_5 + (-1))) (rk_o (rk_o (rk_o (l31_0) rfl rfl) rfl rfl) rfl rfl) (rk_o (rk_o (rk_o (l31_1) rfl rfl) rfl rfl) rfl rfl) (rk_o (rk_o (rk_o (l31_2) rfl rfl) rfl rfl) rfl rfl) (rk_o (rk_o (rk_o (l31_3) rfl rfl) rfl rfl) rfl rfl) (rk_o (rk_o (rk_o (l31_4) rfl rfl) rfl rfl) rfl rfl) (rk_s) H (SF_trans (hS_31) hS11 (any_sub rfl)) (SA_trans (hA_31) hA12 (any_subA rfl)) (y31_6_23) (((hS11 6 23 rfl).trans (ey31_6_23)))  (show inr (x31_4) by omega) (show inr ((x31_5 + (-1))) by omega) (show -1 ≤ ((x31_5 + (-1))) ∧ ((x31_5 + (-1))) < (a1) by omega) (show (x31_4) = 0 ∨ (u6_2) ≤ (x31_4) ∧ (x31_4) ≤ (tc22_0) ∧ (y31_6_23) < (a1) by omega) (show SCI ((w61)) ((u6_22)) ((u6_24)) ((u6_2)) ((a2)) ((a1)) (((x31_5 + (-1)))) ((x31_4)) ((a1) - (y31_6_23)) by assumption) rfl
  refine w_icmpge (t := 20) rfl rfl (show inr ((u6_22 - a1)) by omega) (show inr (131074) by omega) (fun b41 => ?_) (fun b41 => ?_)
  · refine Ew_of (pc' := 22) (fun _ => x_ldc (z := 131074) rfl (by decide)) ?_
    exact hc22 (131074) _ σ _ _  (rfl) (rfl) (rfl) H (SF_refl) (SA_refl)   (show inr (131074) by omega) (show (((u6_22 - a1)) ≥ (131074) ∧ (131074) = (131074)) ∨ (((u6_22 - a1)) < (131074) ∧ (131074) = ((u6_22 - a1))) by omega)
  · refine Ew_of (pc' := 12) (fun _ => x_aload_n rfl rfl) ?_
    refine w_gI H (o := 6) (w := u6_22) rfl (H.perm 6 rfl) rfl rfl rfl (fun _ => rfl) (eu6_22) ?_
    refine Ew_of (pc' := 16) (fun _ => x_iload_n rfl rfl) ?_
    refine w_isub rfl ?_
    refine Ew_of (pc' := 22) (fun _ => x_goto rfl rfl) ?_
    exact hc22 ((u6_22 - a1)) _ σ _ _  (rfl) (rfl) (rfl) H (SF_refl) (SA_refl)   (show inr ((u6_22 - a1)) by omega) (show (((u6_22 - a1)) ≥ (131074) ∧ ((u6_22 - a1)) = (131074)) ∨ (((u6_22 - a1)) < (131074) ∧ ((u6_22 - a1)) = ((u6_22 - a1))) by omega)
/-- Writer.taken -/
theorem M398 {σ0 σ : rS} {D N : Nat → Nat} {F : hF} {A : hA} {d c s : Nat} {Q : wQ} (H : HS σ0 σ D N F A) {a1 : Int} (u6_1 : Int) (eu6_1 : F 6 1 = u6_1) (u6_2 : Int) (eu6_2 : F 6 2 = u6_2) (u6_22 : Int) (eu6_22 : F 6 22 = u6_22) (u6_24 : Int) (eu6_24 : F 6 24 = u6_24) (w61 : Int → Int) (ew61 : A 61 = w61) (h0 : inr (a1)) (h1 : 0 ≤ (a1) ∧ (a1) < (u6_22)) (h2 : 0 ≤ (u6_22) ∧ (u6_22) ≤ 16384) (h3 : 3 ≤ (u6_2) ∧ (u6_2) ≤ 8) (h4 : 0 ≤ (u6_1) ∧ (u6_1) ≤ 3) (k : ∀ (z : Int) σ F' A', HS σ0 σ D N F' A' → SF [(6, 23)] F F' → SA [] A A' → ∀ y6_23 : Int, F' 6 23 = y6_23 → (inr (z)) → (0 ≤ (z)) → ((z) = 0 ∨ (u6_2) ≤ (z) ∧ (z) ≤ (u6_22) - (a1) ∧ (y6_23) < (a1)) → (MTL ((w61)) ((u6_22)) ((u6_24)) ((u6_2)) ((u6_1)) ((u6_22) - (u6_2)) ((a1)) ((z)) ((a1) - (y6_23))) → Q (some (I z)) σ c s) : Ew 398 (d + 2) 0 (rargs 0 [.ref (D 6), I a1]) [] σ c s Q := by
  have r1 : (0 : Int) ≤ u6_1 ∧ u6_1 ≤ 3 := by have h1 : (0 : Int) ≤ F 6 1 ∧ F 6 1 ≤ 3 := H.frng 6 1; rw [show F 6 1 = u6_1 from (eu6_1)] at h1; exact h1
  have r2 : (0 : Int) ≤ u6_2 ∧ u6_2 ≤ 8 := by have h1 : (0 : Int) ≤ F 6 2 ∧ F 6 2 ≤ 8 := H.frng 6 2; rw [show F 6 2 = u6_2 from (eu6_2)] at h1; exact h1
  have r3 : (0 : Int) ≤ u6_22 ∧ u6_22 ≤ 16384 := by have h1 : (0 : Int) ≤ F 6 22 ∧ F 6 22 ≤ 16384 := H.frng 6 22; rw [show F 6 22 = u6_22 from (eu6_22)] at h1; exact h1
  have r4 : (0 : Int) ≤ u6_24 ∧ u6_24 ≤ 16777216 := by have h1 : (0 : Int) ≤ F 6 24 ∧ F 6 24 ≤ 16777216 := H.frng 6 24; rw [show F 6 24 = u6_24 from (eu6_24)] at h1; exact h1
  refine Ew_of (pc' := 1) (fun _ => x_aload_n rfl rfl) ?_
  refine w_gI H (o := 6) (w := u6_1) rfl (H.perm 6 rfl) rfl rfl rfl (fun _ => rfl) (eu6_1) ?_
  refine Ew_of (pc' := 5) (fun _ => x_iconst rfl) ?_
  refine w_icmpge (t := 18) rfl rfl (show inr (u6_1) by omega) (show inr (3) by omega) (fun b5 => ?_) (fun b5 => ?_)
  · refine Ew_of (pc' := 19) (fun _ => x_iload_n rfl rfl) ?_
    refine Ew_of (pc' := 20) (fun _ => x_iconst rfl) ?_
    refine w_iadd rfl ?_
    refine Ew_of (pc' := 22) (fun _ => x_aload_n rfl rfl) ?_
    refine w_gI H (o := 6) (w := u6_22) rfl (H.perm 6 rfl) rfl rfl rfl (fun _ => rfl) (eu6_22) ?_
    refine w_icmpge (t := 39) rfl rfl (show inr ((a1 + 1)) by omega) (show inr (u6_22) by omega) (fun b6 => ?_) (fun b6 => ?_)
    · refine Ew_of (pc' := 40) (fun _ => x_iconst rfl) ?_
      refine Ew_of (pc' := 41) (fun _ => x_istore_n rfl) ?_
      refine Ew_of (pc' := 42) (fun _ => x_aload_n rfl (rk_o (rfl) rfl rfl)) ?_
      refine Ew_of (pc' := 43) (fun _ => x_iload_n rfl (rk_o (rfl) rfl rfl)) ?_
      refine Ew_of (pc' := 44) (fun _ => x_iconst rfl) ?_
      refine w_inv H (o := 6) rfl rfl rfl (H.perm 6 rfl) rfl rfl (by rfl) (M397 H (u6_2) ((eu6_2)) (u6_22) ((eu6_22)) (u6_24) ((eu6_24)) (w61) (ew61) (show inr (a1) by omega) (show inr (2) by omega) (show 0 ≤ (a1) ∧ (a1) < (u6_22) by omega) (show 0 ≤ (2) ∧ (2) ≤ 2 by omega) (show 0 ≤ (u6_22) ∧ (u6_22) ≤ 16384 by omega) (show 3 ≤ (u6_2) ∧ (u6_2) ≤ 8 by omega) (fun z11 σ F7 A8 H hS9 hA10 y12 ey13 pz11_0 pz11_1 pz11_2 pz11_3 => ⟨rfl, ?_⟩))
      have r14 : (0 : Int) ≤ y12 ∧ y12 ≤ 16384 := by have h1 : (0 : Int) ≤ F7 6 23 ∧ F7 6 23 ≤ 16384 := H.frng 6 23; rw [show F7 6 23 = y12 from (ey13)] at h1; exact h1
      have hn0 := pz11_3
      refine Ew_of (pc' := 48) (fun _ => x_istore_n rfl) ?_
      refine Ew_of (pc' := 49) (fun _ => x_iload_n rfl (rk_o (rk_s) rfl rfl)) ?_
      refine Ew_of (pc' := 50) (fun _ => x_iload_n rfl rk_s) ?_
      refine w_icmple (t := 57) rfl rfl (show inr (0) by omega) (show inr (z11) by omega) (fun b15 => ?_) (fun b15 => ?_)
      · refine Ew_of (pc' := 58) (fun _ => x_iload_n rfl rk_s) ?_
        have : MTL ((w61)) ((u6_22)) ((u6_24)) ((u6_2)) ((u6_1)) ((u6_22) - (u6_2)) ((a1)) ((z11)) ((a1) - (y12)) := by rw [show (u6_1) = 3 by omega]; first | exact MTL_3 (n1 := (0)) (by by_cases z : (a1) + 1 ≤ (u6_22) - (u6_2); (exact .inl ⟨z, hn1⟩); (exact .inr ⟨by omega, by omega⟩)) hn0 (by omega) (by omega) | exact MTL_3 (n1 := (0)) (d1 := 0) (.inr ⟨by omega, by omega⟩) hn0 (by omega) (by omega)
        exact w_ireturn rfl (k (z11) σ _ _ H (SF_trans (SF_refl) hS9 (any_sub rfl)) (SA_trans (SA_refl) hA10 (any_subA rfl)) (y12) ((ey13)) (show inr (z11) by omega) (show 0 ≤ (z11) by omega) (show (z11) = 0 ∨ (u6_2) ≤ (z11) ∧ (z11) ≤ (u6_22) - a1 ∧ (y12) < a1 by omega) (show MTL ((w61)) ((u6_22)) ((u6_24)) ((u6_2)) ((u6_1)) ((u6_22) - (u6_2)) (a1) ((z11)) (a1 - (y12)) by assumption))
      · refine Ew_of (pc' := 54) (fun _ => x_iconst rfl) ?_
        refine Ew_of (pc' := 58) (fun _ => x_goto rfl rfl) ?_
        have : MTL ((w61)) ((u6_22)) ((u6_24)) ((u6_2)) ((u6_1)) ((u6_22) - (u6_2)) ((a1)) ((0)) ((a1) - (y12)) := by rw [show (u6_1) = 3 by omega]; first | exact MTL_3 (n1 := (0)) (by by_cases z : (a1) + 1 ≤ (u6_22) - (u6_2); (exact .inl ⟨z, hn1⟩); (exact .inr ⟨by omega, by omega⟩)) hn0 (by omega) (by omega) | exact MTL_3 (n1 := (0)) (d1 := 0) (.inr ⟨by omega, by omega⟩) hn0 (by omega) (by omega)
        exact w_ireturn rfl (k (0) σ _ _ H (SF_trans (SF_refl) hS9 (any_sub rfl)) (SA_trans (SA_refl) hA10 (any_subA rfl)) (y12) ((ey13)) (show inr (0) by omega) (show 0 ≤ (0) by omega) (show (0) = 0 ∨ (u6_2) ≤ (0) ∧ (0) ≤ (u6_22) - a1 ∧ (y12) < a1 by omega) (show MTL ((w61)) ((u6_22)) ((u6_24)) ((u6_2)) ((u6_1)) ((u6_22) - (u6_2)) (a1) ((0)) (a1 - (y12)) by assumption))
    · refine Ew_of (pc' := 29) (fun _ => x_aload_n rfl rfl) ?_
      refine Ew_of (pc' := 30) (fun _ => x_iload_n rfl rfl) ?_
      refine Ew_of (pc' := 31) (fun _ => x_iconst rfl) ?_
      refine w_iadd rfl ?_
      refine Ew_of (pc' := 33) (fun _ => x_iconst rfl) ?_
      refine w_inv H (o := 6) rfl rfl rfl (H.perm 6 rfl) rfl rfl (by rfl) (M397 H (u6_2) ((eu6_2)) (u6_22) ((eu6_22)) (u6_24) ((eu6_24)) (w61) (ew61) (show inr ((a1 + 1)) by omega) (show inr (2) by omega) (show 0 ≤ ((a1 + 1)) ∧ ((a1 + 1)) < (u6_22) by omega) (show 0 ≤ (2) ∧ (2) ≤ 2 by omega) (show 0 ≤ (u6_22) ∧ (u6_22) ≤ 16384 by omega) (show 3 ≤ (u6_2) ∧ (u6_2) ≤ 8 by omega) (fun z20 σ F16 A17 H hS18 hA19 y21 ey22 pz20_0 pz20_1 pz20_2 pz20_3 => ⟨rfl, ?_⟩))
      have r23 : (0 : Int) ≤ y21 ∧ y21 ≤ 16384 := by have h1 : (0 : Int) ≤ F16 6 23 ∧ F16 6 23 ≤ 16384 := H.frng 6 23; rw [show F16 6 23 = y21 from (ey22)] at h1; exact h1
      have hn1 := pz20_3
      have hm1 := pz20_2
      refine Ew_of (pc' := 40) (fun _ => x_goto rfl rfl) ?_
      refine Ew_of (pc' := 41) (fun _ => x_istore_n rfl) ?_
      refine Ew_of (pc' := 42) (fun _ => x_aload_n rfl (rk_o (rfl) rfl rfl)) ?_
      refine Ew_of (pc' := 43) (fun _ => x_iload_n rfl (rk_o (rfl) rfl rfl)) ?_
      refine Ew_of (pc' := 44) (fun _ => x_iconst rfl) ?_
      refine w_inv H (o := 6) rfl rfl rfl (H.perm 6 rfl) rfl rfl (by rfl) (M397 H (u6_2) (((hS18 6 2 rfl).trans (eu6_2))) (u6_22) (((hS18 6 22 rfl).trans (eu6_22))) (u6_24) (((hS18 6 24 rfl).trans (eu6_24))) (w61) ((funext (hA19 61 rfl)).trans (ew61)) (show inr (a1) by omega) (show inr (2) by omega) (show 0 ≤ (a1) ∧ (a1) < (u6_22) by omega) (show 0 ≤ (2) ∧ (2) ≤ 2 by omega) (show 0 ≤ (u6_22) ∧ (u6_22) ≤ 16384 by omega) (show 3 ≤ (u6_2) ∧ (u6_2) ≤ 8 by omega) (fun z28 σ F24 A25 H hS26 hA27 y29 ey30 pz28_0 pz28_1 pz28_2 pz28_3 => ⟨rfl, ?_⟩))
      have r31 : (0 : Int) ≤ y29 ∧ y29 ≤ 16384 := by have h1 : (0 : Int) ≤ F24 6 23 ∧ F24 6 23 ≤ 16384 := H.frng 6 23; rw [show F24 6 23 = y29 from (ey30)] at h1; exact h1
      have hn0 := pz28_3
      refine Ew_of (pc' := 48) (fun _ => x_istore_n rfl) ?_
      refine Ew_of (pc' := 49) (fun _ => x_iload_n rfl (rk_o (rk_s) rfl rfl)) ?_
      refine Ew_of (pc' := 50) (fun _ => x_iload_n rfl rk_s) ?_
      refine w_icmple (t := 57) rfl rfl (show inr (z20) by omega) (show inr (z28) by omega) (fun b32 => ?_) (fun b32 => ?_)
      · refine Ew_of (pc' := 58) (fun _ => x_iload_n rfl rk_s) ?_
        have : MTL ((w61)) ((u6_22)) ((u6_24)) ((u6_2)) ((u6_1)) ((u6_22) - (u6_2)) ((a1)) ((z28)) ((a1) - (y29)) := by rw [show (u6_1) = 3 by omega]; first | exact MTL_3 (n1 := (z20)) (by by_cases z : (a1) + 1 ≤ (u6_22) - (u6_2); (exact .inl ⟨z, hn1⟩); (exact .inr ⟨by omega, by omega⟩)) hn0 (by omega) (by omega) | exact MTL_3 (n1 := (z20)) (d1 := 0) (.inr ⟨by omega, by omega⟩) hn0 (by omega) (by omega)
        exact w_ireturn rfl (k (z28) σ _ _ H (SF_trans (SF_trans (SF_refl) hS18 (any_sub rfl)) hS26 (any_sub rfl)) (SA_trans (SA_trans (SA_refl) hA19 (any_subA rfl)) hA27 (any_subA rfl)) (y29) ((ey30)) (show inr (z28) by omega) (show 0 ≤ (z28) by omega) (show (z28) = 0 ∨ (u6_2) ≤ (z28) ∧ (z28) ≤ (u6_22) - a1 ∧ (y29) < a1 by omega) (show MTL ((w61)) ((u6_22)) ((u6_24)) ((u6_2)) ((u6_1)) ((u6_22) - (u6_2)) (a1) ((z28)) (a1 - (y29)) by assumption))
      · refine Ew_of (pc' := 54) (fun _ => x_iconst rfl) ?_
        refine Ew_of (pc' := 58) (fun _ => x_goto rfl rfl) ?_
        have : MTL ((w61)) ((u6_22)) ((u6_24)) ((u6_2)) ((u6_1)) ((u6_22) - (u6_2)) ((a1)) ((0)) ((a1) - (y29)) := by rw [show (u6_1) = 3 by omega]; first | exact MTL_3 (n1 := (z20)) (by by_cases z : (a1) + 1 ≤ (u6_22) - (u6_2); (exact .inl ⟨z, hn1⟩); (exact .inr ⟨by omega, by omega⟩)) hn0 (by omega) (by omega) | exact MTL_3 (n1 := (z20)) (d1 := 0) (.inr ⟨by omega, by omega⟩) hn0 (by omega) (by omega)
        exact w_ireturn rfl (k (0) σ _ _ H (SF_trans (SF_trans (SF_refl) hS18 (any_sub rfl)) hS26 (any_sub rfl)) (SA_trans (SA_trans (SA_refl) hA19 (any_subA rfl)) hA27 (any_subA rfl)) (y29) ((ey30)) (show inr (0) by omega) (show 0 ≤ (0) by omega) (show (0) = 0 ∨ (u6_2) ≤ (0) ∧ (0) ≤ (u6_22) - a1 ∧ (y29) < a1 by omega) (show MTL ((w61)) ((u6_22)) ((u6_24)) ((u6_2)) ((u6_1)) ((u6_22) - (u6_2)) (a1) ((0)) (a1 - (y29)) by assumption))
  · refine Ew_of (pc' := 9) (fun _ => x_aload_n rfl rfl) ?_
    refine Ew_of (pc' := 10) (fun _ => x_iload_n rfl rfl) ?_
    refine Ew_of (pc' := 11) (fun _ => x_aload_n rfl rfl) ?_
    refine w_gI H (o := 6) (w := u6_1) rfl (H.perm 6 rfl) rfl rfl rfl (fun _ => rfl) (eu6_1) ?_
    refine w_inv H (o := 6) rfl rfl rfl (H.perm 6 rfl) rfl rfl (by rfl) (M397 H (u6_2) ((eu6_2)) (u6_22) ((eu6_22)) (u6_24) ((eu6_24)) (w61) (ew61) (show inr (a1) by omega) (show inr (u6_1) by omega) (show 0 ≤ (a1) ∧ (a1) < (u6_22) by omega) (show 0 ≤ (u6_1) ∧ (u6_1) ≤ 2 by omega) (show 0 ≤ (u6_22) ∧ (u6_22) ≤ 16384 by omega) (show 3 ≤ (u6_2) ∧ (u6_2) ≤ 8 by omega) (fun z37 σ F33 A34 H hS35 hA36 y38 ey39 pz37_0 pz37_1 pz37_2 pz37_3 => ⟨rfl, ?_⟩))
    have r40 : (0 : Int) ≤ y38 ∧ y38 ≤ 16384 := by have h1 : (0 : Int) ≤ F33 6 23 ∧ F33 6 23 ≤ 16384 := H.frng 6 23; rw [show F33 6 23 = y38 from (ey39)] at h1; exact h1
    have : MTL ((w61)) ((u6_22)) ((u6_24)) ((u6_2)) ((u6_1)) ((u6_22) - (u6_2)) ((a1)) ((z37)) ((a1) - (y38)) := pz37_3
    exact w_ireturn rfl (k (z37) σ _ _ H (SF_trans (SF_refl) hS35 (any_sub rfl)) (SA_trans (SA_refl) hA36 (any_subA rfl)) (y38) ((ey39)) (show inr (z37) by omega) (show 0 ≤ (z37) by omega) (show (z37) = 0 ∨ (u6_2) ≤ (z37) ∧ (z37) ≤ (u6_22) - a1 ∧ (y38) < a1 by omega) (show MTL ((w61)) ((u6_22)) ((u6_24)) ((u6_2)) ((u6_1)) ((u6_22) - (u6_2)) (a1) ((z37)) (a1 - (y38)) by assumption))
/-- Writer.go -/
theorem M399 {σ0 σ : rS} {D N : Nat → Nat} {F : hF} {A : hA} {d c s : Nat} {Q : wQ} (H : HS σ0 σ D N F A) {a1 : Int} (u6_1 : Int) (eu6_1 : F 6 1 = u6_1) (u6_2 : Int) (eu6_2 : F 6 2 = u6_2) (u6_22 : Int) (eu6_22 : F 6 22 = u6_22) (u6_24 : Int) (eu6_24 : F 6 24 = u6_24) (w61 : Int → Int) (ew61 : A 61 = w61) (h0 : inr (a1)) (h1 : 0 ≤ (a1) ∧ (a1) ≤ (u6_22)) (h2 : 0 ≤ (u6_22) ∧ (u6_22) ≤ 16384) (h3 : 3 ≤ (u6_2) ∧ (u6_2) ≤ 8) (h4 : 0 ≤ (u6_1) ∧ (u6_1) ≤ 3) (k : ∀ σ F' A', HS σ0 σ D N F' A' → SF [(6, 23), (6, 28), (6, 30)] F F' → SA [62, 63, 64, 65] A A' → ∀ y6_28 : Int, F' 6 28 = y6_28 → ∀ y6_30 : Int, F' 6 30 = y6_30 → ∀ v62 : Int → Int, A' 62 = v62 → ∀ v63 : Int → Int, A' 63 = v63 → ∀ v64 : Int → Int, A' 64 = v64 → ∀ v65 : Int → Int, A' 65 = v65 → (3 * (y6_28) + (y6_30) ≤ (u6_22) - (a1)) → (GOR (MTL ((w61)) ((u6_22)) ((u6_24)) ((u6_2)) ((u6_1)) ((u6_22) - (u6_2))) ((w61)) ((u6_22)) ((a1)) ((v62)) ((v63)) ((v64)) ((y6_28)) ((v65)) ((y6_30))) → Q none σ c s) : Ew 399 (d + 3) 0 (rargs 0 [.ref (D 6), I a1]) [] σ c s Q := by
  have r1 : (0 : Int) ≤ u6_1 ∧ u6_1 ≤ 3 := by have h1 : (0 : Int) ≤ F 6 1 ∧ F 6 1 ≤ 3 := H.frng 6 1; rw [show F 6 1 = u6_1 from (eu6_1)] at h1; exact h1
  have r2 : (0 : Int) ≤ u6_2 ∧ u6_2 ≤ 8 := by have h1 : (0 : Int) ≤ F 6 2 ∧ F 6 2 ≤ 8 := H.frng 6 2; rw [show F 6 2 = u6_2 from (eu6_2)] at h1; exact h1
  have r3 : (0 : Int) ≤ u6_22 ∧ u6_22 ≤ 16384 := by have h1 : (0 : Int) ≤ F 6 22 ∧ F 6 22 ≤ 16384 := H.frng 6 22; rw [show F 6 22 = u6_22 from (eu6_22)] at h1; exact h1
  have r4 : (0 : Int) ≤ u6_24 ∧ u6_24 ≤ 16777216 := by have h1 : (0 : Int) ≤ F 6 24 ∧ F 6 24 ≤ 16777216 := H.frng 6 24; rw [show F 6 24 = u6_24 from (eu6_24)] at h1; exact h1
  refine Ew_of (pc' := 1) (fun _ => x_aload_n rfl rfl) ?_
  refine Ew_of (pc' := 2) (fun _ => x_iconst rfl) ?_
  refine w_pI H (o := 6) rfl rfl (H.perm 6 rfl) rfl rfl rfl (fun _ => rfl) rfl (show (0 : Int) ≤ 0 ∧ 0 ≤ 8001 by omega) (fun σ H => ?_)
  refine Ew_of (pc' := 6) (fun _ => x_aload_n rfl rfl) ?_
  refine Ew_of (pc' := 7) (fun _ => x_iconst rfl) ?_
  refine w_pI H (o := 6) rfl rfl (H.perm 6 rfl) rfl rfl rfl (fun _ => rfl) rfl (show (0 : Int) ≤ 0 ∧ 0 ≤ 16385 by omega) (fun σ H => ?_)
  refine Ew_of (pc' := 11) (fun _ => x_iconst rfl) ?_
  refine Ew_of (pc' := 12) (fun _ => x_istore_n rfl) ?_
  refine Ew_of (pc' := 13) (fun _ => x_iload_n rfl (rk_o (rfl) rfl rfl)) ?_
  refine Ew_of (pc' := 14) (fun _ => x_istore_n rfl) ?_
  have : GOW (MTL ((w61)) ((u6_22)) ((u6_24)) ((u6_2)) ((u6_1)) ((u6_22) - (u6_2))) ((w61)) ((u6_22)) ((a1)) ((a1)) (0) ((A 62)) ((A 63)) ((A 64)) 0 ((A 65)) 0 := GOW_0
  suffices hl14 : ∀ (m : Nat), ∀ (ls : rO) (σ : rS) (F_14 : hF) (A_14 : hA) (x14_2 : Int) (x14_3 : Int), rlook ls 0 = some (.ref (D 6)) → rlook ls 2 = some (I (x14_2)) → rlook ls 3 = some (I (x14_3)) → HS σ0 σ D N F_14 A_14 → SF [(6, 23), (6, 28), (6, 30)] (updF (updF F 6 28 (0)) 6 30 (0)) F_14 → SA [62, 63, 64, 65] A A_14 → ∀ y14_6_28 : Int, F_14 6 28 = y14_6_28 → ∀ y14_6_30 : Int, F_14 6 30 = y14_6_30 → ∀ w14_62 : Int → Int, A_14 62 = w14_62 → ∀ w14_63 : Int → Int, A_14 63 = w14_63 → ∀ w14_64 : Int → Int, A_14 64 = w14_64 → ∀ w14_65 : Int → Int, A_14 65 = w14_65 → (inr (x14_2)) → (inr (x14_3)) → ((a1) ≤ (x14_3) ∧ (x14_3) ≤ (u6_22)) → (0 ≤ (x14_2) ∧ (x14_2) ≤ (x14_3) - (a1)) → (3 * (y14_6_28) + (y14_6_30) ≤ (x14_3) - (a1)) → (0 ≤ (y14_6_28) ∧ 0 ≤ (y14_6_30)) → (GOW (MTL ((w61)) ((u6_22)) ((u6_24)) ((u6_2)) ((u6_1)) ((u6_22) - (u6_2))) ((w61)) ((u6_22)) ((a1)) ((x14_3)) ((x14_2)) ((w14_62)) ((w14_63)) ((w14_64)) ((y14_6_28)) ((w14_65)) ((y14_6_30))) → ((u6_22) - (x14_3)).toNat = m → Ew 399 (d + 3) 14 ls [] σ c s Q from
    hl14 _ _ σ _ _ (0) (a1) (rk_o (rk_o (rfl) rfl rfl) rfl rfl) (rk_o (rk_s) rfl rfl) (rk_s) H (SF_refl) (SA_refl) (0) (rfl) (0) (rfl) (A 62) (rfl) (A 63) (rfl) (A 64) (rfl) (A 65) (rfl) (show inr (0) by omega) (show inr (a1) by omega) (show (a1) ≤ (a1) ∧ (a1) ≤ (u6_22) by omega) (show 0 ≤ (0) ∧ (0) ≤ (a1) - (a1) by omega) (show 3 * (0) + (0) ≤ (a1) - (a1) by omega) (show 0 ≤ (0) ∧ 0 ≤ (0) by omega) (show GOW (MTL ((w61)) ((u6_22)) ((u6_24)) ((u6_2)) ((u6_1)) ((u6_22) - (u6_2))) ((w61)) ((u6_22)) ((a1)) ((a1)) ((0)) ((A 62)) ((A 63)) ((A 64)) ((0)) ((A 65)) ((0)) by assumption) rfl
  as_aux_lemma =>
  intro m
  induction m using Nat.strongRecOn with
  | _ m ih14 =>
    intro ls σ F_14 A_14 x14_2 x14_3 l14_0 l14_2 l14_3 H hS_14 hA_14 y14_6_28 ey14_6_28 y14_6_30 ey14_6_30 w14_62 ew14_62 w14_63 ew14_63 w14_64 ew14_64 w14_65 ew14_65 j14_0 j14_1 j14_2 j14_3 j14_4 j14_5 j14_6 hm14
    have r5 : (0 : Int) ≤ y14_6_28 ∧ y14_6_28 ≤ 8001 := by have h1 : (0 : Int) ≤ F_14 6 28 ∧ F_14 6 28 ≤ 8001 := H.frng 6 28; rw [show F_14 6 28 = y14_6_28 from (ey14_6_28)] at h1; exact h1
    have r6 : (0 : Int) ≤ y14_6_30 ∧ y14_6_30 ≤ 16385 := by have h1 : (0 : Int) ≤ F_14 6 30 ∧ F_14 6 30 ≤ 16385 := H.frng 6 30; rw [show F_14 6 30 = y14_6_30 from (ey14_6_30)] at h1; exact h1
    have j14_g : GOW (MTL ((w61)) ((u6_22)) ((u6_24)) ((u6_2)) ((u6_1)) ((u6_22) - (u6_2))) ((w61)) ((u6_22)) ((a1)) ((x14_3)) ((x14_2)) ((w14_62)) ((w14_63)) ((w14_64)) ((y14_6_28)) ((w14_65)) ((y14_6_30)) := by assumption
    refine Ew_of (pc' := 15) (fun _ => x_iload_n rfl l14_3) ?_
    refine Ew_of (pc' := 16) (fun _ => x_aload_n rfl l14_0) ?_
    refine w_gI H (o := 6) (w := u6_22) rfl (H.perm 6 rfl) rfl rfl rfl (fun _ => rfl) ((hS_14 6 22 rfl).trans (eu6_22)) ?_
    refine w_icmpge (t := 124) rfl rfl (show inr (x14_3) by omega) (show inr (u6_22) by omega) (fun b7 => ?_) (fun b7 => ?_)
    · have : GOR (MTL ((w61)) ((u6_22)) ((u6_24)) ((u6_2)) ((u6_1)) ((u6_22) - (u6_2))) ((w61)) ((u6_22)) ((a1)) ((w14_62)) ((w14_63)) ((w14_64)) ((y14_6_28)) ((w14_65)) ((y14_6_30)) := GOW_end j14_g (by omega) (by omega)
      exact w_ret rfl (k σ _ _ H (SF_trans (SF_upd (SF_upd (SF_refl) rfl) rfl) hS_14 (any_sub rfl)) (SA_trans (SA_refl) hA_14 (any_subA rfl)) (y14_6_28) ((ey14_6_28)) (y14_6_30) ((ey14_6_30)) (w14_62) (ew14_62) (w14_63) (ew14_63) (w14_64) (ew14_64) (w14_65) (ew14_65) (show 3 * (y14_6_28) + (y14_6_30) ≤ (u6_22) - a1 by omega) (show GOR (MTL ((w61)) ((u6_22)) ((u6_24)) ((u6_2)) ((u6_1)) ((u6_22) - (u6_2))) ((w61)) ((u6_22)) (a1) ((w14_62)) ((w14_63)) ((w14_64)) ((y14_6_28)) ((w14_65)) ((y14_6_30)) by assumption))
    · refine Ew_of (pc' := 23) (fun _ => x_aload_n rfl l14_0) ?_
      refine Ew_of (pc' := 24) (fun _ => x_iload_n rfl l14_3) ?_
      refine w_inv H (o := 6) rfl rfl rfl (H.perm 6 rfl) rfl rfl (by rfl) (M398 H (u6_1) (((hS_14 6 1 rfl).trans (eu6_1))) (u6_2) (((hS_14 6 2 rfl).trans (eu6_2))) (u6_22) (((hS_14 6 22 rfl).trans (eu6_22))) (u6_24) (((hS_14 6 24 rfl).trans (eu6_24))) (w61) ((funext (hA_14 61 rfl)).trans (ew61)) (show inr (x14_3) by omega) (show 0 ≤ (x14_3) ∧ (x14_3) < (u6_22) by omega) (show 0 ≤ (u6_22) ∧ (u6_22) ≤ 16384 by omega) (show 3 ≤ (u6_2) ∧ (u6_2) ≤ 8 by omega) (show 0 ≤ (u6_1) ∧ (u6_1) ≤ 3 by omega) (fun z12 σ F8 A9 H hS10 hA11 y13 ey14 pz12_0 pz12_1 pz12_2 pz12_3 => ⟨rfl, ?_⟩))
      have r15 : (0 : Int) ≤ y13 ∧ y13 ≤ 16384 := by have h1 : (0 : Int) ≤ F8 6 23 ∧ F8 6 23 ≤ 16384 := H.frng 6 23; rw [show F8 6 23 = y13 from (ey14)] at h1; exact h1
      have htk : ∀ r, (z12) = r → MTL ((w61)) ((u6_22)) ((u6_24)) ((u6_2)) ((u6_1)) ((u6_22) - (u6_2)) ((x14_3)) (r) ((x14_3) - (y13)) := fun r e => e ▸ pz12_3
      refine Ew_of (pc' := 29) (fun _ => x_istore rfl) ?_
      refine Ew_of (pc' := 31) (fun _ => x_iload rfl rk_s) ?_
      refine w_ifne (t := 68) rfl rfl (show inr (z12) by omega) (fun b16 => ?_) (fun b16 => ?_)
      · refine Ew_of (pc' := 69) (fun _ => x_aload_n rfl (rk_o (l14_0) rfl rfl)) ?_
        refine w_gT H (o := 6) (t := 62) rfl (H.perm 6 rfl) rfl rfl rfl rfl rfl rfl ?_
        refine Ew_of (pc' := 73) (fun _ => x_aload_n rfl (rk_o (l14_0) rfl rfl)) ?_
        refine w_gI H (o := 6) (w := y14_6_28) rfl (H.perm 6 rfl) rfl rfl rfl (fun _ => rfl) ((hS10 6 28 rfl).trans (ey14_6_28)) ?_
        refine Ew_of (pc' := 77) (fun _ => x_iload_n rfl (rk_o (l14_2) rfl rfl)) ?_
        refine w_sI H (o := 62) (n := 8001) rfl (H.perm 62 rfl) rfl rfl (H.fix 62 rfl rfl) (show 0 ≤ y14_6_28 ∧ y14_6_28 < ((8001 : Nat) : Int) by omega) (by decide) (show (0 : Int) ≤ x14_2 ∧ x14_2 ≤ 16384 by omega) (fun σ H => ?_)
        refine Ew_of (pc' := 79) (fun _ => x_aload_n rfl (rk_o (l14_0) rfl rfl)) ?_
        refine w_gT H (o := 6) (t := 63) rfl (H.perm 6 rfl) rfl rfl rfl rfl rfl rfl ?_
        refine Ew_of (pc' := 83) (fun _ => x_aload_n rfl (rk_o (l14_0) rfl rfl)) ?_
        refine w_gI H (o := 6) (w := y14_6_28) rfl (H.perm 6 rfl) rfl rfl rfl (fun _ => rfl) ((hS10 6 28 rfl).trans (ey14_6_28)) ?_
        refine Ew_of (pc' := 88) (fun _ => x_iload rfl rk_s) ?_
        refine w_sI H (o := 63) (n := 8001) rfl (H.perm 63 rfl) rfl rfl (H.fix 63 rfl rfl) (show 0 ≤ y14_6_28 ∧ y14_6_28 < ((8001 : Nat) : Int) by omega) (by decide) (show (0 : Int) ≤ z12 ∧ z12 ≤ 16384 by omega) (fun σ H => ?_)
        refine Ew_of (pc' := 90) (fun _ => x_aload_n rfl (rk_o (l14_0) rfl rfl)) ?_
        refine w_gT H (o := 6) (t := 64) rfl (H.perm 6 rfl) rfl rfl rfl rfl rfl rfl ?_
        refine Ew_of (pc' := 94) (fun _ => x_aload_n rfl (rk_o (l14_0) rfl rfl)) ?_
        refine w_gI H (o := 6) (w := y14_6_28) rfl (H.perm 6 rfl) rfl rfl rfl (fun _ => rfl) ((hS10 6 28 rfl).trans (ey14_6_28)) ?_
        refine Ew_of (pc' := 98) (fun _ => x_iload_n rfl (rk_o (l14_3) rfl rfl)) ?_
        refine Ew_of (pc' := 99) (fun _ => x_aload_n rfl (rk_o (l14_0) rfl rfl)) ?_
        refine w_gI H (o := 6) (w := y13) rfl (H.perm 6 rfl) rfl rfl rfl (fun _ => rfl) (ey14) ?_
        refine w_isub rfl ?_
        refine w_sI H (o := 64) (n := 8001) rfl (H.perm 64 rfl) rfl rfl (H.fix 64 rfl rfl) (show 0 ≤ y14_6_28 ∧ y14_6_28 < ((8001 : Nat) : Int) by omega) (by decide) (show (0 : Int) ≤ (x14_3 - y13) ∧ (x14_3 - y13) ≤ 16384 by omega) (fun σ H => ?_)
        refine Ew_of (pc' := 105) (fun _ => x_aload_n rfl (rk_o (l14_0) rfl rfl)) ?_
        refine Ew_of (pc' := 106) (fun _ => x_dup rfl rfl) ?_
        refine w_gI H (o := 6) (w := y14_6_28) rfl (H.perm 6 rfl) rfl rfl rfl (fun _ => rfl) ((hS10 6 28 rfl).trans (ey14_6_28)) ?_
        refine Ew_of (pc' := 110) (fun _ => x_iconst rfl) ?_
        refine w_iadd rfl ?_
        refine w_pI H (o := 6) rfl rfl (H.perm 6 rfl) rfl rfl rfl (fun _ => rfl) rfl (show (0 : Int) ≤ (y14_6_28 + 1) ∧ (y14_6_28 + 1) ≤ 8001 by omega) (fun σ H => ?_)
        refine Ew_of (pc' := 115) (fun _ => x_iconst rfl) ?_
        refine Ew_of (pc' := 116) (fun _ => x_istore_n rfl) ?_
        refine Ew_of (pc' := 117) (fun _ => x_iload_n rfl (rk_o (rk_o (l14_3) rfl rfl) rfl rfl)) ?_
        refine Ew_of (pc' := 119) (fun _ => x_iload rfl (rk_o (rk_s) rfl rfl)) ?_
        refine w_iadd rfl ?_
        refine Ew_of (pc' := 121) (fun _ => x_istore_n rfl) ?_
        refine Ew_of (pc' := 14) (fun _ => x_goto rfl rfl) ?_
        have : GOW (MTL ((w61)) ((u6_22)) ((u6_24)) ((u6_2)) ((u6_1)) ((u6_22) - (u6_2))) ((w61)) ((u6_22)) ((a1)) (((x14_3 + z12))) ((0)) ((upd1 (w14_62) (y14_6_28) (x14_2))) ((upd1 (w14_63) (y14_6_28) (z12))) ((upd1 (w14_64) (y14_6_28) ((x14_3 - y13)))) (((y14_6_28 + 1))) ((w14_65)) ((y14_6_30)) := by first | exact GOW_skip j14_g (by omega) (htk 0 (by omega)) (by omega) (by omega) rfl rfl rfl hv.symm | exact GOW_take j14_g (by omega) (by omega) (htk _ rfl) (by omega) rfl rfl rfl
        exact ih14 _ (by omega) _ σ _ _ (0) ((x14_3 + z12)) (rk_o (rk_o (rk_o (l14_0) rfl rfl) rfl rfl) rfl rfl) (rk_o (rk_s) rfl rfl) (rk_s) H (SF_upd (SF_trans (hS_14) hS10 (any_sub rfl)) rfl) (SA_upd (SA_upd (SA_upd (SA_trans (hA_14) hA11 (any_subA rfl)) rfl) rfl) rfl) ((y14_6_28 + 1)) (rfl) (y14_6_30) (((hS10 6 30 rfl).trans (ey14_6_30))) (upd1 (w14_62) (y14_6_28) (x14_2)) (congrArg (fun q => upd1 q (y14_6_28) (x14_2)) ((funext (hA11 62 rfl)).trans (ew14_62))) (upd1 (w14_63) (y14_6_28) (z12)) (congrArg (fun q => upd1 q (y14_6_28) (z12)) ((funext (hA11 63 rfl)).trans (ew14_63))) (upd1 (w14_64) (y14_6_28) ((x14_3 - y13))) (congrArg (fun q => upd1 q (y14_6_28) ((x14_3 - y13))) ((funext (hA11 64 rfl)).trans (ew14_64))) (w14_65) ((funext (hA11 65 rfl)).trans (ew14_65)) (show inr (0) by omega) (show inr ((x14_3 + z12)) by omega) (show (a1) ≤ ((x14_3 + z12)) ∧ ((x14_3 + z12)) ≤ (u6_22) by omega) (show 0 ≤ (0) ∧ (0) ≤ ((x14_3 + z12)) - (a1) by omega) (show 3 * ((y14_6_28 + 1)) + (y14_6_30) ≤ ((x14_3 + z12)) - (a1) by omega) (show 0 ≤ ((y14_6_28 + 1)) ∧ 0 ≤ (y14_6_30) by omega) (show GOW (MTL ((w61)) ((u6_22)) ((u6_24)) ((u6_2)) ((u6_1)) ((u6_22) - (u6_2))) ((w61)) ((u6_22)) ((a1)) (((x14_3 + z12))) ((0)) ((upd1 (w14_62) (y14_6_28) (x14_2))) ((upd1 (w14_63) (y14_6_28) (z12))) ((upd1 (w14_64) (y14_6_28) ((x14_3 - y13)))) (((y14_6_28 + 1))) ((w14_65)) ((y14_6_30)) by assumption) rfl
      · refine Ew_of (pc' := 35) (fun _ => x_aload_n rfl (rk_o (l14_0) rfl rfl)) ?_
        refine w_gT H (o := 6) (t := 65) rfl (H.perm 6 rfl) rfl rfl rfl rfl rfl rfl ?_
        refine Ew_of (pc' := 39) (fun _ => x_aload_n rfl (rk_o (l14_0) rfl rfl)) ?_
        refine w_gI H (o := 6) (w := y14_6_30) rfl (H.perm 6 rfl) rfl rfl rfl (fun _ => rfl) ((hS10 6 30 rfl).trans (ey14_6_30)) ?_
        refine Ew_of (pc' := 43) (fun _ => x_aload_n rfl (rk_o (l14_0) rfl rfl)) ?_
        refine w_gT H (o := 6) (t := 61) rfl (H.perm 6 rfl) rfl rfl rfl rfl rfl rfl ?_
        refine Ew_of (pc' := 47) (fun _ => x_iload_n rfl (rk_o (l14_3) rfl rfl)) ?_
        refine w_lI H (o := 61) (n := 16384) rfl (H.perm 61 rfl) rfl rfl (H.fix 61 rfl rfl) (show 0 ≤ x14_3 ∧ x14_3 < ((16384 : Nat) : Int) by omega) (by decide) (fun v17 ev17 qv17 => ?_)
        have qv17 : (0 : Int) ≤ v17 ∧ v17 ≤ 255 := qv17
        have ev17 : (w61) (x14_3) = v17 := (congrFun ((funext (hA11 61 rfl)).trans ((funext (hA_14 61 rfl)).trans (ew61))) (x14_3)).symm.trans ev17
        have hv := ev17
        refine w_sI H (o := 65) (n := 16385) rfl (H.perm 65 rfl) rfl rfl (H.fix 65 rfl rfl) (show 0 ≤ y14_6_30 ∧ y14_6_30 < ((16385 : Nat) : Int) by omega) (by decide) (show (0 : Int) ≤ v17 ∧ v17 ≤ 255 by omega) (fun σ H => ?_)
        refine Ew_of (pc' := 50) (fun _ => x_aload_n rfl (rk_o (l14_0) rfl rfl)) ?_
        refine Ew_of (pc' := 51) (fun _ => x_dup rfl rfl) ?_
        refine w_gI H (o := 6) (w := y14_6_30) rfl (H.perm 6 rfl) rfl rfl rfl (fun _ => rfl) ((hS10 6 30 rfl).trans (ey14_6_30)) ?_
        refine Ew_of (pc' := 55) (fun _ => x_iconst rfl) ?_
        refine w_iadd rfl ?_
        refine w_pI H (o := 6) rfl rfl (H.perm 6 rfl) rfl rfl rfl (fun _ => rfl) rfl (show (0 : Int) ≤ (y14_6_30 + 1) ∧ (y14_6_30 + 1) ≤ 16385 by omega) (fun σ H => ?_)
        refine Ew_of (pc' := 62) (fun _ => x_iinc (len := 3) rfl (rk_o (l14_2) rfl rfl)) ?_
        refine Ew_of (pc' := 65) (fun _ => x_iinc (len := 3) rfl (rk_o (rk_o (l14_3) rfl rfl) rfl rfl)) ?_
        refine Ew_of (pc' := 14) (fun _ => x_goto rfl rfl) ?_
        have : GOW (MTL ((w61)) ((u6_22)) ((u6_24)) ((u6_2)) ((u6_1)) ((u6_22) - (u6_2))) ((w61)) ((u6_22)) ((a1)) (((x14_3 + 1))) (((x14_2 + 1))) ((w14_62)) ((w14_63)) ((w14_64)) ((y14_6_28)) ((upd1 (w14_65) (y14_6_30) (v17))) (((y14_6_30 + 1))) := by first | exact GOW_skip j14_g (by omega) (htk 0 (by omega)) (by omega) (by omega) rfl rfl rfl hv.symm | exact GOW_take j14_g (by omega) (by omega) (htk _ rfl) (by omega) rfl rfl rfl
        exact ih14 _ (by omega) _ σ _ _ ((x14_2 + 1)) ((x14_3 + 1)) (rk_o (rk_o (rk_o (l14_0) rfl rfl) rfl rfl) rfl rfl) (rk_o (rk_s) rfl rfl) (rk_s) H (SF_upd (SF_trans (hS_14) hS10 (any_sub rfl)) rfl) (SA_upd (SA_trans (hA_14) hA11 (any_subA rfl)) rfl) (y14_6_28) (((hS10 6 28 rfl).trans (ey14_6_28))) ((y14_6_30 + 1)) (rfl) (w14_62) ((funext (hA11 62 rfl)).trans (ew14_62)) (w14_63) ((funext (hA11 63 rfl)).trans (ew14_63)) (w14_64) ((funext (hA11 64 rfl)).trans (ew14_64)) (upd1 (w14_65) (y14_6_30) (v17)) (congrArg (fun q => upd1 q (y14_6_30) (v17)) ((funext (hA11 65 rfl)).trans (ew14_65))) (show inr ((x14_2 + 1)) by omega) (show inr ((x14_3 + 1)) by omega) (show (a1) ≤ ((x14_3 + 1)) ∧ ((x14_3 + 1)) ≤ (u6_22) by omega) (show 0 ≤ ((x14_2 + 1)) ∧ ((x14_2 + 1)) ≤ ((x14_3 + 1)) - (a1) by omega) (show 3 * (y14_6_28) + ((y14_6_30 + 1)) ≤ ((x14_3 + 1)) - (a1) by omega) (show 0 ≤ (y14_6_28) ∧ 0 ≤ ((y14_6_30 + 1)) by omega) (show GOW (MTL ((w61)) ((u6_22)) ((u6_24)) ((u6_2)) ((u6_1)) ((u6_22) - (u6_2))) ((w61)) ((u6_22)) ((a1)) (((x14_3 + 1))) (((x14_2 + 1))) ((w14_62)) ((w14_63)) ((w14_64)) ((y14_6_28)) ((upd1 (w14_65) (y14_6_30) (v17))) (((y14_6_30 + 1))) by assumption) rfl
/-- Writer.log -/
theorem M400 {σ0 σ : rS} {D N : Nat → Nat} {F : hF} {A : hA} {d c s : Nat} {Q : wQ} (H : HS σ0 σ D N F A) {a1 : Int} (h0 : inr (a1)) (h1 : 1 ≤ (a1)) (k : ∀ (z : Int) σ F' A', HS σ0 σ D N F' A' → SF [] F F' → SA [] A A' → (inr (z)) → (0 ≤ (z) ∧ (z) ≤ 30) → (p2 (z) ≤ (a1) ∧ (a1) < 2 * p2 (z)) → Q (some (I z)) σ c s) : Ew 400 (d + 0) 0 (rargs 0 [I a1]) [] σ c s Q := by
  refine Ew_of (pc' := 1) (fun _ => x_iconst rfl) ?_
  refine Ew_of (pc' := 2) (fun _ => x_istore_n rfl) ?_
  have : p2 0 = 1 := by decide
  suffices hl2 : ∀ (m : Nat), ∀ (ls : rO) (σ : rS) (F_2 : hF) (A_2 : hA) (x2_1 : Int), rlook ls 0 = some (I (a1)) → rlook ls 1 = some (I (x2_1)) → HS σ0 σ D N F_2 A_2 → SF [] F F_2 → SA [] A A_2 → (inr (x2_1)) → (0 ≤ (x2_1) ∧ (x2_1) ≤ 30) → (p2 ((x2_1)) ≤ (a1)) → (31 - (x2_1)).toNat = m → Ew 400 (d + 0) 2 ls [] σ c s Q from
    hl2 _ _ σ _ _ (0) (rk_o (rfl) rfl rfl) (rk_s) H (SF_refl) (SA_refl)   (show inr (0) by omega) (show 0 ≤ (0) ∧ (0) ≤ 30 by omega) (show p2 ((0)) ≤ (a1) by omega) rfl
  as_aux_lemma =>
  intro m
  induction m using Nat.strongRecOn with
  | _ m ih2 =>
    intro ls σ F_2 A_2 x2_1 l2_0 l2_1 H hS_2 hA_2   j2_0 j2_1 j2_2 hm2
    refine Ew_of (pc' := 3) (fun _ => x_iload_n rfl l2_0) ?_
    refine Ew_of (pc' := 4) (fun _ => x_iload_n rfl l2_1) ?_
    refine w_ishrX rfl (show inr (a1) by omega) (fun z1 gz1 dz1 => ?_)
    have hd2 := div2 (a := (a1)) (p := p2 ((x2_1))) (by have := p2_pos ((x2_1)); omega)
    have hps := p2_s (y := (x2_1)) (by omega)
    refine Ew_of (pc' := 6) (fun _ => x_iconst rfl) ?_
    refine w_icmple (t := 15) rfl rfl (show inr (z1) by omega) (show inr (1) by omega) (fun b2 => ?_) (fun b2 => ?_)
    · refine Ew_of (pc' := 16) (fun _ => x_iload_n rfl l2_1) ?_
      exact w_ireturn rfl (k (x2_1) σ _ _ H (SF_trans (SF_refl) hS_2 (any_sub rfl)) (SA_trans (SA_refl) hA_2 (any_subA rfl)) (show inr (x2_1) by omega) (show 0 ≤ (x2_1) ∧ (x2_1) ≤ 30 by omega) (show p2 (x2_1) ≤ a1 ∧ a1 < 2 * p2 (x2_1) by omega))
    · have : (x2_1) + 1 < 31 := p2_lt (by omega) (by rw [show p2 31 = 2147483648 from by decide]; omega)
      refine Ew_of (pc' := 12) (fun _ => x_iinc (len := 3) rfl (l2_1)) ?_
      refine Ew_of (pc' := 2) (fun _ => x_goto rfl rfl) ?_
      exact ih2 _ (by omega) _ σ _ _ ((x2_1 + 1)) (rk_o (l2_0) rfl rfl) (rk_s) H (hS_2) (hA_2)   (show inr ((x2_1 + 1)) by omega) (show 0 ≤ ((x2_1 + 1)) ∧ ((x2_1 + 1)) ≤ 30 by omega) (show p2 (((x2_1 + 1))) ≤ (a1) by omega) rfl
/-- Writer.literalBits -/
theorem M401 {σ0 σ : rS} {D N : Nat → Nat} {F : hF} {A : hA} {d c s : Nat} {Q : wQ} (H : HS σ0 σ D N F A) {a1 : Int} (h0 : inr (a1)) (h1 : 0 ≤ (a1) ∧ (a1) ≤ 35) (k : ∀ (z : Int) σ F' A', HS σ0 σ D N F' A' → SF [] F F' → SA [] A A' → (inr (z)) → (0 ≤ (z) ∧ (z) ≤ 16) → ((z) = lB ((a1))) → Q (some (I z)) σ c s) : Ew 401 (d + 0) 0 (rargs 0 [I a1]) [] σ c s Q := by
  have hlb : lB ((a1)) = if (a1) < 16 then 0 else if (a1) < 20 then 1 else if (a1) < 22 then 2 else if (a1) < 24 then 3 else if (a1) = 24 then 4 else (a1) - 19 := rfl
  refine Ew_of (pc' := 1) (fun _ => x_iload_n rfl rfl) ?_
  refine Ew_of (pc' := 3) (fun _ => x_bipush (z := 16) rfl (by decide)) ?_
  refine w_icmpge (t := 10) rfl rfl (show inr (a1) by omega) (show inr (16) by omega) (fun b1 => ?_) (fun b1 => ?_)
  · refine Ew_of (pc' := 11) (fun _ => x_iload_n rfl rfl) ?_
    refine Ew_of (pc' := 13) (fun _ => x_bipush (z := 20) rfl (by decide)) ?_
    refine w_icmpge (t := 20) rfl rfl (show inr (a1) by omega) (show inr (20) by omega) (fun b2 => ?_) (fun b2 => ?_)
    · refine Ew_of (pc' := 21) (fun _ => x_iload_n rfl rfl) ?_
      refine Ew_of (pc' := 23) (fun _ => x_bipush (z := 22) rfl (by decide)) ?_
      refine w_icmpge (t := 30) rfl rfl (show inr (a1) by omega) (show inr (22) by omega) (fun b3 => ?_) (fun b3 => ?_)
      · refine Ew_of (pc' := 31) (fun _ => x_iload_n rfl rfl) ?_
        refine Ew_of (pc' := 33) (fun _ => x_bipush (z := 24) rfl (by decide)) ?_
        refine w_icmpge (t := 40) rfl rfl (show inr (a1) by omega) (show inr (24) by omega) (fun b4 => ?_) (fun b4 => ?_)
        · refine Ew_of (pc' := 41) (fun _ => x_iload_n rfl rfl) ?_
          refine Ew_of (pc' := 43) (fun _ => x_bipush (z := 24) rfl (by decide)) ?_
          refine w_icmpne (t := 50) rfl rfl (show inr (a1) by omega) (show inr (24) by omega) (fun b5 => ?_) (fun b5 => ?_)
          · refine Ew_of (pc' := 51) (fun _ => x_iload_n rfl rfl) ?_
            refine Ew_of (pc' := 53) (fun _ => x_bipush (z := 19) rfl (by decide)) ?_
            refine w_isub rfl ?_
            exact w_ireturn rfl (k ((a1 - 19)) σ _ _ H (SF_refl) (SA_refl) (show inr ((a1 - 19)) by omega) (show 0 ≤ ((a1 - 19)) ∧ ((a1 - 19)) ≤ 16 by omega) (show ((a1 - 19)) = lB (a1) by omega))
          · refine Ew_of (pc' := 47) (fun _ => x_iconst rfl) ?_
            refine Ew_of (pc' := 54) (fun _ => x_goto rfl rfl) ?_
            exact w_ireturn rfl (k (4) σ _ _ H (SF_refl) (SA_refl) (show inr (4) by omega) (show 0 ≤ (4) ∧ (4) ≤ 16 by omega) (show (4) = lB (a1) by omega))
        · refine Ew_of (pc' := 37) (fun _ => x_iconst rfl) ?_
          refine Ew_of (pc' := 54) (fun _ => x_goto rfl rfl) ?_
          exact w_ireturn rfl (k (3) σ _ _ H (SF_refl) (SA_refl) (show inr (3) by omega) (show 0 ≤ (3) ∧ (3) ≤ 16 by omega) (show (3) = lB (a1) by omega))
      · refine Ew_of (pc' := 27) (fun _ => x_iconst rfl) ?_
        refine Ew_of (pc' := 54) (fun _ => x_goto rfl rfl) ?_
        exact w_ireturn rfl (k (2) σ _ _ H (SF_refl) (SA_refl) (show inr (2) by omega) (show 0 ≤ (2) ∧ (2) ≤ 16 by omega) (show (2) = lB (a1) by omega))
    · refine Ew_of (pc' := 17) (fun _ => x_iconst rfl) ?_
      refine Ew_of (pc' := 54) (fun _ => x_goto rfl rfl) ?_
      exact w_ireturn rfl (k (1) σ _ _ H (SF_refl) (SA_refl) (show inr (1) by omega) (show 0 ≤ (1) ∧ (1) ≤ 16 by omega) (show (1) = lB (a1) by omega))
  · refine Ew_of (pc' := 7) (fun _ => x_iconst rfl) ?_
    refine Ew_of (pc' := 54) (fun _ => x_goto rfl rfl) ?_
    exact w_ireturn rfl (k (0) σ _ _ H (SF_refl) (SA_refl) (show inr (0) by omega) (show 0 ≤ (0) ∧ (0) ≤ 16 by omega) (show (0) = lB (a1) by omega))
/-- Writer.matchBits -/
theorem M402 {σ0 σ : rS} {D N : Nat → Nat} {F : hF} {A : hA} {d c s : Nat} {Q : wQ} (H : HS σ0 σ D N F A) {a1 : Int} (h0 : inr (a1)) (h1 : 0 ≤ (a1) ∧ (a1) ≤ 52) (k : ∀ (z : Int) σ F' A', HS σ0 σ D N F' A' → SF [] F F' → SA [] A A' → (inr (z)) → (0 ≤ (z) ∧ (z) ≤ 16) → ((z) = mB ((a1))) → Q (some (I z)) σ c s) : Ew 402 (d + 0) 0 (rargs 0 [I a1]) [] σ c s Q := by
  have hmb : mB ((a1)) = if (a1) < 32 then 0 else if (a1) < 36 then 1 else if (a1) < 38 then 2 else if (a1) < 40 then 3 else if (a1) < 42 then 4 else if (a1) = 42 then 5 else (a1) - 36 := rfl
  refine Ew_of (pc' := 1) (fun _ => x_iload_n rfl rfl) ?_
  refine Ew_of (pc' := 3) (fun _ => x_bipush (z := 32) rfl (by decide)) ?_
  refine w_icmpge (t := 10) rfl rfl (show inr (a1) by omega) (show inr (32) by omega) (fun b1 => ?_) (fun b1 => ?_)
  · refine Ew_of (pc' := 11) (fun _ => x_iload_n rfl rfl) ?_
    refine Ew_of (pc' := 13) (fun _ => x_bipush (z := 36) rfl (by decide)) ?_
    refine w_icmpge (t := 20) rfl rfl (show inr (a1) by omega) (show inr (36) by omega) (fun b2 => ?_) (fun b2 => ?_)
    · refine Ew_of (pc' := 21) (fun _ => x_iload_n rfl rfl) ?_
      refine Ew_of (pc' := 23) (fun _ => x_bipush (z := 38) rfl (by decide)) ?_
      refine w_icmpge (t := 30) rfl rfl (show inr (a1) by omega) (show inr (38) by omega) (fun b3 => ?_) (fun b3 => ?_)
      · refine Ew_of (pc' := 31) (fun _ => x_iload_n rfl rfl) ?_
        refine Ew_of (pc' := 33) (fun _ => x_bipush (z := 40) rfl (by decide)) ?_
        refine w_icmpge (t := 40) rfl rfl (show inr (a1) by omega) (show inr (40) by omega) (fun b4 => ?_) (fun b4 => ?_)
        · refine Ew_of (pc' := 41) (fun _ => x_iload_n rfl rfl) ?_
          refine Ew_of (pc' := 43) (fun _ => x_bipush (z := 42) rfl (by decide)) ?_
          refine w_icmpge (t := 50) rfl rfl (show inr (a1) by omega) (show inr (42) by omega) (fun b5 => ?_) (fun b5 => ?_)
          · refine Ew_of (pc' := 51) (fun _ => x_iload_n rfl rfl) ?_
            refine Ew_of (pc' := 53) (fun _ => x_bipush (z := 42) rfl (by decide)) ?_
            refine w_icmpne (t := 60) rfl rfl (show inr (a1) by omega) (show inr (42) by omega) (fun b6 => ?_) (fun b6 => ?_)
            · refine Ew_of (pc' := 61) (fun _ => x_iload_n rfl rfl) ?_
              refine Ew_of (pc' := 63) (fun _ => x_bipush (z := 36) rfl (by decide)) ?_
              refine w_isub rfl ?_
              exact w_ireturn rfl (k ((a1 - 36)) σ _ _ H (SF_refl) (SA_refl) (show inr ((a1 - 36)) by omega) (show 0 ≤ ((a1 - 36)) ∧ ((a1 - 36)) ≤ 16 by omega) (show ((a1 - 36)) = mB (a1) by omega))
            · refine Ew_of (pc' := 57) (fun _ => x_iconst rfl) ?_
              refine Ew_of (pc' := 64) (fun _ => x_goto rfl rfl) ?_
              exact w_ireturn rfl (k (5) σ _ _ H (SF_refl) (SA_refl) (show inr (5) by omega) (show 0 ≤ (5) ∧ (5) ≤ 16 by omega) (show (5) = mB (a1) by omega))
          · refine Ew_of (pc' := 47) (fun _ => x_iconst rfl) ?_
            refine Ew_of (pc' := 64) (fun _ => x_goto rfl rfl) ?_
            exact w_ireturn rfl (k (4) σ _ _ H (SF_refl) (SA_refl) (show inr (4) by omega) (show 0 ≤ (4) ∧ (4) ≤ 16 by omega) (show (4) = mB (a1) by omega))
        · refine Ew_of (pc' := 37) (fun _ => x_iconst rfl) ?_
          refine Ew_of (pc' := 64) (fun _ => x_goto rfl rfl) ?_
          exact w_ireturn rfl (k (3) σ _ _ H (SF_refl) (SA_refl) (show inr (3) by omega) (show 0 ≤ (3) ∧ (3) ≤ 16 by omega) (show (3) = mB (a1) by omega))
      · refine Ew_of (pc' := 27) (fun _ => x_iconst rfl) ?_
        refine Ew_of (pc' := 64) (fun _ => x_goto rfl rfl) ?_
        exact w_ireturn rfl (k (2) σ _ _ H (SF_refl) (SA_refl) (show inr (2) by omega) (show 0 ≤ (2) ∧ (2) ≤ 16 by omega) (show (2) = mB (a1) by omega))
    · refine Ew_of (pc' := 17) (fun _ => x_iconst rfl) ?_
      refine Ew_of (pc' := 64) (fun _ => x_goto rfl rfl) ?_
      exact w_ireturn rfl (k (1) σ _ _ H (SF_refl) (SA_refl) (show inr (1) by omega) (show 0 ≤ (1) ∧ (1) ≤ 16 by omega) (show (1) = mB (a1) by omega))
  · refine Ew_of (pc' := 7) (fun _ => x_iconst rfl) ?_
    refine Ew_of (pc' := 64) (fun _ => x_goto rfl rfl) ?_
    exact w_ireturn rfl (k (0) σ _ _ H (SF_refl) (SA_refl) (show inr (0) by omega) (show 0 ≤ (0) ∧ (0) ≤ 16 by omega) (show (0) = mB (a1) by omega))
/-- Writer.tell -/
theorem M403 {σ0 σ : rS} {D N : Nat → Nat} {F : hF} {A : hA} {d c s : Nat} {Q : wQ} (H : HS σ0 σ D N F A) {a1 a2 a3 a4 a5 : Int} (w66 : Int → Int) (ew66 : A 66 = w66) (w67 : Int → Int) (ew67 : A 67 = w67) (w68 : Int → Int) (ew68 : A 68 = w68) (h0 : inr (a1)) (h1 : inr (a2)) (h2 : inr (a3)) (h3 : inr (a4)) (h4 : inr (a5)) (h5 : 0 ≤ (a1) ∧ (a1) ≤ 2 ∧ 0 ≤ (a2) ∧ (a2) ≤ 8000) (h6 : 0 ≤ (a3) ∧ (a3) ≤ 63 ∧ 0 ≤ (a4) ∧ (a4) ≤ 31) (k : ∀ σ F' A', HS σ0 σ D N F' A' → SF [] F F' → SA [66, 67, 68] A A' → ∀ v66 : Int → Int, A' 66 = v66 → ∀ v67 : Int → Int, A' 67 = v67 → ∀ v68 : Int → Int, A' 68 = v68 → ((v66) = upd1 ((w66)) (8001 * (a1) + (a2)) ((a3))) → ((v67) = upd1 ((w67)) (8001 * (a1) + (a2)) ((a4))) → ((v68) = upd1 ((w68)) (8001 * (a1) + (a2)) ((a5))) → Q none σ c s) : Ew 403 (d + 0) 0 (rargs 0 [.ref (D 6), I a1, I a2, I a3, I a4, I a5]) [] σ c s Q := by
  refine Ew_of (pc' := 1) (fun _ => x_aload_n rfl rfl) ?_
  refine w_gT H (o := 6) (t := 66) rfl (H.perm 6 rfl) rfl rfl rfl rfl rfl rfl ?_
  refine Ew_of (pc' := 7) (fun _ => x_sipush (z := 8001) rfl (by decide)) ?_
  refine Ew_of (pc' := 8) (fun _ => x_iload_n rfl rfl) ?_
  refine w_imul rfl ?_
  refine Ew_of (pc' := 10) (fun _ => x_iload_n rfl rfl) ?_
  refine w_iadd rfl ?_
  refine Ew_of (pc' := 12) (fun _ => x_iload_n rfl rfl) ?_
  refine w_sI H (o := 66) (n := 24003) rfl (H.perm 66 rfl) rfl rfl (H.fix 66 rfl rfl) (show 0 ≤ ((8001 * a1) + a2) ∧ ((8001 * a1) + a2) < ((24003 : Nat) : Int) by omega) (by decide) (show (0 : Int) ≤ a3 ∧ a3 ≤ 63 by omega) (fun σ H => ?_)
  refine Ew_of (pc' := 14) (fun _ => x_aload_n rfl rfl) ?_
  refine w_gT H (o := 6) (t := 67) rfl (H.perm 6 rfl) rfl rfl rfl rfl rfl rfl ?_
  refine Ew_of (pc' := 20) (fun _ => x_sipush (z := 8001) rfl (by decide)) ?_
  refine Ew_of (pc' := 21) (fun _ => x_iload_n rfl rfl) ?_
  refine w_imul rfl ?_
  refine Ew_of (pc' := 23) (fun _ => x_iload_n rfl rfl) ?_
  refine w_iadd rfl ?_
  refine Ew_of (pc' := 26) (fun _ => x_iload rfl rfl) ?_
  refine w_sI H (o := 67) (n := 24003) rfl (H.perm 67 rfl) rfl rfl (H.fix 67 rfl rfl) (show 0 ≤ ((8001 * a1) + a2) ∧ ((8001 * a1) + a2) < ((24003 : Nat) : Int) by omega) (by decide) (show (0 : Int) ≤ a4 ∧ a4 ≤ 31 by omega) (fun σ H => ?_)
  refine Ew_of (pc' := 28) (fun _ => x_aload_n rfl rfl) ?_
  refine w_gT H (o := 6) (t := 68) rfl (H.perm 6 rfl) rfl rfl rfl rfl rfl rfl ?_
  refine Ew_of (pc' := 34) (fun _ => x_sipush (z := 8001) rfl (by decide)) ?_
  refine Ew_of (pc' := 35) (fun _ => x_iload_n rfl rfl) ?_
  refine w_imul rfl ?_
  refine Ew_of (pc' := 37) (fun _ => x_iload_n rfl rfl) ?_
  refine w_iadd rfl ?_
  refine Ew_of (pc' := 40) (fun _ => x_iload rfl rfl) ?_
  refine w_sI H (o := 68) (n := 24003) rfl (H.perm 68 rfl) rfl rfl (H.fix 68 rfl rfl) (show 0 ≤ ((8001 * a1) + a2) ∧ ((8001 * a1) + a2) < ((24003 : Nat) : Int) by omega) (by decide) (show (-2147483648 : Int) ≤ a5 ∧ a5 ≤ 2147483647 by omega) (fun σ H => ?_)
  have : (upd1 (w66) (((8001 * a1) + a2)) (a3)) = upd1 ((w66)) (8001 * (a1) + (a2)) ((a3)) := rfl
  have : (upd1 (w67) (((8001 * a1) + a2)) (a4)) = upd1 ((w67)) (8001 * (a1) + (a2)) ((a4)) := rfl
  have : (upd1 (w68) (((8001 * a1) + a2)) (a5)) = upd1 ((w68)) (8001 * (a1) + (a2)) ((a5)) := rfl
  exact w_ret rfl (k σ _ _ H (SF_refl) (SA_upd (SA_upd (SA_upd (SA_refl) rfl) rfl) rfl) (upd1 (w66) (((8001 * a1) + a2)) (a3)) (congrArg (fun q => upd1 q (((8001 * a1) + a2)) (a3)) (ew66)) (upd1 (w67) (((8001 * a1) + a2)) (a4)) (congrArg (fun q => upd1 q (((8001 * a1) + a2)) (a4)) (ew67)) (upd1 (w68) (((8001 * a1) + a2)) (a5)) (congrArg (fun q => upd1 q (((8001 * a1) + a2)) (a5)) (ew68)) (show (upd1 (w66) (((8001 * a1) + a2)) (a3)) = upd1 ((w66)) (8001 * a1 + a2) (a3) by assumption) (show (upd1 (w67) (((8001 * a1) + a2)) (a4)) = upd1 ((w67)) (8001 * a1 + a2) (a4) by assumption) (show (upd1 (w68) (((8001 * a1) + a2)) (a5)) = upd1 ((w68)) (8001 * a1 + a2) (a5) by assumption))
/-- Writer.number -/
theorem M405 {σ0 σ : rS} {D N : Nat → Nat} {F : hF} {A : hA} {d c s : Nat} {Q : wQ} (H : HS σ0 σ D N F A) {a1 a2 : Int} (w56 : Int → Int) (ew56 : A 56 = w56) (h0 : inr (a1)) (h1 : inr (a2)) (h2 : 0 ≤ (a1) ∧ (a1) ≤ 16384 ∧ 0 ≤ (a2) ∧ (a2) ≤ 1) (k : ∀ (z : Int) σ F' A', HS σ0 σ D N F' A' → SF [] F F' → SA [56] A A' → ∀ v56 : Int → Int, A' 56 = v56 → (inr (z)) → (1 ≤ (z) ∧ (z) ≤ (a1) + 3) → (IMP (1 ≤ ((w56)) 0 ∧ 1 ≤ (a1)) ((z) = nuG (((w56)) 0) (((w56)) 1) (((w56)) 2) ((a1)) (1 - (a2)) 1 ∧ ∃ zz, dsF ((z)) (1 - (a2)) (((w56)) 0) (((w56)) 1) (((w56)) 2) = (zz, ((v56)) 0, ((v56)) 1, ((v56)) 2))) → (IMP ((1 ≤ ((w56)) 0 ∧ 1 ≤ ((w56)) 1 ∧ 1 ≤ ((w56)) 2) ∧ 1 ≤ (a1)) (1 ≤ ((v56)) 0 ∧ 1 ≤ ((v56)) 1 ∧ 1 ≤ ((v56)) 2)) → Q (some (I z)) σ c s) : Ew 405 (d + 0) 0 (rargs 0 [.ref (D 6), I a1, I a2]) [] σ c s Q := by
  have hlr : ∀ i, (-2147483648 : Int) ≤ (w56) i ∧ (w56) i ≤ 2147483647 := fun i => by have h1 : (-2147483648 : Int) ≤ A 56 i ∧ A 56 i ≤ 2147483647 := H.arng 56 i; rw [show A 56 = w56 from ew56] at h1; exact h1
  have hlr0 := hlr 0
  refine Ew_of (pc' := 1) (fun _ => x_iload_n rfl rfl) ?_
  refine Ew_of (pc' := 2) (fun _ => x_iconst rfl) ?_
  refine w_iadd rfl ?_
  refine Ew_of (pc' := 4) (fun _ => x_istore_n rfl) ?_
  refine Ew_of (pc' := 5) (fun _ => x_iconst rfl) ?_
  refine Ew_of (pc' := 7) (fun _ => x_istore rfl) ?_
  have : IMP (1 ≤ ((w56)) 0) ((a1) + 3 = nuG (((w56)) 0) (((w56)) 1) (((w56)) 2) ((a1)) (1 - (a2)) (3 + 1)) := fun _ => (nuG_4 (by decide)).symm
  suffices hl7 : ∀ (m : Nat), ∀ (ls : rO) (σ : rS) (F_7 : hF) (A_7 : hA) (x7_3 : Int) (x7_4 : Int), rlook ls 0 = some (.ref (D 6)) → rlook ls 1 = some (I (a1)) → rlook ls 2 = some (I (a2)) → rlook ls 3 = some (I (x7_3)) → rlook ls 4 = some (I (x7_4)) → HS σ0 σ D N F_7 A_7 → SF [] F F_7 → SA [] A A_7 → (inr (x7_3)) → (inr (x7_4)) → ((x7_4) ≤ (3)) → ((3) ≤ (x7_4) ∨ (0) ≤ (x7_4)) → (1 ≤ (x7_3) ∧ (x7_3) ≤ (a1) + 3) → (0 ≤ (x7_4) ∧ (x7_4) ≤ 3) → (IMP (1 ≤ ((w56)) 0) ((x7_3) = nuG (((w56)) 0) (((w56)) 1) (((w56)) 2) ((a1)) (1 - (a2)) ((x7_4) + 1))) → ((x7_4) - (0)).toNat = m → Ew 405 (d + 0) 7 ls [] σ c s Q from
    hl7 _ _ σ _ _ ((a1 + 3)) (3) (rk_o (rk_o (rfl) rfl rfl) rfl rfl) (rk_o (rk_o (rfl) rfl rfl) rfl rfl) (rk_o (rk_o (rfl) rfl rfl) rfl rfl) (rk_o (rk_s) rfl rfl) (rk_s) H (SF_refl) (SA_refl)   (show inr ((a1 + 3)) by omega) (show inr (3) by omega) (show (3) ≤ (3) by omega) (show (3) ≤ (3) ∨ (0) ≤ (3) by omega) (show 1 ≤ ((a1 + 3)) ∧ ((a1 + 3)) ≤ (a1) + 3 by omega) (show 0 ≤ (3) ∧ (3) ≤ 3 by omega) (show IMP (1 ≤ ((w56)) 0) (((a1 + 3)) = nuG (((w56)) 0) (((w56)) 1) (((w56)) 2) ((a1)) (1 - (a2)) ((3) + 1)) by assumption) rfl
  as_aux_lemma =>
  intro m
  induction m using Nat.strongRecOn with
  | _ m ih7 =>
    intro ls σ F_7 A_7 x7_3 x7_4 l7_0 l7_1 l7_2 l7_3 l7_4 H hS_7 hA_7   j7_0 j7_1 j7_2 j7_3 j7_4 j7_5 j7_6 hm7
    have j7_q : IMP (1 ≤ ((w56)) 0) ((x7_3) = nuG (((w56)) 0) (((w56)) 1) (((w56)) 2) ((a1)) (1 - (a2)) ((x7_4) + 1)) := by assumption
    obtain ⟨ql4, hql4⟩ : ∃ q : Int, q = (x7_4) := ⟨_, rfl⟩
    refine Ew_of (pc' := 9) (fun _ => x_iload rfl l7_4) ?_
    refine w_ifle (t := 61) rfl rfl (show inr (x7_4) by omega) (fun b1 => ?_) (fun b1 => ?_)
    · have hnu : IMP (1 ≤ ((w56)) 0) ((x7_3) = nuG (((w56)) 0) (((w56)) 1) (((w56)) 2) ((a1)) (1 - (a2)) 1) := fun h1 => by have h := j7_q h1; rw [show (x7_4) + 1 = 1 by omega] at h; exact h
      obtain ⟨q3, hq3⟩ : ∃ q : Int, q = (x7_3) := ⟨_, rfl⟩
      refine Ew_of (pc' := 62) (fun _ => x_iload_n rfl l7_3) ?_
      refine Ew_of (pc' := 63) (fun _ => x_iconst rfl) ?_
      refine w_icmple (t := 70) rfl rfl (show inr (x7_3) by omega) (show inr (3) by omega) (fun b2 => ?_) (fun b2 => ?_)
      · refine Ew_of (pc' := 71) (fun _ => x_iload_n rfl l7_3) ?_
        refine Ew_of (pc' := 72) (fun _ => x_iload_n rfl l7_2) ?_
        refine w_iadd rfl ?_
        refine Ew_of (pc' := 75) (fun _ => x_istore rfl) ?_
        have hds : IMP (1 ≤ ((w56)) 0 ∧ 1 ≤ (a1)) (dsF ((x7_3)) (1 - (a2)) (((w56)) 0) (((w56)) 1) (((w56)) 2) = ((a1), (a1), (if 1 < ((x7_3 + a2)) then ((w56)) 0 else ((w56)) 1), (if 2 < ((x7_3 + a2)) then ((w56)) 1 else ((w56)) 2))) := fun h1 => by have e := hnu h1.1; have ha := h1.2; have k := nuG_ds (r0 := ((w56)) 0) (r1 := ((w56)) 1) (r2 := ((w56)) 2) (d := (a1)) (li := 1 - (a2)) (w := ((x7_3 + a2))) (by rw [← e]; omega) (by omega); rw [← e] at k; exact k
        refine Ew_of (pc' := 77) (fun _ => x_iload rfl rk_s) ?_
        refine Ew_of (pc' := 78) (fun _ => x_iconst rfl) ?_
        refine w_icmple (t := 93) rfl rfl (show inr ((x7_3 + a2)) by omega) (show inr (2) by omega) (fun b3 => ?_) (fun b3 => ?_)
        · refine Ew_of (pc' := 95) (fun _ => x_iload rfl rk_s) ?_
          refine Ew_of (pc' := 96) (fun _ => x_iconst rfl) ?_
          refine w_icmple (t := 111) rfl rfl (show inr ((x7_3 + a2)) by omega) (show inr (1) by omega) (fun b4 => ?_) (fun b4 => ?_)
          · refine Ew_of (pc' := 112) (fun _ => x_aload_n rfl (rk_o (l7_0) rfl rfl)) ?_
            refine w_gT H (o := 6) (t := 56) rfl (H.perm 6 rfl) rfl rfl rfl rfl rfl rfl ?_
            refine Ew_of (pc' := 116) (fun _ => x_iconst rfl) ?_
            refine Ew_of (pc' := 117) (fun _ => x_iload_n rfl (rk_o (l7_1) rfl rfl)) ?_
            refine w_sI H (o := 56) (n := 3) rfl (H.perm 56 rfl) rfl rfl (H.fix 56 rfl rfl) (show 0 ≤ 0 ∧ 0 < ((3 : Nat) : Int) by omega) (by decide) (show (-2147483648 : Int) ≤ a1 ∧ a1 ≤ 2147483647 by omega) (fun σ H => ?_)
            refine Ew_of (pc' := 119) (fun _ => x_iload_n rfl (rk_o (l7_3) rfl rfl)) ?_
            have : IMP (1 ≤ ((w56)) 0 ∧ 1 ≤ (a1)) ((x7_3) = nuG (((w56)) 0) (((w56)) 1) (((w56)) 2) ((a1)) (1 - (a2)) 1 ∧ ∃ zz, dsF ((x7_3)) (1 - (a2)) (((w56)) 0) (((w56)) 1) (((w56)) 2) = (zz, ((upd1 (w56) (0) (a1))) 0, ((upd1 (w56) (0) (a1))) 1, ((upd1 (w56) (0) (a1))) 2)) := fun h1 => ⟨hnu h1.1, (a1), by rw [hds h1]; first | (rw [if_pos (by omega), if_pos (by omega)]; exact Prod.ext rfl (Prod.ext rfl (Prod.ext hv2 hv1))) | (rw [if_pos (by omega), if_neg (by omega)]; exact Prod.ext rfl (Prod.ext rfl (Prod.ext hv2 rfl))) | (rw [if_neg (by omega), if_neg (by omega)]; rfl) | (exfalso; omega)⟩
            have : IMP ((1 ≤ ((w56)) 0 ∧ 1 ≤ ((w56)) 1 ∧ 1 ≤ ((w56)) 2) ∧ 1 ≤ (a1)) (1 ≤ ((upd1 (w56) (0) (a1))) 0 ∧ 1 ≤ ((upd1 (w56) (0) (a1))) 1 ∧ 1 ≤ ((upd1 (w56) (0) (a1))) 2) := fun h => by have a := h.1.1; have b := h.1.2.1; have c := h.1.2.2; have d := h.2; refine ⟨?_, ?_, ?_⟩ <;> (try simp only [upd1]) <;> (try omega)
            exact w_ireturn rfl (k (x7_3) σ _ _ H (SF_trans (SF_refl) hS_7 (any_sub rfl)) (SA_upd (SA_trans (SA_refl) hA_7 (any_subA rfl)) rfl) (upd1 (w56) (0) (a1)) (congrArg (fun q => upd1 q (0) (a1)) ((funext (hA_7 56 rfl)).trans (ew56))) (show inr (x7_3) by omega) (show 1 ≤ (x7_3) ∧ (x7_3) ≤ a1 + 3 by omega) (show IMP (1 ≤ ((w56)) 0 ∧ 1 ≤ a1) ((x7_3) = nuG (((w56)) 0) (((w56)) 1) (((w56)) 2) (a1) (1 - a2) 1 ∧ ∃ zz, dsF ((x7_3)) (1 - a2) (((w56)) 0) (((w56)) 1) (((w56)) 2) = (zz, ((upd1 (w56) (0) (a1))) 0, ((upd1 (w56) (0) (a1))) 1, ((upd1 (w56) (0) (a1))) 2)) by assumption) (show IMP ((1 ≤ ((w56)) 0 ∧ 1 ≤ ((w56)) 1 ∧ 1 ≤ ((w56)) 2) ∧ 1 ≤ a1) (1 ≤ ((upd1 (w56) (0) (a1))) 0 ∧ 1 ≤ ((upd1 (w56) (0) (a1))) 1 ∧ 1 ≤ ((upd1 (w56) (0) (a1))) 2) by assumption))
          · refine Ew_of (pc' := 100) (fun _ => x_aload_n rfl (rk_o (l7_0) rfl rfl)) ?_
            refine w_gT H (o := 6) (t := 56) rfl (H.perm 6 rfl) rfl rfl rfl rfl rfl rfl ?_
            refine Ew_of (pc' := 104) (fun _ => x_iconst rfl) ?_
            refine Ew_of (pc' := 105) (fun _ => x_aload_n rfl (rk_o (l7_0) rfl rfl)) ?_
            refine w_gT H (o := 6) (t := 56) rfl (H.perm 6 rfl) rfl rfl rfl rfl rfl rfl ?_
            refine Ew_of (pc' := 109) (fun _ => x_iconst rfl) ?_
            refine w_lI H (o := 56) (n := 3) rfl (H.perm 56 rfl) rfl rfl (H.fix 56 rfl rfl) (show 0 ≤ 0 ∧ 0 < ((3 : Nat) : Int) by omega) (by decide) (fun v5 ev5 qv5 => ?_)
            have qv5 : (-2147483648 : Int) ≤ v5 ∧ v5 ≤ 2147483647 := qv5
            have ev5 : (w56) (0) = v5 := (congrFun ((funext (hA_7 56 rfl)).trans (ew56)) (0)).symm.trans ev5
            have hv2 := ev5
            try simp only [upd1] at hv2
            refine w_sI H (o := 56) (n := 3) rfl (H.perm 56 rfl) rfl rfl (H.fix 56 rfl rfl) (show 0 ≤ 1 ∧ 1 < ((3 : Nat) : Int) by omega) (by decide) (show (-2147483648 : Int) ≤ v5 ∧ v5 ≤ 2147483647 by omega) (fun σ H => ?_)
            refine Ew_of (pc' := 112) (fun _ => x_aload_n rfl (rk_o (l7_0) rfl rfl)) ?_
            refine w_gT H (o := 6) (t := 56) rfl (H.perm 6 rfl) rfl rfl rfl rfl rfl rfl ?_
            refine Ew_of (pc' := 116) (fun _ => x_iconst rfl) ?_
            refine Ew_of (pc' := 117) (fun _ => x_iload_n rfl (rk_o (l7_1) rfl rfl)) ?_
            refine w_sI H (o := 56) (n := 3) rfl (H.perm 56 rfl) rfl rfl (H.fix 56 rfl rfl) (show 0 ≤ 0 ∧ 0 < ((3 : Nat) : Int) by omega) (by decide) (show (-2147483648 : Int) ≤ a1 ∧ a1 ≤ 2147483647 by omega) (fun σ H => ?_)
            refine Ew_of (pc' := 119) (fun _ => x_iload_n rfl (rk_o (l7_3) rfl rfl)) ?_
            have : IMP (1 ≤ ((w56)) 0 ∧ 1 ≤ (a1)) ((x7_3) = nuG (((w56)) 0) (((w56)) 1) (((w56)) 2) ((a1)) (1 - (a2)) 1 ∧ ∃ zz, dsF ((x7_3)) (1 - (a2)) (((w56)) 0) (((w56)) 1) (((w56)) 2) = (zz, ((upd1 (upd1 (w56) (1) (v5)) (0) (a1))) 0, ((upd1 (upd1 (w56) (1) (v5)) (0) (a1))) 1, ((upd1 (upd1 (w56) (1) (v5)) (0) (a1))) 2)) := fun h1 => ⟨hnu h1.1, (a1), by rw [hds h1]; first | (rw [if_pos (by omega), if_pos (by omega)]; exact Prod.ext rfl (Prod.ext rfl (Prod.ext hv2 hv1))) | (rw [if_pos (by omega), if_neg (by omega)]; exact Prod.ext rfl (Prod.ext rfl (Prod.ext hv2 rfl))) | (rw [if_neg (by omega), if_neg (by omega)]; rfl) | (exfalso; omega)⟩
            have : IMP ((1 ≤ ((w56)) 0 ∧ 1 ≤ ((w56)) 1 ∧ 1 ≤ ((w56)) 2) ∧ 1 ≤ (a1)) (1 ≤ ((upd1 (upd1 (w56) (1) (v5)) (0) (a1))) 0 ∧ 1 ≤ ((upd1 (upd1 (w56) (1) (v5)) (0) (a1))) 1 ∧ 1 ≤ ((upd1 (upd1 (w56) (1) (v5)) (0) (a1))) 2) := fun h => by have a := h.1.1; have b := h.1.2.1; have c := h.1.2.2; have d := h.2; refine ⟨?_, ?_, ?_⟩ <;> (try simp only [upd1]) <;> (try omega)
            exact w_ireturn rfl (k (x7_3) σ _ _ H (SF_trans (SF_refl) hS_7 (any_sub rfl)) (SA_upd (SA_upd (SA_trans (SA_refl) hA_7 (any_subA rfl)) rfl) rfl) (upd1 (upd1 (w56) (1) (v5)) (0) (a1)) (congrArg (fun q => upd1 q (0) (a1)) (congrArg (fun q => upd1 q (1) (v5)) ((funext (hA_7 56 rfl)).trans (ew56)))) (show inr (x7_3) by omega) (show 1 ≤ (x7_3) ∧ (x7_3) ≤ a1 + 3 by omega) (show IMP (1 ≤ ((w56)) 0 ∧ 1 ≤ a1) ((x7_3) = nuG (((w56)) 0) (((w56)) 1) (((w56)) 2) (a1) (1 - a2) 1 ∧ ∃ zz, dsF ((x7_3)) (1 - a2) (((w56)) 0) (((w56)) 1) (((w56)) 2) = (zz, ((upd1 (upd1 (w56) (1) (v5)) (0) (a1))) 0, ((upd1 (upd1 (w56) (1) (v5)) (0) (a1))) 1, ((upd1 (upd1 (w56) (1) (v5)) (0) (a1))) 2)) by assumption) (show IMP ((1 ≤ ((w56)) 0 ∧ 1 ≤ ((w56)) 1 ∧ 1 ≤ ((w56)) 2) ∧ 1 ≤ a1) (1 ≤ ((upd1 (upd1 (w56) (1) (v5)) (0) (a1))) 0 ∧ 1 ≤ ((upd1 (upd1 (w56) (1) (v5)) (0) (a1))) 1 ∧ 1 ≤ ((upd1 (upd1 (w56) (1) (v5)) (0) (a1))) 2) by assumption))
        · refine Ew_of (pc' := 82) (fun _ => x_aload_n rfl (rk_o (l7_0) rfl rfl)) ?_
          refine w_gT H (o := 6) (t := 56) rfl (H.perm 6 rfl) rfl rfl rfl rfl rfl rfl ?_
          refine Ew_of (pc' := 86) (fun _ => x_iconst rfl) ?_
          refine Ew_of (pc' := 87) (fun _ => x_aload_n rfl (rk_o (l7_0) rfl rfl)) ?_
          refine w_gT H (o := 6) (t := 56) rfl (H.perm 6 rfl) rfl rfl rfl rfl rfl rfl ?_
          refine Ew_of (pc' := 91) (fun _ => x_iconst rfl) ?_
          refine w_lI H (o := 56) (n := 3) rfl (H.perm 56 rfl) rfl rfl (H.fix 56 rfl rfl) (show 0 ≤ 1 ∧ 1 < ((3 : Nat) : Int) by omega) (by decide) (fun v6 ev6 qv6 => ?_)
          have qv6 : (-2147483648 : Int) ≤ v6 ∧ v6 ≤ 2147483647 := qv6
          have ev6 : (w56) (1) = v6 := (congrFun ((funext (hA_7 56 rfl)).trans (ew56)) (1)).symm.trans ev6
          have hv1 := ev6
          refine w_sI H (o := 56) (n := 3) rfl (H.perm 56 rfl) rfl rfl (H.fix 56 rfl rfl) (show 0 ≤ 2 ∧ 2 < ((3 : Nat) : Int) by omega) (by decide) (show (-2147483648 : Int) ≤ v6 ∧ v6 ≤ 2147483647 by omega) (fun σ H => ?_)
          refine Ew_of (pc' := 95) (fun _ => x_iload rfl rk_s) ?_
          refine Ew_of (pc' := 96) (fun _ => x_iconst rfl) ?_
          refine w_icmple (t := 111) rfl rfl (show inr ((x7_3 + a2)) by omega) (show inr (1) by omega) (fun b7 => ?_) (fun b7 => ?_)
          · refine Ew_of (pc' := 112) (fun _ => x_aload_n rfl (rk_o (l7_0) rfl rfl)) ?_
            refine w_gT H (o := 6) (t := 56) rfl (H.perm 6 rfl) rfl rfl rfl rfl rfl rfl ?_
            refine Ew_of (pc' := 116) (fun _ => x_iconst rfl) ?_
            refine Ew_of (pc' := 117) (fun _ => x_iload_n rfl (rk_o (l7_1) rfl rfl)) ?_
            refine w_sI H (o := 56) (n := 3) rfl (H.perm 56 rfl) rfl rfl (H.fix 56 rfl rfl) (show 0 ≤ 0 ∧ 0 < ((3 : Nat) : Int) by omega) (by decide) (show (-2147483648 : Int) ≤ a1 ∧ a1 ≤ 2147483647 by omega) (fun σ H => ?_)
            refine Ew_of (pc' := 119) (fun _ => x_iload_n rfl (rk_o (l7_3) rfl rfl)) ?_
            have : IMP (1 ≤ ((w56)) 0 ∧ 1 ≤ (a1)) ((x7_3) = nuG (((w56)) 0) (((w56)) 1) (((w56)) 2) ((a1)) (1 - (a2)) 1 ∧ ∃ zz, dsF ((x7_3)) (1 - (a2)) (((w56)) 0) (((w56)) 1) (((w56)) 2) = (zz, ((upd1 (upd1 (w56) (2) (v6)) (0) (a1))) 0, ((upd1 (upd1 (w56) (2) (v6)) (0) (a1))) 1, ((upd1 (upd1 (w56) (2) (v6)) (0) (a1))) 2)) := fun h1 => ⟨hnu h1.1, (a1), by rw [hds h1]; first | (rw [if_pos (by omega), if_pos (by omega)]; exact Prod.ext rfl (Prod.ext rfl (Prod.ext hv2 hv1))) | (rw [if_pos (by omega), if_neg (by omega)]; exact Prod.ext rfl (Prod.ext rfl (Prod.ext hv2 rfl))) | (rw [if_neg (by omega), if_neg (by omega)]; rfl) | (exfalso; omega)⟩
            have : IMP ((1 ≤ ((w56)) 0 ∧ 1 ≤ ((w56)) 1 ∧ 1 ≤ ((w56)) 2) ∧ 1 ≤ (a1)) (1 ≤ ((upd1 (upd1 (w56) (2) (v6)) (0) (a1))) 0 ∧ 1 ≤ ((upd1 (upd1 (w56) (2) (v6)) (0) (a1))) 1 ∧ 1 ≤ ((upd1 (upd1 (w56) (2) (v6)) (0) (a1))) 2) := fun h => by have a := h.1.1; have b := h.1.2.1; have c := h.1.2.2; have d := h.2; refine ⟨?_, ?_, ?_⟩ <;> (try simp only [upd1]) <;> (try omega)
            exact w_ireturn rfl (k (x7_3) σ _ _ H (SF_trans (SF_refl) hS_7 (any_sub rfl)) (SA_upd (SA_upd (SA_trans (SA_refl) hA_7 (any_subA rfl)) rfl) rfl) (upd1 (upd1 (w56) (2) (v6)) (0) (a1)) (congrArg (fun q => upd1 q (0) (a1)) (congrArg (fun q => upd1 q (2) (v6)) ((funext (hA_7 56 rfl)).trans (ew56)))) (show inr (x7_3) by omega) (show 1 ≤ (x7_3) ∧ (x7_3) ≤ a1 + 3 by omega) (show IMP (1 ≤ ((w56)) 0 ∧ 1 ≤ a1) ((x7_3) = nuG (((w56)) 0) (((w56)) 1) (((w56)) 2) (a1) (1 - a2) 1 ∧ ∃ zz, dsF ((x7_3)) (1 - a2) (((w56)) 0) (((w56)) 1) (((w56)) 2) = (zz, ((upd1 (upd1 (w56) (2) (v6)) (0) (a1))) 0, ((upd1 (upd1 (w56) (2) (v6)) (0) (a1))) 1, ((upd1 (upd1 (w56) (2) (v6)) (0) (a1))) 2)) by assumption) (show IMP ((1 ≤ ((w56)) 0 ∧ 1 ≤ ((w56)) 1 ∧ 1 ≤ ((w56)) 2) ∧ 1 ≤ a1) (1 ≤ ((upd1 (upd1 (w56) (2) (v6)) (0) (a1))) 0 ∧ 1 ≤ ((upd1 (upd1 (w56) (2) (v6)) (0) (a1))) 1 ∧ 1 ≤ ((upd1 (upd1 (w56) (2) (v6)) (0) (a1))) 2) by assumption))
          · refine Ew_of (pc' := 100) (fun _ => x_aload_n rfl (rk_o (l7_0) rfl rfl)) ?_
            refine w_gT H (o := 6) (t := 56) rfl (H.perm 6 rfl) rfl rfl rfl rfl rfl rfl ?_
            refine Ew_of (pc' := 104) (fun _ => x_iconst rfl) ?_
            refine Ew_of (pc' := 105) (fun _ => x_aload_n rfl (rk_o (l7_0) rfl rfl)) ?_
            refine w_gT H (o := 6) (t := 56) rfl (H.perm 6 rfl) rfl rfl rfl rfl rfl rfl ?_
            refine Ew_of (pc' := 109) (fun _ => x_iconst rfl) ?_
            refine w_lI H (o := 56) (n := 3) rfl (H.perm 56 rfl) rfl rfl (H.fix 56 rfl rfl) (show 0 ≤ 0 ∧ 0 < ((3 : Nat) : Int) by omega) (by decide) (fun v8 ev8 qv8 => ?_)
            have qv8 : (-2147483648 : Int) ≤ v8 ∧ v8 ≤ 2147483647 := qv8
            have ev8 : (upd1 (w56) (2) (v6)) (0) = v8 := (congrFun (congrArg (fun q => upd1 q (2) (v6)) ((funext (hA_7 56 rfl)).trans (ew56))) (0)).symm.trans ev8
            have hv2 := ev8
            try simp only [upd1] at hv2
            refine w_sI H (o := 56) (n := 3) rfl (H.perm 56 rfl) rfl rfl (H.fix 56 rfl rfl) (show 0 ≤ 1 ∧ 1 < ((3 : Nat) : Int) by omega) (by decide) (show (-2147483648 : Int) ≤ v8 ∧ v8 ≤ 2147483647 by omega) (fun σ H => ?_)
            refine Ew_of (pc' := 112) (fun _ => x_aload_n rfl (rk_o (l7_0) rfl rfl)) ?_
            refine w_gT H (o := 6) (t := 56) rfl (H.perm 6 rfl) rfl rfl rfl rfl rfl rfl ?_
            refine Ew_of (pc' := 116) (fun _ => x_iconst rfl) ?_
            refine Ew_of (pc' := 117) (fun _ => x_iload_n rfl (rk_o (l7_1) rfl rfl)) ?_
            refine w_sI H (o := 56) (n := 3) rfl (H.perm 56 rfl) rfl rfl (H.fix 56 rfl rfl) (show 0 ≤ 0 ∧ 0 < ((3 : Nat) : Int) by omega) (by decide) (show (-2147483648 : Int) ≤ a1 ∧ a1 ≤ 2147483647 by omega) (fun σ H => ?_)
            refine Ew_of (pc' := 119) (fun _ => x_iload_n rfl (rk_o (l7_3) rfl rfl)) ?_
            have : IMP (1 ≤ ((w56)) 0 ∧ 1 ≤ (a1)) ((x7_3) = nuG (((w56)) 0) (((w56)) 1) (((w56)) 2) ((a1)) (1 - (a2)) 1 ∧ ∃ zz, dsF ((x7_3)) (1 - (a2)) (((w56)) 0) (((w56)) 1) (((w56)) 2) = (zz, ((upd1 (upd1 (upd1 (w56) (2) (v6)) (1) (v8)) (0) (a1))) 0, ((upd1 (upd1 (upd1 (w56) (2) (v6)) (1) (v8)) (0) (a1))) 1, ((upd1 (upd1 (upd1 (w56) (2) (v6)) (1) (v8)) (0) (a1))) 2)) := fun h1 => ⟨hnu h1.1, (a1), by rw [hds h1]; first | (rw [if_pos (by omega), if_pos (by omega)]; exact Prod.ext rfl (Prod.ext rfl (Prod.ext hv2 hv1))) | (rw [if_pos (by omega), if_neg (by omega)]; exact Prod.ext rfl (Prod.ext rfl (Prod.ext hv2 rfl))) | (rw [if_neg (by omega), if_neg (by omega)]; rfl) | (exfalso; omega)⟩
            have : IMP ((1 ≤ ((w56)) 0 ∧ 1 ≤ ((w56)) 1 ∧ 1 ≤ ((w56)) 2) ∧ 1 ≤ (a1)) (1 ≤ ((upd1 (upd1 (upd1 (w56) (2) (v6)) (1) (v8)) (0) (a1))) 0 ∧ 1 ≤ ((upd1 (upd1 (upd1 (w56) (2) (v6)) (1) (v8)) (0) (a1))) 1 ∧ 1 ≤ ((upd1 (upd1 (upd1 (w56) (2) (v6)) (1) (v8)) (0) (a1))) 2) := fun h => by have a := h.1.1; have b := h.1.2.1; have c := h.1.2.2; have d := h.2; refine ⟨?_, ?_, ?_⟩ <;> (try simp only [upd1]) <;> (try omega)
            exact w_ireturn rfl (k (x7_3) σ _ _ H (SF_trans (SF_refl) hS_7 (any_sub rfl)) (SA_upd (SA_upd (SA_upd (SA_trans (SA_refl) hA_7 (any_subA rfl)) rfl) rfl) rfl) (upd1 (upd1 (upd1 (w56) (2) (v6)) (1) (v8)) (0) (a1)) (congrArg (fun q => upd1 q (0) (a1)) (congrArg (fun q => upd1 q (1) (v8)) (congrArg (fun q => upd1 q (2) (v6)) ((funext (hA_7 56 rfl)).trans (ew56))))) (show inr (x7_3) by omega) (show 1 ≤ (x7_3) ∧ (x7_3) ≤ a1 + 3 by omega) (show IMP (1 ≤ ((w56)) 0 ∧ 1 ≤ a1) ((x7_3) = nuG (((w56)) 0) (((w56)) 1) (((w56)) 2) (a1) (1 - a2) 1 ∧ ∃ zz, dsF ((x7_3)) (1 - a2) (((w56)) 0) (((w56)) 1) (((w56)) 2) = (zz, ((upd1 (upd1 (upd1 (w56) (2) (v6)) (1) (v8)) (0) (a1))) 0, ((upd1 (upd1 (upd1 (w56) (2) (v6)) (1) (v8)) (0) (a1))) 1, ((upd1 (upd1 (upd1 (w56) (2) (v6)) (1) (v8)) (0) (a1))) 2)) by assumption) (show IMP ((1 ≤ ((w56)) 0 ∧ 1 ≤ ((w56)) 1 ∧ 1 ≤ ((w56)) 2) ∧ 1 ≤ a1) (1 ≤ ((upd1 (upd1 (upd1 (w56) (2) (v6)) (1) (v8)) (0) (a1))) 0 ∧ 1 ≤ ((upd1 (upd1 (upd1 (w56) (2) (v6)) (1) (v8)) (0) (a1))) 1 ∧ 1 ≤ ((upd1 (upd1 (upd1 (w56) (2) (v6)) (1) (v8)) (0) (a1))) 2) by assumption))
      · refine Ew_of (pc' := 67) (fun _ => x_iconst rfl) ?_
        refine Ew_of (pc' := 73) (fun _ => x_goto rfl rfl) ?_
        refine Ew_of (pc' := 75) (fun _ => x_istore rfl) ?_
        have hds : IMP (1 ≤ ((w56)) 0 ∧ 1 ≤ (a1)) (dsF ((x7_3)) (1 - (a2)) (((w56)) 0) (((w56)) 1) (((w56)) 2) = ((a1), (a1), (if 1 < (5) then ((w56)) 0 else ((w56)) 1), (if 2 < (5) then ((w56)) 1 else ((w56)) 2))) := fun h1 => by have e := hnu h1.1; have ha := h1.2; have k := nuG_ds (r0 := ((w56)) 0) (r1 := ((w56)) 1) (r2 := ((w56)) 2) (d := (a1)) (li := 1 - (a2)) (w := (5)) (by rw [← e]; omega) (by omega); rw [← e] at k; exact k
        refine Ew_of (pc' := 77) (fun _ => x_iload rfl rk_s) ?_
        refine Ew_of (pc' := 78) (fun _ => x_iconst rfl) ?_
        refine w_icmple (t := 93) rfl rfl (show inr (5) by omega) (show inr (2) by omega) (fun b9 => ?_) (fun b9 => ?_)
        · refine Ew_of (pc' := 95) (fun _ => x_iload rfl rk_s) ?_
          refine Ew_of (pc' := 96) (fun _ => x_iconst rfl) ?_
          refine w_icmple (t := 111) rfl rfl (show inr (5) by omega) (show inr (1) by omega) (fun b10 => ?_) (fun b10 => ?_)
          · refine Ew_of (pc' := 112) (fun _ => x_aload_n rfl (rk_o (l7_0) rfl rfl)) ?_
            refine w_gT H (o := 6) (t := 56) rfl (H.perm 6 rfl) rfl rfl rfl rfl rfl rfl ?_
            refine Ew_of (pc' := 116) (fun _ => x_iconst rfl) ?_
            refine Ew_of (pc' := 117) (fun _ => x_iload_n rfl (rk_o (l7_1) rfl rfl)) ?_
            refine w_sI H (o := 56) (n := 3) rfl (H.perm 56 rfl) rfl rfl (H.fix 56 rfl rfl) (show 0 ≤ 0 ∧ 0 < ((3 : Nat) : Int) by omega) (by decide) (show (-2147483648 : Int) ≤ a1 ∧ a1 ≤ 2147483647 by omega) (fun σ H => ?_)
            refine Ew_of (pc' := 119) (fun _ => x_iload_n rfl (rk_o (l7_3) rfl rfl)) ?_
            have : IMP (1 ≤ ((w56)) 0 ∧ 1 ≤ (a1)) ((x7_3) = nuG (((w56)) 0) (((w56)) 1) (((w56)) 2) ((a1)) (1 - (a2)) 1 ∧ ∃ zz, dsF ((x7_3)) (1 - (a2)) (((w56)) 0) (((w56)) 1) (((w56)) 2) = (zz, ((upd1 (w56) (0) (a1))) 0, ((upd1 (w56) (0) (a1))) 1, ((upd1 (w56) (0) (a1))) 2)) := fun h1 => ⟨hnu h1.1, (a1), by rw [hds h1]; first | (rw [if_pos (by omega), if_pos (by omega)]; exact Prod.ext rfl (Prod.ext rfl (Prod.ext hv2 hv1))) | (rw [if_pos (by omega), if_neg (by omega)]; exact Prod.ext rfl (Prod.ext rfl (Prod.ext hv2 rfl))) | (rw [if_neg (by omega), if_neg (by omega)]; rfl) | (exfalso; omega)⟩
            have : IMP ((1 ≤ ((w56)) 0 ∧ 1 ≤ ((w56)) 1 ∧ 1 ≤ ((w56)) 2) ∧ 1 ≤ (a1)) (1 ≤ ((upd1 (w56) (0) (a1))) 0 ∧ 1 ≤ ((upd1 (w56) (0) (a1))) 1 ∧ 1 ≤ ((upd1 (w56) (0) (a1))) 2) := fun h => by have a := h.1.1; have b := h.1.2.1; have c := h.1.2.2; have d := h.2; refine ⟨?_, ?_, ?_⟩ <;> (try simp only [upd1]) <;> (try omega)
            exact w_ireturn rfl (k (x7_3) σ _ _ H (SF_trans (SF_refl) hS_7 (any_sub rfl)) (SA_upd (SA_trans (SA_refl) hA_7 (any_subA rfl)) rfl) (upd1 (w56) (0) (a1)) (congrArg (fun q => upd1 q (0) (a1)) ((funext (hA_7 56 rfl)).trans (ew56))) (show inr (x7_3) by omega) (show 1 ≤ (x7_3) ∧ (x7_3) ≤ a1 + 3 by omega) (show IMP (1 ≤ ((w56)) 0 ∧ 1 ≤ a1) ((x7_3) = nuG (((w56)) 0) (((w56)) 1) (((w56)) 2) (a1) (1 - a2) 1 ∧ ∃ zz, dsF ((x7_3)) (1 - a2) (((w56)) 0) (((w56)) 1) (((w56)) 2) = (zz, ((upd1 (w56) (0) (a1))) 0, ((upd1 (w56) (0) (a1))) 1, ((upd1 (w56) (0) (a1))) 2)) by assumption) (show IMP ((1 ≤ ((w56)) 0 ∧ 1 ≤ ((w56)) 1 ∧ 1 ≤ ((w56)) 2) ∧ 1 ≤ a1) (1 ≤ ((upd1 (w56) (0) (a1))) 0 ∧ 1 ≤ ((upd1 (w56) (0) (a1))) 1 ∧ 1 ≤ ((upd1 (w56) (0) (a1))) 2) by assumption))
          · refine Ew_of (pc' := 100) (fun _ => x_aload_n rfl (rk_o (l7_0) rfl rfl)) ?_
            refine w_gT H (o := 6) (t := 56) rfl (H.perm 6 rfl) rfl rfl rfl rfl rfl rfl ?_
            refine Ew_of (pc' := 104) (fun _ => x_iconst rfl) ?_
            refine Ew_of (pc' := 105) (fun _ => x_aload_n rfl (rk_o (l7_0) rfl rfl)) ?_
            refine w_gT H (o := 6) (t := 56) rfl (H.perm 6 rfl) rfl rfl rfl rfl rfl rfl ?_
            refine Ew_of (pc' := 109) (fun _ => x_iconst rfl) ?_
            refine w_lI H (o := 56) (n := 3) rfl (H.perm 56 rfl) rfl rfl (H.fix 56 rfl rfl) (show 0 ≤ 0 ∧ 0 < ((3 : Nat) : Int) by omega) (by decide) (fun v11 ev11 qv11 => ?_)
            have qv11 : (-2147483648 : Int) ≤ v11 ∧ v11 ≤ 2147483647 := qv11
            have ev11 : (w56) (0) = v11 := (congrFun ((funext (hA_7 56 rfl)).trans (ew56)) (0)).symm.trans ev11
            have hv2 := ev11
            try simp only [upd1] at hv2
            refine w_sI H (o := 56) (n := 3) rfl (H.perm 56 rfl) rfl rfl (H.fix 56 rfl rfl) (show 0 ≤ 1 ∧ 1 < ((3 : Nat) : Int) by omega) (by decide) (show (-2147483648 : Int) ≤ v11 ∧ v11 ≤ 2147483647 by omega) (fun σ H => ?_)
            refine Ew_of (pc' := 112) (fun _ => x_aload_n rfl (rk_o (l7_0) rfl rfl)) ?_
            refine w_gT H (o := 6) (t := 56) rfl (H.perm 6 rfl) rfl rfl rfl rfl rfl rfl ?_
            refine Ew_of (pc' := 116) (fun _ => x_iconst rfl) ?_
            refine Ew_of (pc' := 117) (fun _ => x_iload_n rfl (rk_o (l7_1) rfl rfl)) ?_
            refine w_sI H (o := 56) (n := 3) rfl (H.perm 56 rfl) rfl rfl (H.fix 56 rfl rfl) (show 0 ≤ 0 ∧ 0 < ((3 : Nat) : Int) by omega) (by decide) (show (-2147483648 : Int) ≤ a1 ∧ a1 ≤ 2147483647 by omega) (fun σ H => ?_)
            refine Ew_of (pc' := 119) (fun _ => x_iload_n rfl (rk_o (l7_3) rfl rfl)) ?_
            have : IMP (1 ≤ ((w56)) 0 ∧ 1 ≤ (a1)) ((x7_3) = nuG (((w56)) 0) (((w56)) 1) (((w56)) 2) ((a1)) (1 - (a2)) 1 ∧ ∃ zz, dsF ((x7_3)) (1 - (a2)) (((w56)) 0) (((w56)) 1) (((w56)) 2) = (zz, ((upd1 (upd1 (w56) (1) (v11)) (0) (a1))) 0, ((upd1 (upd1 (w56) (1) (v11)) (0) (a1))) 1, ((upd1 (upd1 (w56) (1) (v11)) (0) (a1))) 2)) := fun h1 => ⟨hnu h1.1, (a1), by rw [hds h1]; first | (rw [if_pos (by omega), if_pos (by omega)]; exact Prod.ext rfl (Prod.ext rfl (Prod.ext hv2 hv1))) | (rw [if_pos (by omega), if_neg (by omega)]; exact Prod.ext rfl (Prod.ext rfl (Prod.ext hv2 rfl))) | (rw [if_neg (by omega), if_neg (by omega)]; rfl) | (exfalso; omega)⟩
            have : IMP ((1 ≤ ((w56)) 0 ∧ 1 ≤ ((w56)) 1 ∧ 1 ≤ ((w56)) 2) ∧ 1 ≤ (a1)) (1 ≤ ((upd1 (upd1 (w56) (1) (v11)) (0) (a1))) 0 ∧ 1 ≤ ((upd1 (upd1 (w56) (1) (v11)) (0) (a1))) 1 ∧ 1 ≤ ((upd1 (upd1 (w56) (1) (v11)) (0) (a1))) 2) := fun h => by have a := h.1.1; have b := h.1.2.1; have c := h.1.2.2; have d := h.2; refine ⟨?_, ?_, ?_⟩ <;> (try simp only [upd1]) <;> (try omega)
            exact w_ireturn rfl (k (x7_3) σ _ _ H (SF_trans (SF_refl) hS_7 (any_sub rfl)) (SA_upd (SA_upd (SA_trans (SA_refl) hA_7 (any_subA rfl)) rfl) rfl) (upd1 (upd1 (w56) (1) (v11)) (0) (a1)) (congrArg (fun q => upd1 q (0) (a1)) (congrArg (fun q => upd1 q (1) (v11)) ((funext (hA_7 56 rfl)).trans (ew56)))) (show inr (x7_3) by omega) (show 1 ≤ (x7_3) ∧ (x7_3) ≤ a1 + 3 by omega) (show IMP (1 ≤ ((w56)) 0 ∧ 1 ≤ a1) ((x7_3) = nuG (((w56)) 0) (((w56)) 1) (((w56)) 2) (a1) (1 - a2) 1 ∧ ∃ zz, dsF ((x7_3)) (1 - a2) (((w56)) 0) (((w56)) 1) (((w56)) 2) = (zz, ((upd1 (upd1 (w56) (1) (v11)) (0) (a1))) 0, ((upd1 (upd1 (w56) (1) (v11)) (0) (a1))) 1, ((upd1 (upd1 (w56) (1) (v11)) (0) (a1))) 2)) by assumption) (show IMP ((1 ≤ ((w56)) 0 ∧ 1 ≤ ((w56)) 1 ∧ 1 ≤ ((w56)) 2) ∧ 1 ≤ a1) (1 ≤ ((upd1 (upd1 (w56) (1) (v11)) (0) (a1))) 0 ∧ 1 ≤ ((upd1 (upd1 (w56) (1) (v11)) (0) (a1))) 1 ∧ 1 ≤ ((upd1 (upd1 (w56) (1) (v11)) (0) (a1))) 2) by assumption))
        · refine Ew_of (pc' := 82) (fun _ => x_aload_n rfl (rk_o (l7_0) rfl rfl)) ?_
          refine w_gT H (o := 6) (t := 56) rfl (H.perm 6 rfl) rfl rfl rfl rfl rfl rfl ?_
          refine Ew_of (pc' := 86) (fun _ => x_iconst rfl) ?_
          refine Ew_of (pc' := 87) (fun _ => x_aload_n rfl (rk_o (l7_0) rfl rfl)) ?_
          refine w_gT H (o := 6) (t := 56) rfl (H.perm 6 rfl) rfl rfl rfl rfl rfl rfl ?_
          refine Ew_of (pc' := 91) (fun _ => x_iconst rfl) ?_
          refine w_lI H (o := 56) (n := 3) rfl (H.perm 56 rfl) rfl rfl (H.fix 56 rfl rfl) (show 0 ≤ 1 ∧ 1 < ((3 : Nat) : Int) by omega) (by decide) (fun v12 ev12 qv12 => ?_)
          have qv12 : (-2147483648 : Int) ≤ v12 ∧ v12 ≤ 2147483647 := qv12
          have ev12 : (w56) (1) = v12 := (congrFun ((funext (hA_7 56 rfl)).trans (ew56)) (1)).symm.trans ev12
          have hv1 := ev12
          refine w_sI H (o := 56) (n := 3) rfl (H.perm 56 rfl) rfl rfl (H.fix 56 rfl rfl) (show 0 ≤ 2 ∧ 2 < ((3 : Nat) : Int) by omega) (by decide) (show (-2147483648 : Int) ≤ v12 ∧ v12 ≤ 2147483647 by omega) (fun σ H => ?_)
          refine Ew_of (pc' := 95) (fun _ => x_iload rfl rk_s) ?_
          refine Ew_of (pc' := 96) (fun _ => x_iconst rfl) ?_
          refine w_icmple (t := 111) rfl rfl (show inr (5) by omega) (show inr (1) by omega) (fun b13 => ?_) (fun b13 => ?_)
          · refine Ew_of (pc' := 112) (fun _ => x_aload_n rfl (rk_o (l7_0) rfl rfl)) ?_
            refine w_gT H (o := 6) (t := 56) rfl (H.perm 6 rfl) rfl rfl rfl rfl rfl rfl ?_
            refine Ew_of (pc' := 116) (fun _ => x_iconst rfl) ?_
            refine Ew_of (pc' := 117) (fun _ => x_iload_n rfl (rk_o (l7_1) rfl rfl)) ?_
            refine w_sI H (o := 56) (n := 3) rfl (H.perm 56 rfl) rfl rfl (H.fix 56 rfl rfl) (show 0 ≤ 0 ∧ 0 < ((3 : Nat) : Int) by omega) (by decide) (show (-2147483648 : Int) ≤ a1 ∧ a1 ≤ 2147483647 by omega) (fun σ H => ?_)
            refine Ew_of (pc' := 119) (fun _ => x_iload_n rfl (rk_o (l7_3) rfl rfl)) ?_
            have : IMP (1 ≤ ((w56)) 0 ∧ 1 ≤ (a1)) ((x7_3) = nuG (((w56)) 0) (((w56)) 1) (((w56)) 2) ((a1)) (1 - (a2)) 1 ∧ ∃ zz, dsF ((x7_3)) (1 - (a2)) (((w56)) 0) (((w56)) 1) (((w56)) 2) = (zz, ((upd1 (upd1 (w56) (2) (v12)) (0) (a1))) 0, ((upd1 (upd1 (w56) (2) (v12)) (0) (a1))) 1, ((upd1 (upd1 (w56) (2) (v12)) (0) (a1))) 2)) := fun h1 => ⟨hnu h1.1, (a1), by rw [hds h1]; first | (rw [if_pos (by omega), if_pos (by omega)]; exact Prod.ext rfl (Prod.ext rfl (Prod.ext hv2 hv1))) | (rw [if_pos (by omega), if_neg (by omega)]; exact Prod.ext rfl (Prod.ext rfl (Prod.ext hv2 rfl))) | (rw [if_neg (by omega), if_neg (by omega)]; rfl) | (exfalso; omega)⟩
            have : IMP ((1 ≤ ((w56)) 0 ∧ 1 ≤ ((w56)) 1 ∧ 1 ≤ ((w56)) 2) ∧ 1 ≤ (a1)) (1 ≤ ((upd1 (upd1 (w56) (2) (v12)) (0) (a1))) 0 ∧ 1 ≤ ((upd1 (upd1 (w56) (2) (v12)) (0) (a1))) 1 ∧ 1 ≤ ((upd1 (upd1 (w56) (2) (v12)) (0) (a1))) 2) := fun h => by have a := h.1.1; have b := h.1.2.1; have c := h.1.2.2; have d := h.2; refine ⟨?_, ?_, ?_⟩ <;> (try simp only [upd1]) <;> (try omega)
            exact w_ireturn rfl (k (x7_3) σ _ _ H (SF_trans (SF_refl) hS_7 (any_sub rfl)) (SA_upd (SA_upd (SA_trans (SA_refl) hA_7 (any_subA rfl)) rfl) rfl) (upd1 (upd1 (w56) (2) (v12)) (0) (a1)) (congrArg (fun q => upd1 q (0) (a1)) (congrArg (fun q => upd1 q (2) (v12)) ((funext (hA_7 56 rfl)).trans (ew56)))) (show inr (x7_3) by omega) (show 1 ≤ (x7_3) ∧ (x7_3) ≤ a1 + 3 by omega) (show IMP (1 ≤ ((w56)) 0 ∧ 1 ≤ a1) ((x7_3) = nuG (((w56)) 0) (((w56)) 1) (((w56)) 2) (a1) (1 - a2) 1 ∧ ∃ zz, dsF ((x7_3)) (1 - a2) (((w56)) 0) (((w56)) 1) (((w56)) 2) = (zz, ((upd1 (upd1 (w56) (2) (v12)) (0) (a1))) 0, ((upd1 (upd1 (w56) (2) (v12)) (0) (a1))) 1, ((upd1 (upd1 (w56) (2) (v12)) (0) (a1))) 2)) by assumption) (show IMP ((1 ≤ ((w56)) 0 ∧ 1 ≤ ((w56)) 1 ∧ 1 ≤ ((w56)) 2) ∧ 1 ≤ a1) (1 ≤ ((upd1 (upd1 (w56) (2) (v12)) (0) (a1))) 0 ∧ 1 ≤ ((upd1 (upd1 (w56) (2) (v12)) (0) (a1))) 1 ∧ 1 ≤ ((upd1 (upd1 (w56) (2) (v12)) (0) (a1))) 2) by assumption))
          · refine Ew_of (pc' := 100) (fun _ => x_aload_n rfl (rk_o (l7_0) rfl rfl)) ?_
            refine w_gT H (o := 6) (t := 56) rfl (H.perm 6 rfl) rfl rfl rfl rfl rfl rfl ?_
            refine Ew_of (pc' := 104) (fun _ => x_iconst rfl) ?_
            refine Ew_of (pc' := 105) (fun _ => x_aload_n rfl (rk_o (l7_0) rfl rfl)) ?_
            refine w_gT H (o := 6) (t := 56) rfl (H.perm 6 rfl) rfl rfl rfl rfl rfl rfl ?_
            refine Ew_of (pc' := 109) (fun _ => x_iconst rfl) ?_
            refine w_lI H (o := 56) (n := 3) rfl (H.perm 56 rfl) rfl rfl (H.fix 56 rfl rfl) (show 0 ≤ 0 ∧ 0 < ((3 : Nat) : Int) by omega) (by decide) (fun v14 ev14 qv14 => ?_)
            have qv14 : (-2147483648 : Int) ≤ v14 ∧ v14 ≤ 2147483647 := qv14
            have ev14 : (upd1 (w56) (2) (v12)) (0) = v14 := (congrFun (congrArg (fun q => upd1 q (2) (v12)) ((funext (hA_7 56 rfl)).trans (ew56))) (0)).symm.trans ev14
            have hv2 := ev14
            try simp only [upd1] at hv2
            refine w_sI H (o := 56) (n := 3) rfl (H.perm 56 rfl) rfl rfl (H.fix 56 rfl rfl) (show 0 ≤ 1 ∧ 1 < ((3 : Nat) : Int) by omega) (by decide) (show (-2147483648 : Int) ≤ v14 ∧ v14 ≤ 2147483647 by omega) (fun σ H => ?_)
            refine Ew_of (pc' := 112) (fun _ => x_aload_n rfl (rk_o (l7_0) rfl rfl)) ?_
            refine w_gT H (o := 6) (t := 56) rfl (H.perm 6 rfl) rfl rfl rfl rfl rfl rfl ?_
            refine Ew_of (pc' := 116) (fun _ => x_iconst rfl) ?_
            refine Ew_of (pc' := 117) (fun _ => x_iload_n rfl (rk_o (l7_1) rfl rfl)) ?_
            refine w_sI H (o := 56) (n := 3) rfl (H.perm 56 rfl) rfl rfl (H.fix 56 rfl rfl) (show 0 ≤ 0 ∧ 0 < ((3 : Nat) : Int) by omega) (by decide) (show (-2147483648 : Int) ≤ a1 ∧ a1 ≤ 2147483647 by omega) (fun σ H => ?_)
            refine Ew_of (pc' := 119) (fun _ => x_iload_n rfl (rk_o (l7_3) rfl rfl)) ?_
            have : IMP (1 ≤ ((w56)) 0 ∧ 1 ≤ (a1)) ((x7_3) = nuG (((w56)) 0) (((w56)) 1) (((w56)) 2) ((a1)) (1 - (a2)) 1 ∧ ∃ zz, dsF ((x7_3)) (1 - (a2)) (((w56)) 0) (((w56)) 1) (((w56)) 2) = (zz, ((upd1 (upd1 (upd1 (w56) (2) (v12)) (1) (v14)) (0) (a1))) 0, ((upd1 (upd1 (upd1 (w56) (2) (v12)) (1) (v14)) (0) (a1))) 1, ((upd1 (upd1 (upd1 (w56) (2) (v12)) (1) (v14)) (0) (a1))) 2)) := fun h1 => ⟨hnu h1.1, (a1), by rw [hds h1]; first | (rw [if_pos (by omega), if_pos (by omega)]; exact Prod.ext rfl (Prod.ext rfl (Prod.ext hv2 hv1))) | (rw [if_pos (by omega), if_neg (by omega)]; exact Prod.ext rfl (Prod.ext rfl (Prod.ext hv2 rfl))) | (rw [if_neg (by omega), if_neg (by omega)]; rfl) | (exfalso; omega)⟩
            have : IMP ((1 ≤ ((w56)) 0 ∧ 1 ≤ ((w56)) 1 ∧ 1 ≤ ((w56)) 2) ∧ 1 ≤ (a1)) (1 ≤ ((upd1 (upd1 (upd1 (w56) (2) (v12)) (1) (v14)) (0) (a1))) 0 ∧ 1 ≤ ((upd1 (upd1 (upd1 (w56) (2) (v12)) (1) (v14)) (0) (a1))) 1 ∧ 1 ≤ ((upd1 (upd1 (upd1 (w56) (2) (v12)) (1) (v14)) (0) (a1))) 2) := fun h => by have a := h.1.1; have b := h.1.2.1; have c := h.1.2.2; have d := h.2; refine ⟨?_, ?_, ?_⟩ <;> (try simp only [upd1]) <;> (try omega)
            exact w_ireturn rfl (k (x7_3) σ _ _ H (SF_trans (SF_refl) hS_7 (any_sub rfl)) (SA_upd (SA_upd (SA_upd (SA_trans (SA_refl) hA_7 (any_subA rfl)) rfl) rfl) rfl) (upd1 (upd1 (upd1 (w56) (2) (v12)) (1) (v14)) (0) (a1)) (congrArg (fun q => upd1 q (0) (a1)) (congrArg (fun q => upd1 q (1) (v14)) (congrArg (fun q => upd1 q (2) (v12)) ((funext (hA_7 56 rfl)).trans (ew56))))) (show inr (x7_3) by omega) (show 1 ≤ (x7_3) ∧ (x7_3) ≤ a1 + 3 by omega) (show IMP (1 ≤ ((w56)) 0 ∧ 1 ≤ a1) ((x7_3) = nuG (((w56)) 0) (((w56)) 1) (((w56)) 2) (a1) (1 - a2) 1 ∧ ∃ zz, dsF ((x7_3)) (1 - a2) (((w56)) 0) (((w56)) 1) (((w56)) 2) = (zz, ((upd1 (upd1 (upd1 (w56) (2) (v12)) (1) (v14)) (0) (a1))) 0, ((upd1 (upd1 (upd1 (w56) (2) (v12)) (1) (v14)) (0) (a1))) 1, ((upd1 (upd1 (upd1 (w56) (2) (v12)) (1) (v14)) (0) (a1))) 2)) by assumption) (show IMP ((1 ≤ ((w56)) 0 ∧ 1 ≤ ((w56)) 1 ∧ 1 ≤ ((w56)) 2) ∧ 1 ≤ a1) (1 ≤ ((upd1 (upd1 (upd1 (w56) (2) (v12)) (1) (v14)) (0) (a1))) 0 ∧ 1 ≤ ((upd1 (upd1 (upd1 (w56) (2) (v12)) (1) (v14)) (0) (a1))) 1 ∧ 1 ≤ ((upd1 (upd1 (upd1 (w56) (2) (v12)) (1) (v14)) (0) (a1))) 2) by assumption))
    · refine Ew_of (pc' := 14) (fun _ => x_iload rfl l7_4) ?_
      refine Ew_of (pc' := 15) (fun _ => x_iload_n rfl l7_2) ?_
      refine w_iadd rfl ?_
      refine Ew_of (pc' := 18) (fun _ => x_istore rfl) ?_
      refine Ew_of (pc' := 20) (fun _ => x_iload rfl rk_s) ?_
      refine Ew_of (pc' := 21) (fun _ => x_iconst rfl) ?_
      refine w_icmpne (t := 35) rfl rfl (show inr ((x7_4 + a2)) by omega) (show inr (4) by omega) (fun b15 => ?_) (fun b15 => ?_)
      · refine Ew_of (pc' := 36) (fun _ => x_aload_n rfl (rk_o (l7_0) rfl rfl)) ?_
        refine w_gT H (o := 6) (t := 56) rfl (H.perm 6 rfl) rfl rfl rfl rfl rfl rfl ?_
        refine Ew_of (pc' := 41) (fun _ => x_iload rfl rk_s) ?_
        refine Ew_of (pc' := 42) (fun _ => x_iconst rfl) ?_
        refine w_isub rfl ?_
        refine w_lI H (o := 56) (n := 3) rfl (H.perm 56 rfl) rfl rfl (H.fix 56 rfl rfl) (show 0 ≤ ((x7_4 + a2) - 1) ∧ ((x7_4 + a2) - 1) < ((3 : Nat) : Int) by omega) (by decide) (fun v16 ev16 qv16 => ?_)
        have qv16 : (-2147483648 : Int) ≤ v16 ∧ v16 ≤ 2147483647 := qv16
        have ev16 : (w56) (((x7_4 + a2) - 1)) = v16 := (congrFun ((funext (hA_7 56 rfl)).trans (ew56)) (((x7_4 + a2) - 1))).symm.trans ev16
        have hcc : IMP (1 ≤ ((w56)) 0) (nuC (((w56)) 0) (((w56)) 1) (((w56)) 2) (1 - (a2)) ((x7_4)) = (v16)) := fun h1 => by first | exact nuC_w (w := ((x7_4 + a2))) (by omega) (.inr (.inr (.inr ⟨by omega, by (rw [hv0] at h1 hlr0 ⊢; exact sbI_1 (by omega))⟩))) | exact nuC_w (w := ((x7_4 + a2))) (by omega) (by have hv : ((w56)) (((x7_4 + a2)) - 1) = (v16) := (by assumption); rcases (show ((x7_4 + a2)) = 1 ∨ ((x7_4 + a2)) = 2 ∨ ((x7_4 + a2)) = 3 by omega) with q | q | q; (exact .inl ⟨q, by rw [← hv, q]; rfl⟩); (exact .inr (.inl ⟨q, by rw [← hv, q]; rfl⟩)); (exact .inr (.inr (.inl ⟨q, by rw [← hv, q]; rfl⟩))))
        refine Ew_of (pc' := 45) (fun _ => x_iload_n rfl (rk_o (l7_1) rfl rfl)) ?_
        refine w_icmpne (t := 53) rfl rfl (show inr (v16) by omega) (show inr (a1) by omega) (fun b17 => ?_) (fun b17 => ?_)
        · refine Ew_of (pc' := 54) (fun _ => x_iload_n rfl (rk_o (l7_3) rfl rfl)) ?_
          refine Ew_of (pc' := 55) (fun _ => x_istore_n rfl) ?_
          refine Ew_of (pc' := 58) (fun _ => x_iinc (len := 3) rfl (rk_o (rk_o (l7_4) rfl rfl) rfl rfl)) ?_
          refine Ew_of (pc' := 7) (fun _ => x_goto rfl rfl) ?_
          have : IMP (1 ≤ ((w56)) 0) ((x7_3) = nuG (((w56)) 0) (((w56)) 1) (((w56)) 2) ((a1)) (1 - (a2)) (((x7_4 + (-1))) + 1)) := by rw [show (((x7_4 + (-1))) + 1 : Int) = ql4 by omega, hql4]; first | exact fun h1 => (nuG_y (by omega) (by rw [hcc h1]; omega)).symm | exact fun h1 => (j7_q h1).trans (nuG_n (by omega) (by rw [hcc h1]; omega) (by omega)).symm
          exact ih7 _ (by omega) _ σ _ _ (x7_3) ((x7_4 + (-1))) (rk_o (rk_o (rk_o (l7_0) rfl rfl) rfl rfl) rfl rfl) (rk_o (rk_o (rk_o (l7_1) rfl rfl) rfl rfl) rfl rfl) (rk_o (rk_o (rk_o (l7_2) rfl rfl) rfl rfl) rfl rfl) (rk_o (rk_s) rfl rfl) (rk_s) H (hS_7) (hA_7)   (show inr (x7_3) by omega) (show inr ((x7_4 + (-1))) by omega) (show ((x7_4 + (-1))) ≤ (3) by omega) (show (3) ≤ ((x7_4 + (-1))) ∨ (0) ≤ ((x7_4 + (-1))) by omega) (show 1 ≤ (x7_3) ∧ (x7_3) ≤ (a1) + 3 by omega) (show 0 ≤ ((x7_4 + (-1))) ∧ ((x7_4 + (-1))) ≤ 3 by omega) (show IMP (1 ≤ ((w56)) 0) ((x7_3) = nuG (((w56)) 0) (((w56)) 1) (((w56)) 2) ((a1)) (1 - (a2)) (((x7_4 + (-1))) + 1)) by assumption) rfl
        · refine Ew_of (pc' := 50) (fun _ => x_iload rfl (rk_o (l7_4) rfl rfl)) ?_
          refine Ew_of (pc' := 54) (fun _ => x_goto rfl rfl) ?_
          refine Ew_of (pc' := 55) (fun _ => x_istore_n rfl) ?_
          refine Ew_of (pc' := 58) (fun _ => x_iinc (len := 3) rfl (rk_o (rk_o (l7_4) rfl rfl) rfl rfl)) ?_
          refine Ew_of (pc' := 7) (fun _ => x_goto rfl rfl) ?_
          have : IMP (1 ≤ ((w56)) 0) ((x7_4) = nuG (((w56)) 0) (((w56)) 1) (((w56)) 2) ((a1)) (1 - (a2)) (((x7_4 + (-1))) + 1)) := by rw [show (((x7_4 + (-1))) + 1 : Int) = ql4 by omega, hql4]; first | exact fun h1 => (nuG_y (by omega) (by rw [hcc h1]; omega)).symm | exact fun h1 => (j7_q h1).trans (nuG_n (by omega) (by rw [hcc h1]; omega) (by omega)).symm
          exact ih7 _ (by omega) _ σ _ _ (x7_4) ((x7_4 + (-1))) (rk_o (rk_o (rk_o (l7_0) rfl rfl) rfl rfl) rfl rfl) (rk_o (rk_o (rk_o (l7_1) rfl rfl) rfl rfl) rfl rfl) (rk_o (rk_o (rk_o (l7_2) rfl rfl) rfl rfl) rfl rfl) (rk_o (rk_s) rfl rfl) (rk_s) H (hS_7) (hA_7)   (show inr (x7_4) by omega) (show inr ((x7_4 + (-1))) by omega) (show ((x7_4 + (-1))) ≤ (3) by omega) (show (3) ≤ ((x7_4 + (-1))) ∨ (0) ≤ ((x7_4 + (-1))) by omega) (show 1 ≤ (x7_4) ∧ (x7_4) ≤ (a1) + 3 by omega) (show 0 ≤ ((x7_4 + (-1))) ∧ ((x7_4 + (-1))) ≤ 3 by omega) (show IMP (1 ≤ ((w56)) 0) ((x7_4) = nuG (((w56)) 0) (((w56)) 1) (((w56)) 2) ((a1)) (1 - (a2)) (((x7_4 + (-1))) + 1)) by assumption) rfl
      · refine Ew_of (pc' := 25) (fun _ => x_aload_n rfl (rk_o (l7_0) rfl rfl)) ?_
        refine w_gT H (o := 6) (t := 56) rfl (H.perm 6 rfl) rfl rfl rfl rfl rfl rfl ?_
        refine Ew_of (pc' := 29) (fun _ => x_iconst rfl) ?_
        refine w_lI H (o := 56) (n := 3) rfl (H.perm 56 rfl) rfl rfl (H.fix 56 rfl rfl) (show 0 ≤ 0 ∧ 0 < ((3 : Nat) : Int) by omega) (by decide) (fun v18 ev18 qv18 => ?_)
        have qv18 : (-2147483648 : Int) ≤ v18 ∧ v18 ≤ 2147483647 := qv18
        have ev18 : (w56) (0) = v18 := (congrFun ((funext (hA_7 56 rfl)).trans (ew56)) (0)).symm.trans ev18
        have hv0 := ev18
        refine Ew_of (pc' := 31) (fun _ => x_iconst rfl) ?_
        refine w_isubE rfl ?_
        have g19 : inr (sbI (v18) (1)) := toI_inr _
        refine Ew_of (pc' := 44) (fun _ => x_goto rfl rfl) ?_
        have hcc : IMP (1 ≤ ((w56)) 0) (nuC (((w56)) 0) (((w56)) 1) (((w56)) 2) (1 - (a2)) ((x7_4)) = ((sbI (v18) (1)))) := fun h1 => by first | exact nuC_w (w := ((x7_4 + a2))) (by omega) (.inr (.inr (.inr ⟨by omega, by (rw [hv0] at h1 hlr0 ⊢; exact sbI_1 (by omega))⟩))) | exact nuC_w (w := ((x7_4 + a2))) (by omega) (by have hv : ((w56)) (((x7_4 + a2)) - 1) = ((sbI (v18) (1))) := (by assumption); rcases (show ((x7_4 + a2)) = 1 ∨ ((x7_4 + a2)) = 2 ∨ ((x7_4 + a2)) = 3 by omega) with q | q | q; (exact .inl ⟨q, by rw [← hv, q]; rfl⟩); (exact .inr (.inl ⟨q, by rw [← hv, q]; rfl⟩)); (exact .inr (.inr (.inl ⟨q, by rw [← hv, q]; rfl⟩))))
        refine Ew_of (pc' := 45) (fun _ => x_iload_n rfl (rk_o (l7_1) rfl rfl)) ?_
        refine w_icmpne (t := 53) rfl rfl (show inr ((sbI (v18) (1))) by omega) (show inr (a1) by omega) (fun b20 => ?_) (fun b20 => ?_)
        · refine Ew_of (pc' := 54) (fun _ => x_iload_n rfl (rk_o (l7_3) rfl rfl)) ?_
          refine Ew_of (pc' := 55) (fun _ => x_istore_n rfl) ?_
          refine Ew_of (pc' := 58) (fun _ => x_iinc (len := 3) rfl (rk_o (rk_o (l7_4) rfl rfl) rfl rfl)) ?_
          refine Ew_of (pc' := 7) (fun _ => x_goto rfl rfl) ?_
          have : IMP (1 ≤ ((w56)) 0) ((x7_3) = nuG (((w56)) 0) (((w56)) 1) (((w56)) 2) ((a1)) (1 - (a2)) (((x7_4 + (-1))) + 1)) := by rw [show (((x7_4 + (-1))) + 1 : Int) = ql4 by omega, hql4]; first | exact fun h1 => (nuG_y (by omega) (by rw [hcc h1]; omega)).symm | exact fun h1 => (j7_q h1).trans (nuG_n (by omega) (by rw [hcc h1]; omega) (by omega)).symm
          exact ih7 _ (by omega) _ σ _ _ (x7_3) ((x7_4 + (-1))) (rk_o (rk_o (rk_o (l7_0) rfl rfl) rfl rfl) rfl rfl) (rk_o (rk_o (rk_o (l7_1) rfl rfl) rfl rfl) rfl rfl) (rk_o (rk_o (rk_o (l7_2) rfl rfl) rfl rfl) rfl rfl) (rk_o (rk_s) rfl rfl) (rk_s) H (hS_7) (hA_7)   (show inr (x7_3) by omega) (show inr ((x7_4 + (-1))) by omega) (show ((x7_4 + (-1))) ≤ (3) by omega) (show (3) ≤ ((x7_4 + (-1))) ∨ (0) ≤ ((x7_4 + (-1))) by omega) (show 1 ≤ (x7_3) ∧ (x7_3) ≤ (a1) + 3 by omega) (show 0 ≤ ((x7_4 + (-1))) ∧ ((x7_4 + (-1))) ≤ 3 by omega) (show IMP (1 ≤ ((w56)) 0) ((x7_3) = nuG (((w56)) 0) (((w56)) 1) (((w56)) 2) ((a1)) (1 - (a2)) (((x7_4 + (-1))) + 1)) by assumption) rfl
        · refine Ew_of (pc' := 50) (fun _ => x_iload rfl (rk_o (l7_4) rfl rfl)) ?_
          refine Ew_of (pc' := 54) (fun _ => x_goto rfl rfl) ?_
          refine Ew_of (pc' := 55) (fun _ => x_istore_n rfl) ?_
          refine Ew_of (pc' := 58) (fun _ => x_iinc (len := 3) rfl (rk_o (rk_o (l7_4) rfl rfl) rfl rfl)) ?_
          refine Ew_of (pc' := 7) (fun _ => x_goto rfl rfl) ?_
          have : IMP (1 ≤ ((w56)) 0) ((x7_4) = nuG (((w56)) 0) (((w56)) 1) (((w56)) 2) ((a1)) (1 - (a2)) (((x7_4 + (-1))) + 1)) := by rw [show (((x7_4 + (-1))) + 1 : Int) = ql4 by omega, hql4]; first | exact fun h1 => (nuG_y (by omega) (by rw [hcc h1]; omega)).symm | exact fun h1 => (j7_q h1).trans (nuG_n (by omega) (by rw [hcc h1]; omega) (by omega)).symm
          exact ih7 _ (by omega) _ σ _ _ (x7_4) ((x7_4 + (-1))) (rk_o (rk_o (rk_o (l7_0) rfl rfl) rfl rfl) rfl rfl) (rk_o (rk_o (rk_o (l7_1) rfl rfl) rfl rfl) rfl rfl) (rk_o (rk_o (rk_o (l7_2) rfl rfl) rfl rfl) rfl rfl) (rk_o (rk_s) rfl rfl) (rk_s) H (hS_7) (hA_7)   (show inr (x7_4) by omega) (show inr ((x7_4 + (-1))) by omega) (show ((x7_4 + (-1))) ≤ (3) by omega) (show (3) ≤ ((x7_4 + (-1))) ∨ (0) ≤ ((x7_4 + (-1))) by omega) (show 1 ≤ (x7_4) ∧ (x7_4) ≤ (a1) + 3 by omega) (show 0 ≤ ((x7_4 + (-1))) ∧ ((x7_4 + (-1))) ≤ 3 by omega) (show IMP (1 ≤ ((w56)) 0) ((x7_4) = nuG (((w56)) 0) (((w56)) 1) (((w56)) 2) ((a1)) (1 - (a2)) (((x7_4 + (-1))) + 1)) by assumption) rfl
/-- Writer.tellAll -/
theorem M404 {σ0 σ : rS} {D N : Nat → Nat} {F : hF} {A : hA} {d c s : Nat} {Q : wQ} (H : HS σ0 σ D N F A)  (u6_28 : Int) (eu6_28 : F 6 28 = u6_28) (w56 : Int → Int) (ew56 : A 56 = w56) (w62 : Int → Int) (ew62 : A 62 = w62) (w63 : Int → Int) (ew63 : A 63 = w63) (w64 : Int → Int) (ew64 : A 64 = w64) (k : ∀ σ F' A', HS σ0 σ D N F' A' → SF [] F F' → SA [56, 66, 67, 68] A A' → ∀ v56 : Int → Int, A' 56 = v56 → ∀ v66 : Int → Int, A' 66 = v66 → ∀ v67 : Int → Int, A' 67 = v67 → ∀ v68 : Int → Int, A' 68 = v68 → (IMP ((1 ≤ ((w56)) 0 ∧ 1 ≤ ((w56)) 1 ∧ 1 ≤ ((w56)) 2) ∧ DGE ((w64)) ((u6_28))) (TLA ((v66)) ((v67)) ((v68)) ((w62)) ((w63)) ((w64)) (((w56)) 0, ((w56)) 1, ((w56)) 2) ((u6_28)) ((v56)))) → Q none σ c s) : Ew 404 (d + 1) 0 (rargs 0 [.ref (D 6)]) [] σ c s Q := by
  have r1 : (0 : Int) ≤ u6_28 ∧ u6_28 ≤ 8001 := by have h1 : (0 : Int) ≤ F 6 28 ∧ F 6 28 ≤ 8001 := H.frng 6 28; rw [show F 6 28 = u6_28 from (eu6_28)] at h1; exact h1
  refine Ew_of (pc' := 1) (fun _ => x_iconst rfl) ?_
  refine Ew_of (pc' := 2) (fun _ => x_istore_n rfl) ?_
  have : IMP ((1 ≤ ((w56)) 0 ∧ 1 ≤ ((w56)) 1 ∧ 1 ≤ ((w56)) 2) ∧ DGE ((w64)) ((u6_28))) (TLA ((A 66)) ((A 67)) ((A 68)) ((w62)) ((w63)) ((w64)) (((w56)) 0, ((w56)) 1, ((w56)) 2) (0) ((w56))) := fun h => ⟨TLW_0, rfl, h.1⟩
  suffices hl2 : ∀ (m : Nat), ∀ (ls : rO) (σ : rS) (F_2 : hF) (A_2 : hA) (x2_1 : Int), rlook ls 0 = some (.ref (D 6)) → rlook ls 1 = some (I (x2_1)) → HS σ0 σ D N F_2 A_2 → SF [] F F_2 → SA [56, 66, 67, 68] A A_2 → ∀ w2_56 : Int → Int, A_2 56 = w2_56 → ∀ w2_66 : Int → Int, A_2 66 = w2_66 → ∀ w2_67 : Int → Int, A_2 67 = w2_67 → ∀ w2_68 : Int → Int, A_2 68 = w2_68 → (inr (x2_1)) → ((0) ≤ (x2_1)) → ((x2_1) ≤ (0) ∨ (x2_1) ≤ ((u6_28))) → (IMP ((1 ≤ ((w56)) 0 ∧ 1 ≤ ((w56)) 1 ∧ 1 ≤ ((w56)) 2) ∧ DGE ((w64)) ((u6_28))) (TLA ((w2_66)) ((w2_67)) ((w2_68)) ((w62)) ((w63)) ((w64)) (((w56)) 0, ((w56)) 1, ((w56)) 2) ((x2_1)) ((w2_56)))) → (((u6_28)) - (x2_1)).toNat = m → Ew 404 (d + 1) 2 ls [] σ c s Q from
    hl2 _ _ σ _ _ (0) (rk_o (rfl) rfl rfl) (rk_s) H (SF_refl) (SA_refl)  (w56) (ew56) (A 66) (rfl) (A 67) (rfl) (A 68) (rfl) (show inr (0) by omega) (show (0) ≤ (0) by omega) (show (0) ≤ (0) ∨ (0) ≤ ((u6_28)) by omega) (show IMP ((1 ≤ ((w56)) 0 ∧ 1 ≤ ((w56)) 1 ∧ 1 ≤ ((w56)) 2) ∧ DGE ((w64)) ((u6_28))) (TLA ((A 66)) ((A 67)) ((A 68)) ((w62)) ((w63)) ((w64)) (((w56)) 0, ((w56)) 1, ((w56)) 2) ((0)) ((w56))) by assumption) rfl
  as_aux_lemma =>
  intro m
  induction m using Nat.strongRecOn with
  | _ m ih2 =>
    intro ls σ F_2 A_2 x2_1 l2_0 l2_1 H hS_2 hA_2  w2_56 ew2_56 w2_66 ew2_66 w2_67 ew2_67 w2_68 ew2_68 j2_0 j2_1 j2_2 j2_3 hm2
    have j2_q : IMP ((1 ≤ ((w56)) 0 ∧ 1 ≤ ((w56)) 1 ∧ 1 ≤ ((w56)) 2) ∧ DGE ((w64)) ((u6_28))) (TLA ((w2_66)) ((w2_67)) ((w2_68)) ((w62)) ((w63)) ((w64)) (((w56)) 0, ((w56)) 1, ((w56)) 2) ((x2_1)) ((w2_56))) := by assumption
    refine Ew_of (pc' := 3) (fun _ => x_iload_n rfl l2_1) ?_
    refine Ew_of (pc' := 4) (fun _ => x_aload_n rfl l2_0) ?_
    refine w_gI H (o := 6) (w := u6_28) rfl (H.perm 6 rfl) rfl rfl rfl (fun _ => rfl) ((hS_2 6 28 rfl).trans (eu6_28)) ?_
    refine w_icmpge (t := 172) rfl rfl (show inr (x2_1) by omega) (show inr (u6_28) by omega) (fun b2 => ?_) (fun b2 => ?_)
    · have : IMP ((1 ≤ ((w56)) 0 ∧ 1 ≤ ((w56)) 1 ∧ 1 ≤ ((w56)) 2) ∧ DGE ((w64)) ((u6_28))) (TLA ((w2_66)) ((w2_67)) ((w2_68)) ((w62)) ((w63)) ((w64)) (((w56)) 0, ((w56)) 1, ((w56)) 2) ((u6_28)) ((w2_56))) := fun h => by have w := j2_q h; rw [show (x2_1) = (u6_28) by omega] at w; exact w
      exact w_ret rfl (k σ _ _ H (SF_trans (SF_refl) hS_2 (any_sub rfl)) (SA_trans (SA_refl) hA_2 (any_subA rfl)) (w2_56) (ew2_56) (w2_66) (ew2_66) (w2_67) (ew2_67) (w2_68) (ew2_68) (show IMP ((1 ≤ ((w56)) 0 ∧ 1 ≤ ((w56)) 1 ∧ 1 ≤ ((w56)) 2) ∧ DGE ((w64)) ((u6_28))) (TLA ((w2_66)) ((w2_67)) ((w2_68)) ((w62)) ((w63)) ((w64)) (((w56)) 0, ((w56)) 1, ((w56)) 2) ((u6_28)) ((w2_56))) by assumption))
    · refine Ew_of (pc' := 11) (fun _ => x_iconst rfl) ?_
      refine Ew_of (pc' := 12) (fun _ => x_istore_n rfl) ?_
      refine Ew_of (pc' := 13) (fun _ => x_iconst rfl) ?_
      refine Ew_of (pc' := 14) (fun _ => x_istore_n rfl) ?_
      have : lBs 0 = 0 := by decide
      suffices hl14 : ∀ (m : Nat), ∀ (ls : rO) (σ : rS) (F_14 : hF) (A_14 : hA) (x14_2 : Int) (x14_3 : Int), rlook ls 0 = some (.ref (D 6)) → rlook ls 1 = some (I (x2_1)) → rlook ls 2 = some (I (x14_2)) → rlook ls 3 = some (I (x14_3)) → HS σ0 σ D N F_14 A_14 → SF [] F_2 F_14 → SA [] A_2 A_14 → (inr (x14_2)) → (inr (x14_3)) → (0 ≤ (x14_2) ∧ (x14_2) ≤ 33) → ((x14_3) = lBs ((x14_2))) → (0 ≤ (x14_3) ∧ (x14_3) ≤ 16384) → ((x14_2) = 0 ∨ (x14_3) ≤ ((w62)) ((x2_1))) → (40 - (x14_2)).toNat = m → Ew 404 (d + 1) 14 ls [] σ c s Q from
        hl14 _ _ σ _ _ (0) (0) (rk_o (rk_o (l2_0) rfl rfl) rfl rfl) (rk_o (rk_o (l2_1) rfl rfl) rfl rfl) (rk_o (rk_s) rfl rfl) (rk_s) H (SF_refl) (SA_refl)   (show inr (0) by omega) (show inr (0) by omega) (show 0 ≤ (0) ∧ (0) ≤ 33 by omega) (show (0) = lBs ((0)) by omega) (show 0 ≤ (0) ∧ (0) ≤ 16384 by omega) (show (0) = 0 ∨ (0) ≤ ((w62)) ((x2_1)) by omega) rfl
      as_aux_lemma =>
      intro m
      induction m using Nat.strongRecOn with
      | _ m ih14 =>
        intro ls σ F_14 A_14 x14_2 x14_3 l14_0 l14_1 l14_2 l14_3 H hS_14 hA_14   j14_0 j14_1 j14_2 j14_3 j14_4 j14_5 hm14
        have hls := lBs_s (s := (x14_2)) (by omega) (by omega)
        refine Ew_of (pc' := 15) (fun _ => x_iload_n rfl l14_3) ?_
        refine Ew_of (pc' := 16) (fun _ => x_iconst rfl) ?_
        refine Ew_of (pc' := 17) (fun _ => x_iload_n rfl l14_2) ?_
        refine w_stat24 rfl rfl (by rfl) (M401 H (show inr (x14_2) by omega) (show 0 ≤ (x14_2) ∧ (x14_2) ≤ 35 by omega) (fun z7 σ F3 A4 H hS5 hA6 pz7_0 pz7_1 pz7_2 => ⟨rfl, ?_⟩))
        have hz : p2 ((z7)) = p2 (lB ((x14_2))) := by rw [pz7_2]
        have : p2 ((z7)) ≤ p2 16 := p2_mono (by omega)
        have : p2 16 = 65536 := by decide
        have := p2_pos ((z7))
        refine w_ishl1 rfl (show 0 ≤ z7 ∧ z7 ≤ 31 by omega) ?_
        refine w_iadd rfl ?_
        refine Ew_of (pc' := 23) (fun _ => x_aload_n rfl l14_0) ?_
        refine w_gT H (o := 6) (t := 62) rfl (H.perm 6 rfl) rfl rfl rfl rfl rfl rfl ?_
        refine Ew_of (pc' := 27) (fun _ => x_iload_n rfl l14_1) ?_
        refine w_lI H (o := 62) (n := 8001) rfl (H.perm 62 rfl) rfl rfl (H.fix 62 rfl rfl) (show 0 ≤ x2_1 ∧ x2_1 < ((8001 : Nat) : Int) by omega) (by decide) (fun v9 ev9 qv9 => ?_)
        have qv9 : (0 : Int) ≤ v9 ∧ v9 ≤ 16384 := qv9
        have ev9 : (w62) (x2_1) = v9 := (congrFun ((funext (hA6 62 rfl)).trans ((funext (hA_14 62 rfl)).trans ((funext (hA_2 62 rfl)).trans (ew62)))) (x2_1)).symm.trans ev9
        have hlb := ev9
        refine w_icmpgt (t := 46) rfl rfl (show inr ((x14_3 + p2 (z7))) by omega) (show inr (v9) by omega) (fun b10 => ?_) (fun b10 => ?_)
        · have ha0 : (x14_2) = gsB lBs (((w62)) ((x2_1))) 36 := gsB_l (by omega) (by omega) (by omega)
          obtain ⟨qs0, hqs0⟩ : ∃ q : Int, q = (x14_2) := ⟨_, rfl⟩
          obtain ⟨qb0, hqb0⟩ : ∃ q : Int, q = (x14_3) := ⟨_, rfl⟩
          have hqbl : qb0 = lBs qs0 := by rw [hqs0]; omega
          have ha0q : qs0 = gsB lBs (((w62)) ((x2_1))) 36 := hqs0.trans ha0
          refine Ew_of (pc' := 47) (fun _ => x_aload_n rfl l14_0) ?_
          refine Ew_of (pc' := 48) (fun _ => x_iconst rfl) ?_
          refine Ew_of (pc' := 49) (fun _ => x_iload_n rfl l14_1) ?_
          refine Ew_of (pc' := 50) (fun _ => x_iload_n rfl l14_2) ?_
          refine Ew_of (pc' := 51) (fun _ => x_iload_n rfl l14_2) ?_
          refine w_stat24 rfl rfl (by rfl) (M401 H (show inr (x14_2) by omega) (show 0 ≤ (x14_2) ∧ (x14_2) ≤ 35 by omega) (fun z15 σ F11 A12 H hS13 hA14 pz15_0 pz15_1 pz15_2 => ⟨rfl, ?_⟩))
          have hm0 : (z15) = lB qs0 := by rw [hqs0]; exact pz15_2
          refine Ew_of (pc' := 55) (fun _ => x_aload_n rfl l14_0) ?_
          refine w_gT H (o := 6) (t := 62) rfl (H.perm 6 rfl) rfl rfl rfl rfl rfl rfl ?_
          refine Ew_of (pc' := 59) (fun _ => x_iload_n rfl l14_1) ?_
          refine w_lI H (o := 62) (n := 8001) rfl (H.perm 62 rfl) rfl rfl (H.fix 62 rfl rfl) (show 0 ≤ x2_1 ∧ x2_1 < ((8001 : Nat) : Int) by omega) (by decide) (fun v16 ev16 qv16 => ?_)
          have qv16 : (0 : Int) ≤ v16 ∧ v16 ≤ 16384 := qv16
          have ev16 : (w62) (x2_1) = v16 := (congrFun ((funext (hA14 62 rfl)).trans ((funext (hA6 62 rfl)).trans ((funext (hA_14 62 rfl)).trans ((funext (hA_2 62 rfl)).trans (ew62))))) (x2_1)).symm.trans ev16
          have hlw := ev16
          refine Ew_of (pc' := 61) (fun _ => x_iload_n rfl l14_3) ?_
          refine w_isub rfl ?_
          have hx0 : ((v16 - x14_3)) = ((w62)) ((x2_1)) - lBs qs0 := by rw [hlw]; omega
          have hm0b : (z15) = lB qs0 := by omega
          have hs0b : (x14_2) = qs0 := by omega
          refine w_inv H (o := 6) rfl rfl rfl (H.perm 6 rfl) rfl rfl (by rfl) (M403 H (w2_66) ((funext (hA14 66 rfl)).trans ((funext (hA6 66 rfl)).trans ((funext (hA_14 66 rfl)).trans (ew2_66)))) (w2_67) ((funext (hA14 67 rfl)).trans ((funext (hA6 67 rfl)).trans ((funext (hA_14 67 rfl)).trans (ew2_67)))) (w2_68) ((funext (hA14 68 rfl)).trans ((funext (hA6 68 rfl)).trans ((funext (hA_14 68 rfl)).trans (ew2_68)))) (show inr (0) by omega) (show inr (x2_1) by omega) (show inr (x14_2) by omega) (show inr (z15) by omega) (show inr ((v16 - x14_3)) by omega) (show 0 ≤ (0) ∧ (0) ≤ 2 ∧ 0 ≤ (x2_1) ∧ (x2_1) ≤ 8000 by omega) (show 0 ≤ (x14_2) ∧ (x14_2) ≤ 63 ∧ 0 ≤ (z15) ∧ (z15) ≤ 31 by omega) (fun σ F17 A18 H hS19 hA20 wq22 ewq23 wq24 ewq25 wq26 ewq27 pz21_0 pz21_1 pz21_2 => ⟨rfl, ?_⟩))
          have hA0 := pz21_0
          have hA1 := pz21_1
          have hA2 := pz21_2
          refine Ew_of (pc' := 66) (fun _ => x_iconst rfl) ?_
          refine Ew_of (pc' := 67) (fun _ => x_istore_n rfl) ?_
          refine Ew_of (pc' := 68) (fun _ => x_iconst rfl) ?_
          refine Ew_of (pc' := 69) (fun _ => x_istore_n rfl) ?_
          have : mBs 0 = 3 := by decide
          suffices hl69 : ∀ (m : Nat), ∀ (ls : rO) (σ : rS) (F_69 : hF) (A_69 : hA) (x69_2 : Int) (x69_3 : Int), rlook ls 0 = some (.ref (D 6)) → rlook ls 1 = some (I (x2_1)) → rlook ls 2 = some (I (x69_2)) → rlook ls 3 = some (I (x69_3)) → HS σ0 σ D N F_69 A_69 → SF [] F17 F_69 → SA [] A18 A_69 → (inr (x69_2)) → (inr (x69_3)) → (0 ≤ (x69_2) ∧ (x69_2) ≤ 49) → ((x69_3) = mBs ((x69_2))) → (0 ≤ (x69_3) ∧ (x69_3) ≤ 16384) → ((x69_2) = 0 ∨ (x69_3) ≤ ((w63)) ((x2_1))) → (60 - (x69_2)).toNat = m → Ew 404 (d + 1) 69 ls [] σ c s Q from
            hl69 _ _ σ _ _ (0) (3) (rk_o (rk_o (l14_0) rfl rfl) rfl rfl) (rk_o (rk_o (l14_1) rfl rfl) rfl rfl) (rk_o (rk_s) rfl rfl) (rk_s) H (SF_refl) (SA_refl)   (show inr (0) by omega) (show inr (3) by omega) (show 0 ≤ (0) ∧ (0) ≤ 49 by omega) (show (3) = mBs ((0)) by omega) (show 0 ≤ (3) ∧ (3) ≤ 16384 by omega) (show (0) = 0 ∨ (3) ≤ ((w63)) ((x2_1)) by omega) rfl
          as_aux_lemma =>
          intro m
          induction m using Nat.strongRecOn with
          | _ m ih69 =>
            intro ls σ F_69 A_69 x69_2 x69_3 l69_0 l69_1 l69_2 l69_3 H hS_69 hA_69   j69_0 j69_1 j69_2 j69_3 j69_4 j69_5 hm69
            have hms := mBs_s (s := (x69_2)) (by omega) (by omega)
            refine Ew_of (pc' := 70) (fun _ => x_iload_n rfl l69_3) ?_
            refine Ew_of (pc' := 71) (fun _ => x_iconst rfl) ?_
            refine Ew_of (pc' := 72) (fun _ => x_iload_n rfl l69_2) ?_
            refine w_stat24 rfl rfl (by rfl) (M402 H (show inr (x69_2) by omega) (show 0 ≤ (x69_2) ∧ (x69_2) ≤ 52 by omega) (fun z32 σ F28 A29 H hS30 hA31 pz32_0 pz32_1 pz32_2 => ⟨rfl, ?_⟩))
            have hz : p2 ((z32)) = p2 (mB ((x69_2))) := by rw [pz32_2]
            have : p2 ((z32)) ≤ p2 16 := p2_mono (by omega)
            have : p2 16 = 65536 := by decide
            have := p2_pos ((z32))
            refine w_ishl1 rfl (show 0 ≤ z32 ∧ z32 ≤ 31 by omega) ?_
            refine w_iadd rfl ?_
            refine Ew_of (pc' := 78) (fun _ => x_aload_n rfl l69_0) ?_
            refine w_gT H (o := 6) (t := 63) rfl (H.perm 6 rfl) rfl rfl rfl rfl rfl rfl ?_
            refine Ew_of (pc' := 82) (fun _ => x_iload_n rfl l69_1) ?_
            refine w_lI H (o := 63) (n := 8001) rfl (H.perm 63 rfl) rfl rfl (H.fix 63 rfl rfl) (show 0 ≤ x2_1 ∧ x2_1 < ((8001 : Nat) : Int) by omega) (by decide) (fun v34 ev34 qv34 => ?_)
            have qv34 : (0 : Int) ≤ v34 ∧ v34 ≤ 16384 := qv34
            have ev34 : (w63) (x2_1) = v34 := (congrFun ((funext (hA31 63 rfl)).trans ((funext (hA_69 63 rfl)).trans ((funext (hA20 63 rfl)).trans ((funext (hA14 63 rfl)).trans ((funext (hA6 63 rfl)).trans ((funext (hA_14 63 rfl)).trans ((funext (hA_2 63 rfl)).trans (ew63)))))))) (x2_1)).symm.trans ev34
            have hmb := ev34
            refine w_icmpgt (t := 101) rfl rfl (show inr ((x69_3 + p2 (z32))) by omega) (show inr (v34) by omega) (fun b35 => ?_) (fun b35 => ?_)
            · have hb0 : (x69_2) = gsB mBs (((w63)) ((x2_1))) 53 := gsB_m (by omega) (by omega) (by omega)
              obtain ⟨qs2, hqs2⟩ : ∃ q : Int, q = (x69_2) := ⟨_, rfl⟩
              obtain ⟨qb2, hqb2⟩ : ∃ q : Int, q = (x69_3) := ⟨_, rfl⟩
              have hqbm : qb2 = mBs qs2 := by rw [hqs2]; omega
              have hb0q : qs2 = gsB mBs (((w63)) ((x2_1))) 53 := hqs2.trans hb0
              refine Ew_of (pc' := 102) (fun _ => x_aload_n rfl l69_0) ?_
              refine Ew_of (pc' := 103) (fun _ => x_iconst rfl) ?_
              refine Ew_of (pc' := 104) (fun _ => x_iload_n rfl l69_1) ?_
              refine Ew_of (pc' := 105) (fun _ => x_iload_n rfl l69_2) ?_
              refine Ew_of (pc' := 106) (fun _ => x_iload_n rfl l69_2) ?_
              refine w_stat24 rfl rfl (by rfl) (M402 H (show inr (x69_2) by omega) (show 0 ≤ (x69_2) ∧ (x69_2) ≤ 52 by omega) (fun z40 σ F36 A37 H hS38 hA39 pz40_0 pz40_1 pz40_2 => ⟨rfl, ?_⟩))
              have hm2 : (z40) = mB qs2 := by rw [hqs2]; exact pz40_2
              refine Ew_of (pc' := 110) (fun _ => x_aload_n rfl l69_0) ?_
              refine w_gT H (o := 6) (t := 63) rfl (H.perm 6 rfl) rfl rfl rfl rfl rfl rfl ?_
              refine Ew_of (pc' := 114) (fun _ => x_iload_n rfl l69_1) ?_
              refine w_lI H (o := 63) (n := 8001) rfl (H.perm 63 rfl) rfl rfl (H.fix 63 rfl rfl) (show 0 ≤ x2_1 ∧ x2_1 < ((8001 : Nat) : Int) by omega) (by decide) (fun v41 ev41 qv41 => ?_)
              have qv41 : (0 : Int) ≤ v41 ∧ v41 ≤ 16384 := qv41
              have ev41 : (w63) (x2_1) = v41 := (congrFun ((funext (hA39 63 rfl)).trans ((funext (hA31 63 rfl)).trans ((funext (hA_69 63 rfl)).trans ((funext (hA20 63 rfl)).trans ((funext (hA14 63 rfl)).trans ((funext (hA6 63 rfl)).trans ((funext (hA_14 63 rfl)).trans ((funext (hA_2 63 rfl)).trans (ew63))))))))) (x2_1)).symm.trans ev41
              have hmw := ev41
              refine Ew_of (pc' := 116) (fun _ => x_iload_n rfl l69_3) ?_
              refine w_isub rfl ?_
              have hx2 : ((v41 - x69_3)) = ((w63)) ((x2_1)) - mBs qs2 := by rw [hmw]; omega
              have hm2b : (z40) = mB qs2 := by omega
              have hs2b : (x69_2) = qs2 := by omega
              refine w_inv H (o := 6) rfl rfl rfl (H.perm 6 rfl) rfl rfl (by rfl) (M403 H (wq22) ((funext (hA39 66 rfl)).trans ((funext (hA31 66 rfl)).trans ((funext (hA_69 66 rfl)).trans (ewq23)))) (wq24) ((funext (hA39 67 rfl)).trans ((funext (hA31 67 rfl)).trans ((funext (hA_69 67 rfl)).trans (ewq25)))) (wq26) ((funext (hA39 68 rfl)).trans ((funext (hA31 68 rfl)).trans ((funext (hA_69 68 rfl)).trans (ewq27)))) (show inr (2) by omega) (show inr (x2_1) by omega) (show inr (x69_2) by omega) (show inr (z40) by omega) (show inr ((v41 - x69_3)) by omega) (show 0 ≤ (2) ∧ (2) ≤ 2 ∧ 0 ≤ (x2_1) ∧ (x2_1) ≤ 8000 by omega) (show 0 ≤ (x69_2) ∧ (x69_2) ≤ 63 ∧ 0 ≤ (z40) ∧ (z40) ≤ 31 by omega) (fun σ F42 A43 H hS44 hA45 wq47 ewq48 wq49 ewq50 wq51 ewq52 pz46_0 pz46_1 pz46_2 => ⟨rfl, ?_⟩))
              have hB0_ := pz46_0
              have hB1_ := pz46_1
              have hB2_ := pz46_2
              refine Ew_of (pc' := 121) (fun _ => x_aload_n rfl l69_0) ?_
              refine Ew_of (pc' := 122) (fun _ => x_aload_n rfl l69_0) ?_
              refine w_gT H (o := 6) (t := 64) rfl (H.perm 6 rfl) rfl rfl rfl rfl rfl rfl ?_
              refine Ew_of (pc' := 126) (fun _ => x_iload_n rfl l69_1) ?_
              refine w_lI H (o := 64) (n := 8001) rfl (H.perm 64 rfl) rfl rfl (H.fix 64 rfl rfl) (show 0 ≤ x2_1 ∧ x2_1 < ((8001 : Nat) : Int) by omega) (by decide) (fun v53 ev53 qv53 => ?_)
              have qv53 : (0 : Int) ≤ v53 ∧ v53 ≤ 16384 := qv53
              have ev53 : (w64) (x2_1) = v53 := (congrFun ((funext (hA45 64 rfl)).trans ((funext (hA39 64 rfl)).trans ((funext (hA31 64 rfl)).trans ((funext (hA_69 64 rfl)).trans ((funext (hA20 64 rfl)).trans ((funext (hA14 64 rfl)).trans ((funext (hA6 64 rfl)).trans ((funext (hA_14 64 rfl)).trans ((funext (hA_2 64 rfl)).trans (ew64)))))))))) (x2_1)).symm.trans ev53
              have hdv := ev53
              have hdg : DGE ((w64)) ((u6_28)) → 1 ≤ ((w64)) ((x2_1)) := fun h => h _ (by omega) (by omega)
              refine Ew_of (pc' := 128) (fun _ => x_aload_n rfl l69_0) ?_
              refine w_gT H (o := 6) (t := 62) rfl (H.perm 6 rfl) rfl rfl rfl rfl rfl rfl ?_
              refine Ew_of (pc' := 132) (fun _ => x_iload_n rfl l69_1) ?_
              refine w_lI H (o := 62) (n := 8001) rfl (H.perm 62 rfl) rfl rfl (H.fix 62 rfl rfl) (show 0 ≤ x2_1 ∧ x2_1 < ((8001 : Nat) : Int) by omega) (by decide) (fun v54 ev54 qv54 => ?_)
              have qv54 : (0 : Int) ≤ v54 ∧ v54 ≤ 16384 := qv54
              have ev54 : (w62) (x2_1) = v54 := (congrFun ((funext (hA45 62 rfl)).trans ((funext (hA39 62 rfl)).trans ((funext (hA31 62 rfl)).trans ((funext (hA_69 62 rfl)).trans ((funext (hA20 62 rfl)).trans ((funext (hA14 62 rfl)).trans ((funext (hA6 62 rfl)).trans ((funext (hA_14 62 rfl)).trans ((funext (hA_2 62 rfl)).trans (ew62)))))))))) (x2_1)).symm.trans ev54
              have hlv := ev54
              refine w_ifne (t := 140) rfl rfl (show inr (v54) by omega) (fun b55 => ?_) (fun b55 => ?_)
              · refine Ew_of (pc' := 141) (fun _ => x_iconst rfl) ?_
                have hli : (((w62)) ((x2_1)) = 0 ↔ (1 : Int) - (0) = 0) := by rw [hlv]; omega
                obtain ⟨qd, hqd⟩ : ∃ q : Int, q = (v53) := ⟨_, rfl⟩
                have hqd2 : qd = ((w64)) ((x2_1)) := by rw [hdv]; exact hqd
                refine w_inv H (o := 6) rfl rfl rfl (H.perm 6 rfl) rfl rfl (by rfl) (M405 H (w2_56) ((funext (hA45 56 rfl)).trans ((funext (hA39 56 rfl)).trans ((funext (hA31 56 rfl)).trans ((funext (hA_69 56 rfl)).trans ((funext (hA20 56 rfl)).trans ((funext (hA14 56 rfl)).trans ((funext (hA6 56 rfl)).trans ((funext (hA_14 56 rfl)).trans (ew2_56))))))))) (show inr (v53) by omega) (show inr (0) by omega) (show 0 ≤ (v53) ∧ (v53) ≤ 16384 ∧ 0 ≤ (0) ∧ (0) ≤ 1 by omega) (fun z60 σ F56 A57 H hS58 hA59 wq61 ewq62 pz60_0 pz60_1 pz60_2 pz60_3 => ⟨rfl, ?_⟩))
                have hnr := pz60_2
                have hnl := pz60_3
                rw [← hqd] at hnr hnl
                refine Ew_of (pc' := 146) (fun _ => x_istore rfl) ?_
                obtain ⟨q4, hq4⟩ : ∃ q : Int, q = (z60) := ⟨_, rfl⟩
                rw [← hq4] at hnr
                refine Ew_of (pc' := 148) (fun _ => x_iload rfl rk_s) ?_
                refine w_stat24 rfl rfl (by rfl) (M400 H (show inr (z60) by omega) (show 1 ≤ (z60) by omega) (fun z67 σ F63 A64 H hS65 hA66 pz67_0 pz67_1 pz67_2 => ⟨rfl, ?_⟩))
                have hlg : (z67) = gsB p2 ((z60)) 31 := gsB_p (by omega) (by omega) (by omega)
                refine Ew_of (pc' := 152) (fun _ => x_istore_n rfl) ?_
                obtain ⟨qs1, hqs1⟩ : ∃ q : Int, q = (z67) := ⟨_, rfl⟩
                have hc0 : qs1 = gsB p2 q4 31 := by rw [hqs1, hq4]; exact hlg
                refine Ew_of (pc' := 153) (fun _ => x_aload_n rfl (rk_o (rk_o (l69_0) rfl rfl) rfl rfl)) ?_
                refine Ew_of (pc' := 154) (fun _ => x_iconst rfl) ?_
                refine Ew_of (pc' := 155) (fun _ => x_iload_n rfl (rk_o (rk_o (l69_1) rfl rfl) rfl rfl)) ?_
                refine Ew_of (pc' := 156) (fun _ => x_iload_n rfl rk_s) ?_
                refine Ew_of (pc' := 157) (fun _ => x_iload_n rfl rk_s) ?_
                refine Ew_of (pc' := 159) (fun _ => x_iload rfl (rk_o (rk_s) rfl rfl)) ?_
                refine Ew_of (pc' := 160) (fun _ => x_iconst rfl) ?_
                refine Ew_of (pc' := 161) (fun _ => x_iload_n rfl rk_s) ?_
                refine w_ishl1 rfl (show 0 ≤ z67 ∧ z67 ≤ 31 by omega) ?_
                refine w_isub rfl ?_
                have hx1 : ((z60 - p2 (z67))) = q4 - p2 qs1 := by rw [hqs1, hq4]
                have hm1b : (z67) = qs1 := by omega
                have hs1b : (z67) = qs1 := by omega
                refine w_inv H (o := 6) rfl rfl rfl (H.perm 6 rfl) rfl rfl (by rfl) (M403 H (wq47) ((funext (hA66 66 rfl)).trans ((funext (hA59 66 rfl)).trans (ewq48))) (wq49) ((funext (hA66 67 rfl)).trans ((funext (hA59 67 rfl)).trans (ewq50))) (wq51) ((funext (hA66 68 rfl)).trans ((funext (hA59 68 rfl)).trans (ewq52))) (show inr (1) by omega) (show inr (x2_1) by omega) (show inr (z67) by omega) (show inr (z67) by omega) (show inr ((z60 - p2 (z67))) by omega) (show 0 ≤ (1) ∧ (1) ≤ 2 ∧ 0 ≤ (x2_1) ∧ (x2_1) ≤ 8000 by omega) (show 0 ≤ (z67) ∧ (z67) ≤ 63 ∧ 0 ≤ (z67) ∧ (z67) ≤ 31 by omega) (fun σ F69 A70 H hS71 hA72 wq74 ewq75 wq76 ewq77 wq78 ewq79 pz73_0 pz73_1 pz73_2 => ⟨rfl, ?_⟩))
                have hC0 := pz73_0
                have hC1 := pz73_1
                have hC2 := pz73_2
                refine Ew_of (pc' := 169) (fun _ => x_iinc (len := 3) rfl (rk_o (rk_o (l69_1) rfl rfl) rfl rfl)) ?_
                refine Ew_of (pc' := 2) (fun _ => x_goto rfl rfl) ?_
                have : IMP ((1 ≤ ((w56)) 0 ∧ 1 ≤ ((w56)) 1 ∧ 1 ≤ ((w56)) 2) ∧ DGE ((w64)) ((u6_28))) (TLA ((wq74)) ((wq76)) ((wq78)) ((w62)) ((w63)) ((w64)) (((w56)) 0, ((w56)) 1, ((w56)) 2) (((x2_1 + 1))) ((wq61))) := fun h => by have t := j2_q h; have hd1 := hdg h.2; exact TLA_s (m0 := lB qs0) (m2 := mB qs2) (m1 := qs1) (y0 := qs0) (y2 := qs2) (y1 := qs1) t (by omega) (by omega) rfl (hA0.trans (by rw [hs0b])) (hA1.trans (by rw [hm0b])) hA2 (hB0_.trans (by rw [hs2b])) (hB1_.trans (by rw [hm2b])) hB2_ (hC0.trans (by rw [hs1b])) (hC1.trans (by rw [hm1b])) hC2 ha0q rfl hx0 hb0q rfl hx2 hqd2 hli (hnr ⟨t.2.2.1, by omega⟩).1 (hnr ⟨t.2.2.1, by omega⟩).2 (hnl ⟨t.2.2, by omega⟩) hc0 rfl hx1
                exact ih2 _ (by omega) _ σ _ _ ((x2_1 + 1)) (rk_o (rk_o (rk_o (l69_0) rfl rfl) rfl rfl) rfl rfl) (rk_s) H (SF_trans (SF_trans (SF_trans (SF_trans (SF_trans (SF_trans (SF_trans (SF_trans (SF_trans (SF_trans (SF_trans (hS_2) hS_14 (any_sub rfl)) hS5 (any_sub rfl)) hS13 (any_sub rfl)) hS19 (any_sub rfl)) hS_69 (any_sub rfl)) hS30 (any_sub rfl)) hS38 (any_sub rfl)) hS44 (any_sub rfl)) hS58 (any_sub rfl)) hS65 (any_sub rfl)) hS71 (any_sub rfl)) (SA_trans (SA_trans (SA_trans (SA_trans (SA_trans (SA_trans (SA_trans (SA_trans (SA_trans (SA_trans (SA_trans (hA_2) hA_14 (any_subA rfl)) hA6 (any_subA rfl)) hA14 (any_subA rfl)) hA20 (any_subA rfl)) hA_69 (any_subA rfl)) hA31 (any_subA rfl)) hA39 (any_subA rfl)) hA45 (any_subA rfl)) hA59 (any_subA rfl)) hA66 (any_subA rfl)) hA72 (any_subA rfl))  (wq61) ((funext (hA72 56 rfl)).trans ((funext (hA66 56 rfl)).trans (ewq62))) (wq74) (ewq75) (wq76) (ewq77) (wq78) (ewq79) (show inr ((x2_1 + 1)) by omega) (show (0) ≤ ((x2_1 + 1)) by omega) (show ((x2_1 + 1)) ≤ (0) ∨ ((x2_1 + 1)) ≤ ((u6_28)) by omega) (show IMP ((1 ≤ ((w56)) 0 ∧ 1 ≤ ((w56)) 1 ∧ 1 ≤ ((w56)) 2) ∧ DGE ((w64)) ((u6_28))) (TLA ((wq74)) ((wq76)) ((wq78)) ((w62)) ((w63)) ((w64)) (((w56)) 0, ((w56)) 1, ((w56)) 2) (((x2_1 + 1))) ((wq61))) by assumption) rfl
              · refine Ew_of (pc' := 137) (fun _ => x_iconst rfl) ?_
                refine Ew_of (pc' := 141) (fun _ => x_goto rfl rfl) ?_
                have hli : (((w62)) ((x2_1)) = 0 ↔ (1 : Int) - (1) = 0) := by rw [hlv]; omega
                obtain ⟨qd, hqd⟩ : ∃ q : Int, q = (v53) := ⟨_, rfl⟩
                have hqd2 : qd = ((w64)) ((x2_1)) := by rw [hdv]; exact hqd
                refine w_inv H (o := 6) rfl rfl rfl (H.perm 6 rfl) rfl rfl (by rfl) (M405 H (w2_56) ((funext (hA45 56 rfl)).trans ((funext (hA39 56 rfl)).trans ((funext (hA31 56 rfl)).trans ((funext (hA_69 56 rfl)).trans ((funext (hA20 56 rfl)).trans ((funext (hA14 56 rfl)).trans ((funext (hA6 56 rfl)).trans ((funext (hA_14 56 rfl)).trans (ew2_56))))))))) (show inr (v53) by omega) (show inr (1) by omega) (show 0 ≤ (v53) ∧ (v53) ≤ 16384 ∧ 0 ≤ (1) ∧ (1) ≤ 1 by omega) (fun z84 σ F80 A81 H hS82 hA83 wq85 ewq86 pz84_0 pz84_1 pz84_2 pz84_3 => ⟨rfl, ?_⟩))
                have hnr := pz84_2
                have hnl := pz84_3
                rw [← hqd] at hnr hnl
                refine Ew_of (pc' := 146) (fun _ => x_istore rfl) ?_
                obtain ⟨q4, hq4⟩ : ∃ q : Int, q = (z84) := ⟨_, rfl⟩
                rw [← hq4] at hnr
                refine Ew_of (pc' := 148) (fun _ => x_iload rfl rk_s) ?_
                refine w_stat24 rfl rfl (by rfl) (M400 H (show inr (z84) by omega) (show 1 ≤ (z84) by omega) (fun z91 σ F87 A88 H hS89 hA90 pz91_0 pz91_1 pz91_2 => ⟨rfl, ?_⟩))
                have hlg : (z91) = gsB p2 ((z84)) 31 := gsB_p (by omega) (by omega) (by omega)
                refine Ew_of (pc' := 152) (fun _ => x_istore_n rfl) ?_
                obtain ⟨qs1, hqs1⟩ : ∃ q : Int, q = (z91) := ⟨_, rfl⟩
                have hc0 : qs1 = gsB p2 q4 31 := by rw [hqs1, hq4]; exact hlg
                refine Ew_of (pc' := 153) (fun _ => x_aload_n rfl (rk_o (rk_o (l69_0) rfl rfl) rfl rfl)) ?_
                refine Ew_of (pc' := 154) (fun _ => x_iconst rfl) ?_
                refine Ew_of (pc' := 155) (fun _ => x_iload_n rfl (rk_o (rk_o (l69_1) rfl rfl) rfl rfl)) ?_
                refine Ew_of (pc' := 156) (fun _ => x_iload_n rfl rk_s) ?_
                refine Ew_of (pc' := 157) (fun _ => x_iload_n rfl rk_s) ?_
                refine Ew_of (pc' := 159) (fun _ => x_iload rfl (rk_o (rk_s) rfl rfl)) ?_
                refine Ew_of (pc' := 160) (fun _ => x_iconst rfl) ?_
                refine Ew_of (pc' := 161) (fun _ => x_iload_n rfl rk_s) ?_
                refine w_ishl1 rfl (show 0 ≤ z91 ∧ z91 ≤ 31 by omega) ?_
                refine w_isub rfl ?_
                have hx1 : ((z84 - p2 (z91))) = q4 - p2 qs1 := by rw [hqs1, hq4]
                have hm1b : (z91) = qs1 := by omega
                have hs1b : (z91) = qs1 := by omega
                refine w_inv H (o := 6) rfl rfl rfl (H.perm 6 rfl) rfl rfl (by rfl) (M403 H (wq47) ((funext (hA90 66 rfl)).trans ((funext (hA83 66 rfl)).trans (ewq48))) (wq49) ((funext (hA90 67 rfl)).trans ((funext (hA83 67 rfl)).trans (ewq50))) (wq51) ((funext (hA90 68 rfl)).trans ((funext (hA83 68 rfl)).trans (ewq52))) (show inr (1) by omega) (show inr (x2_1) by omega) (show inr (z91) by omega) (show inr (z91) by omega) (show inr ((z84 - p2 (z91))) by omega) (show 0 ≤ (1) ∧ (1) ≤ 2 ∧ 0 ≤ (x2_1) ∧ (x2_1) ≤ 8000 by omega) (show 0 ≤ (z91) ∧ (z91) ≤ 63 ∧ 0 ≤ (z91) ∧ (z91) ≤ 31 by omega) (fun σ F93 A94 H hS95 hA96 wq98 ewq99 wq100 ewq101 wq102 ewq103 pz97_0 pz97_1 pz97_2 => ⟨rfl, ?_⟩))
                have hC0 := pz97_0
                have hC1 := pz97_1
                have hC2 := pz97_2
                refine Ew_of (pc' := 169) (fun _ => x_iinc (len := 3) rfl (rk_o (rk_o (l69_1) rfl rfl) rfl rfl)) ?_
                refine Ew_of (pc' := 2) (fun _ => x_goto rfl rfl) ?_
                have : IMP ((1 ≤ ((w56)) 0 ∧ 1 ≤ ((w56)) 1 ∧ 1 ≤ ((w56)) 2) ∧ DGE ((w64)) ((u6_28))) (TLA ((wq98)) ((wq100)) ((wq102)) ((w62)) ((w63)) ((w64)) (((w56)) 0, ((w56)) 1, ((w56)) 2) (((x2_1 + 1))) ((wq85))) := fun h => by have t := j2_q h; have hd1 := hdg h.2; exact TLA_s (m0 := lB qs0) (m2 := mB qs2) (m1 := qs1) (y0 := qs0) (y2 := qs2) (y1 := qs1) t (by omega) (by omega) rfl (hA0.trans (by rw [hs0b])) (hA1.trans (by rw [hm0b])) hA2 (hB0_.trans (by rw [hs2b])) (hB1_.trans (by rw [hm2b])) hB2_ (hC0.trans (by rw [hs1b])) (hC1.trans (by rw [hm1b])) hC2 ha0q rfl hx0 hb0q rfl hx2 hqd2 hli (hnr ⟨t.2.2.1, by omega⟩).1 (hnr ⟨t.2.2.1, by omega⟩).2 (hnl ⟨t.2.2, by omega⟩) hc0 rfl hx1
                exact ih2 _ (by omega) _ σ _ _ ((x2_1 + 1)) (rk_o (rk_o (rk_o (l69_0) rfl rfl) rfl rfl) rfl rfl) (rk_s) H (SF_trans (SF_trans (SF_trans (SF_trans (SF_trans (SF_trans (SF_trans (SF_trans (SF_trans (SF_trans (SF_trans (hS_2) hS_14 (any_sub rfl)) hS5 (any_sub rfl)) hS13 (any_sub rfl)) hS19 (any_sub rfl)) hS_69 (any_sub rfl)) hS30 (any_sub rfl)) hS38 (any_sub rfl)) hS44 (any_sub rfl)) hS82 (any_sub rfl)) hS89 (any_sub rfl)) hS95 (any_sub rfl)) (SA_trans (SA_trans (SA_trans (SA_trans (SA_trans (SA_trans (SA_trans (SA_trans (SA_trans (SA_trans (SA_trans (hA_2) hA_14 (any_subA rfl)) hA6 (any_subA rfl)) hA14 (any_subA rfl)) hA20 (any_subA rfl)) hA_69 (any_subA rfl)) hA31 (any_subA rfl)) hA39 (any_subA rfl)) hA45 (any_subA rfl)) hA83 (any_subA rfl)) hA90 (any_subA rfl)) hA96 (any_subA rfl))  (wq85) ((funext (hA96 56 rfl)).trans ((funext (hA90 56 rfl)).trans (ewq86))) (wq98) (ewq99) (wq100) (ewq101) (wq102) (ewq103) (show inr ((x2_1 + 1)) by omega) (show (0) ≤ ((x2_1 + 1)) by omega) (show ((x2_1 + 1)) ≤ (0) ∨ ((x2_1 + 1)) ≤ ((u6_28)) by omega) (show IMP ((1 ≤ ((w56)) 0 ∧ 1 ≤ ((w56)) 1 ∧ 1 ≤ ((w56)) 2) ∧ DGE ((w64)) ((u6_28))) (TLA ((wq98)) ((wq100)) ((wq102)) ((w62)) ((w63)) ((w64)) (((w56)) 0, ((w56)) 1, ((w56)) 2) (((x2_1 + 1))) ((wq85))) by assumption) rfl
            · refine Ew_of (pc' := 87) (fun _ => x_iload_n rfl l69_3) ?_
              refine Ew_of (pc' := 88) (fun _ => x_iconst rfl) ?_
              refine Ew_of (pc' := 89) (fun _ => x_iload_n rfl l69_2) ?_
              refine w_stat24 rfl rfl (by rfl) (M402 H (show inr (x69_2) by omega) (show 0 ≤ (x69_2) ∧ (x69_2) ≤ 52 by omega) (fun z108 σ F104 A105 H hS106 hA107 pz108_0 pz108_1 pz108_2 => ⟨rfl, ?_⟩))
              have hz : p2 ((z108)) = p2 (mB ((x69_2))) := by rw [pz108_2]
              have : p2 ((z108)) ≤ p2 16 := p2_mono (by omega)
              have : p2 16 = 65536 := by decide
              have := p2_pos ((z108))
              refine w_ishl1 rfl (show 0 ≤ z108 ∧ z108 ≤ 31 by omega) ?_
              refine w_iadd rfl ?_
              refine Ew_of (pc' := 95) (fun _ => x_istore_n rfl) ?_
              have : (x69_2) + 1 ≤ 49 := mBs_bd (by omega) (by omega) (by omega)
              refine Ew_of (pc' := 98) (fun _ => x_iinc (len := 3) rfl (rk_o (l69_2) rfl rfl)) ?_
              refine Ew_of (pc' := 69) (fun _ => x_goto rfl rfl) ?_
              exact ih69 _ (by omega) _ σ _ _ ((x69_2 + 1)) ((x69_3 + p2 (z108))) (rk_o (rk_o (l69_0) rfl rfl) rfl rfl) (rk_o (rk_o (l69_1) rfl rfl) rfl rfl) (rk_s) (rk_o (rk_s) rfl rfl) H (SF_trans (SF_trans (hS_69) hS30 (any_sub rfl)) hS106 (any_sub rfl)) (SA_trans (SA_trans (hA_69) hA31 (any_subA rfl)) hA107 (any_subA rfl))   (show inr ((x69_2 + 1)) by omega) (show inr ((x69_3 + p2 (z108))) by omega) (show 0 ≤ ((x69_2 + 1)) ∧ ((x69_2 + 1)) ≤ 49 by omega) (show ((x69_3 + p2 (z108))) = mBs (((x69_2 + 1))) by omega) (show 0 ≤ ((x69_3 + p2 (z108))) ∧ ((x69_3 + p2 (z108))) ≤ 16384 by omega) (show ((x69_2 + 1)) = 0 ∨ ((x69_3 + p2 (z108))) ≤ ((w63)) ((x2_1)) by omega) rfl
        · refine Ew_of (pc' := 32) (fun _ => x_iload_n rfl l14_3) ?_
          refine Ew_of (pc' := 33) (fun _ => x_iconst rfl) ?_
          refine Ew_of (pc' := 34) (fun _ => x_iload_n rfl l14_2) ?_
          refine w_stat24 rfl rfl (by rfl) (M401 H (show inr (x14_2) by omega) (show 0 ≤ (x14_2) ∧ (x14_2) ≤ 35 by omega) (fun z114 σ F110 A111 H hS112 hA113 pz114_0 pz114_1 pz114_2 => ⟨rfl, ?_⟩))
          have hz : p2 ((z114)) = p2 (lB ((x14_2))) := by rw [pz114_2]
          have : p2 ((z114)) ≤ p2 16 := p2_mono (by omega)
          have : p2 16 = 65536 := by decide
          have := p2_pos ((z114))
          refine w_ishl1 rfl (show 0 ≤ z114 ∧ z114 ≤ 31 by omega) ?_
          refine w_iadd rfl ?_
          refine Ew_of (pc' := 40) (fun _ => x_istore_n rfl) ?_
          have : (x14_2) + 1 ≤ 33 := lBs_bd (by omega) (by omega) (by omega)
          refine Ew_of (pc' := 43) (fun _ => x_iinc (len := 3) rfl (rk_o (l14_2) rfl rfl)) ?_
          refine Ew_of (pc' := 14) (fun _ => x_goto rfl rfl) ?_
          exact ih14 _ (by omega) _ σ _ _ ((x14_2 + 1)) ((x14_3 + p2 (z114))) (rk_o (rk_o (l14_0) rfl rfl) rfl rfl) (rk_o (rk_o (l14_1) rfl rfl) rfl rfl) (rk_s) (rk_o (rk_s) rfl rfl) H (SF_trans (SF_trans (hS_14) hS5 (any_sub rfl)) hS112 (any_sub rfl)) (SA_trans (SA_trans (hA_14) hA6 (any_subA rfl)) hA113 (any_subA rfl))   (show inr ((x14_2 + 1)) by omega) (show inr ((x14_3 + p2 (z114))) by omega) (show 0 ≤ ((x14_2 + 1)) ∧ ((x14_2 + 1)) ≤ 33 by omega) (show ((x14_3 + p2 (z114))) = lBs (((x14_2 + 1))) by omega) (show 0 ≤ ((x14_3 + p2 (z114))) ∧ ((x14_3 + p2 (z114))) ≤ 16384 by omega) (show ((x14_2 + 1)) = 0 ∨ ((x14_3 + p2 (z114))) ≤ ((w62)) ((x2_1)) by omega) rfl
/-- Writer.mass -/
theorem M406 {σ0 σ : rS} {D N : Nat → Nat} {F : hF} {A : hA} {d c s : Nat} {Q : wQ} (H : HS σ0 σ D N F A) {a1 : Int} (h0 : inr (a1)) (h1 : -1 ≤ (a1)) (k : ∀ (z : Int) σ F' A', HS σ0 σ D N F' A' → SF [] F F' → SA [] A A' → (inr (z)) → ((z) = mass ((a1))) → Q (some (I z)) σ c s) : Ew 406 (d + 0) 0 (rargs 0 [I a1]) [] σ c s Q := by
  have := mass_eq ((a1))
  refine Ew_of (pc' := 1) (fun _ => x_iload_n rfl rfl) ?_
  refine w_ifge (t := 8) rfl rfl (show inr (a1) by omega) (fun b1 => ?_) (fun b1 => ?_)
  · refine Ew_of (pc' := 9) (fun _ => x_iload_n rfl rfl) ?_
    exact w_ireturn rfl (k (a1) σ _ _ H (SF_refl) (SA_refl) (show inr (a1) by omega) (show (a1) = mass (a1) by omega))
  · refine Ew_of (pc' := 5) (fun _ => x_iconst rfl) ?_
    refine Ew_of (pc' := 9) (fun _ => x_goto rfl rfl) ?_
    exact w_ireturn rfl (k (1) σ _ _ H (SF_refl) (SA_refl) (show inr (1) by omega) (show (1) = mass (a1) by omega))
