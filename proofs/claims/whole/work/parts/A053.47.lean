theorem M389 {σ0 σ : rS} {D N : Nat → Nat} {F : hF} {A : hA} {d c s : Nat} {Q : wQ} (H : HS σ0 σ D N F A) {a1 a2 : Int} (u6_35 : Int) (eu6_35 : F 6 35 = u6_35) (w69 : Int → Int) (ew69 : A 69 = w69) (h0 : inr (a1)) (h1 : inr (a2)) (h2 : 0 ≤ (a2) ∧ (a2) ≤ 31) (h3 : 0 ≤ (u6_35) ∧ (u6_35) ≤ 90000000) (k : ∀ σ Fₚ Aₚ, HS σ0 σ D N Fₚ Aₚ → SF [(6, 35)] F Fₚ → SA [69] A Aₚ → ∀ y6_35 : Int, Fₚ 6 35 = y6_35 → ∀ v69 : Int → Int, Aₚ 69 = v69 → ((y6_35) = (u6_35) + (a2)) → (IMP ((u6_35) + (a2) ≤ 192000) (MDA ((w69)) ((u6_35)) ((v69)) ((y6_35)) (btw ((a1)) ((a2))))) → Q none σ c s) : Ew 389 (d + 0) 0 (rargs 0 [.ref (D 6), I a1, I a2]) [] σ c s Q := by
  have r1 : (0 : Int) ≤ u6_35 ∧ u6_35 ≤ 100000000 := rngE (show (0 : Int) ≤ F 6 35 ∧ F 6 35 ≤ 100000000 from H.frng 6 35) (show F 6 35 = u6_35 from (eu6_35))
  refine Ew_of (pcₚ := 1) (fun _ => x_iconst rfl) ?_
  refine Ew_of (pcₚ := 2) (fun _ => x_istore_n rfl) ?_
  have : IMP ((u6_35) + (a2) ≤ 192000) (MDA ((w69)) ((u6_35)) ((w69)) ((u6_35)) (btw ((a1)) 0)) := fun _ => MDA_0
  suffices hl2 : ∀ (m : Nat), ∀ (ls : rO) (σ : rS) (F_2 : hF) (A_2 : hA) (x2_3 : Int), rlook ls 0 = some (.ref (D 6)) → rlook ls 1 = some (I (a1)) → rlook ls 2 = some (I (a2)) → rlook ls 3 = some (I (x2_3)) → HS σ0 σ D N F_2 A_2 → SF [(6, 35)] F F_2 → SA [69] A A_2 → ∀ y2_6_35 : Int, F_2 6 35 = y2_6_35 → ∀ w2_69 : Int → Int, A_2 69 = w2_69 → (inr (x2_3)) → ((0) ≤ (x2_3)) → ((x2_3) ≤ (0) ∨ (x2_3) ≤ ((a2))) → ((y2_6_35) = (u6_35) + (x2_3)) → (IMP ((u6_35) + (a2) ≤ 192000) (MDA ((w69)) ((u6_35)) ((w2_69)) ((y2_6_35)) (btw ((a1)) ((x2_3))))) → (((a2)) - (x2_3)).toNat = m → Ew 389 (d + 0) 2 ls [] σ c s Q from
    hl2 _ _ σ _ _ (0) (rk_o (rfl) rfl rfl) (rk_o (rfl) rfl rfl) (rk_o (rfl) rfl rfl) (rk_s) H (SF_refl) (SA_refl) (u6_35) ((eu6_35)) (w69) (ew69) (show inr (0) from q_2) (show (0) ≤ (0) from q_1) (show (0) ≤ (0) ∨ (0) ≤ ((a2)) from q_5) (show (u6_35) = (u6_35) + (0) from q_365) (show IMP ((u6_35) + (a2) ≤ 192000) (MDA ((w69)) ((u6_35)) ((w69)) ((u6_35)) (btw ((a1)) ((0)))) by assumption) rfl
  as_aux_lemma =>
  intro m
  induction m using Nat.strongRecOn with
  | _ m ih2 =>
    intro ls σ F_2 A_2 x2_3 l2_0 l2_1 l2_2 l2_3 H hS_2 hA_2 y2_6_35 ey2_6_35 w2_69 ew2_69 j2_0 j2_1 j2_2 j2_3 j2_4 hm2
    have r2 : (0 : Int) ≤ y2_6_35 ∧ y2_6_35 ≤ 100000000 := rngE (show (0 : Int) ≤ F_2 6 35 ∧ F_2 6 35 ≤ 100000000 from H.frng 6 35) (show F_2 6 35 = y2_6_35 from (ey2_6_35))
    have j2_q : IMP ((u6_35) + (a2) ≤ 192000) (MDA ((w69)) ((u6_35)) ((w2_69)) ((y2_6_35)) (btw ((a1)) ((x2_3)))) := j2_4
    refine Ew_of (pcₚ := 3) (fun _ => x_iload_n rfl l2_3) ?_
    refine Ew_of (pcₚ := 4) (fun _ => x_iload_n rfl l2_2) ?_
    refine w_icmpge (t := 70) rfl rfl (show inr (x2_3) from j2_0) (show inr (a2) from h1) (fun b3 => ?_) (fun b3 => ?_)
    · have : IMP ((u6_35) + (a2) ≤ 192000) (MDA ((w69)) ((u6_35)) ((w2_69)) ((y2_6_35)) (btw ((a1)) ((a2)))) := fun q => by rw [show (a2) = (x2_3) by omega]; exact j2_q (by omega)
      exact w_ret rfl (k σ _ _ H (SF_trans (SF_refl) hS_2 (any_sub rfl)) (SA_trans (SA_refl) hA_2 (any_subA rfl)) (y2_6_35) ((ey2_6_35)) (w2_69) (ew2_69) (show (y2_6_35) = (u6_35) + a2 from q_1982 b3 h2 j2_2 j2_3) (show IMP ((u6_35) + a2 ≤ 192000) (MDA ((w69)) ((u6_35)) ((w2_69)) ((y2_6_35)) (btw (a1) (a2))) by assumption))
    · refine Ew_of (pcₚ := 8) (fun _ => x_aload_n rfl l2_0) ?_
      refine w_gI H (o := 6) (w := y2_6_35) rfl (H.perm 6 rfl) rfl rfl rfl (fun _ => rfl) (ey2_6_35) ?_
      refine Ew_of (pcₚ := 13) (fun _ => x_ldc (z := 192000) rfl (by decide)) ?_
      refine w_icmpge (t := 54) rfl rfl (show inr (y2_6_35) from q_1984 r2) (show inr (192000) from q_1983) (fun b4 => ?_) (fun b4 => ?_)
      · refine Ew_of (pcₚ := 55) (fun _ => x_aload_n rfl l2_0) ?_
        refine Ew_of (pcₚ := 56) (fun _ => x_dup rfl rfl) ?_
        refine w_gI H (o := 6) (w := y2_6_35) rfl (H.perm 6 rfl) rfl rfl rfl (fun _ => rfl) (ey2_6_35) ?_
        refine Ew_of (pcₚ := 60) (fun _ => x_iconst rfl) ?_
        refine w_iadd rfl ?_
        refine w_pI H (o := 6) rfl rfl (H.perm 6 rfl) rfl rfl rfl (fun _ => rfl) rfl (show (0 : Int) ≤ (y2_6_35 + 1) ∧ (y2_6_35 + 1) ≤ 100000000 by omega) (fun σ H => ?_)
        refine Ew_of (pcₚ := 67) (fun _ => x_iinc (len := 3) rfl (l2_3)) ?_
        refine Ew_of (pcₚ := 2) (fun _ => x_goto rfl rfl) ?_
        have : IMP ((u6_35) + (a2) ≤ 192000) (MDA ((w69)) ((u6_35)) ((w2_69)) (((y2_6_35 + 1))) (btw ((a1)) (((x2_3 + 1))))) := by first | exact fun q => MDA_p (j2_q q) (MDA_1 rfl (hzz trivial) (by omega) (by omega) (by omega)) (by omega) rfl | exact fun q => absurd q (by omega)
        exact ih2 _ (by omega) _ σ _ _ ((x2_3 + 1)) (rk_o (l2_0) rfl rfl) (rk_o (l2_1) rfl rfl) (rk_o (l2_2) rfl rfl) (rk_s) H (SF_upd (hS_2) rfl) (hA_2) ((y2_6_35 + 1)) (rfl) (w2_69) (ew2_69) (show inr ((x2_3 + 1)) from q_1386 b3 h2 j2_1) (show (0) ≤ ((x2_3 + 1)) from q_14 j2_1) (show ((x2_3 + 1)) ≤ (0) ∨ ((x2_3 + 1)) ≤ ((a2)) from q_13 b3) (show ((y2_6_35 + 1)) = (u6_35) + ((x2_3 + 1)) from q_541 j2_3) (show IMP ((u6_35) + (a2) ≤ 192000) (MDA ((w69)) ((u6_35)) ((w2_69)) (((y2_6_35 + 1))) (btw ((a1)) (((x2_3 + 1))))) by assumption) rfl
      · refine Ew_of (pcₚ := 17) (fun _ => x_aload_n rfl l2_0) ?_
        refine w_gT H (o := 6) (t := 69) rfl (H.perm 6 rfl) rfl rfl rfl rfl rfl rfl ?_
        refine Ew_of (pcₚ := 21) (fun _ => x_aload_n rfl l2_0) ?_
        refine w_gI H (o := 6) (w := y2_6_35) rfl (H.perm 6 rfl) rfl rfl rfl (fun _ => rfl) (ey2_6_35) ?_
        refine Ew_of (pcₚ := 26) (fun _ => x_bipush (z := 8) rfl (by decide)) ?_
        refine w_idiv rfl (show inr (y2_6_35) ∧ 0 ≤ y2_6_35 from q_1985 b4 r2) (show inr (8) ∧ 0 < 8 from q_1054) ?_
        refine Ew_of (pcₚ := 28) (fun _ => x_aload_n rfl l2_0) ?_
        refine w_gT H (o := 6) (t := 69) rfl (H.perm 6 rfl) rfl rfl rfl rfl rfl rfl ?_
        refine Ew_of (pcₚ := 32) (fun _ => x_aload_n rfl l2_0) ?_
        refine w_gI H (o := 6) (w := y2_6_35) rfl (H.perm 6 rfl) rfl rfl rfl (fun _ => rfl) (ey2_6_35) ?_
        refine Ew_of (pcₚ := 37) (fun _ => x_bipush (z := 8) rfl (by decide)) ?_
        refine w_idiv rfl (show inr (y2_6_35) ∧ 0 ≤ y2_6_35 from q_1985 b4 r2) (show inr (8) ∧ 0 < 8 from q_1054) ?_
        refine w_lI H (o := 69) (n := 24000) rfl (H.perm 69 rfl) rfl rfl (H.fix 69 rfl rfl) (show 0 ≤ (y2_6_35 / 8) ∧ (y2_6_35 / 8) < ((24000 : Nat) : Int) from q_1986 b4 r2) (by decide) (fun v5 ev5 qv5 => ?_)
        have qv5 : (0 : Int) ≤ v5 ∧ v5 ≤ 255 := qv5
        have ev5 : (w2_69) ((y2_6_35 / 8)) = v5 := (congrFun (ew2_69) ((y2_6_35 / 8))).symm.trans ev5
        have hm := ev5
        refine Ew_of (pcₚ := 40) (fun _ => x_iload_n rfl l2_1) ?_
        refine Ew_of (pcₚ := 41) (fun _ => x_iload_n rfl l2_3) ?_
        refine w_ishrG rfl ?_
        have g6 : inr (srI (a1) (x2_3)) := toI_inr _
        refine Ew_of (pcₚ := 43) (fun _ => x_iconst rfl) ?_
        refine w_iandG rfl ?_
        have g7 : inr (andI ((srI (a1) (x2_3))) (1)) := toI_inr _
        refine Ew_of (pcₚ := 45) (fun _ => x_aload_n rfl l2_0) ?_
        refine w_gI H (o := 6) (w := y2_6_35) rfl (H.perm 6 rfl) rfl rfl rfl (fun _ => rfl) (ey2_6_35) ?_
        refine Ew_of (pcₚ := 50) (fun _ => x_bipush (z := 8) rfl (by decide)) ?_
        refine w_irem rfl (show inr (y2_6_35) ∧ 0 ≤ y2_6_35 from q_1985 b4 r2) (show inr (8) ∧ 0 < 8 from q_1054) ?_
        refine w_ishlE rfl ?_
        have g8 : inr (slI ((andI ((srI (a1) (x2_3))) (1))) ((y2_6_35 % 8))) := toI_inr _
        refine w_iorE rfl ?_
        have g9 : inr (orI (v5) ((slI ((andI ((srI (a1) (x2_3))) (1))) ((y2_6_35 % 8))))) := toI_inr _
        have hz : ((orI (v5) ((slI ((andI ((srI (a1) (x2_3))) (1))) ((y2_6_35 % 8)))))) = orI (((w2_69)) ((y2_6_35) / 8)) (slI ((a1) / p2 ((x2_3)) % 2) ((y2_6_35) % 8)) := by rw [hm, andI_1, srI_g (by omega) (by omega)]
        have hzb : (0 : Int) ≤ ((orI (v5) ((slI ((andI ((srI (a1) (x2_3))) (1))) ((y2_6_35 % 8)))))) ∧ ((orI (v5) ((slI ((andI ((srI (a1) (x2_3))) (1))) ((y2_6_35 % 8)))))) ≤ 255 := by rw [hz]; exact orI_sb (by omega) (by omega) (by omega)
        obtain ⟨qz, hqz⟩ : ∃ q : Int, q = ((orI (v5) ((slI ((andI ((srI (a1) (x2_3))) (1))) ((y2_6_35 % 8)))))) := ⟨_, rfl⟩
        rw [← hqz]
        have gqz : inr qz := by rw [hqz]; first | assumption | omega
        replace hqz : IMP True (qz = ((orI (v5) ((slI ((andI ((srI (a1) (x2_3))) (1))) ((y2_6_35 % 8))))))) := fun _ => hqz
        try clear g9
        try clear g8
        try clear g7
        try clear g6
        have hqb : 0 ≤ qz ∧ qz ≤ 255 := by rw [hqz trivial]; exact hzb
        (try clear hzb)
        have hzz : IMP True (qz = orI (((w2_69)) ((y2_6_35) / 8)) (slI ((a1) / p2 ((x2_3)) % 2) ((y2_6_35) % 8))) := fun _ => (hqz trivial).trans hz
        (try clear hz)
        refine w_sI H (o := 69) (n := 24000) rfl (H.perm 69 rfl) rfl rfl (H.fix 69 rfl rfl) (show 0 ≤ (y2_6_35 / 8) ∧ (y2_6_35 / 8) < ((24000 : Nat) : Int) from q_1986 b4 r2) (by decide) (show (0 : Int) ≤ qz ∧ qz ≤ 255 from hqb) (fun σ H => ?_)
        refine Ew_of (pcₚ := 55) (fun _ => x_aload_n rfl l2_0) ?_
        refine Ew_of (pcₚ := 56) (fun _ => x_dup rfl rfl) ?_
        refine w_gI H (o := 6) (w := y2_6_35) rfl (H.perm 6 rfl) rfl rfl rfl (fun _ => rfl) (ey2_6_35) ?_
        refine Ew_of (pcₚ := 60) (fun _ => x_iconst rfl) ?_
        refine w_iadd rfl ?_
        refine w_pI H (o := 6) rfl rfl (H.perm 6 rfl) rfl rfl rfl (fun _ => rfl) rfl (show (0 : Int) ≤ (y2_6_35 + 1) ∧ (y2_6_35 + 1) ≤ 100000000 from q_1987 b4 r2) (fun σ H => ?_)
        refine Ew_of (pcₚ := 67) (fun _ => x_iinc (len := 3) rfl (l2_3)) ?_
        refine Ew_of (pcₚ := 2) (fun _ => x_goto rfl rfl) ?_
        have : IMP ((u6_35) + (a2) ≤ 192000) (MDA ((w69)) ((u6_35)) ((upd1 (w2_69) ((y2_6_35 / 8)) (qz))) (((y2_6_35 + 1))) (btw ((a1)) (((x2_3 + 1))))) := by first | exact fun q => MDA_p (j2_q q) (MDA_1 rfl (hzz trivial) (by omega) (by omega) (by omega)) (by omega) rfl | exact fun q => absurd q (by omega)
        exact ih2 _ (by omega) _ σ _ _ ((x2_3 + 1)) (rk_o (l2_0) rfl rfl) (rk_o (l2_1) rfl rfl) (rk_o (l2_2) rfl rfl) (rk_s) H (SF_upd (hS_2) rfl) (SA_upd (hA_2) rfl) ((y2_6_35 + 1)) (rfl) (upd1 (w2_69) ((y2_6_35 / 8)) (qz)) (congrArg (fun q => upd1 q ((y2_6_35 / 8)) (qz)) (ew2_69)) (show inr ((x2_3 + 1)) from q_1386 b3 h2 j2_1) (show (0) ≤ ((x2_3 + 1)) from q_14 j2_1) (show ((x2_3 + 1)) ≤ (0) ∨ ((x2_3 + 1)) ≤ ((a2)) from q_13 b3) (show ((y2_6_35 + 1)) = (u6_35) + ((x2_3 + 1)) from q_541 j2_3) (show IMP ((u6_35) + (a2) ≤ 192000) (MDA ((w69)) ((u6_35)) ((upd1 (w2_69) ((y2_6_35 / 8)) (qz))) (((y2_6_35 + 1))) (btw ((a1)) (((x2_3 + 1))))) by assumption) rfl

theorem M390 {σ0 σ : rS} {D N : Nat → Nat} {F : hF} {A : hA} {d c s : Nat} {Q : wQ} (H : HS σ0 σ D N F A)  (u6_35 : Int) (eu6_35 : F 6 35 = u6_35) (w69 : Int → Int) (ew69 : A 69 = w69) (h0 : 0 ≤ (u6_35) ∧ (u6_35) ≤ 99000000) (k : ∀ σ Fₚ Aₚ, HS σ0 σ D N Fₚ Aₚ → SF [(6, 35)] F Fₚ → SA [] A Aₚ → ∀ y6_35 : Int, Fₚ 6 35 = y6_35 → ((u6_35) ≤ (y6_35) ∧ (y6_35) ≤ (u6_35) + 7) → (MDP ((w69)) ((u6_35)) ((w69)) ((y6_35))) → ((y6_35) % 8 = 0) → Q none σ c s) : Ew 390 (d + 0) 0 (rargs 0 [.ref (D 6)]) [] σ c s Q := by
  have r1 : (0 : Int) ≤ u6_35 ∧ u6_35 ≤ 100000000 := rngE (show (0 : Int) ≤ F 6 35 ∧ F 6 35 ≤ 100000000 from H.frng 6 35) (show F 6 35 = u6_35 from (eu6_35))
  have : MDQ ((w69)) ((u6_35)) ((u6_35)) := fun B h => MDF_0 h
  suffices hl0 : ∀ (m : Nat), ∀ (ls : rO) (σ : rS) (F_0 : hF) (A_0 : hA) , rlook ls 0 = some (.ref (D 6)) → HS σ0 σ D N F_0 A_0 → SF [(6, 35)] F F_0 → SA [] A A_0 → ∀ y0_6_35 : Int, F_0 6 35 = y0_6_35 → ((u6_35) ≤ (y0_6_35) ∧ (y0_6_35) ≤ (u6_35) + 7) → (((y0_6_35) - 1) / 8 = ((u6_35) - 1) / 8) → (MDQ ((w69)) ((u6_35)) ((y0_6_35))) → ((u6_35) + 8 - (y0_6_35)).toNat = m → Ew 390 (d + 0) 0 ls [] σ c s Q from
    hl0 _ _ σ _ _  (rfl) H (SF_refl) (SA_refl) (u6_35) ((eu6_35))  (show (u6_35) ≤ (u6_35) ∧ (u6_35) ≤ (u6_35) + 7 from q_1989) (show ((u6_35) - 1) / 8 = ((u6_35) - 1) / 8 from q_1988) (show MDQ ((w69)) ((u6_35)) ((u6_35)) by assumption) rfl
  as_aux_lemma =>
  intro m
  induction m using Nat.strongRecOn with
  | _ m ih0 =>
    intro ls σ F_0 A_0  l0_0 H hS_0 hA_0 y0_6_35 ey0_6_35  j0_0 j0_1 j0_2 hm0
    have r2 : (0 : Int) ≤ y0_6_35 ∧ y0_6_35 ≤ 100000000 := rngE (show (0 : Int) ≤ F_0 6 35 ∧ F_0 6 35 ≤ 100000000 from H.frng 6 35) (show F_0 6 35 = y0_6_35 from (ey0_6_35))
    have j0_q : MDQ ((w69)) ((u6_35)) ((y0_6_35)) := j0_2
    refine Ew_of (pcₚ := 1) (fun _ => x_aload_n rfl l0_0) ?_
    refine w_gI H (o := 6) (w := y0_6_35) rfl (H.perm 6 rfl) rfl rfl rfl (fun _ => rfl) (ey0_6_35) ?_
    refine Ew_of (pcₚ := 6) (fun _ => x_bipush (z := 8) rfl (by decide)) ?_
    refine w_irem rfl (show inr (y0_6_35) ∧ 0 ≤ y0_6_35 from q_1990 r2) (show inr (8) ∧ 0 < 8 from q_1054) ?_
    refine w_ifeq (t := 23) rfl rfl (show inr ((y0_6_35 % 8)) from q_1901) (fun b3 => ?_) (fun b3 => ?_)
    · have : MDP ((w69)) ((u6_35)) ((w69)) ((y0_6_35)) := fun B h => MDF_e (j0_q B h) (by omega)
      exact w_ret rfl (k σ _ _ H (SF_trans (SF_refl) hS_0 (any_sub rfl)) (SA_trans (SA_refl) hA_0 (any_subA rfl)) (y0_6_35) ((ey0_6_35)) (show (u6_35) ≤ (y0_6_35) ∧ (y0_6_35) ≤ (u6_35) + 7 from j0_0) (show MDP ((w69)) ((u6_35)) ((w69)) ((y0_6_35)) by assumption) (show (y0_6_35) % 8 = 0 from b3))
    · refine Ew_of (pcₚ := 11) (fun _ => x_aload_n rfl l0_0) ?_
      refine Ew_of (pcₚ := 12) (fun _ => x_dup rfl rfl) ?_
      refine w_gI H (o := 6) (w := y0_6_35) rfl (H.perm 6 rfl) rfl rfl rfl (fun _ => rfl) (ey0_6_35) ?_
      refine Ew_of (pcₚ := 16) (fun _ => x_iconst rfl) ?_
      refine w_iadd rfl ?_
      refine w_pI H (o := 6) rfl rfl (H.perm 6 rfl) rfl rfl rfl (fun _ => rfl) rfl (show (0 : Int) ≤ (y0_6_35 + 1) ∧ (y0_6_35 + 1) ≤ 100000000 by omega) (fun σ H => ?_)
      refine Ew_of (pcₚ := 0) (fun _ => x_goto rfl rfl) ?_
      have : MDQ ((w69)) ((u6_35)) (((y0_6_35 + 1))) := fun B h => MDF_s (j0_q B h) (by omega) rfl
      exact ih0 _ (by omega) _ σ _ _  (l0_0) H (SF_upd (hS_0) rfl) (hA_0) ((y0_6_35 + 1)) (rfl)  (show (u6_35) ≤ ((y0_6_35 + 1)) ∧ ((y0_6_35 + 1)) ≤ (u6_35) + 7 by omega) (show (((y0_6_35 + 1)) - 1) / 8 = ((u6_35) - 1) / 8 by omega) (show MDQ ((w69)) ((u6_35)) (((y0_6_35 + 1))) by assumption) rfl

theorem M391 {σ0 σ : rS} {D N : Nat → Nat} {F : hF} {A : hA} {d c s : Nat} {Q : wQ} (H : HS σ0 σ D N F A)  (u6_35 : Int) (eu6_35 : F 6 35 = u6_35) (w69 : Int → Int) (ew69 : A 69 = w69) (k : ∀ σ Fₚ Aₚ, HS σ0 σ D N Fₚ Aₚ → SF [(6, 35)] F Fₚ → SA [69] A Aₚ → ∀ y6_35 : Int, Fₚ 6 35 = y6_35 → ∀ v69 : Int → Int, Aₚ 69 = v69 → ((y6_35) = 0) → (IMP (MDX ((w69)) ((u6_35))) (MDB ((v69)) 0 [])) → Q none σ c s) : Ew 391 (d + 0) 0 (rargs 0 [.ref (D 6)]) [] σ c s Q := by
  have r1 : (0 : Int) ≤ u6_35 ∧ u6_35 ≤ 100000000 := rngE (show (0 : Int) ≤ F 6 35 ∧ F 6 35 ≤ 100000000 from H.frng 6 35) (show F 6 35 = u6_35 from (eu6_35))
  refine Ew_of (pcₚ := 1) (fun _ => x_iconst rfl) ?_
  refine Ew_of (pcₚ := 2) (fun _ => x_istore_n rfl) ?_
  have : ZBL ((w69)) ((w69)) 0 := ZBL_0
  suffices hl2 : ∀ (m : Nat), ∀ (ls : rO) (σ : rS) (F_2 : hF) (A_2 : hA) (x2_1 : Int), rlook ls 0 = some (.ref (D 6)) → rlook ls 1 = some (I (x2_1)) → HS σ0 σ D N F_2 A_2 → SF [] F F_2 → SA [69] A A_2 → ∀ w2_69 : Int → Int, A_2 69 = w2_69 → (inr (x2_1)) → (0 ≤ (x2_1) ∧ (x2_1) ≤ 24000) → (ZBL ((w69)) ((w2_69)) ((x2_1))) → (24000 - (x2_1)).toNat = m → Ew 391 (d + 0) 2 ls [] σ c s Q from
    hl2 _ _ σ _ _ (0) (rk_o (rfl) rfl rfl) (rk_s) H (SF_refl) (SA_refl)  (w69) (ew69) (show inr (0) from q_2) (show 0 ≤ (0) ∧ (0) ≤ 24000 from q_1993) (show ZBL ((w69)) ((w69)) ((0)) by assumption) rfl
  as_aux_lemma =>
  intro m
  induction m using Nat.strongRecOn with
  | _ m ih2 =>
    intro ls σ F_2 A_2 x2_1 l2_0 l2_1 H hS_2 hA_2  w2_69 ew2_69 j2_0 j2_1 j2_2 hm2
    have j2_q : ZBL ((w69)) ((w2_69)) ((x2_1)) := j2_2
    refine Ew_of (pcₚ := 3) (fun _ => x_iload_n rfl l2_1) ?_
    refine Ew_of (pcₚ := 6) (fun _ => x_sipush (z := 24000) rfl (by decide)) ?_
    refine w_icmpge (t := 33) rfl rfl (show inr (x2_1) from j2_0) (show inr (24000) from q_1994) (fun b2 => ?_) (fun b2 => ?_)
    · have hmx : IMP (MDX ((w69)) ((u6_35))) (MDB ((w2_69)) 0 []) := fun h => by obtain ⟨B, h⟩ := h; exact ZBL_e j2_q h (by omega)
      refine Ew_of (pcₚ := 34) (fun _ => x_aload_n rfl l2_0) ?_
      refine Ew_of (pcₚ := 35) (fun _ => x_iconst rfl) ?_
      refine w_pI H (o := 6) rfl rfl (H.perm 6 rfl) rfl rfl rfl (fun _ => rfl) rfl (show (0 : Int) ≤ 0 ∧ 0 ≤ 100000000 from q_1202) (fun σ H => ?_)
      have : IMP (MDX ((w69)) ((u6_35))) (MDB ((w2_69)) 0 []) := hmx
      exact w_ret rfl (k σ _ _ H (SF_upd (SF_trans (SF_refl) hS_2 (any_sub rfl)) rfl) (SA_trans (SA_refl) hA_2 (any_subA rfl)) (0) (rfl) (w2_69) (ew2_69) (show (0) = 0 by first | exact q_34 | omega) (hmx))
    · refine Ew_of (pcₚ := 11) (fun _ => x_bipush (z := 8) rfl (by decide)) ?_
      refine Ew_of (pcₚ := 12) (fun _ => x_iload_n rfl l2_1) ?_
      refine w_imul rfl ?_
      refine Ew_of (pcₚ := 14) (fun _ => x_aload_n rfl l2_0) ?_
      refine w_gI H (o := 6) (w := u6_35) rfl (H.perm 6 rfl) rfl rfl rfl (fun _ => rfl) ((hS_2 6 35 rfl).trans (eu6_35)) ?_
      refine w_icmpge (t := 33) rfl rfl (show inr ((8 * x2_1)) from q_1995 b2 j2_1) (show inr (u6_35) from q_1984 r1) (fun b3 => ?_) (fun b3 => ?_)
      · have hmx : IMP (MDX ((w69)) ((u6_35))) (MDB ((w2_69)) 0 []) := fun h => by obtain ⟨B, h⟩ := h; exact ZBL_e j2_q h (by omega)
        refine Ew_of (pcₚ := 34) (fun _ => x_aload_n rfl l2_0) ?_
        refine Ew_of (pcₚ := 35) (fun _ => x_iconst rfl) ?_
        refine w_pI H (o := 6) rfl rfl (H.perm 6 rfl) rfl rfl rfl (fun _ => rfl) rfl (show (0 : Int) ≤ 0 ∧ 0 ≤ 100000000 from q_1202) (fun σ H => ?_)
        have : IMP (MDX ((w69)) ((u6_35))) (MDB ((w2_69)) 0 []) := hmx
        exact w_ret rfl (k σ _ _ H (SF_upd (SF_trans (SF_refl) hS_2 (any_sub rfl)) rfl) (SA_trans (SA_refl) hA_2 (any_subA rfl)) (0) (rfl) (w2_69) (ew2_69) (show (0) = 0 by first | exact q_34 | omega) (hmx))
      · refine Ew_of (pcₚ := 21) (fun _ => x_aload_n rfl l2_0) ?_
        refine w_gT H (o := 6) (t := 69) rfl (H.perm 6 rfl) rfl rfl rfl rfl rfl rfl ?_
        refine Ew_of (pcₚ := 25) (fun _ => x_iload_n rfl l2_1) ?_
        refine Ew_of (pcₚ := 26) (fun _ => x_iconst rfl) ?_
        refine w_sI H (o := 69) (n := 24000) rfl (H.perm 69 rfl) rfl rfl (H.fix 69 rfl rfl) (show 0 ≤ x2_1 ∧ x2_1 < ((24000 : Nat) : Int) from q_1996 b2 j2_1) (by decide) (show (0 : Int) ≤ 0 ∧ 0 ≤ 255 from q_1407) (fun σ H => ?_)
        refine Ew_of (pcₚ := 30) (fun _ => x_iinc (len := 3) rfl (l2_1)) ?_
        refine Ew_of (pcₚ := 2) (fun _ => x_goto rfl rfl) ?_
        have : ZBL ((w69)) ((upd1 (w2_69) (x2_1) (0))) (((x2_1 + 1))) := ZBL_s j2_q (by omega) rfl
        exact ih2 _ (by omega) _ σ _ _ ((x2_1 + 1)) (rk_o (l2_0) rfl rfl) (rk_s) H (hS_2) (SA_upd (hA_2) rfl)  (upd1 (w2_69) (x2_1) (0)) (congrArg (fun q => upd1 q (x2_1) (0)) (ew2_69)) (show inr ((x2_1 + 1)) from q_1998 b2 j2_1) (show 0 ≤ ((x2_1 + 1)) ∧ ((x2_1 + 1)) ≤ 24000 from q_1997 b2 j2_1) (show ZBL ((w69)) ((upd1 (w2_69) (x2_1) (0))) (((x2_1 + 1))) by assumption) rfl

theorem M392 {σ0 σ : rS} {D N : Nat → Nat} {F : hF} {A : hA} {d c s : Nat} {Q : wQ} (H : HS σ0 σ D N F A) {a1 : Int} (u6_37 : Int) (eu6_37 : F 6 37 = u6_37) (w70 : Int → Int) (ew70 : A 70 = w70) (h0 : inr (a1)) (h1 : 0 ≤ (u6_37) ∧ (u6_37) ≤ 99999999) (k : ∀ σ Fₚ Aₚ, HS σ0 σ D N Fₚ Aₚ → SF [(6, 37)] F Fₚ → SA [70] A Aₚ → ∀ y6_37 : Int, Fₚ 6 37 = y6_37 → ∀ v70 : Int → Int, Aₚ 70 = v70 → ((y6_37) = (u6_37) + 1) → (QAP 65536 ((w70)) ((u6_37)) ((v70)) ((y6_37)) ([u8 ((a1))])) → Q none σ c s) : Ew 392 (d + 0) 0 (rargs 0 [.ref (D 6), I a1]) [] σ c s Q := by
  have r1 : (0 : Int) ≤ u6_37 ∧ u6_37 ≤ 100000000 := rngE (show (0 : Int) ≤ F 6 37 ∧ F 6 37 ≤ 100000000 from H.frng 6 37) (show F 6 37 = u6_37 from (eu6_37))
  refine Ew_of (pcₚ := 1) (fun _ => x_aload_n rfl rfl) ?_
  refine w_gI H (o := 6) (w := u6_37) rfl (H.perm 6 rfl) rfl rfl rfl (fun _ => rfl) (eu6_37) ?_
  refine Ew_of (pcₚ := 6) (fun _ => x_ldc (z := 65536) rfl (by decide)) ?_
  refine w_icmpge (t := 23) rfl rfl (show inr (u6_37) from q_1984 r1) (show inr (65536) from q_52) (fun b2 => ?_) (fun b2 => ?_)
  · refine Ew_of (pcₚ := 24) (fun _ => x_aload_n rfl rfl) ?_
    refine Ew_of (pcₚ := 25) (fun _ => x_dup rfl rfl) ?_
    refine w_gI H (o := 6) (w := u6_37) rfl (H.perm 6 rfl) rfl rfl rfl (fun _ => rfl) (eu6_37) ?_
    refine Ew_of (pcₚ := 29) (fun _ => x_iconst rfl) ?_
    refine w_iadd rfl ?_
    refine w_pI H (o := 6) rfl rfl (H.perm 6 rfl) rfl rfl rfl (fun _ => rfl) rfl (show (0 : Int) ≤ (u6_37 + 1) ∧ (u6_37 + 1) ≤ 100000000 from q_2001 b2 h1) (fun σ H => ?_)
    have : QAP 65536 ((w70)) ((u6_37)) ((w70)) (((u6_37 + 1))) ([u8 ((a1))]) := by first | exact QAP_iu (by omega) (hqa2 trivial) rfl | exact QAP_out (by omega) rfl
    exact w_ret rfl (k σ _ _ H (SF_upd (SF_refl) rfl) (SA_refl) ((u6_37 + 1)) (rfl) (w70) (ew70) (show ((u6_37 + 1)) = (u6_37) + 1 from q_308) (show QAP 65536 ((w70)) ((u6_37)) ((w70)) (((u6_37 + 1))) ([u8 (a1)]) by assumption))
  · refine Ew_of (pcₚ := 10) (fun _ => x_aload_n rfl rfl) ?_
    refine w_gT H (o := 6) (t := 70) rfl (H.perm 6 rfl) rfl rfl rfl rfl rfl rfl ?_
    refine Ew_of (pcₚ := 14) (fun _ => x_aload_n rfl rfl) ?_
    refine w_gI H (o := 6) (w := u6_37) rfl (H.perm 6 rfl) rfl rfl rfl (fun _ => rfl) (eu6_37) ?_
    refine Ew_of (pcₚ := 18) (fun _ => x_iload_n rfl rfl) ?_
    refine Ew_of (pcₚ := 21) (fun _ => x_sipush (z := 255) rfl (by decide)) ?_
    refine w_iandG rfl ?_
    have g3 : inr (andI (a1) (255)) := toI_inr _
    obtain ⟨qa, hqa⟩ : ∃ q : Int, q = ((andI (a1) (255))) := ⟨_, rfl⟩
    rw [← hqa]
    have gqa : inr qa := by rw [hqa]; first | assumption | omega
    replace hqa : IMP True (qa = ((andI (a1) (255)))) := fun _ => hqa
    try clear g3
    have hqa2 : qa = u8 ((a1)) := (hqa trivial).trans (andI_255 ((a1)))
    have hqr := u8_rng ((a1))
    rw [← hqa2] at hqr
    replace hqa2 : IMP True (qa = u8 ((a1))) := fun _ => hqa2
    refine w_sI H (o := 70) (n := 65536) rfl (H.perm 70 rfl) rfl rfl (H.fix 70 rfl rfl) (show 0 ≤ u6_37 ∧ u6_37 < ((65536 : Nat) : Int) from q_2002 b2 r1) (by decide) (show (0 : Int) ≤ qa ∧ qa ≤ 255 by omega) (fun σ H => ?_)
    refine Ew_of (pcₚ := 24) (fun _ => x_aload_n rfl rfl) ?_
    refine Ew_of (pcₚ := 25) (fun _ => x_dup rfl rfl) ?_
    refine w_gI H (o := 6) (w := u6_37) rfl (H.perm 6 rfl) rfl rfl rfl (fun _ => rfl) (eu6_37) ?_
    refine Ew_of (pcₚ := 29) (fun _ => x_iconst rfl) ?_
    refine w_iadd rfl ?_
    refine w_pI H (o := 6) rfl rfl (H.perm 6 rfl) rfl rfl rfl (fun _ => rfl) rfl (show (0 : Int) ≤ (u6_37 + 1) ∧ (u6_37 + 1) ≤ 100000000 from q_2003 b2 r1) (fun σ H => ?_)
    have : QAP 65536 ((w70)) ((u6_37)) ((upd1 (w70) (u6_37) (qa))) (((u6_37 + 1))) ([u8 ((a1))]) := by first | exact QAP_iu (by omega) (hqa2 trivial) rfl | exact QAP_out (by omega) rfl
    exact w_ret rfl (k σ _ _ H (SF_upd (SF_refl) rfl) (SA_upd (SA_refl) rfl) ((u6_37 + 1)) (rfl) (upd1 (w70) (u6_37) (qa)) (congrArg (fun q => upd1 q (u6_37) (qa)) (ew70)) (show ((u6_37 + 1)) = (u6_37) + 1 from q_308) (show QAP 65536 ((w70)) ((u6_37)) ((upd1 (w70) (u6_37) (qa))) (((u6_37 + 1))) ([u8 (a1)]) by assumption))

theorem M393 {σ0 σ : rS} {D N : Nat → Nat} {F : hF} {A : hA} {d c s : Nat} {Q : wQ} (H : HS σ0 σ D N F A) {a1 a2 : Int} (u6_37 : Int) (eu6_37 : F 6 37 = u6_37) (w70 : Int → Int) (ew70 : A 70 = w70) (h0 : inrJ (a1)) (h1 : inr (a2)) (h2 : 0 ≤ (a2) ∧ (a2) ≤ 8) (h3 : 0 ≤ (u6_37) ∧ (u6_37) ≤ 90000000) (k : ∀ σ Fₚ Aₚ, HS σ0 σ D N Fₚ Aₚ → SF [(6, 37)] F Fₚ → SA [70] A Aₚ → ∀ y6_37 : Int, Fₚ 6 37 = y6_37 → ∀ v70 : Int → Int, Aₚ 70 = v70 → ((y6_37) = (u6_37) + (a2)) → (QAP 65536 ((w70)) ((u6_37)) ((v70)) ((y6_37)) (nb ((a1)) ((a2)))) → Q none σ c s) : Ew 393 (d + 1) 0 (rargs 0 [.ref (D 6), J a1, I a2]) [] σ c s Q := by
  have r1 : (0 : Int) ≤ u6_37 ∧ u6_37 ≤ 100000000 := rngE (show (0 : Int) ≤ F 6 37 ∧ F 6 37 ≤ 100000000 from H.frng 6 37) (show F 6 37 = u6_37 from (eu6_37))
  refine Ew_of (pcₚ := 1) (fun _ => x_iconst rfl) ?_
  refine Ew_of (pcₚ := 3) (fun _ => x_istore rfl) ?_
  have : QAP 65536 ((w70)) ((u6_37)) ((w70)) ((u6_37)) (nb ((a1)) 0) := QAP_refl
  suffices hl3 : ∀ (m : Nat), ∀ (ls : rO) (σ : rS) (F_3 : hF) (A_3 : hA) (x3_4 : Int), rlook ls 0 = some (.ref (D 6)) → rlook ls 1 = some (J (a1)) → rlook ls 3 = some (I (a2)) → rlook ls 4 = some (I (x3_4)) → HS σ0 σ D N F_3 A_3 → SF [(6, 37)] F F_3 → SA [70] A A_3 → ∀ y3_6_37 : Int, F_3 6 37 = y3_6_37 → ∀ w3_70 : Int → Int, A_3 70 = w3_70 → (inr (x3_4)) → ((0) ≤ (x3_4)) → ((x3_4) ≤ (0) ∨ (x3_4) ≤ ((a2))) → ((y3_6_37) = (u6_37) + (x3_4)) → (QAP 65536 ((w70)) ((u6_37)) ((w3_70)) ((y3_6_37)) (nb ((a1)) ((x3_4)))) → (((a2)) - (x3_4)).toNat = m → Ew 393 (d + 1) 3 ls [] σ c s Q from
    hl3 _ _ σ _ _ (0) (rk_o (rfl) rfl rfl) (rk_o (rfl) rfl rfl) (rk_o (rfl) rfl rfl) (rk_s) H (SF_refl) (SA_refl) (u6_37) ((eu6_37)) (w70) (ew70) (show inr (0) from q_2) (show (0) ≤ (0) from q_1) (show (0) ≤ (0) ∨ (0) ≤ ((a2)) from q_5) (show (u6_37) = (u6_37) + (0) from q_365) (show QAP 65536 ((w70)) ((u6_37)) ((w70)) ((u6_37)) (nb ((a1)) ((0))) by assumption) rfl
  as_aux_lemma =>
  intro m
  induction m using Nat.strongRecOn with
  | _ m ih3 =>
    intro ls σ F_3 A_3 x3_4 l3_0 l3_1 l3_3 l3_4 H hS_3 hA_3 y3_6_37 ey3_6_37 w3_70 ew3_70 j3_0 j3_1 j3_2 j3_3 j3_4 hm3
    have r2 : (0 : Int) ≤ y3_6_37 ∧ y3_6_37 ≤ 100000000 := rngE (show (0 : Int) ≤ F_3 6 37 ∧ F_3 6 37 ≤ 100000000 from H.frng 6 37) (show F_3 6 37 = y3_6_37 from (ey3_6_37))
    have j3_q : QAP 65536 ((w70)) ((u6_37)) ((w3_70)) ((y3_6_37)) (nb ((a1)) ((x3_4))) := j3_4
    refine Ew_of (pcₚ := 5) (fun _ => x_iload rfl l3_4) ?_
    refine Ew_of (pcₚ := 6) (fun _ => x_iload_n rfl l3_3) ?_
    refine w_icmpge (t := 31) rfl rfl (show inr (x3_4) from j3_0) (show inr (a2) from h1) (fun b3 => ?_) (fun b3 => ?_)
    · have : QAP 65536 ((w70)) ((u6_37)) ((w3_70)) ((y3_6_37)) (nb ((a1)) ((a2))) := by rw [show (a2) = (x3_4) by omega]; exact j3_q
      exact w_ret rfl (k σ _ _ H (SF_trans (SF_refl) hS_3 (any_sub rfl)) (SA_trans (SA_refl) hA_3 (any_subA rfl)) (y3_6_37) ((ey3_6_37)) (w3_70) (ew3_70) (show (y3_6_37) = (u6_37) + a2 from q_505 b3 h2 j3_2 j3_3) (show QAP 65536 ((w70)) ((u6_37)) ((w3_70)) ((y3_6_37)) (nb (a1) (a2)) by assumption))
    · refine Ew_of (pcₚ := 10) (fun _ => x_aload_n rfl l3_0) ?_
      refine Ew_of (pcₚ := 11) (fun _ => x_lload_n rfl l3_1) ?_
      refine Ew_of (pcₚ := 13) (fun _ => x_bipush (z := 8) rfl (by decide)) ?_
      refine Ew_of (pcₚ := 15) (fun _ => x_iload rfl l3_4) ?_
      refine w_imul rfl ?_
      refine w_lshrE rfl ?_
      have g4 : inrJ (srJ (a1) ((8 * x3_4))) := toJ_inr _
      refine Ew_of (pcₚ := 20) (fun _ => x_ldc2 (z := 255) rfl (by decide)) ?_
      refine w_landE rfl ?_
      have g5 : inrJ (anJ ((srJ (a1) ((8 * x3_4)))) (255)) := toJ_inr _
      refine w_l2i rfl ?_
      have hby : ((anJ ((srJ (a1) ((8 * x3_4)))) (255))) = u8 ((a1) / p2 (8 * (x3_4))) := an_sr (by omega) (by omega)
      have hbr := u8_rng ((a1) / p2 (8 * (x3_4)))
      rw [← hby] at hbr
      refine w_inv H (o := 6) rfl rfl rfl (H.perm 6 rfl) rfl rfl (by rfl) (M392 H (y3_6_37) ((ey3_6_37)) (w3_70) (ew3_70) (show inr ((anJ ((srJ (a1) ((8 * x3_4)))) (255))) by omega) (show 0 ≤ (y3_6_37) ∧ (y3_6_37) ≤ 99999999 by omega) (fun σ F6 A7 H hS8 hA9 y11 ey12 wq13 ewq14 pz10_0 pz10_1 => ⟨rfl, ?_⟩))
      have r15 : (0 : Int) ≤ y11 ∧ y11 ≤ 100000000 := rngE (show (0 : Int) ≤ F6 6 37 ∧ F6 6 37 ≤ 100000000 from H.frng 6 37) (show F6 6 37 = y11 from (ey12))
      have hmk := pz10_1
      rw [u8_id hbr, hby] at hmk
      refine Ew_of (pcₚ := 28) (fun _ => x_iinc (len := 3) rfl (l3_4)) ?_
      refine Ew_of (pcₚ := 3) (fun _ => x_goto rfl rfl) ?_
      have : QAP 65536 ((w70)) ((u6_37)) ((wq13)) ((y11)) (nb ((a1)) (((x3_4 + 1)))) := by rw [nb_s (by omega) rfl]; exact QAP_trans j3_q hmk
      exact ih3 _ (msE hm3 q_16 (q_17 b3)) _ σ _ _ ((x3_4 + 1)) (rk_o (l3_0) rfl rfl) (rk_o (l3_1) rfl rfl) (rk_o (l3_3) rfl rfl) (rk_s) H (SF_trans (hS_3) hS8 (any_sub rfl)) (SA_trans (hA_3) hA9 (any_subA rfl)) (y11) ((ey12)) (wq13) (ewq14) (show inr ((x3_4 + 1)) from q_507 b3 h2 j3_1) (show (0) ≤ ((x3_4 + 1)) from q_14 j3_1) (show ((x3_4 + 1)) ≤ (0) ∨ ((x3_4 + 1)) ≤ ((a2)) from q_13 b3) (show (y11) = (u6_37) + ((x3_4 + 1)) from q_368 j3_3 pz10_0) (show QAP 65536 ((w70)) ((u6_37)) ((wq13)) ((y11)) (nb ((a1)) (((x3_4 + 1)))) by assumption) rfl

theorem M394 {σ0 σ : rS} {D N : Nat → Nat} {F : hF} {A : hA} {d c s : Nat} {Q : wQ} (H : HS σ0 σ D N F A)  (u6_35 : Int) (eu6_35 : F 6 35 = u6_35) (u6_37 : Int) (eu6_37 : F 6 37 = u6_37) (w69 : Int → Int) (ew69 : A 69 = w69) (w70 : Int → Int) (ew70 : A 70 = w70) (h0 : 0 ≤ (u6_35) ∧ (u6_35) ≤ 192000) (h1 : 0 ≤ (u6_37) ∧ (u6_37) ≤ 90000000) (k : ∀ σ Fₚ Aₚ, HS σ0 σ D N Fₚ Aₚ → SF [(6, 37)] F Fₚ → SA [70] A Aₚ → ∀ y6_37 : Int, Fₚ 6 37 = y6_37 → ∀ v70 : Int → Int, Aₚ 70 = v70 → ((y6_37) = (u6_37) + (u6_35) / 8) → (QAP 65536 ((w70)) ((u6_37)) ((v70)) ((y6_37)) (sc ((w69)) 0 ((u6_35) / 8))) → Q none σ c s) : Ew 394 (d + 1) 0 (rargs 0 [.ref (D 6)]) [] σ c s Q := by
  have r1 : (0 : Int) ≤ u6_35 ∧ u6_35 ≤ 100000000 := rngE (show (0 : Int) ≤ F 6 35 ∧ F 6 35 ≤ 100000000 from H.frng 6 35) (show F 6 35 = u6_35 from (eu6_35))
  have r2 : (0 : Int) ≤ u6_37 ∧ u6_37 ≤ 100000000 := rngE (show (0 : Int) ≤ F 6 37 ∧ F 6 37 ≤ 100000000 from H.frng 6 37) (show F 6 37 = u6_37 from (eu6_37))
  refine Ew_of (pcₚ := 1) (fun _ => x_iconst rfl) ?_
  refine Ew_of (pcₚ := 2) (fun _ => x_istore_n rfl) ?_
  have : QAP 65536 ((w70)) ((u6_37)) ((w70)) ((u6_37)) (sc ((w69)) 0 (0)) := by rw [sc_nil (Int.le_refl 0)]; exact QAP_refl
  suffices hl2 : ∀ (m : Nat), ∀ (ls : rO) (σ : rS) (F_2 : hF) (A_2 : hA) (x2_1 : Int), rlook ls 0 = some (.ref (D 6)) → rlook ls 1 = some (I (x2_1)) → HS σ0 σ D N F_2 A_2 → SF [(6, 37)] F F_2 → SA [70] A A_2 → ∀ y2_6_37 : Int, F_2 6 37 = y2_6_37 → ∀ w2_70 : Int → Int, A_2 70 = w2_70 → (inr (x2_1)) → (0 ≤ (x2_1) ∧ (x2_1) ≤ (u6_35) / 8) → ((y2_6_37) = (u6_37) + (x2_1)) → (QAP 65536 ((w70)) ((u6_37)) ((w2_70)) ((y2_6_37)) (sc ((w69)) 0 ((x2_1)))) → ((u6_35) / 8 - (x2_1)).toNat = m → Ew 394 (d + 1) 2 ls [] σ c s Q from
    hl2 _ _ σ _ _ (0) (rk_o (rfl) rfl rfl) (rk_s) H (SF_refl) (SA_refl) (u6_37) ((eu6_37)) (w70) (ew70) (show inr (0) from q_2) (show 0 ≤ (0) ∧ (0) ≤ (u6_35) / 8 from q_2004 r1) (show (u6_37) = (u6_37) + (0) from q_365) (show QAP 65536 ((w70)) ((u6_37)) ((w70)) ((u6_37)) (sc ((w69)) 0 ((0))) by assumption) rfl
  as_aux_lemma =>
  intro m
  induction m using Nat.strongRecOn with
  | _ m ih2 =>
    intro ls σ F_2 A_2 x2_1 l2_0 l2_1 H hS_2 hA_2 y2_6_37 ey2_6_37 w2_70 ew2_70 j2_0 j2_1 j2_2 j2_3 hm2
    have r3 : (0 : Int) ≤ y2_6_37 ∧ y2_6_37 ≤ 100000000 := rngE (show (0 : Int) ≤ F_2 6 37 ∧ F_2 6 37 ≤ 100000000 from H.frng 6 37) (show F_2 6 37 = y2_6_37 from (ey2_6_37))
    have j2_q : QAP 65536 ((w70)) ((u6_37)) ((w2_70)) ((y2_6_37)) (sc ((w69)) 0 ((x2_1))) := j2_3
    obtain ⟨ql1, hql1⟩ : ∃ q : Int, q = (x2_1) := ⟨_, rfl⟩
    refine Ew_of (pcₚ := 3) (fun _ => x_iload_n rfl l2_1) ?_
    refine Ew_of (pcₚ := 4) (fun _ => x_aload_n rfl l2_0) ?_
    refine w_gI H (o := 6) (w := u6_35) rfl (H.perm 6 rfl) rfl rfl rfl (fun _ => rfl) ((hS_2 6 35 rfl).trans (eu6_35)) ?_
    refine Ew_of (pcₚ := 9) (fun _ => x_bipush (z := 8) rfl (by decide)) ?_
    refine w_idiv rfl (show inr (u6_35) ∧ 0 ≤ u6_35 from q_2005 h0 r1) (show inr (8) ∧ 0 < 8 from q_1054) ?_
    refine w_icmpge (t := 29) rfl rfl (show inr (x2_1) from j2_0) (show inr ((u6_35 / 8)) from q_2006 h0 r1) (fun b4 => ?_) (fun b4 => ?_)
    · have : QAP 65536 ((w70)) ((u6_37)) ((w2_70)) ((y2_6_37)) (sc ((w69)) 0 ((u6_35) / 8)) := by rw [show (u6_35) / 8 = (x2_1) by omega]; exact j2_q
      exact w_ret rfl (k σ _ _ H (SF_trans (SF_refl) hS_2 (any_sub rfl)) (SA_trans (SA_refl) hA_2 (any_subA rfl)) (y2_6_37) ((ey2_6_37)) (w2_70) (ew2_70) (show (y2_6_37) = (u6_37) + (u6_35) / 8 from q_2007 b4 j2_1 j2_2) (show QAP 65536 ((w70)) ((u6_37)) ((w2_70)) ((y2_6_37)) (sc ((w69)) 0 ((u6_35) / 8)) by assumption))
    · refine Ew_of (pcₚ := 14) (fun _ => x_aload_n rfl l2_0) ?_
      refine Ew_of (pcₚ := 15) (fun _ => x_aload_n rfl l2_0) ?_
      refine w_gT H (o := 6) (t := 69) rfl (H.perm 6 rfl) rfl rfl rfl rfl rfl rfl ?_
      refine Ew_of (pcₚ := 19) (fun _ => x_iload_n rfl l2_1) ?_
      refine w_lI H (o := 69) (n := 24000) rfl (H.perm 69 rfl) rfl rfl (H.fix 69 rfl rfl) (show 0 ≤ x2_1 ∧ x2_1 < ((24000 : Nat) : Int) by omega) (by decide) (fun v5 ev5 qv5 => ?_)
      have qv5 : (0 : Int) ≤ v5 ∧ v5 ≤ 255 := qv5
      have ev5 : (w69) (x2_1) = v5 := (congrFun ((funext (hA_2 69 rfl)).trans (ew69)) (x2_1)).symm.trans ev5
      have hv := ev5
      refine w_inv H (o := 6) rfl rfl rfl (H.perm 6 rfl) rfl rfl (by rfl) (M392 H (y2_6_37) ((ey2_6_37)) (w2_70) (ew2_70) (show inr (v5) from q_299 qv5) (show 0 ≤ (y2_6_37) ∧ (y2_6_37) ≤ 99999999 by omega) (fun σ F6 A7 H hS8 hA9 y11 ey12 wq13 ewq14 pz10_0 pz10_1 => ⟨rfl, ?_⟩))
      have r15 : (0 : Int) ≤ y11 ∧ y11 ≤ 100000000 := rngE (show (0 : Int) ≤ F6 6 37 ∧ F6 6 37 ≤ 100000000 from H.frng 6 37) (show F6 6 37 = y11 from (ey12))
      have hmk := pz10_1
      rw [← hv] at hmk
      refine Ew_of (pcₚ := 26) (fun _ => x_iinc (len := 3) rfl (l2_1)) ?_
      refine Ew_of (pcₚ := 2) (fun _ => x_goto rfl rfl) ?_
      have : QAP 65536 ((w70)) ((u6_37)) ((wq13)) ((y11)) (sc ((w69)) 0 (((x2_1 + 1)))) := by rw [sc_snoc (b := ql1) (by omega) (by omega), hql1]; exact QAP_trans j2_q hmk
      exact ih2 _ (by omega) _ σ _ _ ((x2_1 + 1)) (rk_o (l2_0) rfl rfl) (rk_s) H (SF_trans (hS_2) hS8 (any_sub rfl)) (SA_trans (hA_2) hA9 (any_subA rfl)) (y11) ((ey12)) (wq13) (ewq14) (show inr ((x2_1 + 1)) by omega) (show 0 ≤ ((x2_1 + 1)) ∧ ((x2_1 + 1)) ≤ (u6_35) / 8 from q_2008 b4 j2_1) (show (y11) = (u6_37) + ((x2_1 + 1)) from q_368 j2_2 pz10_0) (show QAP 65536 ((w70)) ((u6_37)) ((wq13)) ((y11)) (sc ((w69)) 0 (((x2_1 + 1)))) by assumption) rfl

theorem M395 {σ0 σ : rS} {D N : Nat → Nat} {F : hF} {A : hA} {d c s : Nat} {Q : wQ} (H : HS σ0 σ D N F A)  (u6_37 : Int) (eu6_37 : F 6 37 = u6_37) (w70 : Int → Int) (ew70 : A 70 = w70) (h0 : 0 ≤ (u6_37) ∧ (u6_37) ≤ 100000000) (k : ∀ (z : Int) σ Fₚ Aₚ, HS σ0 σ D N Fₚ Aₚ → SF [(1, 3)] F Fₚ → SA [15] A Aₚ → ∀ y1_3 : Int, Fₚ 1 3 = y1_3 → ∀ v15 : Int → Int, Aₚ 15 = v15 → (inr (z)) → (-1 ≤ (z) ∧ (z) ≤ 65536) → ((z) = -1 ∧ 65536 < (u6_37) ∨ (z) = (u6_37) ∧ (u6_37) ≤ 65536 ∧ (y1_3) = (u6_37)) → (IMP ((0 : Int) ≤ (z)) (CPY ((w70)) ((v15)) (0) (0) ((u6_37)))) → Q (some (I z)) σ c s) : Ew 395 (d + 0) 0 (rargs 0 [.ref (D 6)]) [] σ c s Q := by
  have r1 : (0 : Int) ≤ u6_37 ∧ u6_37 ≤ 100000000 := rngE (show (0 : Int) ≤ F 6 37 ∧ F 6 37 ≤ 100000000 from H.frng 6 37) (show F 6 37 = u6_37 from (eu6_37))
  refine Ew_of (pcₚ := 1) (fun _ => x_aload_n rfl rfl) ?_
  refine w_gI H (o := 6) (w := u6_37) rfl (H.perm 6 rfl) rfl rfl rfl (fun _ => rfl) (eu6_37) ?_
  refine Ew_of (pcₚ := 6) (fun _ => x_ldc (z := 65536) rfl (by decide)) ?_
  refine w_icmple (t := 11) rfl rfl (show inr (u6_37) from q_1984 r1) (show inr (65536) from q_52) (fun b2 => ?_) (fun b2 => ?_)
  · refine Ew_of (pcₚ := 12) (fun _ => x_iconst rfl) ?_
    refine Ew_of (pcₚ := 13) (fun _ => x_istore_n rfl) ?_
    have : CPY ((w70)) ((A 15)) (0) (0) (0) := CPY_0
    suffices hl13 : ∀ (m : Nat), ∀ (ls : rO) (σ : rS) (F_13 : hF) (A_13 : hA) (x13_1 : Int), rlook ls 0 = some (.ref (D 6)) → rlook ls 1 = some (I (x13_1)) → HS σ0 σ D N F_13 A_13 → SF [] F F_13 → SA [15] A A_13 → ∀ w13_15 : Int → Int, A_13 15 = w13_15 → (inr (x13_1)) → ((0) ≤ (x13_1)) → ((x13_1) ≤ (0) ∨ (x13_1) ≤ ((u6_37))) → (CPY ((w70)) ((w13_15)) (0) (0) ((x13_1))) → (((u6_37)) - (x13_1)).toNat = m → Ew 395 (d + 0) 13 ls [] σ c s Q from
      hl13 _ _ σ _ _ (0) (rk_o (rfl) rfl rfl) (rk_s) H (SF_refl) (SA_refl)  (A 15) (rfl) (show inr (0) from q_2) (show (0) ≤ (0) from q_1) (show (0) ≤ (0) ∨ (0) ≤ ((u6_37)) from q_5) (show CPY ((w70)) ((A 15)) (0) (0) ((0)) by assumption) rfl
    as_aux_lemma =>
    intro m
    induction m using Nat.strongRecOn with
    | _ m ih13 =>
      intro ls σ F_13 A_13 x13_1 l13_0 l13_1 H hS_13 hA_13  w13_15 ew13_15 j13_0 j13_1 j13_2 j13_3 hm13
      have j13_c : CPY ((w70)) ((w13_15)) (0) (0) ((x13_1)) := j13_3
      refine Ew_of (pcₚ := 14) (fun _ => x_iload_n rfl l13_1) ?_
      refine Ew_of (pcₚ := 15) (fun _ => x_aload_n rfl l13_0) ?_
      refine w_gI H (o := 6) (w := u6_37) rfl (H.perm 6 rfl) rfl rfl rfl (fun _ => rfl) ((hS_13 6 37 rfl).trans (eu6_37)) ?_
      refine w_icmpge (t := 42) rfl rfl (show inr (x13_1) from j13_0) (show inr (u6_37) from q_2009 b2 r1) (fun b3 => ?_) (fun b3 => ?_)
      · refine Ew_of (pcₚ := 43) (fun _ => x_aload_n rfl l13_0) ?_
        refine w_gT H (o := 6) (t := 1) rfl (H.perm 6 rfl) rfl rfl rfl rfl rfl rfl ?_
        refine Ew_of (pcₚ := 47) (fun _ => x_aload_n rfl l13_0) ?_
        refine w_gI H (o := 6) (w := u6_37) rfl (H.perm 6 rfl) rfl rfl rfl (fun _ => rfl) ((hS_13 6 37 rfl).trans (eu6_37)) ?_
        refine w_pI H (o := 1) rfl rfl (H.perm 1 rfl) rfl rfl rfl (fun _ => rfl) rfl (show (0 : Int) ≤ u6_37 ∧ u6_37 ≤ 65536 from q_492 b2 r1) (fun σ H => ?_)
        refine Ew_of (pcₚ := 54) (fun _ => x_aload_n rfl l13_0) ?_
        refine w_gT H (o := 6) (t := 1) rfl (H.perm 6 rfl) rfl rfl rfl rfl rfl rfl ?_
        refine w_gI H (o := 1) (w := u6_37) rfl (H.perm 1 rfl) rfl rfl rfl (fun _ => rfl) rfl ?_
        have : IMP ((0 : Int) ≤ (u6_37)) (CPY ((w70)) ((w13_15)) (0) (0) ((u6_37))) := fun _ => by rw [show (u6_37) = (x13_1) by omega]; exact j13_c
        exact w_ireturn rfl (k (u6_37) σ _ _ H (SF_upd (SF_trans (SF_refl) hS_13 (any_sub rfl)) rfl) (SA_trans (SA_refl) hA_13 (any_subA rfl)) (u6_37) (rfl) (w13_15) (ew13_15) (show inr (u6_37) from q_2009 b2 r1) (show -1 ≤ (u6_37) ∧ (u6_37) ≤ 65536 from q_2010 b2 r1) (show (u6_37) = -1 ∧ 65536 < (u6_37) ∨ (u6_37) = (u6_37) ∧ (u6_37) ≤ 65536 ∧ (u6_37) = (u6_37) from q_493 b2) (show IMP ((0 : Int) ≤ (u6_37)) (CPY ((w70)) ((w13_15)) (0) (0) ((u6_37))) by assumption))
      · refine Ew_of (pcₚ := 22) (fun _ => x_aload_n rfl l13_0) ?_
        refine w_gT H (o := 6) (t := 1) rfl (H.perm 6 rfl) rfl rfl rfl rfl rfl rfl ?_
        refine w_gT H (o := 1) (t := 15) rfl (H.perm 1 rfl) rfl rfl rfl rfl rfl rfl ?_
        refine Ew_of (pcₚ := 29) (fun _ => x_iload_n rfl l13_1) ?_
        refine Ew_of (pcₚ := 30) (fun _ => x_aload_n rfl l13_0) ?_
        refine w_gT H (o := 6) (t := 70) rfl (H.perm 6 rfl) rfl rfl rfl rfl rfl rfl ?_
        refine Ew_of (pcₚ := 34) (fun _ => x_iload_n rfl l13_1) ?_
        refine w_lI H (o := 70) (n := 65536) rfl (H.perm 70 rfl) rfl rfl (H.fix 70 rfl rfl) (show 0 ≤ x13_1 ∧ x13_1 < ((65536 : Nat) : Int) from q_495 b2 b3 j13_1) (by decide) (fun v4 ev4 qv4 => ?_)
        have qv4 : (0 : Int) ≤ v4 ∧ v4 ≤ 255 := qv4
        have ev4 : (w70) (x13_1) = v4 := (congrFun ((funext (hA_13 70 rfl)).trans (ew70)) (x13_1)).symm.trans ev4
        have hv := ev4
        refine w_sI H (o := 15) (n := 65536) rfl (H.perm 15 rfl) rfl rfl (H.fix 15 rfl rfl) (show 0 ≤ x13_1 ∧ x13_1 < ((65536 : Nat) : Int) from q_495 b2 b3 j13_1) (by decide) (show (0 : Int) ≤ v4 ∧ v4 ≤ 255 from qv4) (fun σ H => ?_)
        refine Ew_of (pcₚ := 39) (fun _ => x_iinc (len := 3) rfl (l13_1)) ?_
        refine Ew_of (pcₚ := 13) (fun _ => x_goto rfl rfl) ?_
        have : CPY ((w70)) ((upd1 (w13_15) (x13_1) (v4))) (0) (0) (((x13_1 + 1))) := CPY_s j13_c hv (by omega) (by omega) rfl
        exact ih13 _ (msE hm13 q_16 (q_17 b3)) _ σ _ _ ((x13_1 + 1)) (rk_o (l13_0) rfl rfl) (rk_s) H (hS_13) (SA_upd (hA_13) rfl)  (upd1 (w13_15) (x13_1) (v4)) (congrArg (fun q => upd1 q (x13_1) (v4)) (ew13_15)) (show inr ((x13_1 + 1)) from q_496 b2 b3 j13_1) (show (0) ≤ ((x13_1 + 1)) from q_14 j13_1) (show ((x13_1 + 1)) ≤ (0) ∨ ((x13_1 + 1)) ≤ ((u6_37)) from q_13 b3) (show CPY ((w70)) ((upd1 (w13_15) (x13_1) (v4))) (0) (0) (((x13_1 + 1))) by assumption) rfl
  · refine Ew_of (pcₚ := 10) (fun _ => x_iconst rfl) ?_
    have : IMP ((0 : Int) ≤ -1) (CPY ((w70)) ((A 15)) (0) (0) ((u6_37))) := fun z => absurd z (by omega)
    have r5 : (0 : Int) ≤ F 1 3 ∧ F 1 3 ≤ 65536 := H.frng 1 3
    exact w_ireturn rfl (k ((-1)) σ _ _ H (SF_refl) (SA_refl) (F 1 3) (rfl) (A 15) (rfl) (show inr ((-1)) from q_63) (show -1 ≤ ((-1)) ∧ ((-1)) ≤ 65536 by first | exact q_2011 | omega) (show ((-1)) = -1 ∧ 65536 < (u6_37) ∨ ((-1)) = (u6_37) ∧ (u6_37) ≤ 65536 ∧ (F 1 3) = (u6_37) by first | exact q_497 b2 | omega) (show IMP ((0 : Int) ≤ ((-1))) (CPY ((w70)) ((A 15)) (0) (0) ((u6_37))) by assumption))

theorem M396 {σ0 σ : rS} {D N : Nat → Nat} {F : hF} {A : hA} {d c s : Nat} {Q : wQ} (H : HS σ0 σ D N F A) {a1 a2 a3 : Int} (w61 : Int → Int) (ew61 : A 61 = w61) (h0 : inr (a1)) (h1 : inr (a2)) (h2 : inr (a3)) (h3 : 0 ≤ (a1) ∧ (a1) < (a2) ∧ (a3) + (a2) ≤ 16384 ∧ 0 ≤ (a3)) (k : ∀ (z : Int) σ Fₚ Aₚ, HS σ0 σ D N Fₚ Aₚ → SF [] F Fₚ → SA [] A Aₚ → (inr (z)) → (0 ≤ (z) ∧ (z) ≤ (a3)) → ((z) = cpl ((w61)) ((a1)) ((a2)) ((a2) + (a3))) → Q (some (I z)) σ c s) : Ew 396 (d + 0) 0 (rargs 0 [.ref (D 6), I a1, I a2, I a3]) [] σ c s Q := by
  refine Ew_of (pcₚ := 1) (fun _ => x_iconst rfl) ?_
  refine Ew_of (pcₚ := 3) (fun _ => x_istore rfl) ?_
  have : EQB ((w61)) ((a1)) ((a2)) (0) := EQB_0
  suffices hl3 : ∀ (m : Nat), ∀ (ls : rO) (σ : rS) (F_3 : hF) (A_3 : hA) (x3_4 : Int), rlook ls 0 = some (.ref (D 6)) → rlook ls 1 = some (I (a1)) → rlook ls 2 = some (I (a2)) → rlook ls 3 = some (I (a3)) → rlook ls 4 = some (I (x3_4)) → HS σ0 σ D N F_3 A_3 → SF [] F F_3 → SA [] A A_3 → (inr (x3_4)) → ((0) ≤ (x3_4)) → ((x3_4) ≤ (0) ∨ (x3_4) ≤ ((a3))) → (EQB ((w61)) ((a1)) ((a2)) ((x3_4))) → (((a3)) - (x3_4)).toNat = m → Ew 396 (d + 0) 3 ls [] σ c s Q from
    hl3 _ _ σ _ _ (0) (rk_o (rfl) rfl rfl) (rk_o (rfl) rfl rfl) (rk_o (rfl) rfl rfl) (rk_o (rfl) rfl rfl) (rk_s) H (SF_refl) (SA_refl)   (show inr (0) from q_2) (show (0) ≤ (0) from q_1) (show (0) ≤ (0) ∨ (0) ≤ ((a3)) from q_5) (show EQB ((w61)) ((a1)) ((a2)) ((0)) by assumption) rfl
  as_aux_lemma =>
  intro m
  induction m using Nat.strongRecOn with
  | _ m ih3 =>
    intro ls σ F_3 A_3 x3_4 l3_0 l3_1 l3_2 l3_3 l3_4 H hS_3 hA_3   j3_0 j3_1 j3_2 j3_3 hm3
    have j3_q : EQB ((w61)) ((a1)) ((a2)) ((x3_4)) := j3_3
    refine Ew_of (pcₚ := 5) (fun _ => x_iload rfl l3_4) ?_
    refine Ew_of (pcₚ := 6) (fun _ => x_iload_n rfl l3_3) ?_
    refine w_icmpge (t := 36) rfl rfl (show inr (x3_4) from j3_0) (show inr (a3) from h2) (fun b1 => ?_) (fun b1 => ?_)
    · have : (x3_4) = cpl ((w61)) ((a1)) ((a2)) ((a2) + (a3)) := (cpl_is (by omega) (by omega) j3_q (by first | exact .inl (by omega) | exact .inr (by rw [hb1, hb2]; omega))).symm
      refine Ew_of (pcₚ := 38) (fun _ => x_iload rfl l3_4) ?_
      exact w_ireturn rfl (k (x3_4) σ _ _ H (SF_trans (SF_refl) hS_3 (any_sub rfl)) (SA_trans (SA_refl) hA_3 (any_subA rfl)) (show inr (x3_4) from j3_0) (show 0 ≤ (x3_4) ∧ (x3_4) ≤ a3 from q_409 h3 j3_1 j3_2) (show (x3_4) = cpl ((w61)) (a1) (a2) (a2 + a3) by assumption))
    · refine Ew_of (pcₚ := 10) (fun _ => x_aload_n rfl l3_0) ?_
      refine w_gT H (o := 6) (t := 61) rfl (H.perm 6 rfl) rfl rfl rfl rfl rfl rfl ?_
      refine Ew_of (pcₚ := 14) (fun _ => x_iload_n rfl l3_1) ?_
      refine Ew_of (pcₚ := 16) (fun _ => x_iload rfl l3_4) ?_
      refine w_iadd rfl ?_
      refine w_lI H (o := 61) (n := 16384) rfl (H.perm 61 rfl) rfl rfl (H.fix 61 rfl rfl) (show 0 ≤ (a1 + x3_4) ∧ (a1 + x3_4) < ((16384 : Nat) : Int) from q_410 b1 h3 j3_1) (by decide) (fun v2 ev2 qv2 => ?_)
      have qv2 : (0 : Int) ≤ v2 ∧ v2 ≤ 255 := qv2
      have ev2 : (w61) ((a1 + x3_4)) = v2 := (congrFun ((funext (hA_3 61 rfl)).trans (ew61)) ((a1 + x3_4))).symm.trans ev2
      refine Ew_of (pcₚ := 19) (fun _ => x_aload_n rfl l3_0) ?_
      refine w_gT H (o := 6) (t := 61) rfl (H.perm 6 rfl) rfl rfl rfl rfl rfl rfl ?_
      refine Ew_of (pcₚ := 23) (fun _ => x_iload_n rfl l3_2) ?_
      refine Ew_of (pcₚ := 25) (fun _ => x_iload rfl l3_4) ?_
      refine w_iadd rfl ?_
      refine w_lI H (o := 61) (n := 16384) rfl (H.perm 61 rfl) rfl rfl (H.fix 61 rfl rfl) (show 0 ≤ (a2 + x3_4) ∧ (a2 + x3_4) < ((16384 : Nat) : Int) from q_411 b1 h3 j3_1) (by decide) (fun v3 ev3 qv3 => ?_)
      have qv3 : (0 : Int) ≤ v3 ∧ v3 ≤ 255 := qv3
      have ev3 : (w61) ((a2 + x3_4)) = v3 := (congrFun ((funext (hA_3 61 rfl)).trans (ew61)) ((a2 + x3_4))).symm.trans ev3
      have hb1 := ev2
      have hb2 := ev3
      refine w_icmpne (t := 36) rfl rfl (show inr (v2) from q_299 qv2) (show inr (v3) from q_299 qv3) (fun b4 => ?_) (fun b4 => ?_)
      · have : (x3_4) = cpl ((w61)) ((a1)) ((a2)) ((a2) + (a3)) := (cpl_is (by omega) (by omega) j3_q (by first | exact .inl (by omega) | exact .inr (by rw [hb1, hb2]; omega))).symm
        refine Ew_of (pcₚ := 38) (fun _ => x_iload rfl l3_4) ?_
        exact w_ireturn rfl (k (x3_4) σ _ _ H (SF_trans (SF_refl) hS_3 (any_sub rfl)) (SA_trans (SA_refl) hA_3 (any_subA rfl)) (show inr (x3_4) from j3_0) (show 0 ≤ (x3_4) ∧ (x3_4) ≤ a3 from q_412 b1 j3_1) (show (x3_4) = cpl ((w61)) (a1) (a2) (a2 + a3) by assumption))
      · have : EQB ((w61)) ((a1)) ((a2)) ((x3_4) + 1) := EQB_s j3_q (by rw [hb1, hb2]; omega) rfl
        refine Ew_of (pcₚ := 33) (fun _ => x_iinc (len := 3) rfl (l3_4)) ?_
        refine Ew_of (pcₚ := 3) (fun _ => x_goto rfl rfl) ?_
        exact ih3 _ (msE hm3 q_16 (q_17 b1)) _ σ _ _ ((x3_4 + 1)) (rk_o (l3_0) rfl rfl) (rk_o (l3_1) rfl rfl) (rk_o (l3_2) rfl rfl) (rk_o (l3_3) rfl rfl) (rk_s) H (hS_3) (hA_3)   (show inr ((x3_4 + 1)) from q_413 b1 h3 j3_1) (show (0) ≤ ((x3_4 + 1)) from q_14 j3_1) (show ((x3_4 + 1)) ≤ (0) ∨ ((x3_4 + 1)) ≤ ((a3)) from q_13 b1) (show EQB ((w61)) ((a1)) ((a2)) (((x3_4 + 1))) by assumption) rfl

theorem M397 {σ0 σ : rS} {D N : Nat → Nat} {F : hF} {A : hA} {d c s : Nat} {Q : wQ} (H : HS σ0 σ D N F A) {a1 a2 : Int} (u6_2 : Int) (eu6_2 : F 6 2 = u6_2) (u6_22 : Int) (eu6_22 : F 6 22 = u6_22) (u6_24 : Int) (eu6_24 : F 6 24 = u6_24) (w61 : Int → Int) (ew61 : A 61 = w61) (h0 : inr (a1)) (h1 : inr (a2)) (h2 : 0 ≤ (a1) ∧ (a1) < (u6_22)) (h3 : 0 ≤ (a2) ∧ (a2) ≤ 2) (h4 : 0 ≤ (u6_22) ∧ (u6_22) ≤ 16384) (h5 : 3 ≤ (u6_2) ∧ (u6_2) ≤ 8) (k : ∀ (z : Int) σ Fₚ Aₚ, HS σ0 σ D N Fₚ Aₚ → SF [(6, 23)] F Fₚ → SA [] A Aₚ → ∀ y6_23 : Int, Fₚ 6 23 = y6_23 → (inr (z)) → (0 ≤ (z)) → ((z) = 0 ∨ (u6_2) ≤ (z) ∧ (z) ≤ (u6_22) - (a1) ∧ (y6_23) < (a1)) → (MTL ((w61)) ((u6_22)) ((u6_24)) ((u6_2)) ((a2)) ((u6_22) - (u6_2)) ((a1)) ((z)) ((a1) - (y6_23))) → Q (some (I z)) σ c s) : Ew 397 (d + 1) 0 (rargs 0 [.ref (D 6), I a1, I a2]) [] σ c s Q := by
  have r1 : (0 : Int) ≤ u6_2 ∧ u6_2 ≤ 8 := rngE (show (0 : Int) ≤ F 6 2 ∧ F 6 2 ≤ 8 from H.frng 6 2) (show F 6 2 = u6_2 from (eu6_2))
  have r2 : (0 : Int) ≤ u6_22 ∧ u6_22 ≤ 16384 := rngE (show (0 : Int) ≤ F 6 22 ∧ F 6 22 ≤ 16384 from H.frng 6 22) (show F 6 22 = u6_22 from (eu6_22))
  have r3 : (0 : Int) ≤ u6_24 ∧ u6_24 ≤ 16777216 := rngE (show (0 : Int) ≤ F 6 24 ∧ F 6 24 ≤ 16777216 from H.frng 6 24) (show F 6 24 = u6_24 from (eu6_24))
  refine Ew_of (pcₚ := 1) (fun _ => x_aload_n rfl rfl) ?_
  refine w_gI H (o := 6) (w := u6_22) rfl (H.perm 6 rfl) rfl rfl rfl (fun _ => rfl) (eu6_22) ?_
  refine Ew_of (pcₚ := 5) (fun _ => x_iload_n rfl rfl) ?_
  refine w_isub rfl ?_
  refine Ew_of (pcₚ := 8) (fun _ => x_ldc (z := 131074) rfl (by decide)) ?_
  have hc22 : ∀ (tc22_0 : Int), ∀ (ls : rO) (σ : rS) (F_c22 : hF) (A_c22 : hA) , rlook ls 0 = some (.ref (D 6)) → rlook ls 1 = some (I (a1)) → rlook ls 2 = some (I (a2)) → HS σ0 σ D N F_c22 A_c22 → SF [] F F_c22 → SA [] A A_c22 → (inr (tc22_0)) → ((((u6_22 - a1)) ≥ (131074) ∧ (tc22_0) = (131074)) ∨ (((u6_22 - a1)) < (131074) ∧ (tc22_0) = ((u6_22 - a1)))) → Ew 397 (d + 1) 22 ls [I (tc22_0)] σ c s Q := by
   as_aux_lemma =>
    intro tc22_0 ls σ F_c22 A_c22  lc22_0 lc22_1 lc22_2 H hS_c22 hA_c22   jc22_0 jc22_1
    refine Ew_of (pcₚ := 23) (fun _ => x_istore_n rfl) ?_
    refine Ew_of (pcₚ := 24) (fun _ => x_iconst rfl) ?_
    refine Ew_of (pcₚ := 26) (fun _ => x_istore rfl) ?_
    refine Ew_of (pcₚ := 27) (fun _ => x_iload_n rfl (rk_o (rk_o (lc22_1) rfl rfl) rfl rfl)) ?_
    refine Ew_of (pcₚ := 28) (fun _ => x_iconst rfl) ?_
    refine w_isub rfl ?_
    refine Ew_of (pcₚ := 31) (fun _ => x_istore rfl) ?_
    have r4 : (0 : Int) ≤ F 6 23 ∧ F 6 23 ≤ 16384 := rngE (show (0 : Int) ≤ F_c22 6 23 ∧ F_c22 6 23 ≤ 16384 from H.frng 6 23) (show F_c22 6 23 = F 6 23 from (hS_c22 6 23 rfl))
    have : SCI ((w61)) ((u6_22)) ((u6_24)) ((u6_2)) ((a2)) ((a1)) ((a1) - 1) 0 ((a1) - (F 6 23)) := SCI_0 (by omega) (by omega)
    suffices hl31 : ∀ (m : Nat), ∀ (ls : rO) (σ : rS) (F_31 : hF) (A_31 : hA) (x31_4 : Int) (x31_5 : Int), rlook ls 0 = some (.ref (D 6)) → rlook ls 1 = some (I (a1)) → rlook ls 2 = some (I (a2)) → rlook ls 3 = some (I (tc22_0)) → rlook ls 4 = some (I (x31_4)) → rlook ls 5 = some (I (x31_5)) → HS σ0 σ D N F_31 A_31 → SF [(6, 23)] F_c22 F_31 → SA [] A_c22 A_31 → ∀ y31_6_23 : Int, F_31 6 23 = y31_6_23 → (inr (x31_4)) → (inr (x31_5)) → (-1 ≤ (x31_5) ∧ (x31_5) < (a1)) → ((x31_4) = 0 ∨ (u6_2) ≤ (x31_4) ∧ (x31_4) ≤ (tc22_0) ∧ (y31_6_23) < (a1)) → (SCI ((w61)) ((u6_22)) ((u6_24)) ((u6_2)) ((a2)) ((a1)) ((x31_5)) ((x31_4)) ((a1) - (y31_6_23))) → ((x31_5) + 1).toNat = m → Ew 397 (d + 1) 31 ls [] σ c s Q from
      hl31 _ _ σ _ _ (0) ((a1 - 1)) (rk_o (rk_o (rk_o (lc22_0) rfl rfl) rfl rfl) rfl rfl) (rk_o (rk_o (rk_o (lc22_1) rfl rfl) rfl rfl) rfl rfl) (rk_o (rk_o (rk_o (lc22_2) rfl rfl) rfl rfl) rfl rfl) (rk_o (rk_o (rk_s) rfl rfl) rfl rfl) (rk_o (rk_s) rfl rfl) (rk_s) H (SF_refl) (SA_refl) (F 6 23) ((hS_c22 6 23 rfl))  (show inr (0) from q_2) (show inr ((a1 - 1)) from q_2014 h0 h2) (show -1 ≤ ((a1 - 1)) ∧ ((a1 - 1)) < (a1) from q_2013 h2) (show (0) = 0 ∨ (u6_2) ≤ (0) ∧ (0) ≤ (tc22_0) ∧ (F 6 23) < (a1) from q_2012) (show SCI ((w61)) ((u6_22)) ((u6_24)) ((u6_2)) ((a2)) ((a1)) (((a1 - 1))) ((0)) ((a1) - (F 6 23)) by assumption) rfl
    as_aux_lemma =>
    intro m
    induction m using Nat.strongRecOn with
    | _ m ih31 =>
      intro ls σ F_31 A_31 x31_4 x31_5 l31_0 l31_1 l31_2 l31_3 l31_4 l31_5 H hS_31 hA_31 y31_6_23 ey31_6_23  j31_0 j31_1 j31_2 j31_3 j31_4 hm31
      have r5 : (0 : Int) ≤ y31_6_23 ∧ y31_6_23 ≤ 16384 := rngE (show (0 : Int) ≤ F_31 6 23 ∧ F_31 6 23 ≤ 16384 from H.frng 6 23) (show F_31 6 23 = y31_6_23 from (ey31_6_23))
      have j31_s : SCI ((w61)) ((u6_22)) ((u6_24)) ((u6_2)) ((a2)) ((a1)) ((x31_5)) ((x31_4)) ((a1) - (y31_6_23)) := j31_4
      refine Ew_of (pcₚ := 33) (fun _ => x_iload rfl l31_5) ?_
      refine w_iflt (t := 154) rfl rfl (show inr (x31_5) from j31_1) (fun b6 => ?_) (fun b6 => ?_)
      · refine Ew_of (pcₚ := 156) (fun _ => x_iload rfl l31_4) ?_
        have : MTL ((w61)) ((u6_22)) ((u6_24)) ((u6_2)) ((a2)) ((u6_22) - (u6_2)) ((a1)) ((x31_4)) ((a1) - (y31_6_23)) := by by_cases z : (a1) ≤ (u6_22) - (u6_2); (exact .inl ⟨z, SCI_fu j31_s (by omega) (by omega)⟩); (exact .inr ⟨by omega, by omega⟩)
        exact w_ireturn rfl (k (x31_4) σ _ _ H (SF_trans (SF_trans (SF_refl) hS_c22 (any_sub rfl)) hS_31 (any_sub rfl)) (SA_trans (SA_trans (SA_refl) hA_c22 (any_subA rfl)) hA_31 (any_subA rfl)) (y31_6_23) ((ey31_6_23)) (show inr (x31_4) from j31_0) (show 0 ≤ (x31_4) from q_2015 j31_3 r1) (show (x31_4) = 0 ∨ (u6_2) ≤ (x31_4) ∧ (x31_4) ≤ (u6_22) - a1 ∧ (y31_6_23) < a1 by omega) (show MTL ((w61)) ((u6_22)) ((u6_24)) ((u6_2)) (a2) ((u6_22) - (u6_2)) (a1) ((x31_4)) (a1 - (y31_6_23)) by assumption))
      · refine Ew_of (pcₚ := 37) (fun _ => x_iload_n rfl l31_1) ?_
        refine Ew_of (pcₚ := 39) (fun _ => x_iload rfl l31_5) ?_
        refine w_isub rfl ?_
        refine Ew_of (pcₚ := 41) (fun _ => x_aload_n rfl l31_0) ?_
        refine w_gI H (o := 6) (w := u6_24) rfl (H.perm 6 rfl) rfl rfl rfl (fun _ => rfl) (((hS_31 6 24 rfl).trans (hS_c22 6 24 rfl)).trans (eu6_24)) ?_
        refine w_icmpgt (t := 154) rfl rfl (show inr ((a1 - x31_5)) from q_106 b6 h0 j31_2) (show inr (u6_24) from q_2016 r3) (fun b7 => ?_) (fun b7 => ?_)
        · refine Ew_of (pcₚ := 156) (fun _ => x_iload rfl l31_4) ?_
          have : MTL ((w61)) ((u6_22)) ((u6_24)) ((u6_2)) ((a2)) ((u6_22) - (u6_2)) ((a1)) ((x31_4)) ((a1) - (y31_6_23)) := by by_cases z : (a1) ≤ (u6_22) - (u6_2); (exact .inl ⟨z, SCI_fu j31_s (by omega) (by omega)⟩); (exact .inr ⟨by omega, by omega⟩)
          exact w_ireturn rfl (k (x31_4) σ _ _ H (SF_trans (SF_trans (SF_refl) hS_c22 (any_sub rfl)) hS_31 (any_sub rfl)) (SA_trans (SA_trans (SA_refl) hA_c22 (any_subA rfl)) hA_31 (any_subA rfl)) (y31_6_23) ((ey31_6_23)) (show inr (x31_4) from j31_0) (show 0 ≤ (x31_4) from q_2015 j31_3 r1) (show (x31_4) = 0 ∨ (u6_2) ≤ (x31_4) ∧ (x31_4) ≤ (u6_22) - a1 ∧ (y31_6_23) < a1 by omega) (show MTL ((w61)) ((u6_22)) ((u6_24)) ((u6_2)) (a2) ((u6_22) - (u6_2)) (a1) ((x31_4)) (a1 - (y31_6_23)) by assumption))
        · refine Ew_of (pcₚ := 49) (fun _ => x_iload rfl l31_4) ?_
          refine Ew_of (pcₚ := 50) (fun _ => x_iload_n rfl l31_3) ?_
          refine w_icmpge (t := 154) rfl rfl (show inr (x31_4) from j31_0) (show inr (tc22_0) from jc22_0) (fun b8 => ?_) (fun b8 => ?_)
          · refine Ew_of (pcₚ := 156) (fun _ => x_iload rfl l31_4) ?_
            have : MTL ((w61)) ((u6_22)) ((u6_24)) ((u6_2)) ((a2)) ((u6_22) - (u6_2)) ((a1)) ((x31_4)) ((a1) - (y31_6_23)) := by by_cases z : (a1) ≤ (u6_22) - (u6_2); (exact .inl ⟨z, SCI_fu j31_s (by omega) (by omega)⟩); (exact .inr ⟨by omega, by omega⟩)
            exact w_ireturn rfl (k (x31_4) σ _ _ H (SF_trans (SF_trans (SF_refl) hS_c22 (any_sub rfl)) hS_31 (any_sub rfl)) (SA_trans (SA_trans (SA_refl) hA_c22 (any_subA rfl)) hA_31 (any_subA rfl)) (y31_6_23) ((ey31_6_23)) (show inr (x31_4) from j31_0) (show 0 ≤ (x31_4) from q_2015 j31_3 r1) (show (x31_4) = 0 ∨ (u6_2) ≤ (x31_4) ∧ (x31_4) ≤ (u6_22) - a1 ∧ (y31_6_23) < a1 by omega) (show MTL ((w61)) ((u6_22)) ((u6_24)) ((u6_2)) (a2) ((u6_22) - (u6_2)) (a1) ((x31_4)) (a1 - (y31_6_23)) by assumption))
          · refine Ew_of (pcₚ := 54) (fun _ => x_aload_n rfl l31_0) ?_
            refine Ew_of (pcₚ := 56) (fun _ => x_iload rfl l31_5) ?_
            refine Ew_of (pcₚ := 57) (fun _ => x_iload_n rfl l31_1) ?_
            refine Ew_of (pcₚ := 58) (fun _ => x_iload_n rfl l31_3) ?_
            refine w_inv H (o := 6) rfl rfl rfl (H.perm 6 rfl) rfl rfl (by rfl) (M396 H (w61) ((funext (hA_31 61 rfl)).trans ((funext (hA_c22 61 rfl)).trans (ew61))) (show inr (x31_5) from j31_1) (show inr (a1) from h0) (show inr (tc22_0) from jc22_0) (show 0 ≤ (x31_5) ∧ (x31_5) < (a1) ∧ (tc22_0) + (a1) ≤ 16384 ∧ 0 ≤ (tc22_0) from q_2017 b6 b8 j31_2 j31_3 jc22_1 r1 r2) (fun z13 σ F9 A10 H hS11 hA12 pz13_0 pz13_1 pz13_2 => ⟨rfl, ?_⟩))
            have hcp : cpl ((w61)) ((x31_5)) ((a1)) ((u6_22)) = (z13) := by have h := pz13_2; rw [show (a1) + (tc22_0) = (u6_22) by omega] at h; exact h.symm
            refine Ew_of (pcₚ := 63) (fun _ => x_istore rfl) ?_
            refine Ew_of (pcₚ := 64) (fun _ => x_iload_n rfl (rk_o (l31_2) rfl rfl)) ?_
            refine Ew_of (pcₚ := 65) (fun _ => x_iconst rfl) ?_
            refine w_icmpne (t := 83) rfl rfl (show inr (a2) from h1) (show inr (2) from q_122) (fun b14 => ?_) (fun b14 => ?_)
            · refine Ew_of (pcₚ := 85) (fun _ => x_iload rfl (rk_o (l31_4) rfl rfl)) ?_
              refine w_ifeq (t := 107) rfl rfl (show inr (x31_4) from j31_0) (fun b15 => ?_) (fun b15 => ?_)
              · refine Ew_of (pcₚ := 108) (fun _ => x_iconst rfl) ?_
                refine Ew_of (pcₚ := 112) (fun _ => x_goto rfl rfl) ?_
                refine Ew_of (pcₚ := 114) (fun _ => x_istore rfl) ?_
                refine Ew_of (pcₚ := 116) (fun _ => x_iload rfl (rk_o (rk_s) rfl rfl)) ?_
                refine Ew_of (pcₚ := 117) (fun _ => x_aload_n rfl (rk_o (rk_o (l31_0) rfl rfl) rfl rfl)) ?_
                refine w_gI H (o := 6) (w := u6_2) rfl (H.perm 6 rfl) rfl rfl rfl (fun _ => rfl) ((((hS11 6 2 rfl).trans (hS_31 6 2 rfl)).trans (hS_c22 6 2 rfl)).trans (eu6_2)) ?_
                refine w_icmplt (t := 148) rfl rfl (show inr (z13) from pz13_0) (show inr (u6_2) from q_2018 r1) (fun b16 => ?_) (fun b16 => ?_)
                · refine Ew_of (pcₚ := 151) (fun _ => x_iinc (len := 3) rfl (rk_o (rk_o (l31_5) rfl rfl) rfl rfl)) ?_
                  refine Ew_of (pcₚ := 31) (fun _ => x_goto rfl rfl) ?_
                  have : SCI ((w61)) ((u6_22)) ((u6_24)) ((u6_2)) ((a2)) ((a1)) (((x31_5 + (-1)))) ((x31_4)) ((a1) - (y31_6_23)) := by first | exact SCI_y j31_s rfl (by omega) (by omega) (by omega) hcp (by unfold BET; omega) (by omega) | exact SCI_n j31_s rfl hcp (by unfold BET; omega) (by omega)
                  exact ih31 _ (msE hm31 q_2020 (q_2021 b6)) _ σ _ _ (x31_4) ((x31_5 + (-1))) (rk_o (rk_o (rk_o (l31_0) rfl rfl) rfl rfl) rfl rfl) (rk_o (rk_o (rk_o (l31_1) rfl rfl) rfl rfl) rfl rfl) (rk_o (rk_o (rk_o (l31_2) rfl rfl) rfl rfl) rfl rfl) (rk_o (rk_o (rk_o (l31_3) rfl rfl) rfl rfl) rfl rfl) (rk_o (rk_o (rk_o (l31_4) rfl rfl) rfl rfl) rfl rfl) (rk_s) H (SF_trans (hS_31) hS11 (any_sub rfl)) (SA_trans (hA_31) hA12 (any_subA rfl)) (y31_6_23) (((hS11 6 23 rfl).trans (ey31_6_23)))  (show inr (x31_4) from j31_0) (show inr ((x31_5 + (-1))) from q_431 b6 j31_1) (show -1 ≤ ((x31_5 + (-1))) ∧ ((x31_5 + (-1))) < (a1) from q_2019 b6 j31_2) (show (x31_4) = 0 ∨ (u6_2) ≤ (x31_4) ∧ (x31_4) ≤ (tc22_0) ∧ (y31_6_23) < (a1) from j31_3) (show SCI ((w61)) ((u6_22)) ((u6_24)) ((u6_2)) ((a2)) ((a1)) (((x31_5 + (-1)))) ((x31_4)) ((a1) - (y31_6_23)) by assumption) rfl
                · refine Ew_of (pcₚ := 125) (fun _ => x_iload rfl rk_s) ?_
                  refine w_ifne (t := 131) rfl rfl (show inr (1) from q_135) (fun b17 => ?_) (fun b17 => ?_)
                  · refine Ew_of (pcₚ := 133) (fun _ => x_iload rfl (rk_o (rk_s) rfl rfl)) ?_
                    refine Ew_of (pcₚ := 135) (fun _ => x_istore rfl) ?_
                    refine Ew_of (pcₚ := 136) (fun _ => x_aload_n rfl (rk_o (rk_o (rk_o (l31_0) rfl rfl) rfl rfl) rfl rfl)) ?_
                    refine Ew_of (pcₚ := 138) (fun _ => x_iload rfl (rk_o (rk_o (rk_o (l31_5) rfl rfl) rfl rfl) rfl rfl)) ?_
                    refine w_pI H (o := 6) rfl rfl (H.perm 6 rfl) rfl rfl rfl (fun _ => rfl) rfl (show (0 : Int) ≤ x31_5 ∧ x31_5 ≤ 16384 from q_2022 b6 h2 j31_2 r2) (fun σ H => ?_)
                    refine Ew_of (pcₚ := 142) (fun _ => x_iload_n rfl (rk_o (rk_o (rk_o (l31_2) rfl rfl) rfl rfl) rfl rfl)) ?_
                    refine w_ifne (t := 148) rfl rfl (show inr (a2) from h1) (fun b18 => ?_) (fun b18 => ?_)
                    · refine Ew_of (pcₚ := 151) (fun _ => x_iinc (len := 3) rfl (rk_o (rk_o (rk_o (l31_5) rfl rfl) rfl rfl) rfl rfl)) ?_
                      refine Ew_of (pcₚ := 31) (fun _ => x_goto rfl rfl) ?_
                      have : SCI ((w61)) ((u6_22)) ((u6_24)) ((u6_2)) ((a2)) ((a1)) (((x31_5 + (-1)))) ((z13)) ((a1) - (x31_5)) := by first | exact SCI_y j31_s rfl (by omega) (by omega) (by omega) hcp (by unfold BET; omega) (by omega) | exact SCI_n j31_s rfl hcp (by unfold BET; omega) (by omega)
                      exact ih31 _ (msE hm31 q_2020 (q_2021 b6)) _ σ _ _ (z13) ((x31_5 + (-1))) (rk_o (rk_o (rk_o (rk_o (l31_0) rfl rfl) rfl rfl) rfl rfl) rfl rfl) (rk_o (rk_o (rk_o (rk_o (l31_1) rfl rfl) rfl rfl) rfl rfl) rfl rfl) (rk_o (rk_o (rk_o (rk_o (l31_2) rfl rfl) rfl rfl) rfl rfl) rfl rfl) (rk_o (rk_o (rk_o (rk_o (l31_3) rfl rfl) rfl rfl) rfl rfl) rfl rfl) (rk_o (rk_s) rfl rfl) (rk_s) H (SF_upd (SF_trans (hS_31) hS11 (any_sub rfl)) rfl) (SA_trans (hA_31) hA12 (any_subA rfl)) (x31_5) (rfl)  (show inr (z13) from pz13_0) (show inr ((x31_5 + (-1))) from q_431 b6 j31_1) (show -1 ≤ ((x31_5 + (-1))) ∧ ((x31_5 + (-1))) < (a1) from q_2019 b6 j31_2) (show (z13) = 0 ∨ (u6_2) ≤ (z13) ∧ (z13) ≤ (tc22_0) ∧ (x31_5) < (a1) from q_2023 b16 j31_2 pz13_1) (show SCI ((w61)) ((u6_22)) ((u6_24)) ((u6_2)) ((a2)) ((a1)) (((x31_5 + (-1)))) ((z13)) ((a1) - (x31_5)) by assumption) rfl
                    · refine Ew_of (pcₚ := 147) (fun _ => x_iload rfl rk_s) ?_
                      have : MTL ((w61)) ((u6_22)) ((u6_24)) ((u6_2)) ((a2)) ((u6_22) - (u6_2)) ((a1)) ((z13)) ((a1) - (x31_5)) := .inl ⟨by omega, SCI_r0 (SCI_y j31_s rfl (by omega) (by omega) (by omega) hcp (by unfold BET; omega) (by omega)) (by omega) (by omega)⟩
                      exact w_ireturn rfl (k (z13) σ _ _ H (SF_upd (SF_trans (SF_trans (SF_trans (SF_refl) hS_c22 (any_sub rfl)) hS_31 (any_sub rfl)) hS11 (any_sub rfl)) rfl) (SA_trans (SA_trans (SA_trans (SA_refl) hA_c22 (any_subA rfl)) hA_31 (any_subA rfl)) hA12 (any_subA rfl)) (x31_5) (rfl) (show inr (z13) from pz13_0) (show 0 ≤ (z13) from q_2024 pz13_1) (show (z13) = 0 ∨ (u6_2) ≤ (z13) ∧ (z13) ≤ (u6_22) - a1 ∧ (x31_5) < a1 by omega) (show MTL ((w61)) ((u6_22)) ((u6_24)) ((u6_2)) (a2) ((u6_22) - (u6_2)) (a1) ((z13)) (a1 - (x31_5)) by assumption))
                  · refine Ew_of (pcₚ := 148) (fun _ => x_goto rfl rfl) ?_
                    refine Ew_of (pcₚ := 151) (fun _ => x_iinc (len := 3) rfl (rk_o (rk_o (l31_5) rfl rfl) rfl rfl)) ?_
                    refine Ew_of (pcₚ := 31) (fun _ => x_goto rfl rfl) ?_
                    have : SCI ((w61)) ((u6_22)) ((u6_24)) ((u6_2)) ((a2)) ((a1)) (((x31_5 + (-1)))) ((x31_4)) ((a1) - (y31_6_23)) := by first | exact SCI_y j31_s rfl (by omega) (by omega) (by omega) hcp (by unfold BET; omega) (by omega) | exact SCI_n j31_s rfl hcp (by unfold BET; omega) (by omega)
                    exact ih31 _ (msE hm31 q_2020 (q_2021 b6)) _ σ _ _ (x31_4) ((x31_5 + (-1))) (rk_o (rk_o (rk_o (l31_0) rfl rfl) rfl rfl) rfl rfl) (rk_o (rk_o (rk_o (l31_1) rfl rfl) rfl rfl) rfl rfl) (rk_o (rk_o (rk_o (l31_2) rfl rfl) rfl rfl) rfl rfl) (rk_o (rk_o (rk_o (l31_3) rfl rfl) rfl rfl) rfl rfl) (rk_o (rk_o (rk_o (l31_4) rfl rfl) rfl rfl) rfl rfl) (rk_s) H (SF_trans (hS_31) hS11 (any_sub rfl)) (SA_trans (hA_31) hA12 (any_subA rfl)) (y31_6_23) (((hS11 6 23 rfl).trans (ey31_6_23)))  (show inr (x31_4) from j31_0) (show inr ((x31_5 + (-1))) from q_431 b6 j31_1) (show -1 ≤ ((x31_5 + (-1))) ∧ ((x31_5 + (-1))) < (a1) from q_2019 b6 j31_2) (show (x31_4) = 0 ∨ (u6_2) ≤ (x31_4) ∧ (x31_4) ≤ (tc22_0) ∧ (y31_6_23) < (a1) from j31_3) (show SCI ((w61)) ((u6_22)) ((u6_24)) ((u6_2)) ((a2)) ((a1)) (((x31_5 + (-1)))) ((x31_4)) ((a1) - (y31_6_23)) by assumption) rfl
              · refine Ew_of (pcₚ := 89) (fun _ => x_iload_n rfl (rk_o (l31_2) rfl rfl)) ?_
                refine Ew_of (pcₚ := 90) (fun _ => x_iconst rfl) ?_
                refine w_icmpne (t := 111) rfl rfl (show inr (a2) from h1) (show inr (1) from q_135) (fun b19 => ?_) (fun b19 => ?_)
                · refine Ew_of (pcₚ := 112) (fun _ => x_iconst rfl) ?_
                  refine Ew_of (pcₚ := 114) (fun _ => x_istore rfl) ?_
                  refine Ew_of (pcₚ := 116) (fun _ => x_iload rfl (rk_o (rk_s) rfl rfl)) ?_
                  refine Ew_of (pcₚ := 117) (fun _ => x_aload_n rfl (rk_o (rk_o (l31_0) rfl rfl) rfl rfl)) ?_
                  refine w_gI H (o := 6) (w := u6_2) rfl (H.perm 6 rfl) rfl rfl rfl (fun _ => rfl) ((((hS11 6 2 rfl).trans (hS_31 6 2 rfl)).trans (hS_c22 6 2 rfl)).trans (eu6_2)) ?_
                  refine w_icmplt (t := 148) rfl rfl (show inr (z13) from pz13_0) (show inr (u6_2) from q_2018 r1) (fun b20 => ?_) (fun b20 => ?_)
                  · refine Ew_of (pcₚ := 151) (fun _ => x_iinc (len := 3) rfl (rk_o (rk_o (l31_5) rfl rfl) rfl rfl)) ?_
                    refine Ew_of (pcₚ := 31) (fun _ => x_goto rfl rfl) ?_
                    have : SCI ((w61)) ((u6_22)) ((u6_24)) ((u6_2)) ((a2)) ((a1)) (((x31_5 + (-1)))) ((x31_4)) ((a1) - (y31_6_23)) := by first | exact SCI_y j31_s rfl (by omega) (by omega) (by omega) hcp (by unfold BET; omega) (by omega) | exact SCI_n j31_s rfl hcp (by unfold BET; omega) (by omega)
                    exact ih31 _ (msE hm31 q_2020 (q_2021 b6)) _ σ _ _ (x31_4) ((x31_5 + (-1))) (rk_o (rk_o (rk_o (l31_0) rfl rfl) rfl rfl) rfl rfl) (rk_o (rk_o (rk_o (l31_1) rfl rfl) rfl rfl) rfl rfl) (rk_o (rk_o (rk_o (l31_2) rfl rfl) rfl rfl) rfl rfl) (rk_o (rk_o (rk_o (l31_3) rfl rfl) rfl rfl) rfl rfl) (rk_o (rk_o (rk_o (l31_4) rfl rfl) rfl rfl) rfl rfl) (rk_s) H (SF_trans (hS_31) hS11 (any_sub rfl)) (SA_trans (hA_31) hA12 (any_subA rfl)) (y31_6_23) (((hS11 6 23 rfl).trans (ey31_6_23)))  (show inr (x31_4) from j31_0) (show inr ((x31_5 + (-1))) from q_431 b6 j31_1) (show -1 ≤ ((x31_5 + (-1))) ∧ ((x31_5 + (-1))) < (a1) from q_2019 b6 j31_2) (show (x31_4) = 0 ∨ (u6_2) ≤ (x31_4) ∧ (x31_4) ≤ (tc22_0) ∧ (y31_6_23) < (a1) from j31_3) (show SCI ((w61)) ((u6_22)) ((u6_24)) ((u6_2)) ((a2)) ((a1)) (((x31_5 + (-1)))) ((x31_4)) ((a1) - (y31_6_23)) by assumption) rfl
                  · refine Ew_of (pcₚ := 125) (fun _ => x_iload rfl rk_s) ?_
                    refine w_ifne (t := 131) rfl rfl (show inr (0) from q_2) (fun b21 => ?_) (fun b21 => ?_)
                    · refine Ew_of (pcₚ := 133) (fun _ => x_iload rfl (rk_o (rk_s) rfl rfl)) ?_
                      refine Ew_of (pcₚ := 135) (fun _ => x_istore rfl) ?_
                      refine Ew_of (pcₚ := 136) (fun _ => x_aload_n rfl (rk_o (rk_o (rk_o (l31_0) rfl rfl) rfl rfl) rfl rfl)) ?_
                      refine Ew_of (pcₚ := 138) (fun _ => x_iload rfl (rk_o (rk_o (rk_o (l31_5) rfl rfl) rfl rfl) rfl rfl)) ?_
                      refine w_pI H (o := 6) rfl rfl (H.perm 6 rfl) rfl rfl rfl (fun _ => rfl) rfl (show (0 : Int) ≤ x31_5 ∧ x31_5 ≤ 16384 from q_2022 b6 h2 j31_2 r2) (fun σ H => ?_)
                      refine Ew_of (pcₚ := 142) (fun _ => x_iload_n rfl (rk_o (rk_o (rk_o (l31_2) rfl rfl) rfl rfl) rfl rfl)) ?_
                      refine w_ifne (t := 148) rfl rfl (show inr (a2) from h1) (fun b22 => ?_) (fun b22 => ?_)
                      · refine Ew_of (pcₚ := 151) (fun _ => x_iinc (len := 3) rfl (rk_o (rk_o (rk_o (l31_5) rfl rfl) rfl rfl) rfl rfl)) ?_
                        refine Ew_of (pcₚ := 31) (fun _ => x_goto rfl rfl) ?_
                        have : SCI ((w61)) ((u6_22)) ((u6_24)) ((u6_2)) ((a2)) ((a1)) (((x31_5 + (-1)))) ((z13)) ((a1) - (x31_5)) := by first | exact SCI_y j31_s rfl (by omega) (by omega) (by omega) hcp (by unfold BET; omega) (by omega) | exact SCI_n j31_s rfl hcp (by unfold BET; omega) (by omega)
                        exact ih31 _ (msE hm31 q_2020 (q_2021 b6)) _ σ _ _ (z13) ((x31_5 + (-1))) (rk_o (rk_o (rk_o (rk_o (l31_0) rfl rfl) rfl rfl) rfl rfl) rfl rfl) (rk_o (rk_o (rk_o (rk_o (l31_1) rfl rfl) rfl rfl) rfl rfl) rfl rfl) (rk_o (rk_o (rk_o (rk_o (l31_2) rfl rfl) rfl rfl) rfl rfl) rfl rfl) (rk_o (rk_o (rk_o (rk_o (l31_3) rfl rfl) rfl rfl) rfl rfl) rfl rfl) (rk_o (rk_s) rfl rfl) (rk_s) H (SF_upd (SF_trans (hS_31) hS11 (any_sub rfl)) rfl) (SA_trans (hA_31) hA12 (any_subA rfl)) (x31_5) (rfl)  (show inr (z13) from pz13_0) (show inr ((x31_5 + (-1))) from q_431 b6 j31_1) (show -1 ≤ ((x31_5 + (-1))) ∧ ((x31_5 + (-1))) < (a1) from q_2019 b6 j31_2) (show (z13) = 0 ∨ (u6_2) ≤ (z13) ∧ (z13) ≤ (tc22_0) ∧ (x31_5) < (a1) from q_2023 b20 j31_2 pz13_1) (show SCI ((w61)) ((u6_22)) ((u6_24)) ((u6_2)) ((a2)) ((a1)) (((x31_5 + (-1)))) ((z13)) ((a1) - (x31_5)) by assumption) rfl
                      · refine Ew_of (pcₚ := 147) (fun _ => x_iload rfl rk_s) ?_
                        have : MTL ((w61)) ((u6_22)) ((u6_24)) ((u6_2)) ((a2)) ((u6_22) - (u6_2)) ((a1)) ((z13)) ((a1) - (x31_5)) := .inl ⟨by omega, SCI_r0 (SCI_y j31_s rfl (by omega) (by omega) (by omega) hcp (by unfold BET; omega) (by omega)) (by omega) (by omega)⟩
                        exact w_ireturn rfl (k (z13) σ _ _ H (SF_upd (SF_trans (SF_trans (SF_trans (SF_refl) hS_c22 (any_sub rfl)) hS_31 (any_sub rfl)) hS11 (any_sub rfl)) rfl) (SA_trans (SA_trans (SA_trans (SA_refl) hA_c22 (any_subA rfl)) hA_31 (any_subA rfl)) hA12 (any_subA rfl)) (x31_5) (rfl) (show inr (z13) from pz13_0) (show 0 ≤ (z13) from q_2024 pz13_1) (show (z13) = 0 ∨ (u6_2) ≤ (z13) ∧ (z13) ≤ (u6_22) - a1 ∧ (x31_5) < a1 by omega) (show MTL ((w61)) ((u6_22)) ((u6_24)) ((u6_2)) (a2) ((u6_22) - (u6_2)) (a1) ((z13)) (a1 - (x31_5)) by assumption))
                    · refine Ew_of (pcₚ := 148) (fun _ => x_goto rfl rfl) ?_
                      refine Ew_of (pcₚ := 151) (fun _ => x_iinc (len := 3) rfl (rk_o (rk_o (l31_5) rfl rfl) rfl rfl)) ?_
                      refine Ew_of (pcₚ := 31) (fun _ => x_goto rfl rfl) ?_
                      have : SCI ((w61)) ((u6_22)) ((u6_24)) ((u6_2)) ((a2)) ((a1)) (((x31_5 + (-1)))) ((x31_4)) ((a1) - (y31_6_23)) := by first | exact SCI_y j31_s rfl (by omega) (by omega) (by omega) hcp (by unfold BET; omega) (by omega) | exact SCI_n j31_s rfl hcp (by unfold BET; omega) (by omega)
                      exact ih31 _ (msE hm31 q_2020 (q_2021 b6)) _ σ _ _ (x31_4) ((x31_5 + (-1))) (rk_o (rk_o (rk_o (l31_0) rfl rfl) rfl rfl) rfl rfl) (rk_o (rk_o (rk_o (l31_1) rfl rfl) rfl rfl) rfl rfl) (rk_o (rk_o (rk_o (l31_2) rfl rfl) rfl rfl) rfl rfl) (rk_o (rk_o (rk_o (l31_3) rfl rfl) rfl rfl) rfl rfl) (rk_o (rk_o (rk_o (l31_4) rfl rfl) rfl rfl) rfl rfl) (rk_s) H (SF_trans (hS_31) hS11 (any_sub rfl)) (SA_trans (hA_31) hA12 (any_subA rfl)) (y31_6_23) (((hS11 6 23 rfl).trans (ey31_6_23)))  (show inr (x31_4) from j31_0) (show inr ((x31_5 + (-1))) from q_431 b6 j31_1) (show -1 ≤ ((x31_5 + (-1))) ∧ ((x31_5 + (-1))) < (a1) from q_2019 b6 j31_2) (show (x31_4) = 0 ∨ (u6_2) ≤ (x31_4) ∧ (x31_4) ≤ (tc22_0) ∧ (y31_6_23) < (a1) from j31_3) (show SCI ((w61)) ((u6_22)) ((u6_24)) ((u6_2)) ((a2)) ((a1)) (((x31_5 + (-1)))) ((x31_4)) ((a1) - (y31_6_23)) by assumption) rfl
                · refine Ew_of (pcₚ := 95) (fun _ => x_iload rfl (rk_o (l31_4) rfl rfl)) ?_
                  refine Ew_of (pcₚ := 97) (fun _ => x_bipush (z := 8) rfl (by decide)) ?_
                  refine w_icmpge (t := 111) rfl rfl (show inr (x31_4) from j31_0) (show inr (8) from q_141) (fun b23 => ?_) (fun b23 => ?_)
                  · refine Ew_of (pcₚ := 112) (fun _ => x_iconst rfl) ?_
                    refine Ew_of (pcₚ := 114) (fun _ => x_istore rfl) ?_
                    refine Ew_of (pcₚ := 116) (fun _ => x_iload rfl (rk_o (rk_s) rfl rfl)) ?_
                    refine Ew_of (pcₚ := 117) (fun _ => x_aload_n rfl (rk_o (rk_o (l31_0) rfl rfl) rfl rfl)) ?_
                    refine w_gI H (o := 6) (w := u6_2) rfl (H.perm 6 rfl) rfl rfl rfl (fun _ => rfl) ((((hS11 6 2 rfl).trans (hS_31 6 2 rfl)).trans (hS_c22 6 2 rfl)).trans (eu6_2)) ?_
                    refine w_icmplt (t := 148) rfl rfl (show inr (z13) from pz13_0) (show inr (u6_2) from q_2018 r1) (fun b24 => ?_) (fun b24 => ?_)
                    · refine Ew_of (pcₚ := 151) (fun _ => x_iinc (len := 3) rfl (rk_o (rk_o (l31_5) rfl rfl) rfl rfl)) ?_
                      refine Ew_of (pcₚ := 31) (fun _ => x_goto rfl rfl) ?_
                      have : SCI ((w61)) ((u6_22)) ((u6_24)) ((u6_2)) ((a2)) ((a1)) (((x31_5 + (-1)))) ((x31_4)) ((a1) - (y31_6_23)) := by first | exact SCI_y j31_s rfl (by omega) (by omega) (by omega) hcp (by unfold BET; omega) (by omega) | exact SCI_n j31_s rfl hcp (by unfold BET; omega) (by omega)
                      exact ih31 _ (msE hm31 q_2020 (q_2021 b6)) _ σ _ _ (x31_4) ((x31_5 + (-1))) (rk_o (rk_o (rk_o (l31_0) rfl rfl) rfl rfl) rfl rfl) (rk_o (rk_o (rk_o (l31_1) rfl rfl) rfl rfl) rfl rfl) (rk_o (rk_o (rk_o (l31_2) rfl rfl) rfl rfl) rfl rfl) (rk_o (rk_o (rk_o (l31_3) rfl rfl) rfl rfl) rfl rfl) (rk_o (rk_o (rk_o (l31_4) rfl rfl) rfl rfl) rfl rfl) (rk_s) H (SF_trans (hS_31) hS11 (any_sub rfl)) (SA_trans (hA_31) hA12 (any_subA rfl)) (y31_6_23) (((hS11 6 23 rfl).trans (ey31_6_23)))  (show inr (x31_4) from j31_0) (show inr ((x31_5 + (-1))) from q_431 b6 j31_1) (show -1 ≤ ((x31_5 + (-1))) ∧ ((x31_5 + (-1))) < (a1) from q_2019 b6 j31_2) (show (x31_4) = 0 ∨ (u6_2) ≤ (x31_4) ∧ (x31_4) ≤ (tc22_0) ∧ (y31_6_23) < (a1) from j31_3) (show SCI ((w61)) ((u6_22)) ((u6_24)) ((u6_2)) ((a2)) ((a1)) (((x31_5 + (-1)))) ((x31_4)) ((a1) - (y31_6_23)) by assumption) rfl
                    · refine Ew_of (pcₚ := 125) (fun _ => x_iload rfl rk_s) ?_
                      refine w_ifne (t := 131) rfl rfl (show inr (0) from q_2) (fun b25 => ?_) (fun b25 => ?_)
                      · refine Ew_of (pcₚ := 133) (fun _ => x_iload rfl (rk_o (rk_s) rfl rfl)) ?_
                        refine Ew_of (pcₚ := 135) (fun _ => x_istore rfl) ?_
                        refine Ew_of (pcₚ := 136) (fun _ => x_aload_n rfl (rk_o (rk_o (rk_o (l31_0) rfl rfl) rfl rfl) rfl rfl)) ?_
                        refine Ew_of (pcₚ := 138) (fun _ => x_iload rfl (rk_o (rk_o (rk_o (l31_5) rfl rfl) rfl rfl) rfl rfl)) ?_
                        refine w_pI H (o := 6) rfl rfl (H.perm 6 rfl) rfl rfl rfl (fun _ => rfl) rfl (show (0 : Int) ≤ x31_5 ∧ x31_5 ≤ 16384 from q_2022 b6 h2 j31_2 r2) (fun σ H => ?_)
                        refine Ew_of (pcₚ := 142) (fun _ => x_iload_n rfl (rk_o (rk_o (rk_o (l31_2) rfl rfl) rfl rfl) rfl rfl)) ?_
                        refine w_ifne (t := 148) rfl rfl (show inr (a2) from h1) (fun b26 => ?_) (fun b26 => ?_)
                        · refine Ew_of (pcₚ := 151) (fun _ => x_iinc (len := 3) rfl (rk_o (rk_o (rk_o (l31_5) rfl rfl) rfl rfl) rfl rfl)) ?_
                          refine Ew_of (pcₚ := 31) (fun _ => x_goto rfl rfl) ?_
                          have : SCI ((w61)) ((u6_22)) ((u6_24)) ((u6_2)) ((a2)) ((a1)) (((x31_5 + (-1)))) ((z13)) ((a1) - (x31_5)) := by first | exact SCI_y j31_s rfl (by omega) (by omega) (by omega) hcp (by unfold BET; omega) (by omega) | exact SCI_n j31_s rfl hcp (by unfold BET; omega) (by omega)
                          exact ih31 _ (msE hm31 q_2020 (q_2021 b6)) _ σ _ _ (z13) ((x31_5 + (-1))) (rk_o (rk_o (rk_o (rk_o (l31_0) rfl rfl) rfl rfl) rfl rfl) rfl rfl) (rk_o (rk_o (rk_o (rk_o (l31_1) rfl rfl) rfl rfl) rfl rfl) rfl rfl) (rk_o (rk_o (rk_o (rk_o (l31_2) rfl rfl) rfl rfl) rfl rfl) rfl rfl) (rk_o (rk_o (rk_o (rk_o (l31_3) rfl rfl) rfl rfl) rfl rfl) rfl rfl) (rk_o (rk_s) rfl rfl) (rk_s) H (SF_upd (SF_trans (hS_31) hS11 (any_sub rfl)) rfl) (SA_trans (hA_31) hA12 (any_subA rfl)) (x31_5) (rfl)  (show inr (z13) from pz13_0) (show inr ((x31_5 + (-1))) from q_431 b6 j31_1) (show -1 ≤ ((x31_5 + (-1))) ∧ ((x31_5 + (-1))) < (a1) from q_2019 b6 j31_2) (show (z13) = 0 ∨ (u6_2) ≤ (z13) ∧ (z13) ≤ (tc22_0) ∧ (x31_5) < (a1) from q_2023 b24 j31_2 pz13_1) (show SCI ((w61)) ((u6_22)) ((u6_24)) ((u6_2)) ((a2)) ((a1)) (((x31_5 + (-1)))) ((z13)) ((a1) - (x31_5)) by assumption) rfl
                        · refine Ew_of (pcₚ := 147) (fun _ => x_iload rfl rk_s) ?_
                          have : MTL ((w61)) ((u6_22)) ((u6_24)) ((u6_2)) ((a2)) ((u6_22) - (u6_2)) ((a1)) ((z13)) ((a1) - (x31_5)) := .inl ⟨by omega, SCI_r0 (SCI_y j31_s rfl (by omega) (by omega) (by omega) hcp (by unfold BET; omega) (by omega)) (by omega) (by omega)⟩
                          exact w_ireturn rfl (k (z13) σ _ _ H (SF_upd (SF_trans (SF_trans (SF_trans (SF_refl) hS_c22 (any_sub rfl)) hS_31 (any_sub rfl)) hS11 (any_sub rfl)) rfl) (SA_trans (SA_trans (SA_trans (SA_refl) hA_c22 (any_subA rfl)) hA_31 (any_subA rfl)) hA12 (any_subA rfl)) (x31_5) (rfl) (show inr (z13) from pz13_0) (show 0 ≤ (z13) from q_2024 pz13_1) (show (z13) = 0 ∨ (u6_2) ≤ (z13) ∧ (z13) ≤ (u6_22) - a1 ∧ (x31_5) < a1 by omega) (show MTL ((w61)) ((u6_22)) ((u6_24)) ((u6_2)) (a2) ((u6_22) - (u6_2)) (a1) ((z13)) (a1 - (x31_5)) by assumption))
                      · refine Ew_of (pcₚ := 148) (fun _ => x_goto rfl rfl) ?_
                        refine Ew_of (pcₚ := 151) (fun _ => x_iinc (len := 3) rfl (rk_o (rk_o (l31_5) rfl rfl) rfl rfl)) ?_
                        refine Ew_of (pcₚ := 31) (fun _ => x_goto rfl rfl) ?_
                        have : SCI ((w61)) ((u6_22)) ((u6_24)) ((u6_2)) ((a2)) ((a1)) (((x31_5 + (-1)))) ((x31_4)) ((a1) - (y31_6_23)) := by first | exact SCI_y j31_s rfl (by omega) (by omega) (by omega) hcp (by unfold BET; omega) (by omega) | exact SCI_n j31_s rfl hcp (by unfold BET; omega) (by omega)
                        exact ih31 _ (msE hm31 q_2020 (q_2021 b6)) _ σ _ _ (x31_4) ((x31_5 + (-1))) (rk_o (rk_o (rk_o (l31_0) rfl rfl) rfl rfl) rfl rfl) (rk_o (rk_o (rk_o (l31_1) rfl rfl) rfl rfl) rfl rfl) (rk_o (rk_o (rk_o (l31_2) rfl rfl) rfl rfl) rfl rfl) (rk_o (rk_o (rk_o (l31_3) rfl rfl) rfl rfl) rfl rfl) (rk_o (rk_o (rk_o (l31_4) rfl rfl) rfl rfl) rfl rfl) (rk_s) H (SF_trans (hS_31) hS11 (any_sub rfl)) (SA_trans (hA_31) hA12 (any_subA rfl)) (y31_6_23) (((hS11 6 23 rfl).trans (ey31_6_23)))  (show inr (x31_4) from j31_0) (show inr ((x31_5 + (-1))) from q_431 b6 j31_1) (show -1 ≤ ((x31_5 + (-1))) ∧ ((x31_5 + (-1))) < (a1) from q_2019 b6 j31_2) (show (x31_4) = 0 ∨ (u6_2) ≤ (x31_4) ∧ (x31_4) ≤ (tc22_0) ∧ (y31_6_23) < (a1) from j31_3) (show SCI ((w61)) ((u6_22)) ((u6_24)) ((u6_2)) ((a2)) ((a1)) (((x31_5 + (-1)))) ((x31_4)) ((a1) - (y31_6_23)) by assumption) rfl
                  · refine Ew_of (pcₚ := 102) (fun _ => x_iload rfl rk_s) ?_
                    refine Ew_of (pcₚ := 104) (fun _ => x_bipush (z := 7) rfl (by decide)) ?_
                    refine w_icmple (t := 111) rfl rfl (show inr (z13) from pz13_0) (show inr (7) from q_597) (fun b27 => ?_) (fun b27 => ?_)
                    · refine Ew_of (pcₚ := 112) (fun _ => x_iconst rfl) ?_
                      refine Ew_of (pcₚ := 114) (fun _ => x_istore rfl) ?_
                      refine Ew_of (pcₚ := 116) (fun _ => x_iload rfl (rk_o (rk_s) rfl rfl)) ?_
                      refine Ew_of (pcₚ := 117) (fun _ => x_aload_n rfl (rk_o (rk_o (l31_0) rfl rfl) rfl rfl)) ?_
                      refine w_gI H (o := 6) (w := u6_2) rfl (H.perm 6 rfl) rfl rfl rfl (fun _ => rfl) ((((hS11 6 2 rfl).trans (hS_31 6 2 rfl)).trans (hS_c22 6 2 rfl)).trans (eu6_2)) ?_
                      refine w_icmplt (t := 148) rfl rfl (show inr (z13) from pz13_0) (show inr (u6_2) from q_2018 r1) (fun b28 => ?_) (fun b28 => ?_)
                      · refine Ew_of (pcₚ := 151) (fun _ => x_iinc (len := 3) rfl (rk_o (rk_o (l31_5) rfl rfl) rfl rfl)) ?_
                        refine Ew_of (pcₚ := 31) (fun _ => x_goto rfl rfl) ?_
                        have : SCI ((w61)) ((u6_22)) ((u6_24)) ((u6_2)) ((a2)) ((a1)) (((x31_5 + (-1)))) ((x31_4)) ((a1) - (y31_6_23)) := by first | exact SCI_y j31_s rfl (by omega) (by omega) (by omega) hcp (by unfold BET; omega) (by omega) | exact SCI_n j31_s rfl hcp (by unfold BET; omega) (by omega)
                        exact ih31 _ (msE hm31 q_2020 (q_2021 b6)) _ σ _ _ (x31_4) ((x31_5 + (-1))) (rk_o (rk_o (rk_o (l31_0) rfl rfl) rfl rfl) rfl rfl) (rk_o (rk_o (rk_o (l31_1) rfl rfl) rfl rfl) rfl rfl) (rk_o (rk_o (rk_o (l31_2) rfl rfl) rfl rfl) rfl rfl) (rk_o (rk_o (rk_o (l31_3) rfl rfl) rfl rfl) rfl rfl) (rk_o (rk_o (rk_o (l31_4) rfl rfl) rfl rfl) rfl rfl) (rk_s) H (SF_trans (hS_31) hS11 (any_sub rfl)) (SA_trans (hA_31) hA12 (any_subA rfl)) (y31_6_23) (((hS11 6 23 rfl).trans (ey31_6_23)))  (show inr (x31_4) from j31_0) (show inr ((x31_5 + (-1))) from q_431 b6 j31_1) (show -1 ≤ ((x31_5 + (-1))) ∧ ((x31_5 + (-1))) < (a1) from q_2019 b6 j31_2) (show (x31_4) = 0 ∨ (u6_2) ≤ (x31_4) ∧ (x31_4) ≤ (tc22_0) ∧ (y31_6_23) < (a1) from j31_3) (show SCI ((w61)) ((u6_22)) ((u6_24)) ((u6_2)) ((a2)) ((a1)) (((x31_5 + (-1)))) ((x31_4)) ((a1) - (y31_6_23)) by assumption) rfl
                      · refine Ew_of (pcₚ := 125) (fun _ => x_iload rfl rk_s) ?_
                        refine w_ifne (t := 131) rfl rfl (show inr (0) from q_2) (fun b29 => ?_) (fun b29 => ?_)
                        · refine Ew_of (pcₚ := 133) (fun _ => x_iload rfl (rk_o (rk_s) rfl rfl)) ?_
                          refine Ew_of (pcₚ := 135) (fun _ => x_istore rfl) ?_
                          refine Ew_of (pcₚ := 136) (fun _ => x_aload_n rfl (rk_o (rk_o (rk_o (l31_0) rfl rfl) rfl rfl) rfl rfl)) ?_
                          refine Ew_of (pcₚ := 138) (fun _ => x_iload rfl (rk_o (rk_o (rk_o (l31_5) rfl rfl) rfl rfl) rfl rfl)) ?_
                          refine w_pI H (o := 6) rfl rfl (H.perm 6 rfl) rfl rfl rfl (fun _ => rfl) rfl (show (0 : Int) ≤ x31_5 ∧ x31_5 ≤ 16384 from q_2022 b6 h2 j31_2 r2) (fun σ H => ?_)
                          refine Ew_of (pcₚ := 142) (fun _ => x_iload_n rfl (rk_o (rk_o (rk_o (l31_2) rfl rfl) rfl rfl) rfl rfl)) ?_
                          refine w_ifne (t := 148) rfl rfl (show inr (a2) from h1) (fun b30 => ?_) (fun b30 => ?_)
                          · refine Ew_of (pcₚ := 151) (fun _ => x_iinc (len := 3) rfl (rk_o (rk_o (rk_o (l31_5) rfl rfl) rfl rfl) rfl rfl)) ?_
                            refine Ew_of (pcₚ := 31) (fun _ => x_goto rfl rfl) ?_
                            have : SCI ((w61)) ((u6_22)) ((u6_24)) ((u6_2)) ((a2)) ((a1)) (((x31_5 + (-1)))) ((z13)) ((a1) - (x31_5)) := by first | exact SCI_y j31_s rfl (by omega) (by omega) (by omega) hcp (by unfold BET; omega) (by omega) | exact SCI_n j31_s rfl hcp (by unfold BET; omega) (by omega)
                            exact ih31 _ (msE hm31 q_2020 (q_2021 b6)) _ σ _ _ (z13) ((x31_5 + (-1))) (rk_o (rk_o (rk_o (rk_o (l31_0) rfl rfl) rfl rfl) rfl rfl) rfl rfl) (rk_o (rk_o (rk_o (rk_o (l31_1) rfl rfl) rfl rfl) rfl rfl) rfl rfl) (rk_o (rk_o (rk_o (rk_o (l31_2) rfl rfl) rfl rfl) rfl rfl) rfl rfl) (rk_o (rk_o (rk_o (rk_o (l31_3) rfl rfl) rfl rfl) rfl rfl) rfl rfl) (rk_o (rk_s) rfl rfl) (rk_s) H (SF_upd (SF_trans (hS_31) hS11 (any_sub rfl)) rfl) (SA_trans (hA_31) hA12 (any_subA rfl)) (x31_5) (rfl)  (show inr (z13) from pz13_0) (show inr ((x31_5 + (-1))) from q_431 b6 j31_1) (show -1 ≤ ((x31_5 + (-1))) ∧ ((x31_5 + (-1))) < (a1) from q_2019 b6 j31_2) (show (z13) = 0 ∨ (u6_2) ≤ (z13) ∧ (z13) ≤ (tc22_0) ∧ (x31_5) < (a1) from q_2023 b28 j31_2 pz13_1) (show SCI ((w61)) ((u6_22)) ((u6_24)) ((u6_2)) ((a2)) ((a1)) (((x31_5 + (-1)))) ((z13)) ((a1) - (x31_5)) by assumption) rfl
                          · refine Ew_of (pcₚ := 147) (fun _ => x_iload rfl rk_s) ?_
                            have : MTL ((w61)) ((u6_22)) ((u6_24)) ((u6_2)) ((a2)) ((u6_22) - (u6_2)) ((a1)) ((z13)) ((a1) - (x31_5)) := .inl ⟨by omega, SCI_r0 (SCI_y j31_s rfl (by omega) (by omega) (by omega) hcp (by unfold BET; omega) (by omega)) (by omega) (by omega)⟩
                            exact w_ireturn rfl (k (z13) σ _ _ H (SF_upd (SF_trans (SF_trans (SF_trans (SF_refl) hS_c22 (any_sub rfl)) hS_31 (any_sub rfl)) hS11 (any_sub rfl)) rfl) (SA_trans (SA_trans (SA_trans (SA_refl) hA_c22 (any_subA rfl)) hA_31 (any_subA rfl)) hA12 (any_subA rfl)) (x31_5) (rfl) (show inr (z13) from pz13_0) (show 0 ≤ (z13) from q_2024 pz13_1) (show (z13) = 0 ∨ (u6_2) ≤ (z13) ∧ (z13) ≤ (u6_22) - a1 ∧ (x31_5) < a1 by omega) (show MTL ((w61)) ((u6_22)) ((u6_24)) ((u6_2)) (a2) ((u6_22) - (u6_2)) (a1) ((z13)) (a1 - (x31_5)) by assumption))
                        · refine Ew_of (pcₚ := 148) (fun _ => x_goto rfl rfl) ?_
                          refine Ew_of (pcₚ := 151) (fun _ => x_iinc (len := 3) rfl (rk_o (rk_o (l31_5) rfl rfl) rfl rfl)) ?_
                          refine Ew_of (pcₚ := 31) (fun _ => x_goto rfl rfl) ?_
                          have : SCI ((w61)) ((u6_22)) ((u6_24)) ((u6_2)) ((a2)) ((a1)) (((x31_5 + (-1)))) ((x31_4)) ((a1) - (y31_6_23)) := by first | exact SCI_y j31_s rfl (by omega) (by omega) (by omega) hcp (by unfold BET; omega) (by omega) | exact SCI_n j31_s rfl hcp (by unfold BET; omega) (by omega)
                          exact ih31 _ (msE hm31 q_2020 (q_2021 b6)) _ σ _ _ (x31_4) ((x31_5 + (-1))) (rk_o (rk_o (rk_o (l31_0) rfl rfl) rfl rfl) rfl rfl) (rk_o (rk_o (rk_o (l31_1) rfl rfl) rfl rfl) rfl rfl) (rk_o (rk_o (rk_o (l31_2) rfl rfl) rfl rfl) rfl rfl) (rk_o (rk_o (rk_o (l31_3) rfl rfl) rfl rfl) rfl rfl) (rk_o (rk_o (rk_o (l31_4) rfl rfl) rfl rfl) rfl rfl) (rk_s) H (SF_trans (hS_31) hS11 (any_sub rfl)) (SA_trans (hA_31) hA12 (any_subA rfl)) (y31_6_23) (((hS11 6 23 rfl).trans (ey31_6_23)))  (show inr (x31_4) from j31_0) (show inr ((x31_5 + (-1))) from q_431 b6 j31_1) (show -1 ≤ ((x31_5 + (-1))) ∧ ((x31_5 + (-1))) < (a1) from q_2019 b6 j31_2) (show (x31_4) = 0 ∨ (u6_2) ≤ (x31_4) ∧ (x31_4) ≤ (tc22_0) ∧ (y31_6_23) < (a1) from j31_3) (show SCI ((w61)) ((u6_22)) ((u6_24)) ((u6_2)) ((a2)) ((a1)) (((x31_5 + (-1)))) ((x31_4)) ((a1) - (y31_6_23)) by assumption) rfl
                    · refine Ew_of (pcₚ := 108) (fun _ => x_iconst rfl) ?_
                      refine Ew_of (pcₚ := 112) (fun _ => x_goto rfl rfl) ?_
                      refine Ew_of (pcₚ := 114) (fun _ => x_istore rfl) ?_
                      refine Ew_of (pcₚ := 116) (fun _ => x_iload rfl (rk_o (rk_s) rfl rfl)) ?_
                      refine Ew_of (pcₚ := 117) (fun _ => x_aload_n rfl (rk_o (rk_o (l31_0) rfl rfl) rfl rfl)) ?_
                      refine w_gI H (o := 6) (w := u6_2) rfl (H.perm 6 rfl) rfl rfl rfl (fun _ => rfl) ((((hS11 6 2 rfl).trans (hS_31 6 2 rfl)).trans (hS_c22 6 2 rfl)).trans (eu6_2)) ?_
                      refine w_icmplt (t := 148) rfl rfl (show inr (z13) from pz13_0) (show inr (u6_2) from q_2018 r1) (fun b31 => ?_) (fun b31 => ?_)
                      · refine Ew_of (pcₚ := 151) (fun _ => x_iinc (len := 3) rfl (rk_o (rk_o (l31_5) rfl rfl) rfl rfl)) ?_
                        refine Ew_of (pcₚ := 31) (fun _ => x_goto rfl rfl) ?_
                        have : SCI ((w61)) ((u6_22)) ((u6_24)) ((u6_2)) ((a2)) ((a1)) (((x31_5 + (-1)))) ((x31_4)) ((a1) - (y31_6_23)) := by first | exact SCI_y j31_s rfl (by omega) (by omega) (by omega) hcp (by unfold BET; omega) (by omega) | exact SCI_n j31_s rfl hcp (by unfold BET; omega) (by omega)
                        exact ih31 _ (msE hm31 q_2020 (q_2021 b6)) _ σ _ _ (x31_4) ((x31_5 + (-1))) (rk_o (rk_o (rk_o (l31_0) rfl rfl) rfl rfl) rfl rfl) (rk_o (rk_o (rk_o (l31_1) rfl rfl) rfl rfl) rfl rfl) (rk_o (rk_o (rk_o (l31_2) rfl rfl) rfl rfl) rfl rfl) (rk_o (rk_o (rk_o (l31_3) rfl rfl) rfl rfl) rfl rfl) (rk_o (rk_o (rk_o (l31_4) rfl rfl) rfl rfl) rfl rfl) (rk_s) H (SF_trans (hS_31) hS11 (any_sub rfl)) (SA_trans (hA_31) hA12 (any_subA rfl)) (y31_6_23) (((hS11 6 23 rfl).trans (ey31_6_23)))  (show inr (x31_4) from j31_0) (show inr ((x31_5 + (-1))) from q_431 b6 j31_1) (show -1 ≤ ((x31_5 + (-1))) ∧ ((x31_5 + (-1))) < (a1) from q_2019 b6 j31_2) (show (x31_4) = 0 ∨ (u6_2) ≤ (x31_4) ∧ (x31_4) ≤ (tc22_0) ∧ (y31_6_23) < (a1) from j31_3) (show SCI ((w61)) ((u6_22)) ((u6_24)) ((u6_2)) ((a2)) ((a1)) (((x31_5 + (-1)))) ((x31_4)) ((a1) - (y31_6_23)) by assumption) rfl
                      · refine Ew_of (pcₚ := 125) (fun _ => x_iload rfl rk_s) ?_
                        refine w_ifne (t := 131) rfl rfl (show inr (1) from q_135) (fun b32 => ?_) (fun b32 => ?_)
                        · refine Ew_of (pcₚ := 133) (fun _ => x_iload rfl (rk_o (rk_s) rfl rfl)) ?_
                          refine Ew_of (pcₚ := 135) (fun _ => x_istore rfl) ?_
                          refine Ew_of (pcₚ := 136) (fun _ => x_aload_n rfl (rk_o (rk_o (rk_o (l31_0) rfl rfl) rfl rfl) rfl rfl)) ?_
                          refine Ew_of (pcₚ := 138) (fun _ => x_iload rfl (rk_o (rk_o (rk_o (l31_5) rfl rfl) rfl rfl) rfl rfl)) ?_
                          refine w_pI H (o := 6) rfl rfl (H.perm 6 rfl) rfl rfl rfl (fun _ => rfl) rfl (show (0 : Int) ≤ x31_5 ∧ x31_5 ≤ 16384 from q_2022 b6 h2 j31_2 r2) (fun σ H => ?_)
                          refine Ew_of (pcₚ := 142) (fun _ => x_iload_n rfl (rk_o (rk_o (rk_o (l31_2) rfl rfl) rfl rfl) rfl rfl)) ?_
                          refine w_ifne (t := 148) rfl rfl (show inr (a2) from h1) (fun b33 => ?_) (fun b33 => ?_)
                          · refine Ew_of (pcₚ := 151) (fun _ => x_iinc (len := 3) rfl (rk_o (rk_o (rk_o (l31_5) rfl rfl) rfl rfl) rfl rfl)) ?_
                            refine Ew_of (pcₚ := 31) (fun _ => x_goto rfl rfl) ?_
                            have : SCI ((w61)) ((u6_22)) ((u6_24)) ((u6_2)) ((a2)) ((a1)) (((x31_5 + (-1)))) ((z13)) ((a1) - (x31_5)) := by first | exact SCI_y j31_s rfl (by omega) (by omega) (by omega) hcp (by unfold BET; omega) (by omega) | exact SCI_n j31_s rfl hcp (by unfold BET; omega) (by omega)
                            exact ih31 _ (msE hm31 q_2020 (q_2021 b6)) _ σ _ _ (z13) ((x31_5 + (-1))) (rk_o (rk_o (rk_o (rk_o (l31_0) rfl rfl) rfl rfl) rfl rfl) rfl rfl) (rk_o (rk_o (rk_o (rk_o (l31_1) rfl rfl) rfl rfl) rfl rfl) rfl rfl) (rk_o (rk_o (rk_o (rk_o (l31_2) rfl rfl) rfl rfl) rfl rfl) rfl rfl) (rk_o (rk_o (rk_o (rk_o (l31_3) rfl rfl) rfl rfl) rfl rfl) rfl rfl) (rk_o (rk_s) rfl rfl) (rk_s) H (SF_upd (SF_trans (hS_31) hS11 (any_sub rfl)) rfl) (SA_trans (hA_31) hA12 (any_subA rfl)) (x31_5) (rfl)  (show inr (z13) from pz13_0) (show inr ((x31_5 + (-1))) from q_431 b6 j31_1) (show -1 ≤ ((x31_5 + (-1))) ∧ ((x31_5 + (-1))) < (a1) from q_2019 b6 j31_2) (show (z13) = 0 ∨ (u6_2) ≤ (z13) ∧ (z13) ≤ (tc22_0) ∧ (x31_5) < (a1) from q_2023 b31 j31_2 pz13_1) (show SCI ((w61)) ((u6_22)) ((u6_24)) ((u6_2)) ((a2)) ((a1)) (((x31_5 + (-1)))) ((z13)) ((a1) - (x31_5)) by assumption) rfl
                          · refine Ew_of (pcₚ := 147) (fun _ => x_iload rfl rk_s) ?_
                            have : MTL ((w61)) ((u6_22)) ((u6_24)) ((u6_2)) ((a2)) ((u6_22) - (u6_2)) ((a1)) ((z13)) ((a1) - (x31_5)) := .inl ⟨by omega, SCI_r0 (SCI_y j31_s rfl (by omega) (by omega) (by omega) hcp (by unfold BET; omega) (by omega)) (by omega) (by omega)⟩
                            exact w_ireturn rfl (k (z13) σ _ _ H (SF_upd (SF_trans (SF_trans (SF_trans (SF_refl) hS_c22 (any_sub rfl)) hS_31 (any_sub rfl)) hS11 (any_sub rfl)) rfl) (SA_trans (SA_trans (SA_trans (SA_refl) hA_c22 (any_subA rfl)) hA_31 (any_subA rfl)) hA12 (any_subA rfl)) (x31_5) (rfl) (show inr (z13) from pz13_0) (show 0 ≤ (z13) from q_2024 pz13_1) (show (z13) = 0 ∨ (u6_2) ≤ (z13) ∧ (z13) ≤ (u6_22) - a1 ∧ (x31_5) < a1 by omega) (show MTL ((w61)) ((u6_22)) ((u6_24)) ((u6_2)) (a2) ((u6_22) - (u6_2)) (a1) ((z13)) (a1 - (x31_5)) by assumption))
                        · refine Ew_of (pcₚ := 148) (fun _ => x_goto rfl rfl) ?_
                          refine Ew_of (pcₚ := 151) (fun _ => x_iinc (len := 3) rfl (rk_o (rk_o (l31_5) rfl rfl) rfl rfl)) ?_
                          refine Ew_of (pcₚ := 31) (fun _ => x_goto rfl rfl) ?_
                          have : SCI ((w61)) ((u6_22)) ((u6_24)) ((u6_2)) ((a2)) ((a1)) (((x31_5 + (-1)))) ((x31_4)) ((a1) - (y31_6_23)) := by first | exact SCI_y j31_s rfl (by omega) (by omega) (by omega) hcp (by unfold BET; omega) (by omega) | exact SCI_n j31_s rfl hcp (by unfold BET; omega) (by omega)
                          exact ih31 _ (msE hm31 q_2020 (q_2021 b6)) _ σ _ _ (x31_4) ((x31_5 + (-1))) (rk_o (rk_o (rk_o (l31_0) rfl rfl) rfl rfl) rfl rfl) (rk_o (rk_o (rk_o (l31_1) rfl rfl) rfl rfl) rfl rfl) (rk_o (rk_o (rk_o (l31_2) rfl rfl) rfl rfl) rfl rfl) (rk_o (rk_o (rk_o (l31_3) rfl rfl) rfl rfl) rfl rfl) (rk_o (rk_o (rk_o (l31_4) rfl rfl) rfl rfl) rfl rfl) (rk_s) H (SF_trans (hS_31) hS11 (any_sub rfl)) (SA_trans (hA_31) hA12 (any_subA rfl)) (y31_6_23) (((hS11 6 23 rfl).trans (ey31_6_23)))  (show inr (x31_4) from j31_0) (show inr ((x31_5 + (-1))) from q_431 b6 j31_1) (show -1 ≤ ((x31_5 + (-1))) ∧ ((x31_5 + (-1))) < (a1) from q_2019 b6 j31_2) (show (x31_4) = 0 ∨ (u6_2) ≤ (x31_4) ∧ (x31_4) ≤ (tc22_0) ∧ (y31_6_23) < (a1) from j31_3) (show SCI ((w61)) ((u6_22)) ((u6_24)) ((u6_2)) ((a2)) ((a1)) (((x31_5 + (-1)))) ((x31_4)) ((a1) - (y31_6_23)) by assumption) rfl
            · refine Ew_of (pcₚ := 70) (fun _ => x_iload rfl rk_s) ?_
              refine Ew_of (pcₚ := 72) (fun _ => x_iload rfl (rk_o (l31_4) rfl rfl)) ?_
              refine w_icmple (t := 79) rfl rfl (show inr (z13) from pz13_0) (show inr (x31_4) from j31_0) (fun b34 => ?_) (fun b34 => ?_)
              · refine Ew_of (pcₚ := 80) (fun _ => x_iconst rfl) ?_
                refine Ew_of (pcₚ := 112) (fun _ => x_goto rfl rfl) ?_
                refine Ew_of (pcₚ := 114) (fun _ => x_istore rfl) ?_
                refine Ew_of (pcₚ := 116) (fun _ => x_iload rfl (rk_o (rk_s) rfl rfl)) ?_
                refine Ew_of (pcₚ := 117) (fun _ => x_aload_n rfl (rk_o (rk_o (l31_0) rfl rfl) rfl rfl)) ?_
                refine w_gI H (o := 6) (w := u6_2) rfl (H.perm 6 rfl) rfl rfl rfl (fun _ => rfl) ((((hS11 6 2 rfl).trans (hS_31 6 2 rfl)).trans (hS_c22 6 2 rfl)).trans (eu6_2)) ?_
                refine w_icmplt (t := 148) rfl rfl (show inr (z13) from pz13_0) (show inr (u6_2) from q_2018 r1) (fun b35 => ?_) (fun b35 => ?_)
                · refine Ew_of (pcₚ := 151) (fun _ => x_iinc (len := 3) rfl (rk_o (rk_o (l31_5) rfl rfl) rfl rfl)) ?_
                  refine Ew_of (pcₚ := 31) (fun _ => x_goto rfl rfl) ?_
                  have : SCI ((w61)) ((u6_22)) ((u6_24)) ((u6_2)) ((a2)) ((a1)) (((x31_5 + (-1)))) ((x31_4)) ((a1) - (y31_6_23)) := by first | exact SCI_y j31_s rfl (by omega) (by omega) (by omega) hcp (by unfold BET; omega) (by omega) | exact SCI_n j31_s rfl hcp (by unfold BET; omega) (by omega)
                  exact ih31 _ (msE hm31 q_2020 (q_2021 b6)) _ σ _ _ (x31_4) ((x31_5 + (-1))) (rk_o (rk_o (rk_o (l31_0) rfl rfl) rfl rfl) rfl rfl) (rk_o (rk_o (rk_o (l31_1) rfl rfl) rfl rfl) rfl rfl) (rk_o (rk_o (rk_o (l31_2) rfl rfl) rfl rfl) rfl rfl) (rk_o (rk_o (rk_o (l31_3) rfl rfl) rfl rfl) rfl rfl) (rk_o (rk_o (rk_o (l31_4) rfl rfl) rfl rfl) rfl rfl) (rk_s) H (SF_trans (hS_31) hS11 (any_sub rfl)) (SA_trans (hA_31) hA12 (any_subA rfl)) (y31_6_23) (((hS11 6 23 rfl).trans (ey31_6_23)))  (show inr (x31_4) from j31_0) (show inr ((x31_5 + (-1))) from q_431 b6 j31_1) (show -1 ≤ ((x31_5 + (-1))) ∧ ((x31_5 + (-1))) < (a1) from q_2019 b6 j31_2) (show (x31_4) = 0 ∨ (u6_2) ≤ (x31_4) ∧ (x31_4) ≤ (tc22_0) ∧ (y31_6_23) < (a1) from j31_3) (show SCI ((w61)) ((u6_22)) ((u6_24)) ((u6_2)) ((a2)) ((a1)) (((x31_5 + (-1)))) ((x31_4)) ((a1) - (y31_6_23)) by assumption) rfl
                · refine Ew_of (pcₚ := 125) (fun _ => x_iload rfl rk_s) ?_
                  refine w_ifne (t := 131) rfl rfl (show inr (0) from q_2) (fun b36 => ?_) (fun b36 => ?_)
                  · refine Ew_of (pcₚ := 133) (fun _ => x_iload rfl (rk_o (rk_s) rfl rfl)) ?_
                    refine Ew_of (pcₚ := 135) (fun _ => x_istore rfl) ?_
                    refine Ew_of (pcₚ := 136) (fun _ => x_aload_n rfl (rk_o (rk_o (rk_o (l31_0) rfl rfl) rfl rfl) rfl rfl)) ?_
                    refine Ew_of (pcₚ := 138) (fun _ => x_iload rfl (rk_o (rk_o (rk_o (l31_5) rfl rfl) rfl rfl) rfl rfl)) ?_
                    refine w_pI H (o := 6) rfl rfl (H.perm 6 rfl) rfl rfl rfl (fun _ => rfl) rfl (show (0 : Int) ≤ x31_5 ∧ x31_5 ≤ 16384 from q_2022 b6 h2 j31_2 r2) (fun σ H => ?_)
                    refine Ew_of (pcₚ := 142) (fun _ => x_iload_n rfl (rk_o (rk_o (rk_o (l31_2) rfl rfl) rfl rfl) rfl rfl)) ?_
                    refine w_ifne (t := 148) rfl rfl (show inr (a2) from h1) (fun b37 => ?_) (fun b37 => ?_)
                    · refine Ew_of (pcₚ := 151) (fun _ => x_iinc (len := 3) rfl (rk_o (rk_o (rk_o (l31_5) rfl rfl) rfl rfl) rfl rfl)) ?_
                      refine Ew_of (pcₚ := 31) (fun _ => x_goto rfl rfl) ?_
                      have : SCI ((w61)) ((u6_22)) ((u6_24)) ((u6_2)) ((a2)) ((a1)) (((x31_5 + (-1)))) ((z13)) ((a1) - (x31_5)) := by first | exact SCI_y j31_s rfl (by omega) (by omega) (by omega) hcp (by unfold BET; omega) (by omega) | exact SCI_n j31_s rfl hcp (by unfold BET; omega) (by omega)
                      exact ih31 _ (msE hm31 q_2020 (q_2021 b6)) _ σ _ _ (z13) ((x31_5 + (-1))) (rk_o (rk_o (rk_o (rk_o (l31_0) rfl rfl) rfl rfl) rfl rfl) rfl rfl) (rk_o (rk_o (rk_o (rk_o (l31_1) rfl rfl) rfl rfl) rfl rfl) rfl rfl) (rk_o (rk_o (rk_o (rk_o (l31_2) rfl rfl) rfl rfl) rfl rfl) rfl rfl) (rk_o (rk_o (rk_o (rk_o (l31_3) rfl rfl) rfl rfl) rfl rfl) rfl rfl) (rk_o (rk_s) rfl rfl) (rk_s) H (SF_upd (SF_trans (hS_31) hS11 (any_sub rfl)) rfl) (SA_trans (hA_31) hA12 (any_subA rfl)) (x31_5) (rfl)  (show inr (z13) from pz13_0) (show inr ((x31_5 + (-1))) from q_431 b6 j31_1) (show -1 ≤ ((x31_5 + (-1))) ∧ ((x31_5 + (-1))) < (a1) from q_2019 b6 j31_2) (show (z13) = 0 ∨ (u6_2) ≤ (z13) ∧ (z13) ≤ (tc22_0) ∧ (x31_5) < (a1) from q_2023 b35 j31_2 pz13_1) (show SCI ((w61)) ((u6_22)) ((u6_24)) ((u6_2)) ((a2)) ((a1)) (((x31_5 + (-1)))) ((z13)) ((a1) - (x31_5)) by assumption) rfl
                    · refine Ew_of (pcₚ := 147) (fun _ => x_iload rfl rk_s) ?_
                      have : MTL ((w61)) ((u6_22)) ((u6_24)) ((u6_2)) ((a2)) ((u6_22) - (u6_2)) ((a1)) ((z13)) ((a1) - (x31_5)) := .inl ⟨by omega, SCI_r0 (SCI_y j31_s rfl (by omega) (by omega) (by omega) hcp (by unfold BET; omega) (by omega)) (by omega) (by omega)⟩
                      exact w_ireturn rfl (k (z13) σ _ _ H (SF_upd (SF_trans (SF_trans (SF_trans (SF_refl) hS_c22 (any_sub rfl)) hS_31 (any_sub rfl)) hS11 (any_sub rfl)) rfl) (SA_trans (SA_trans (SA_trans (SA_refl) hA_c22 (any_subA rfl)) hA_31 (any_subA rfl)) hA12 (any_subA rfl)) (x31_5) (rfl) (show inr (z13) from pz13_0) (show 0 ≤ (z13) from q_2024 pz13_1) (show (z13) = 0 ∨ (u6_2) ≤ (z13) ∧ (z13) ≤ (u6_22) - a1 ∧ (x31_5) < a1 by omega) (show MTL ((w61)) ((u6_22)) ((u6_24)) ((u6_2)) (a2) ((u6_22) - (u6_2)) (a1) ((z13)) (a1 - (x31_5)) by assumption))
                  · refine Ew_of (pcₚ := 148) (fun _ => x_goto rfl rfl) ?_
                    refine Ew_of (pcₚ := 151) (fun _ => x_iinc (len := 3) rfl (rk_o (rk_o (l31_5) rfl rfl) rfl rfl)) ?_
                    refine Ew_of (pcₚ := 31) (fun _ => x_goto rfl rfl) ?_
                    have : SCI ((w61)) ((u6_22)) ((u6_24)) ((u6_2)) ((a2)) ((a1)) (((x31_5 + (-1)))) ((x31_4)) ((a1) - (y31_6_23)) := by first | exact SCI_y j31_s rfl (by omega) (by omega) (by omega) hcp (by unfold BET; omega) (by omega) | exact SCI_n j31_s rfl hcp (by unfold BET; omega) (by omega)
                    exact ih31 _ (msE hm31 q_2020 (q_2021 b6)) _ σ _ _ (x31_4) ((x31_5 + (-1))) (rk_o (rk_o (rk_o (l31_0) rfl rfl) rfl rfl) rfl rfl) (rk_o (rk_o (rk_o (l31_1) rfl rfl) rfl rfl) rfl rfl) (rk_o (rk_o (rk_o (l31_2) rfl rfl) rfl rfl) rfl rfl) (rk_o (rk_o (rk_o (l31_3) rfl rfl) rfl rfl) rfl rfl) (rk_o (rk_o (rk_o (l31_4) rfl rfl) rfl rfl) rfl rfl) (rk_s) H (SF_trans (hS_31) hS11 (any_sub rfl)) (SA_trans (hA_31) hA12 (any_subA rfl)) (y31_6_23) (((hS11 6 23 rfl).trans (ey31_6_23)))  (show inr (x31_4) from j31_0) (show inr ((x31_5 + (-1))) from q_431 b6 j31_1) (show -1 ≤ ((x31_5 + (-1))) ∧ ((x31_5 + (-1))) < (a1) from q_2019 b6 j31_2) (show (x31_4) = 0 ∨ (u6_2) ≤ (x31_4) ∧ (x31_4) ≤ (tc22_0) ∧ (y31_6_23) < (a1) from j31_3) (show SCI ((w61)) ((u6_22)) ((u6_24)) ((u6_2)) ((a2)) ((a1)) (((x31_5 + (-1)))) ((x31_4)) ((a1) - (y31_6_23)) by assumption) rfl
              · refine Ew_of (pcₚ := 76) (fun _ => x_iconst rfl) ?_
                refine Ew_of (pcₚ := 112) (fun _ => x_goto rfl rfl) ?_
                refine Ew_of (pcₚ := 114) (fun _ => x_istore rfl) ?_
                refine Ew_of (pcₚ := 116) (fun _ => x_iload rfl (rk_o (rk_s) rfl rfl)) ?_
                refine Ew_of (pcₚ := 117) (fun _ => x_aload_n rfl (rk_o (rk_o (l31_0) rfl rfl) rfl rfl)) ?_
                refine w_gI H (o := 6) (w := u6_2) rfl (H.perm 6 rfl) rfl rfl rfl (fun _ => rfl) ((((hS11 6 2 rfl).trans (hS_31 6 2 rfl)).trans (hS_c22 6 2 rfl)).trans (eu6_2)) ?_
                refine w_icmplt (t := 148) rfl rfl (show inr (z13) from pz13_0) (show inr (u6_2) from q_2018 r1) (fun b38 => ?_) (fun b38 => ?_)
                · refine Ew_of (pcₚ := 151) (fun _ => x_iinc (len := 3) rfl (rk_o (rk_o (l31_5) rfl rfl) rfl rfl)) ?_
                  refine Ew_of (pcₚ := 31) (fun _ => x_goto rfl rfl) ?_
                  have : SCI ((w61)) ((u6_22)) ((u6_24)) ((u6_2)) ((a2)) ((a1)) (((x31_5 + (-1)))) ((x31_4)) ((a1) - (y31_6_23)) := by first | exact SCI_y j31_s rfl (by omega) (by omega) (by omega) hcp (by unfold BET; omega) (by omega) | exact SCI_n j31_s rfl hcp (by unfold BET; omega) (by omega)
                  exact ih31 _ (msE hm31 q_2020 (q_2021 b6)) _ σ _ _ (x31_4) ((x31_5 + (-1))) (rk_o (rk_o (rk_o (l31_0) rfl rfl) rfl rfl) rfl rfl) (rk_o (rk_o (rk_o (l31_1) rfl rfl) rfl rfl) rfl rfl) (rk_o (rk_o (rk_o (l31_2) rfl rfl) rfl rfl) rfl rfl) (rk_o (rk_o (rk_o (l31_3) rfl rfl) rfl rfl) rfl rfl) (rk_o (rk_o (rk_o (l31_4) rfl rfl) rfl rfl) rfl rfl) (rk_s) H (SF_trans (hS_31) hS11 (any_sub rfl)) (SA_trans (hA_31) hA12 (any_subA rfl)) (y31_6_23) (((hS11 6 23 rfl).trans (ey31_6_23)))  (show inr (x31_4) from j31_0) (show inr ((x31_5 + (-1))) from q_431 b6 j31_1) (show -1 ≤ ((x31_5 + (-1))) ∧ ((x31_5 + (-1))) < (a1) from q_2019 b6 j31_2) (show (x31_4) = 0 ∨ (u6_2) ≤ (x31_4) ∧ (x31_4) ≤ (tc22_0) ∧ (y31_6_23) < (a1) from j31_3) (show SCI ((w61)) ((u6_22)) ((u6_24)) ((u6_2)) ((a2)) ((a1)) (((x31_5 + (-1)))) ((x31_4)) ((a1) - (y31_6_23)) by assumption) rfl
                · refine Ew_of (pcₚ := 125) (fun _ => x_iload rfl rk_s) ?_
                  refine w_ifne (t := 131) rfl rfl (show inr (1) from q_135) (fun b39 => ?_) (fun b39 => ?_)
                  · refine Ew_of (pcₚ := 133) (fun _ => x_iload rfl (rk_o (rk_s) rfl rfl)) ?_
                    refine Ew_of (pcₚ := 135) (fun _ => x_istore rfl) ?_
                    refine Ew_of (pcₚ := 136) (fun _ => x_aload_n rfl (rk_o (rk_o (rk_o (l31_0) rfl rfl) rfl rfl) rfl rfl)) ?_
                    refine Ew_of (pcₚ := 138) (fun _ => x_iload rfl (rk_o (rk_o (rk_o (l31_5) rfl rfl) rfl rfl) rfl rfl)) ?_
                    refine w_pI H (o := 6) rfl rfl (H.perm 6 rfl) rfl rfl rfl (fun _ => rfl) rfl (show (0 : Int) ≤ x31_5 ∧ x31_5 ≤ 16384 from q_2022 b6 h2 j31_2 r2) (fun σ H => ?_)
                    refine Ew_of (pcₚ := 142) (fun _ => x_iload_n rfl (rk_o (rk_o (rk_o (l31_2) rfl rfl) rfl rfl) rfl rfl)) ?_
                    refine w_ifne (t := 148) rfl rfl (show inr (a2) from h1) (fun b40 => ?_) (fun b40 => ?_)
                    · refine Ew_of (pcₚ := 151) (fun _ => x_iinc (len := 3) rfl (rk_o (rk_o (rk_o (l31_5) rfl rfl) rfl rfl) rfl rfl)) ?_
                      refine Ew_of (pcₚ := 31) (fun _ => x_goto rfl rfl) ?_
                      have : SCI ((w61)) ((u6_22)) ((u6_24)) ((u6_2)) ((a2)) ((a1)) (((x31_5 + (-1)))) ((z13)) ((a1) - (x31_5)) := by first | exact SCI_y j31_s rfl (by omega) (by omega) (by omega) hcp (by unfold BET; omega) (by omega) | exact SCI_n j31_s rfl hcp (by unfold BET; omega) (by omega)
                      exact ih31 _ (msE hm31 q_2020 (q_2021 b6)) _ σ _ _ (z13) ((x31_5 + (-1))) (rk_o (rk_o (rk_o (rk_o (l31_0) rfl rfl) rfl rfl) rfl rfl) rfl rfl) (rk_o (rk_o (rk_o (rk_o (l31_1) rfl rfl) rfl rfl) rfl rfl) rfl rfl) (rk_o (rk_o (rk_o (rk_o (l31_2) rfl rfl) rfl rfl) rfl rfl) rfl rfl) (rk_o (rk_o (rk_o (rk_o (l31_3) rfl rfl) rfl rfl) rfl rfl) rfl rfl) (rk_o (rk_s) rfl rfl) (rk_s) H (SF_upd (SF_trans (hS_31) hS11 (any_sub rfl)) rfl) (SA_trans (hA_31) hA12 (any_subA rfl)) (x31_5) (rfl)  (show inr (z13) from pz13_0) (show inr ((x31_5 + (-1))) from q_431 b6 j31_1) (show -1 ≤ ((x31_5 + (-1))) ∧ ((x31_5 + (-1))) < (a1) from q_2019 b6 j31_2) (show (z13) = 0 ∨ (u6_2) ≤ (z13) ∧ (z13) ≤ (tc22_0) ∧ (x31_5) < (a1) from q_2023 b38 j31_2 pz13_1) (show SCI ((w61)) ((u6_22)) ((u6_24)) ((u6_2)) ((a2)) ((a1)) (((x31_5 + (-1)))) ((z13)) ((a1) - (x31_5)) by assumption) rfl
                    · refine Ew_of (pcₚ := 147) (fun _ => x_iload rfl rk_s) ?_
                      have : MTL ((w61)) ((u6_22)) ((u6_24)) ((u6_2)) ((a2)) ((u6_22) - (u6_2)) ((a1)) ((z13)) ((a1) - (x31_5)) := .inl ⟨by omega, SCI_r0 (SCI_y j31_s rfl (by omega) (by omega) (by omega) hcp (by unfold BET; omega) (by omega)) (by omega) (by omega)⟩
                      exact w_ireturn rfl (k (z13) σ _ _ H (SF_upd (SF_trans (SF_trans (SF_trans (SF_refl) hS_c22 (any_sub rfl)) hS_31 (any_sub rfl)) hS11 (any_sub rfl)) rfl) (SA_trans (SA_trans (SA_trans (SA_refl) hA_c22 (any_subA rfl)) hA_31 (any_subA rfl)) hA12 (any_subA rfl)) (x31_5) (rfl) (show inr (z13) from pz13_0) (show 0 ≤ (z13) from q_2024 pz13_1) (show (z13) = 0 ∨ (u6_2) ≤ (z13) ∧ (z13) ≤ (u6_22) - a1 ∧ (x31_5) < a1 by omega) (show MTL ((w61)) ((u6_22)) ((u6_24)) ((u6_2)) (a2) ((u6_22) - (u6_2)) (a1) ((z13)) (a1 - (x31_5)) by assumption))
                  · refine Ew_of (pcₚ := 148) (fun _ => x_goto rfl rfl) ?_
                    refine Ew_of (pcₚ := 151) (fun _ => x_iinc (len := 3) rfl (rk_o (rk_o (l31_5) rfl rfl) rfl rfl)) ?_
                    refine Ew_of (pcₚ := 31) (fun _ => x_goto rfl rfl) ?_
                    have : SCI ((w61)) ((u6_22)) ((u6_24)) ((u6_2)) ((a2)) ((a1)) (((x31_5 + (-1)))) ((x31_4)) ((a1) - (y31_6_23)) := by first | exact SCI_y j31_s rfl (by omega) (by omega) (by omega) hcp (by unfold BET; omega) (by omega) | exact SCI_n j31_s rfl hcp (by unfold BET; omega) (by omega)
                    exact ih31 _ (msE hm31 q_2020 (q_2021 b6)) _ σ _ _ (x31_4) ((x31_5 + (-1))) (rk_o (rk_o (rk_o (l31_0) rfl rfl) rfl rfl) rfl rfl) (rk_o (rk_o (rk_o (l31_1) rfl rfl) rfl rfl) rfl rfl) (rk_o (rk_o (rk_o (l31_2) rfl rfl) rfl rfl) rfl rfl) (rk_o (rk_o (rk_o (l31_3) rfl rfl) rfl rfl) rfl rfl) (rk_o (rk_o (rk_o (l31_4) rfl rfl) rfl rfl) rfl rfl) (rk_s) H (SF_trans (hS_31) hS11 (any_sub rfl)) (SA_trans (hA_31) hA12 (any_subA rfl)) (y31_6_23) (((hS11 6 23 rfl).trans (ey31_6_23)))  (show inr (x31_4) from j31_0) (show inr ((x31_5 + (-1))) from q_431 b6 j31_1) (show -1 ≤ ((x31_5 + (-1))) ∧ ((x31_5 + (-1))) < (a1) from q_2019 b6 j31_2) (show (x31_4) = 0 ∨ (u6_2) ≤ (x31_4) ∧ (x31_4) ≤ (tc22_0) ∧ (y31_6_23) < (a1) from j31_3) (show SCI ((w61)) ((u6_22)) ((u6_24)) ((u6_2)) ((a2)) ((a1)) (((x31_5 + (-1)))) ((x31_4)) ((a1) - (y31_6_23)) by assumption) rfl
  refine w_icmpge (t := 20) rfl rfl (show inr ((u6_22 - a1)) from q_2026 h2 r2) (show inr (131074) from q_2025) (fun b41 => ?_) (fun b41 => ?_)
  · refine Ew_of (pcₚ := 22) (fun _ => x_ldc (z := 131074) rfl (by decide)) ?_
    exact hc22 (131074) _ σ _ _  (rfl) (rfl) (rfl) H (SF_refl) (SA_refl)   (show inr (131074) from q_2025) (show (((u6_22 - a1)) ≥ (131074) ∧ (131074) = (131074)) ∨ (((u6_22 - a1)) < (131074) ∧ (131074) = ((u6_22 - a1))) from q_2027 b41)
  · refine Ew_of (pcₚ := 12) (fun _ => x_aload_n rfl rfl) ?_
    refine w_gI H (o := 6) (w := u6_22) rfl (H.perm 6 rfl) rfl rfl rfl (fun _ => rfl) (eu6_22) ?_
    refine Ew_of (pcₚ := 16) (fun _ => x_iload_n rfl rfl) ?_
    refine w_isub rfl ?_
    refine Ew_of (pcₚ := 22) (fun _ => x_goto rfl rfl) ?_
    exact hc22 ((u6_22 - a1)) _ σ _ _  (rfl) (rfl) (rfl) H (SF_refl) (SA_refl)   (show inr ((u6_22 - a1)) from q_2029 b41 h2) (show (((u6_22 - a1)) ≥ (131074) ∧ ((u6_22 - a1)) = (131074)) ∨ (((u6_22 - a1)) < (131074) ∧ ((u6_22 - a1)) = ((u6_22 - a1))) from q_2028 b41)

theorem M398 {σ0 σ : rS} {D N : Nat → Nat} {F : hF} {A : hA} {d c s : Nat} {Q : wQ} (H : HS σ0 σ D N F A) {a1 : Int} (u6_1 : Int) (eu6_1 : F 6 1 = u6_1) (u6_2 : Int) (eu6_2 : F 6 2 = u6_2) (u6_22 : Int) (eu6_22 : F 6 22 = u6_22) (u6_24 : Int) (eu6_24 : F 6 24 = u6_24) (w61 : Int → Int) (ew61 : A 61 = w61) (h0 : inr (a1)) (h1 : 0 ≤ (a1) ∧ (a1) < (u6_22)) (h2 : 0 ≤ (u6_22) ∧ (u6_22) ≤ 16384) (h3 : 3 ≤ (u6_2) ∧ (u6_2) ≤ 8) (h4 : 0 ≤ (u6_1) ∧ (u6_1) ≤ 3) (k : ∀ (z : Int) σ Fₚ Aₚ, HS σ0 σ D N Fₚ Aₚ → SF [(6, 23)] F Fₚ → SA [] A Aₚ → ∀ y6_23 : Int, Fₚ 6 23 = y6_23 → (inr (z)) → (0 ≤ (z)) → ((z) = 0 ∨ (u6_2) ≤ (z) ∧ (z) ≤ (u6_22) - (a1) ∧ (y6_23) < (a1)) → (MTL ((w61)) ((u6_22)) ((u6_24)) ((u6_2)) ((u6_1)) ((u6_22) - (u6_2)) ((a1)) ((z)) ((a1) - (y6_23))) → Q (some (I z)) σ c s) : Ew 398 (d + 2) 0 (rargs 0 [.ref (D 6), I a1]) [] σ c s Q := by
  have r1 : (0 : Int) ≤ u6_1 ∧ u6_1 ≤ 3 := rngE (show (0 : Int) ≤ F 6 1 ∧ F 6 1 ≤ 3 from H.frng 6 1) (show F 6 1 = u6_1 from (eu6_1))
  have r2 : (0 : Int) ≤ u6_2 ∧ u6_2 ≤ 8 := rngE (show (0 : Int) ≤ F 6 2 ∧ F 6 2 ≤ 8 from H.frng 6 2) (show F 6 2 = u6_2 from (eu6_2))
  have r3 : (0 : Int) ≤ u6_22 ∧ u6_22 ≤ 16384 := rngE (show (0 : Int) ≤ F 6 22 ∧ F 6 22 ≤ 16384 from H.frng 6 22) (show F 6 22 = u6_22 from (eu6_22))
  have r4 : (0 : Int) ≤ u6_24 ∧ u6_24 ≤ 16777216 := rngE (show (0 : Int) ≤ F 6 24 ∧ F 6 24 ≤ 16777216 from H.frng 6 24) (show F 6 24 = u6_24 from (eu6_24))
  refine Ew_of (pcₚ := 1) (fun _ => x_aload_n rfl rfl) ?_
  refine w_gI H (o := 6) (w := u6_1) rfl (H.perm 6 rfl) rfl rfl rfl (fun _ => rfl) (eu6_1) ?_
  refine Ew_of (pcₚ := 5) (fun _ => x_iconst rfl) ?_
  refine w_icmpge (t := 18) rfl rfl (show inr (u6_1) from q_2030 r1) (show inr (3) from q_246) (fun b5 => ?_) (fun b5 => ?_)
  · refine Ew_of (pcₚ := 19) (fun _ => x_iload_n rfl rfl) ?_
    refine Ew_of (pcₚ := 20) (fun _ => x_iconst rfl) ?_
    refine w_iadd rfl ?_
    refine Ew_of (pcₚ := 22) (fun _ => x_aload_n rfl rfl) ?_
    refine w_gI H (o := 6) (w := u6_22) rfl (H.perm 6 rfl) rfl rfl rfl (fun _ => rfl) (eu6_22) ?_
    refine w_icmpge (t := 39) rfl rfl (show inr ((a1 + 1)) from q_2031 h1 r3) (show inr (u6_22) from q_481 r3) (fun b6 => ?_) (fun b6 => ?_)
    · refine Ew_of (pcₚ := 40) (fun _ => x_iconst rfl) ?_
      refine Ew_of (pcₚ := 41) (fun _ => x_istore_n rfl) ?_
      refine Ew_of (pcₚ := 42) (fun _ => x_aload_n rfl (rk_o (rfl) rfl rfl)) ?_
      refine Ew_of (pcₚ := 43) (fun _ => x_iload_n rfl (rk_o (rfl) rfl rfl)) ?_
      refine Ew_of (pcₚ := 44) (fun _ => x_iconst rfl) ?_
      refine w_inv H (o := 6) rfl rfl rfl (H.perm 6 rfl) rfl rfl (by rfl) (M397 H (u6_2) ((eu6_2)) (u6_22) ((eu6_22)) (u6_24) ((eu6_24)) (w61) (ew61) (show inr (a1) from h0) (show inr (2) from q_122) (show 0 ≤ (a1) ∧ (a1) < (u6_22) from h1) (show 0 ≤ (2) ∧ (2) ≤ 2 from q_440) (show 0 ≤ (u6_22) ∧ (u6_22) ≤ 16384 from r3) (show 3 ≤ (u6_2) ∧ (u6_2) ≤ 8 from h3) (fun z11 σ F7 A8 H hS9 hA10 y12 ey13 pz11_0 pz11_1 pz11_2 pz11_3 => ⟨rfl, ?_⟩))
      have r14 : (0 : Int) ≤ y12 ∧ y12 ≤ 16384 := rngE (show (0 : Int) ≤ F7 6 23 ∧ F7 6 23 ≤ 16384 from H.frng 6 23) (show F7 6 23 = y12 from (ey13))
      have hn0 := pz11_3
      refine Ew_of (pcₚ := 48) (fun _ => x_istore_n rfl) ?_
      refine Ew_of (pcₚ := 49) (fun _ => x_iload_n rfl (rk_o (rk_s) rfl rfl)) ?_
      refine Ew_of (pcₚ := 50) (fun _ => x_iload_n rfl rk_s) ?_
      refine w_icmple (t := 57) rfl rfl (show inr (0) from q_2) (show inr (z11) from pz11_0) (fun b15 => ?_) (fun b15 => ?_)
      · refine Ew_of (pcₚ := 58) (fun _ => x_iload_n rfl rk_s) ?_
        have : MTL ((w61)) ((u6_22)) ((u6_24)) ((u6_2)) ((u6_1)) ((u6_22) - (u6_2)) ((a1)) ((z11)) ((a1) - (y12)) := by rw [show (u6_1) = 3 by omega]; first | exact MTL_3 (n1 := (0)) (by by_cases z : (a1) + 1 ≤ (u6_22) - (u6_2); (exact .inl ⟨z, hn1⟩); (exact .inr ⟨by omega, by omega⟩)) hn0 (by omega) (by omega) | exact MTL_3 (n1 := (0)) (d1 := 0) (.inr ⟨by omega, by omega⟩) hn0 (by omega) (by omega)
        exact w_ireturn rfl (k (z11) σ _ _ H (SF_trans (SF_refl) hS9 (any_sub rfl)) (SA_trans (SA_refl) hA10 (any_subA rfl)) (y12) ((ey13)) (show inr (z11) from pz11_0) (show 0 ≤ (z11) from b15) (show (z11) = 0 ∨ (u6_2) ≤ (z11) ∧ (z11) ≤ (u6_22) - a1 ∧ (y12) < a1 from pz11_2) (show MTL ((w61)) ((u6_22)) ((u6_24)) ((u6_2)) ((u6_1)) ((u6_22) - (u6_2)) (a1) ((z11)) (a1 - (y12)) by assumption))
      · refine Ew_of (pcₚ := 54) (fun _ => x_iconst rfl) ?_
        refine Ew_of (pcₚ := 58) (fun _ => x_goto rfl rfl) ?_
        have : MTL ((w61)) ((u6_22)) ((u6_24)) ((u6_2)) ((u6_1)) ((u6_22) - (u6_2)) ((a1)) ((0)) ((a1) - (y12)) := by rw [show (u6_1) = 3 by omega]; first | exact MTL_3 (n1 := (0)) (by by_cases z : (a1) + 1 ≤ (u6_22) - (u6_2); (exact .inl ⟨z, hn1⟩); (exact .inr ⟨by omega, by omega⟩)) hn0 (by omega) (by omega) | exact MTL_3 (n1 := (0)) (d1 := 0) (.inr ⟨by omega, by omega⟩) hn0 (by omega) (by omega)
        exact w_ireturn rfl (k (0) σ _ _ H (SF_trans (SF_refl) hS9 (any_sub rfl)) (SA_trans (SA_refl) hA10 (any_subA rfl)) (y12) ((ey13)) (show inr (0) from q_2) (show 0 ≤ (0) by first | exact q_1 | omega) (show (0) = 0 ∨ (u6_2) ≤ (0) ∧ (0) ≤ (u6_22) - a1 ∧ (y12) < a1 by first | exact q_2032 | omega) (show MTL ((w61)) ((u6_22)) ((u6_24)) ((u6_2)) ((u6_1)) ((u6_22) - (u6_2)) (a1) ((0)) (a1 - (y12)) by assumption))
    · refine Ew_of (pcₚ := 29) (fun _ => x_aload_n rfl rfl) ?_
      refine Ew_of (pcₚ := 30) (fun _ => x_iload_n rfl rfl) ?_
      refine Ew_of (pcₚ := 31) (fun _ => x_iconst rfl) ?_
      refine w_iadd rfl ?_
      refine Ew_of (pcₚ := 33) (fun _ => x_iconst rfl) ?_
      refine w_inv H (o := 6) rfl rfl rfl (H.perm 6 rfl) rfl rfl (by rfl) (M397 H (u6_2) ((eu6_2)) (u6_22) ((eu6_22)) (u6_24) ((eu6_24)) (w61) (ew61) (show inr ((a1 + 1)) from q_2034 b6 h1 r3) (show inr (2) from q_122) (show 0 ≤ ((a1 + 1)) ∧ ((a1 + 1)) < (u6_22) from q_2033 b6 h1) (show 0 ≤ (2) ∧ (2) ≤ 2 from q_440) (show 0 ≤ (u6_22) ∧ (u6_22) ≤ 16384 from r3) (show 3 ≤ (u6_2) ∧ (u6_2) ≤ 8 from h3) (fun z20 σ F16 A17 H hS18 hA19 y21 ey22 pz20_0 pz20_1 pz20_2 pz20_3 => ⟨rfl, ?_⟩))
      have r23 : (0 : Int) ≤ y21 ∧ y21 ≤ 16384 := rngE (show (0 : Int) ≤ F16 6 23 ∧ F16 6 23 ≤ 16384 from H.frng 6 23) (show F16 6 23 = y21 from (ey22))
      have hn1 := pz20_3
      have hm1 := pz20_2
      refine Ew_of (pcₚ := 40) (fun _ => x_goto rfl rfl) ?_
      refine Ew_of (pcₚ := 41) (fun _ => x_istore_n rfl) ?_
      refine Ew_of (pcₚ := 42) (fun _ => x_aload_n rfl (rk_o (rfl) rfl rfl)) ?_
      refine Ew_of (pcₚ := 43) (fun _ => x_iload_n rfl (rk_o (rfl) rfl rfl)) ?_
      refine Ew_of (pcₚ := 44) (fun _ => x_iconst rfl) ?_
      refine w_inv H (o := 6) rfl rfl rfl (H.perm 6 rfl) rfl rfl (by rfl) (M397 H (u6_2) (((hS18 6 2 rfl).trans (eu6_2))) (u6_22) (((hS18 6 22 rfl).trans (eu6_22))) (u6_24) (((hS18 6 24 rfl).trans (eu6_24))) (w61) ((funext (hA19 61 rfl)).trans (ew61)) (show inr (a1) from h0) (show inr (2) from q_122) (show 0 ≤ (a1) ∧ (a1) < (u6_22) from h1) (show 0 ≤ (2) ∧ (2) ≤ 2 from q_440) (show 0 ≤ (u6_22) ∧ (u6_22) ≤ 16384 from r3) (show 3 ≤ (u6_2) ∧ (u6_2) ≤ 8 from h3) (fun z28 σ F24 A25 H hS26 hA27 y29 ey30 pz28_0 pz28_1 pz28_2 pz28_3 => ⟨rfl, ?_⟩))
      have r31 : (0 : Int) ≤ y29 ∧ y29 ≤ 16384 := rngE (show (0 : Int) ≤ F24 6 23 ∧ F24 6 23 ≤ 16384 from H.frng 6 23) (show F24 6 23 = y29 from (ey30))
      have hn0 := pz28_3
      refine Ew_of (pcₚ := 48) (fun _ => x_istore_n rfl) ?_
      refine Ew_of (pcₚ := 49) (fun _ => x_iload_n rfl (rk_o (rk_s) rfl rfl)) ?_
      refine Ew_of (pcₚ := 50) (fun _ => x_iload_n rfl rk_s) ?_
      refine w_icmple (t := 57) rfl rfl (show inr (z20) from pz20_0) (show inr (z28) from pz28_0) (fun b32 => ?_) (fun b32 => ?_)
      · refine Ew_of (pcₚ := 58) (fun _ => x_iload_n rfl rk_s) ?_
        have : MTL ((w61)) ((u6_22)) ((u6_24)) ((u6_2)) ((u6_1)) ((u6_22) - (u6_2)) ((a1)) ((z28)) ((a1) - (y29)) := by rw [show (u6_1) = 3 by omega]; first | exact MTL_3 (n1 := (z20)) (by by_cases z : (a1) + 1 ≤ (u6_22) - (u6_2); (exact .inl ⟨z, hn1⟩); (exact .inr ⟨by omega, by omega⟩)) hn0 (by omega) (by omega) | exact MTL_3 (n1 := (z20)) (d1 := 0) (.inr ⟨by omega, by omega⟩) hn0 (by omega) (by omega)
        exact w_ireturn rfl (k (z28) σ _ _ H (SF_trans (SF_trans (SF_refl) hS18 (any_sub rfl)) hS26 (any_sub rfl)) (SA_trans (SA_trans (SA_refl) hA19 (any_subA rfl)) hA27 (any_subA rfl)) (y29) ((ey30)) (show inr (z28) from pz28_0) (show 0 ≤ (z28) from pz28_1) (show (z28) = 0 ∨ (u6_2) ≤ (z28) ∧ (z28) ≤ (u6_22) - a1 ∧ (y29) < a1 from pz28_2) (show MTL ((w61)) ((u6_22)) ((u6_24)) ((u6_2)) ((u6_1)) ((u6_22) - (u6_2)) (a1) ((z28)) (a1 - (y29)) by assumption))
      · refine Ew_of (pcₚ := 54) (fun _ => x_iconst rfl) ?_
        refine Ew_of (pcₚ := 58) (fun _ => x_goto rfl rfl) ?_
        have : MTL ((w61)) ((u6_22)) ((u6_24)) ((u6_2)) ((u6_1)) ((u6_22) - (u6_2)) ((a1)) ((0)) ((a1) - (y29)) := by rw [show (u6_1) = 3 by omega]; first | exact MTL_3 (n1 := (z20)) (by by_cases z : (a1) + 1 ≤ (u6_22) - (u6_2); (exact .inl ⟨z, hn1⟩); (exact .inr ⟨by omega, by omega⟩)) hn0 (by omega) (by omega) | exact MTL_3 (n1 := (z20)) (d1 := 0) (.inr ⟨by omega, by omega⟩) hn0 (by omega) (by omega)
        exact w_ireturn rfl (k (0) σ _ _ H (SF_trans (SF_trans (SF_refl) hS18 (any_sub rfl)) hS26 (any_sub rfl)) (SA_trans (SA_trans (SA_refl) hA19 (any_subA rfl)) hA27 (any_subA rfl)) (y29) ((ey30)) (show inr (0) from q_2) (show 0 ≤ (0) by first | exact q_1 | omega) (show (0) = 0 ∨ (u6_2) ≤ (0) ∧ (0) ≤ (u6_22) - a1 ∧ (y29) < a1 by first | exact q_2032 | omega) (show MTL ((w61)) ((u6_22)) ((u6_24)) ((u6_2)) ((u6_1)) ((u6_22) - (u6_2)) (a1) ((0)) (a1 - (y29)) by assumption))
  · refine Ew_of (pcₚ := 9) (fun _ => x_aload_n rfl rfl) ?_
    refine Ew_of (pcₚ := 10) (fun _ => x_iload_n rfl rfl) ?_
    refine Ew_of (pcₚ := 11) (fun _ => x_aload_n rfl rfl) ?_
    refine w_gI H (o := 6) (w := u6_1) rfl (H.perm 6 rfl) rfl rfl rfl (fun _ => rfl) (eu6_1) ?_
    refine w_inv H (o := 6) rfl rfl rfl (H.perm 6 rfl) rfl rfl (by rfl) (M397 H (u6_2) ((eu6_2)) (u6_22) ((eu6_22)) (u6_24) ((eu6_24)) (w61) (ew61) (show inr (a1) from h0) (show inr (u6_1) from q_2035 b5 r1) (show 0 ≤ (a1) ∧ (a1) < (u6_22) from h1) (show 0 ≤ (u6_1) ∧ (u6_1) ≤ 2 from q_443 b5 r1) (show 0 ≤ (u6_22) ∧ (u6_22) ≤ 16384 from r3) (show 3 ≤ (u6_2) ∧ (u6_2) ≤ 8 from h3) (fun z37 σ F33 A34 H hS35 hA36 y38 ey39 pz37_0 pz37_1 pz37_2 pz37_3 => ⟨rfl, ?_⟩))
    have r40 : (0 : Int) ≤ y38 ∧ y38 ≤ 16384 := rngE (show (0 : Int) ≤ F33 6 23 ∧ F33 6 23 ≤ 16384 from H.frng 6 23) (show F33 6 23 = y38 from (ey39))
    have : MTL ((w61)) ((u6_22)) ((u6_24)) ((u6_2)) ((u6_1)) ((u6_22) - (u6_2)) ((a1)) ((z37)) ((a1) - (y38)) := pz37_3
    exact w_ireturn rfl (k (z37) σ _ _ H (SF_trans (SF_refl) hS35 (any_sub rfl)) (SA_trans (SA_refl) hA36 (any_subA rfl)) (y38) ((ey39)) (show inr (z37) from pz37_0) (show 0 ≤ (z37) from pz37_1) (show (z37) = 0 ∨ (u6_2) ≤ (z37) ∧ (z37) ≤ (u6_22) - a1 ∧ (y38) < a1 from pz37_2) (pz37_3))

theorem M400 {σ0 σ : rS} {D N : Nat → Nat} {F : hF} {A : hA} {d c s : Nat} {Q : wQ} (H : HS σ0 σ D N F A) {a1 : Int} (h0 : inr (a1)) (h1 : 1 ≤ (a1)) (k : ∀ (z : Int) σ Fₚ Aₚ, HS σ0 σ D N Fₚ Aₚ → SF [] F Fₚ → SA [] A Aₚ → (inr (z)) → (0 ≤ (z) ∧ (z) ≤ 30) → (p2 (z) ≤ (a1) ∧ (a1) < 2 * p2 (z)) → Q (some (I z)) σ c s) : Ew 400 (d + 0) 0 (rargs 0 [I a1]) [] σ c s Q := by
  refine Ew_of (pcₚ := 1) (fun _ => x_iconst rfl) ?_
  refine Ew_of (pcₚ := 2) (fun _ => x_istore_n rfl) ?_
  have : p2 0 = 1 := by decide
  suffices hl2 : ∀ (m : Nat), ∀ (ls : rO) (σ : rS) (F_2 : hF) (A_2 : hA) (x2_1 : Int), rlook ls 0 = some (I (a1)) → rlook ls 1 = some (I (x2_1)) → HS σ0 σ D N F_2 A_2 → SF [] F F_2 → SA [] A A_2 → (inr (x2_1)) → (0 ≤ (x2_1) ∧ (x2_1) ≤ 30) → (p2 ((x2_1)) ≤ (a1)) → (31 - (x2_1)).toNat = m → Ew 400 (d + 0) 2 ls [] σ c s Q from
    hl2 _ _ σ _ _ (0) (rk_o (rfl) rfl rfl) (rk_s) H (SF_refl) (SA_refl)   (show inr (0) from q_2) (show 0 ≤ (0) ∧ (0) ≤ 30 from q_2056) (show p2 ((0)) ≤ (a1) by omega) rfl
  as_aux_lemma =>
  intro m
  induction m using Nat.strongRecOn with
  | _ m ih2 =>
    intro ls σ F_2 A_2 x2_1 l2_0 l2_1 H hS_2 hA_2   j2_0 j2_1 j2_2 hm2
    refine Ew_of (pcₚ := 3) (fun _ => x_iload_n rfl l2_0) ?_
    refine Ew_of (pcₚ := 4) (fun _ => x_iload_n rfl l2_1) ?_
    refine w_ishrX rfl (show inr (a1) from h0) (fun z1 gz1 dz1 => ?_)
    have hd2 := div2 (a := (a1)) (p := p2 ((x2_1))) (by have := p2_pos ((x2_1)); omega)
    have hps := p2_s (y := (x2_1)) (by omega)
    refine Ew_of (pcₚ := 6) (fun _ => x_iconst rfl) ?_
    refine w_icmple (t := 15) rfl rfl (show inr (z1) by omega) (show inr (1) from q_135) (fun b2 => ?_) (fun b2 => ?_)
    · refine Ew_of (pcₚ := 16) (fun _ => x_iload_n rfl l2_1) ?_
      exact w_ireturn rfl (k (x2_1) σ _ _ H (SF_trans (SF_refl) hS_2 (any_sub rfl)) (SA_trans (SA_refl) hA_2 (any_subA rfl)) (show inr (x2_1) from j2_0) (show 0 ≤ (x2_1) ∧ (x2_1) ≤ 30 from j2_1) (show p2 (x2_1) ≤ a1 ∧ a1 < 2 * p2 (x2_1) by omega))
    · have : (x2_1) + 1 < 31 := p2_lt (by omega) (by rw [show p2 31 = 2147483648 from by decide]; omega)
      refine Ew_of (pcₚ := 12) (fun _ => x_iinc (len := 3) rfl (l2_1)) ?_
      refine Ew_of (pcₚ := 2) (fun _ => x_goto rfl rfl) ?_
      exact ih2 _ (by omega) _ σ _ _ ((x2_1 + 1)) (rk_o (l2_0) rfl rfl) (rk_s) H (hS_2) (hA_2)   (show inr ((x2_1 + 1)) from q_2057 j2_1) (show 0 ≤ ((x2_1 + 1)) ∧ ((x2_1 + 1)) ≤ 30 by omega) (show p2 (((x2_1 + 1))) ≤ (a1) by omega) rfl

theorem M401 {σ0 σ : rS} {D N : Nat → Nat} {F : hF} {A : hA} {d c s : Nat} {Q : wQ} (H : HS σ0 σ D N F A) {a1 : Int} (h0 : inr (a1)) (h1 : 0 ≤ (a1) ∧ (a1) ≤ 35) (k : ∀ (z : Int) σ Fₚ Aₚ, HS σ0 σ D N Fₚ Aₚ → SF [] F Fₚ → SA [] A Aₚ → (inr (z)) → (0 ≤ (z) ∧ (z) ≤ 16) → ((z) = lB ((a1))) → Q (some (I z)) σ c s) : Ew 401 (d + 0) 0 (rargs 0 [I a1]) [] σ c s Q := by
  have hlb : lB ((a1)) = if (a1) < 16 then 0 else if (a1) < 20 then 1 else if (a1) < 22 then 2 else if (a1) < 24 then 3 else if (a1) = 24 then 4 else (a1) - 19 := rfl
  refine Ew_of (pcₚ := 1) (fun _ => x_iload_n rfl rfl) ?_
  refine Ew_of (pcₚ := 3) (fun _ => x_bipush (z := 16) rfl (by decide)) ?_
  refine w_icmpge (t := 10) rfl rfl (show inr (a1) from h0) (show inr (16) from q_345) (fun b1 => ?_) (fun b1 => ?_)
  · refine Ew_of (pcₚ := 11) (fun _ => x_iload_n rfl rfl) ?_
    refine Ew_of (pcₚ := 13) (fun _ => x_bipush (z := 20) rfl (by decide)) ?_
    refine w_icmpge (t := 20) rfl rfl (show inr (a1) from h0) (show inr (20) from q_1512) (fun b2 => ?_) (fun b2 => ?_)
    · refine Ew_of (pcₚ := 21) (fun _ => x_iload_n rfl rfl) ?_
      refine Ew_of (pcₚ := 23) (fun _ => x_bipush (z := 22) rfl (by decide)) ?_
      refine w_icmpge (t := 30) rfl rfl (show inr (a1) from h0) (show inr (22) from q_1513) (fun b3 => ?_) (fun b3 => ?_)
      · refine Ew_of (pcₚ := 31) (fun _ => x_iload_n rfl rfl) ?_
        refine Ew_of (pcₚ := 33) (fun _ => x_bipush (z := 24) rfl (by decide)) ?_
        refine w_icmpge (t := 40) rfl rfl (show inr (a1) from h0) (show inr (24) from q_1514) (fun b4 => ?_) (fun b4 => ?_)
        · refine Ew_of (pcₚ := 41) (fun _ => x_iload_n rfl rfl) ?_
          refine Ew_of (pcₚ := 43) (fun _ => x_bipush (z := 24) rfl (by decide)) ?_
          refine w_icmpne (t := 50) rfl rfl (show inr (a1) from h0) (show inr (24) from q_1514) (fun b5 => ?_) (fun b5 => ?_)
          · refine Ew_of (pcₚ := 51) (fun _ => x_iload_n rfl rfl) ?_
            refine Ew_of (pcₚ := 53) (fun _ => x_bipush (z := 19) rfl (by decide)) ?_
            refine w_isub rfl ?_
            exact w_ireturn rfl (k ((a1 - 19)) σ _ _ H (SF_refl) (SA_refl) (show inr ((a1 - 19)) from q_1526 b4 h1) (show 0 ≤ ((a1 - 19)) ∧ ((a1 - 19)) ≤ 16 by first | exact q_1525 b4 h1 | omega) (show ((a1 - 19)) = lB (a1) by omega))
          · refine Ew_of (pcₚ := 47) (fun _ => x_iconst rfl) ?_
            refine Ew_of (pcₚ := 54) (fun _ => x_goto rfl rfl) ?_
            exact w_ireturn rfl (k (4) σ _ _ H (SF_refl) (SA_refl) (show inr (4) from q_216) (show 0 ≤ (4) ∧ (4) ≤ 16 by first | exact q_214 | omega) (show (4) = lB (a1) by omega))
        · refine Ew_of (pcₚ := 37) (fun _ => x_iconst rfl) ?_
          refine Ew_of (pcₚ := 54) (fun _ => x_goto rfl rfl) ?_
          exact w_ireturn rfl (k (3) σ _ _ H (SF_refl) (SA_refl) (show inr (3) from q_246) (show 0 ≤ (3) ∧ (3) ≤ 16 by first | exact q_1527 | omega) (show (3) = lB (a1) by omega))
      · refine Ew_of (pcₚ := 27) (fun _ => x_iconst rfl) ?_
        refine Ew_of (pcₚ := 54) (fun _ => x_goto rfl rfl) ?_
        exact w_ireturn rfl (k (2) σ _ _ H (SF_refl) (SA_refl) (show inr (2) from q_122) (show 0 ≤ (2) ∧ (2) ≤ 16 by first | exact q_247 | omega) (show (2) = lB (a1) by omega))
    · refine Ew_of (pcₚ := 17) (fun _ => x_iconst rfl) ?_
      refine Ew_of (pcₚ := 54) (fun _ => x_goto rfl rfl) ?_
      exact w_ireturn rfl (k (1) σ _ _ H (SF_refl) (SA_refl) (show inr (1) from q_135) (show 0 ≤ (1) ∧ (1) ≤ 16 by first | exact q_261 | omega) (show (1) = lB (a1) by omega))
  · refine Ew_of (pcₚ := 7) (fun _ => x_iconst rfl) ?_
    refine Ew_of (pcₚ := 54) (fun _ => x_goto rfl rfl) ?_
    exact w_ireturn rfl (k (0) σ _ _ H (SF_refl) (SA_refl) (show inr (0) from q_2) (show 0 ≤ (0) ∧ (0) ≤ 16 by first | exact q_1528 | omega) (show (0) = lB (a1) by omega))

theorem M402 {σ0 σ : rS} {D N : Nat → Nat} {F : hF} {A : hA} {d c s : Nat} {Q : wQ} (H : HS σ0 σ D N F A) {a1 : Int} (h0 : inr (a1)) (h1 : 0 ≤ (a1) ∧ (a1) ≤ 52) (k : ∀ (z : Int) σ Fₚ Aₚ, HS σ0 σ D N Fₚ Aₚ → SF [] F Fₚ → SA [] A Aₚ → (inr (z)) → (0 ≤ (z) ∧ (z) ≤ 16) → ((z) = mB ((a1))) → Q (some (I z)) σ c s) : Ew 402 (d + 0) 0 (rargs 0 [I a1]) [] σ c s Q := by
  have hmb : mB ((a1)) = if (a1) < 32 then 0 else if (a1) < 36 then 1 else if (a1) < 38 then 2 else if (a1) < 40 then 3 else if (a1) < 42 then 4 else if (a1) = 42 then 5 else (a1) - 36 := rfl
  refine Ew_of (pcₚ := 1) (fun _ => x_iload_n rfl rfl) ?_
  refine Ew_of (pcₚ := 3) (fun _ => x_bipush (z := 32) rfl (by decide)) ?_
  refine w_icmpge (t := 10) rfl rfl (show inr (a1) from h0) (show inr (32) from q_655) (fun b1 => ?_) (fun b1 => ?_)
  · refine Ew_of (pcₚ := 11) (fun _ => x_iload_n rfl rfl) ?_
    refine Ew_of (pcₚ := 13) (fun _ => x_bipush (z := 36) rfl (by decide)) ?_
    refine w_icmpge (t := 20) rfl rfl (show inr (a1) from h0) (show inr (36) from q_1529) (fun b2 => ?_) (fun b2 => ?_)
    · refine Ew_of (pcₚ := 21) (fun _ => x_iload_n rfl rfl) ?_
      refine Ew_of (pcₚ := 23) (fun _ => x_bipush (z := 38) rfl (by decide)) ?_
      refine w_icmpge (t := 30) rfl rfl (show inr (a1) from h0) (show inr (38) from q_1530) (fun b3 => ?_) (fun b3 => ?_)
      · refine Ew_of (pcₚ := 31) (fun _ => x_iload_n rfl rfl) ?_
        refine Ew_of (pcₚ := 33) (fun _ => x_bipush (z := 40) rfl (by decide)) ?_
        refine w_icmpge (t := 40) rfl rfl (show inr (a1) from h0) (show inr (40) from q_1531) (fun b4 => ?_) (fun b4 => ?_)
        · refine Ew_of (pcₚ := 41) (fun _ => x_iload_n rfl rfl) ?_
          refine Ew_of (pcₚ := 43) (fun _ => x_bipush (z := 42) rfl (by decide)) ?_
          refine w_icmpge (t := 50) rfl rfl (show inr (a1) from h0) (show inr (42) from q_1532) (fun b5 => ?_) (fun b5 => ?_)
          · refine Ew_of (pcₚ := 51) (fun _ => x_iload_n rfl rfl) ?_
            refine Ew_of (pcₚ := 53) (fun _ => x_bipush (z := 42) rfl (by decide)) ?_
            refine w_icmpne (t := 60) rfl rfl (show inr (a1) from h0) (show inr (42) from q_1532) (fun b6 => ?_) (fun b6 => ?_)
            · refine Ew_of (pcₚ := 61) (fun _ => x_iload_n rfl rfl) ?_
              refine Ew_of (pcₚ := 63) (fun _ => x_bipush (z := 36) rfl (by decide)) ?_
              refine w_isub rfl ?_
              exact w_ireturn rfl (k ((a1 - 36)) σ _ _ H (SF_refl) (SA_refl) (show inr ((a1 - 36)) from q_1547 b5 h1) (show 0 ≤ ((a1 - 36)) ∧ ((a1 - 36)) ≤ 16 by first | exact q_1546 b5 h1 | omega) (show ((a1 - 36)) = mB (a1) by omega))
            · refine Ew_of (pcₚ := 57) (fun _ => x_iconst rfl) ?_
              refine Ew_of (pcₚ := 64) (fun _ => x_goto rfl rfl) ?_
              exact w_ireturn rfl (k (5) σ _ _ H (SF_refl) (SA_refl) (show inr (5) from q_727) (show 0 ≤ (5) ∧ (5) ≤ 16 by first | exact q_1548 | omega) (show (5) = mB (a1) by omega))
          · refine Ew_of (pcₚ := 47) (fun _ => x_iconst rfl) ?_
            refine Ew_of (pcₚ := 64) (fun _ => x_goto rfl rfl) ?_
            exact w_ireturn rfl (k (4) σ _ _ H (SF_refl) (SA_refl) (show inr (4) from q_216) (show 0 ≤ (4) ∧ (4) ≤ 16 by first | exact q_214 | omega) (show (4) = mB (a1) by omega))
        · refine Ew_of (pcₚ := 37) (fun _ => x_iconst rfl) ?_
          refine Ew_of (pcₚ := 64) (fun _ => x_goto rfl rfl) ?_
          exact w_ireturn rfl (k (3) σ _ _ H (SF_refl) (SA_refl) (show inr (3) from q_246) (show 0 ≤ (3) ∧ (3) ≤ 16 by first | exact q_1527 | omega) (show (3) = mB (a1) by omega))
      · refine Ew_of (pcₚ := 27) (fun _ => x_iconst rfl) ?_
        refine Ew_of (pcₚ := 64) (fun _ => x_goto rfl rfl) ?_
        exact w_ireturn rfl (k (2) σ _ _ H (SF_refl) (SA_refl) (show inr (2) from q_122) (show 0 ≤ (2) ∧ (2) ≤ 16 by first | exact q_247 | omega) (show (2) = mB (a1) by omega))
    · refine Ew_of (pcₚ := 17) (fun _ => x_iconst rfl) ?_
      refine Ew_of (pcₚ := 64) (fun _ => x_goto rfl rfl) ?_
      exact w_ireturn rfl (k (1) σ _ _ H (SF_refl) (SA_refl) (show inr (1) from q_135) (show 0 ≤ (1) ∧ (1) ≤ 16 by first | exact q_261 | omega) (show (1) = mB (a1) by omega))
  · refine Ew_of (pcₚ := 7) (fun _ => x_iconst rfl) ?_
    refine Ew_of (pcₚ := 64) (fun _ => x_goto rfl rfl) ?_
    exact w_ireturn rfl (k (0) σ _ _ H (SF_refl) (SA_refl) (show inr (0) from q_2) (show 0 ≤ (0) ∧ (0) ≤ 16 by first | exact q_1528 | omega) (show (0) = mB (a1) by omega))

theorem M405 {σ0 σ : rS} {D N : Nat → Nat} {F : hF} {A : hA} {d c s : Nat} {Q : wQ} (H : HS σ0 σ D N F A) {a1 a2 : Int} (w56 : Int → Int) (ew56 : A 56 = w56) (h0 : inr (a1)) (h1 : inr (a2)) (h2 : 0 ≤ (a1) ∧ (a1) ≤ 16384 ∧ 0 ≤ (a2) ∧ (a2) ≤ 1) (k : ∀ (z : Int) σ Fₚ Aₚ, HS σ0 σ D N Fₚ Aₚ → SF [] F Fₚ → SA [56] A Aₚ → ∀ v56 : Int → Int, Aₚ 56 = v56 → (inr (z)) → (1 ≤ (z) ∧ (z) ≤ (a1) + 3) → (IMP (1 ≤ ((w56)) 0 ∧ 1 ≤ (a1)) ((z) = nuG (((w56)) 0) (((w56)) 1) (((w56)) 2) ((a1)) (1 - (a2)) 1 ∧ ∃ zz, dsF ((z)) (1 - (a2)) (((w56)) 0) (((w56)) 1) (((w56)) 2) = (zz, ((v56)) 0, ((v56)) 1, ((v56)) 2))) → (IMP ((1 ≤ ((w56)) 0 ∧ 1 ≤ ((w56)) 1 ∧ 1 ≤ ((w56)) 2) ∧ 1 ≤ (a1)) (1 ≤ ((v56)) 0 ∧ 1 ≤ ((v56)) 1 ∧ 1 ≤ ((v56)) 2)) → Q (some (I z)) σ c s) : Ew 405 (d + 0) 0 (rargs 0 [.ref (D 6), I a1, I a2]) [] σ c s Q := by
  have hlr : ∀ i, (-2147483648 : Int) ≤ (w56) i ∧ (w56) i ≤ 2147483647 := fun i => by have h1 : (-2147483648 : Int) ≤ A 56 i ∧ A 56 i ≤ 2147483647 := H.arng 56 i; rw [show A 56 = w56 from ew56] at h1; exact h1
  have hlr0 := hlr 0
  refine Ew_of (pcₚ := 1) (fun _ => x_iload_n rfl rfl) ?_
  refine Ew_of (pcₚ := 2) (fun _ => x_iconst rfl) ?_
  refine w_iadd rfl ?_
  refine Ew_of (pcₚ := 4) (fun _ => x_istore_n rfl) ?_
  refine Ew_of (pcₚ := 5) (fun _ => x_iconst rfl) ?_
  refine Ew_of (pcₚ := 7) (fun _ => x_istore rfl) ?_
  have : IMP (1 ≤ ((w56)) 0) ((a1) + 3 = nuG (((w56)) 0) (((w56)) 1) (((w56)) 2) ((a1)) (1 - (a2)) (3 + 1)) := fun _ => (nuG_4 (by decide)).symm
  suffices hl7 : ∀ (m : Nat), ∀ (ls : rO) (σ : rS) (F_7 : hF) (A_7 : hA) (x7_3 : Int) (x7_4 : Int), rlook ls 0 = some (.ref (D 6)) → rlook ls 1 = some (I (a1)) → rlook ls 2 = some (I (a2)) → rlook ls 3 = some (I (x7_3)) → rlook ls 4 = some (I (x7_4)) → HS σ0 σ D N F_7 A_7 → SF [] F F_7 → SA [] A A_7 → (inr (x7_3)) → (inr (x7_4)) → ((x7_4) ≤ (3)) → ((3) ≤ (x7_4) ∨ (0) ≤ (x7_4)) → (1 ≤ (x7_3) ∧ (x7_3) ≤ (a1) + 3) → (0 ≤ (x7_4) ∧ (x7_4) ≤ 3) → (IMP (1 ≤ ((w56)) 0) ((x7_3) = nuG (((w56)) 0) (((w56)) 1) (((w56)) 2) ((a1)) (1 - (a2)) ((x7_4) + 1))) → ((x7_4) - (0)).toNat = m → Ew 405 (d + 0) 7 ls [] σ c s Q from
    hl7 _ _ σ _ _ ((a1 + 3)) (3) (rk_o (rk_o (rfl) rfl rfl) rfl rfl) (rk_o (rk_o (rfl) rfl rfl) rfl rfl) (rk_o (rk_o (rfl) rfl rfl) rfl rfl) (rk_o (rk_s) rfl rfl) (rk_s) H (SF_refl) (SA_refl)   (show inr ((a1 + 3)) from q_2063 h2) (show inr (3) from q_246) (show (3) ≤ (3) from q_2062) (show (3) ≤ (3) ∨ (0) ≤ (3) from q_2061) (show 1 ≤ ((a1 + 3)) ∧ ((a1 + 3)) ≤ (a1) + 3 from q_2060 h2) (show 0 ≤ (3) ∧ (3) ≤ 3 from q_546) (show IMP (1 ≤ ((w56)) 0) (((a1 + 3)) = nuG (((w56)) 0) (((w56)) 1) (((w56)) 2) ((a1)) (1 - (a2)) ((3) + 1)) by assumption) rfl
  as_aux_lemma =>
  intro m
  induction m using Nat.strongRecOn with
  | _ m ih7 =>
    intro ls σ F_7 A_7 x7_3 x7_4 l7_0 l7_1 l7_2 l7_3 l7_4 H hS_7 hA_7   j7_0 j7_1 j7_2 j7_3 j7_4 j7_5 j7_6 hm7
    have j7_q : IMP (1 ≤ ((w56)) 0) ((x7_3) = nuG (((w56)) 0) (((w56)) 1) (((w56)) 2) ((a1)) (1 - (a2)) ((x7_4) + 1)) := j7_6
    obtain ⟨ql4, hql4⟩ : ∃ q : Int, q = (x7_4) := ⟨_, rfl⟩
    refine Ew_of (pcₚ := 9) (fun _ => x_iload rfl l7_4) ?_
    refine w_ifle (t := 61) rfl rfl (show inr (x7_4) from j7_1) (fun b1 => ?_) (fun b1 => ?_)
    · have hnu : IMP (1 ≤ ((w56)) 0) ((x7_3) = nuG (((w56)) 0) (((w56)) 1) (((w56)) 2) ((a1)) (1 - (a2)) 1) := fun h1 => by have h := j7_q h1; rw [show (x7_4) + 1 = 1 by omega] at h; exact h
      obtain ⟨q3, hq3⟩ : ∃ q : Int, q = (x7_3) := ⟨_, rfl⟩
      refine Ew_of (pcₚ := 62) (fun _ => x_iload_n rfl l7_3) ?_
      refine Ew_of (pcₚ := 63) (fun _ => x_iconst rfl) ?_
      refine w_icmple (t := 70) rfl rfl (show inr (x7_3) from j7_0) (show inr (3) from q_246) (fun b2 => ?_) (fun b2 => ?_)
      · refine Ew_of (pcₚ := 71) (fun _ => x_iload_n rfl l7_3) ?_
        refine Ew_of (pcₚ := 72) (fun _ => x_iload_n rfl l7_2) ?_
        refine w_iadd rfl ?_
        refine Ew_of (pcₚ := 75) (fun _ => x_istore rfl) ?_
        have hds : IMP (1 ≤ ((w56)) 0 ∧ 1 ≤ (a1)) (dsF ((x7_3)) (1 - (a2)) (((w56)) 0) (((w56)) 1) (((w56)) 2) = ((a1), (a1), (if 1 < ((x7_3 + a2)) then ((w56)) 0 else ((w56)) 1), (if 2 < ((x7_3 + a2)) then ((w56)) 1 else ((w56)) 2))) := fun h1 => by have e := hnu h1.1; have ha := h1.2; have k := nuG_ds (r0 := ((w56)) 0) (r1 := ((w56)) 1) (r2 := ((w56)) 2) (d := (a1)) (li := 1 - (a2)) (w := ((x7_3 + a2))) (by rw [← e]; omega) (by omega); rw [← e] at k; exact k
        refine Ew_of (pcₚ := 77) (fun _ => x_iload rfl rk_s) ?_
        refine Ew_of (pcₚ := 78) (fun _ => x_iconst rfl) ?_
        refine w_icmple (t := 93) rfl rfl (show inr ((x7_3 + a2)) from q_2064 b2 h2 j7_4) (show inr (2) from q_122) (fun b3 => ?_) (fun b3 => ?_)
        · refine Ew_of (pcₚ := 95) (fun _ => x_iload rfl rk_s) ?_
          refine Ew_of (pcₚ := 96) (fun _ => x_iconst rfl) ?_
          refine w_icmple (t := 111) rfl rfl (show inr ((x7_3 + a2)) from q_2065 b3 h2 j7_4) (show inr (1) from q_135) (fun b4 => ?_) (fun b4 => ?_)
          · refine Ew_of (pcₚ := 112) (fun _ => x_aload_n rfl (rk_o (l7_0) rfl rfl)) ?_
            refine w_gT H (o := 6) (t := 56) rfl (H.perm 6 rfl) rfl rfl rfl rfl rfl rfl ?_
            refine Ew_of (pcₚ := 116) (fun _ => x_iconst rfl) ?_
            refine Ew_of (pcₚ := 117) (fun _ => x_iload_n rfl (rk_o (l7_1) rfl rfl)) ?_
            refine w_sI H (o := 56) (n := 3) rfl (H.perm 56 rfl) rfl rfl (H.fix 56 rfl rfl) (show 0 ≤ 0 ∧ 0 < ((3 : Nat) : Int) from q_1579) (by decide) (show (-2147483648 : Int) ≤ a1 ∧ a1 ≤ 2147483647 from q_2066 h2) (fun σ H => ?_)
            refine Ew_of (pcₚ := 119) (fun _ => x_iload_n rfl (rk_o (l7_3) rfl rfl)) ?_
            have : IMP (1 ≤ ((w56)) 0 ∧ 1 ≤ (a1)) ((x7_3) = nuG (((w56)) 0) (((w56)) 1) (((w56)) 2) ((a1)) (1 - (a2)) 1 ∧ ∃ zz, dsF ((x7_3)) (1 - (a2)) (((w56)) 0) (((w56)) 1) (((w56)) 2) = (zz, ((upd1 (w56) (0) (a1))) 0, ((upd1 (w56) (0) (a1))) 1, ((upd1 (w56) (0) (a1))) 2)) := fun h1 => ⟨hnu h1.1, (a1), by rw [hds h1]; first | (rw [if_pos (by omega), if_pos (by omega)]; exact Prod.ext rfl (Prod.ext rfl (Prod.ext hv2 hv1))) | (rw [if_pos (by omega), if_neg (by omega)]; exact Prod.ext rfl (Prod.ext rfl (Prod.ext hv2 rfl))) | (rw [if_neg (by omega), if_neg (by omega)]; rfl) | (exfalso; omega)⟩
            have : IMP ((1 ≤ ((w56)) 0 ∧ 1 ≤ ((w56)) 1 ∧ 1 ≤ ((w56)) 2) ∧ 1 ≤ (a1)) (1 ≤ ((upd1 (w56) (0) (a1))) 0 ∧ 1 ≤ ((upd1 (w56) (0) (a1))) 1 ∧ 1 ≤ ((upd1 (w56) (0) (a1))) 2) := fun h => by have a := h.1.1; have b := h.1.2.1; have c := h.1.2.2; have d := h.2; refine ⟨?_, ?_, ?_⟩ <;> (try simp only [upd1]) <;> (try omega)
            exact w_ireturn rfl (k (x7_3) σ _ _ H (SF_trans (SF_refl) hS_7 (any_sub rfl)) (SA_upd (SA_trans (SA_refl) hA_7 (any_subA rfl)) rfl) (upd1 (w56) (0) (a1)) (congrArg (fun q => upd1 q (0) (a1)) ((funext (hA_7 56 rfl)).trans (ew56))) (show inr (x7_3) from j7_0) (show 1 ≤ (x7_3) ∧ (x7_3) ≤ a1 + 3 from j7_4) (show IMP (1 ≤ ((w56)) 0 ∧ 1 ≤ a1) ((x7_3) = nuG (((w56)) 0) (((w56)) 1) (((w56)) 2) (a1) (1 - a2) 1 ∧ ∃ zz, dsF ((x7_3)) (1 - a2) (((w56)) 0) (((w56)) 1) (((w56)) 2) = (zz, ((upd1 (w56) (0) (a1))) 0, ((upd1 (w56) (0) (a1))) 1, ((upd1 (w56) (0) (a1))) 2)) by assumption) (show IMP ((1 ≤ ((w56)) 0 ∧ 1 ≤ ((w56)) 1 ∧ 1 ≤ ((w56)) 2) ∧ 1 ≤ a1) (1 ≤ ((upd1 (w56) (0) (a1))) 0 ∧ 1 ≤ ((upd1 (w56) (0) (a1))) 1 ∧ 1 ≤ ((upd1 (w56) (0) (a1))) 2) by assumption))
          · refine Ew_of (pcₚ := 100) (fun _ => x_aload_n rfl (rk_o (l7_0) rfl rfl)) ?_
            refine w_gT H (o := 6) (t := 56) rfl (H.perm 6 rfl) rfl rfl rfl rfl rfl rfl ?_
            refine Ew_of (pcₚ := 104) (fun _ => x_iconst rfl) ?_
            refine Ew_of (pcₚ := 105) (fun _ => x_aload_n rfl (rk_o (l7_0) rfl rfl)) ?_
            refine w_gT H (o := 6) (t := 56) rfl (H.perm 6 rfl) rfl rfl rfl rfl rfl rfl ?_
            refine Ew_of (pcₚ := 109) (fun _ => x_iconst rfl) ?_
            refine w_lI H (o := 56) (n := 3) rfl (H.perm 56 rfl) rfl rfl (H.fix 56 rfl rfl) (show 0 ≤ 0 ∧ 0 < ((3 : Nat) : Int) from q_1579) (by decide) (fun v5 ev5 qv5 => ?_)
            have qv5 : (-2147483648 : Int) ≤ v5 ∧ v5 ≤ 2147483647 := qv5
            have ev5 : (w56) (0) = v5 := (congrFun ((funext (hA_7 56 rfl)).trans (ew56)) (0)).symm.trans ev5
            have hv2 := ev5
            try simp only [upd1] at hv2
            refine w_sI H (o := 56) (n := 3) rfl (H.perm 56 rfl) rfl rfl (H.fix 56 rfl rfl) (show 0 ≤ 1 ∧ 1 < ((3 : Nat) : Int) from q_1580) (by decide) (show (-2147483648 : Int) ≤ v5 ∧ v5 ≤ 2147483647 from qv5) (fun σ H => ?_)
            refine Ew_of (pcₚ := 112) (fun _ => x_aload_n rfl (rk_o (l7_0) rfl rfl)) ?_
            refine w_gT H (o := 6) (t := 56) rfl (H.perm 6 rfl) rfl rfl rfl rfl rfl rfl ?_
            refine Ew_of (pcₚ := 116) (fun _ => x_iconst rfl) ?_
            refine Ew_of (pcₚ := 117) (fun _ => x_iload_n rfl (rk_o (l7_1) rfl rfl)) ?_
            refine w_sI H (o := 56) (n := 3) rfl (H.perm 56 rfl) rfl rfl (H.fix 56 rfl rfl) (show 0 ≤ 0 ∧ 0 < ((3 : Nat) : Int) from q_1579) (by decide) (show (-2147483648 : Int) ≤ a1 ∧ a1 ≤ 2147483647 from q_2066 h2) (fun σ H => ?_)
            refine Ew_of (pcₚ := 119) (fun _ => x_iload_n rfl (rk_o (l7_3) rfl rfl)) ?_
            have : IMP (1 ≤ ((w56)) 0 ∧ 1 ≤ (a1)) ((x7_3) = nuG (((w56)) 0) (((w56)) 1) (((w56)) 2) ((a1)) (1 - (a2)) 1 ∧ ∃ zz, dsF ((x7_3)) (1 - (a2)) (((w56)) 0) (((w56)) 1) (((w56)) 2) = (zz, ((upd1 (upd1 (w56) (1) (v5)) (0) (a1))) 0, ((upd1 (upd1 (w56) (1) (v5)) (0) (a1))) 1, ((upd1 (upd1 (w56) (1) (v5)) (0) (a1))) 2)) := fun h1 => ⟨hnu h1.1, (a1), by rw [hds h1]; first | (rw [if_pos (by omega), if_pos (by omega)]; exact Prod.ext rfl (Prod.ext rfl (Prod.ext hv2 hv1))) | (rw [if_pos (by omega), if_neg (by omega)]; exact Prod.ext rfl (Prod.ext rfl (Prod.ext hv2 rfl))) | (rw [if_neg (by omega), if_neg (by omega)]; rfl) | (exfalso; omega)⟩
            have : IMP ((1 ≤ ((w56)) 0 ∧ 1 ≤ ((w56)) 1 ∧ 1 ≤ ((w56)) 2) ∧ 1 ≤ (a1)) (1 ≤ ((upd1 (upd1 (w56) (1) (v5)) (0) (a1))) 0 ∧ 1 ≤ ((upd1 (upd1 (w56) (1) (v5)) (0) (a1))) 1 ∧ 1 ≤ ((upd1 (upd1 (w56) (1) (v5)) (0) (a1))) 2) := fun h => by have a := h.1.1; have b := h.1.2.1; have c := h.1.2.2; have d := h.2; refine ⟨?_, ?_, ?_⟩ <;> (try simp only [upd1]) <;> (try omega)
            exact w_ireturn rfl (k (x7_3) σ _ _ H (SF_trans (SF_refl) hS_7 (any_sub rfl)) (SA_upd (SA_upd (SA_trans (SA_refl) hA_7 (any_subA rfl)) rfl) rfl) (upd1 (upd1 (w56) (1) (v5)) (0) (a1)) (congrArg (fun q => upd1 q (0) (a1)) (congrArg (fun q => upd1 q (1) (v5)) ((funext (hA_7 56 rfl)).trans (ew56)))) (show inr (x7_3) from j7_0) (show 1 ≤ (x7_3) ∧ (x7_3) ≤ a1 + 3 from j7_4) (show IMP (1 ≤ ((w56)) 0 ∧ 1 ≤ a1) ((x7_3) = nuG (((w56)) 0) (((w56)) 1) (((w56)) 2) (a1) (1 - a2) 1 ∧ ∃ zz, dsF ((x7_3)) (1 - a2) (((w56)) 0) (((w56)) 1) (((w56)) 2) = (zz, ((upd1 (upd1 (w56) (1) (v5)) (0) (a1))) 0, ((upd1 (upd1 (w56) (1) (v5)) (0) (a1))) 1, ((upd1 (upd1 (w56) (1) (v5)) (0) (a1))) 2)) by assumption) (show IMP ((1 ≤ ((w56)) 0 ∧ 1 ≤ ((w56)) 1 ∧ 1 ≤ ((w56)) 2) ∧ 1 ≤ a1) (1 ≤ ((upd1 (upd1 (w56) (1) (v5)) (0) (a1))) 0 ∧ 1 ≤ ((upd1 (upd1 (w56) (1) (v5)) (0) (a1))) 1 ∧ 1 ≤ ((upd1 (upd1 (w56) (1) (v5)) (0) (a1))) 2) by assumption))
        · refine Ew_of (pcₚ := 82) (fun _ => x_aload_n rfl (rk_o (l7_0) rfl rfl)) ?_
          refine w_gT H (o := 6) (t := 56) rfl (H.perm 6 rfl) rfl rfl rfl rfl rfl rfl ?_
          refine Ew_of (pcₚ := 86) (fun _ => x_iconst rfl) ?_
          refine Ew_of (pcₚ := 87) (fun _ => x_aload_n rfl (rk_o (l7_0) rfl rfl)) ?_
          refine w_gT H (o := 6) (t := 56) rfl (H.perm 6 rfl) rfl rfl rfl rfl rfl rfl ?_
          refine Ew_of (pcₚ := 91) (fun _ => x_iconst rfl) ?_
          refine w_lI H (o := 56) (n := 3) rfl (H.perm 56 rfl) rfl rfl (H.fix 56 rfl rfl) (show 0 ≤ 1 ∧ 1 < ((3 : Nat) : Int) from q_1580) (by decide) (fun v6 ev6 qv6 => ?_)
          have qv6 : (-2147483648 : Int) ≤ v6 ∧ v6 ≤ 2147483647 := qv6
          have ev6 : (w56) (1) = v6 := (congrFun ((funext (hA_7 56 rfl)).trans (ew56)) (1)).symm.trans ev6
          have hv1 := ev6
          refine w_sI H (o := 56) (n := 3) rfl (H.perm 56 rfl) rfl rfl (H.fix 56 rfl rfl) (show 0 ≤ 2 ∧ 2 < ((3 : Nat) : Int) from q_1581) (by decide) (show (-2147483648 : Int) ≤ v6 ∧ v6 ≤ 2147483647 from qv6) (fun σ H => ?_)
          refine Ew_of (pcₚ := 95) (fun _ => x_iload rfl rk_s) ?_
          refine Ew_of (pcₚ := 96) (fun _ => x_iconst rfl) ?_
          refine w_icmple (t := 111) rfl rfl (show inr ((x7_3 + a2)) from q_2067 b2 b3 h2) (show inr (1) from q_135) (fun b7 => ?_) (fun b7 => ?_)
          · refine Ew_of (pcₚ := 112) (fun _ => x_aload_n rfl (rk_o (l7_0) rfl rfl)) ?_
            refine w_gT H (o := 6) (t := 56) rfl (H.perm 6 rfl) rfl rfl rfl rfl rfl rfl ?_
            refine Ew_of (pcₚ := 116) (fun _ => x_iconst rfl) ?_
            refine Ew_of (pcₚ := 117) (fun _ => x_iload_n rfl (rk_o (l7_1) rfl rfl)) ?_
            refine w_sI H (o := 56) (n := 3) rfl (H.perm 56 rfl) rfl rfl (H.fix 56 rfl rfl) (show 0 ≤ 0 ∧ 0 < ((3 : Nat) : Int) from q_1579) (by decide) (show (-2147483648 : Int) ≤ a1 ∧ a1 ≤ 2147483647 from q_2066 h2) (fun σ H => ?_)
            refine Ew_of (pcₚ := 119) (fun _ => x_iload_n rfl (rk_o (l7_3) rfl rfl)) ?_
            have : IMP (1 ≤ ((w56)) 0 ∧ 1 ≤ (a1)) ((x7_3) = nuG (((w56)) 0) (((w56)) 1) (((w56)) 2) ((a1)) (1 - (a2)) 1 ∧ ∃ zz, dsF ((x7_3)) (1 - (a2)) (((w56)) 0) (((w56)) 1) (((w56)) 2) = (zz, ((upd1 (upd1 (w56) (2) (v6)) (0) (a1))) 0, ((upd1 (upd1 (w56) (2) (v6)) (0) (a1))) 1, ((upd1 (upd1 (w56) (2) (v6)) (0) (a1))) 2)) := fun h1 => ⟨hnu h1.1, (a1), by rw [hds h1]; first | (rw [if_pos (by omega), if_pos (by omega)]; exact Prod.ext rfl (Prod.ext rfl (Prod.ext hv2 hv1))) | (rw [if_pos (by omega), if_neg (by omega)]; exact Prod.ext rfl (Prod.ext rfl (Prod.ext hv2 rfl))) | (rw [if_neg (by omega), if_neg (by omega)]; rfl) | (exfalso; omega)⟩
            have : IMP ((1 ≤ ((w56)) 0 ∧ 1 ≤ ((w56)) 1 ∧ 1 ≤ ((w56)) 2) ∧ 1 ≤ (a1)) (1 ≤ ((upd1 (upd1 (w56) (2) (v6)) (0) (a1))) 0 ∧ 1 ≤ ((upd1 (upd1 (w56) (2) (v6)) (0) (a1))) 1 ∧ 1 ≤ ((upd1 (upd1 (w56) (2) (v6)) (0) (a1))) 2) := fun h => by have a := h.1.1; have b := h.1.2.1; have c := h.1.2.2; have d := h.2; refine ⟨?_, ?_, ?_⟩ <;> (try simp only [upd1]) <;> (try omega)
            exact w_ireturn rfl (k (x7_3) σ _ _ H (SF_trans (SF_refl) hS_7 (any_sub rfl)) (SA_upd (SA_upd (SA_trans (SA_refl) hA_7 (any_subA rfl)) rfl) rfl) (upd1 (upd1 (w56) (2) (v6)) (0) (a1)) (congrArg (fun q => upd1 q (0) (a1)) (congrArg (fun q => upd1 q (2) (v6)) ((funext (hA_7 56 rfl)).trans (ew56)))) (show inr (x7_3) from j7_0) (show 1 ≤ (x7_3) ∧ (x7_3) ≤ a1 + 3 from j7_4) (show IMP (1 ≤ ((w56)) 0 ∧ 1 ≤ a1) ((x7_3) = nuG (((w56)) 0) (((w56)) 1) (((w56)) 2) (a1) (1 - a2) 1 ∧ ∃ zz, dsF ((x7_3)) (1 - a2) (((w56)) 0) (((w56)) 1) (((w56)) 2) = (zz, ((upd1 (upd1 (w56) (2) (v6)) (0) (a1))) 0, ((upd1 (upd1 (w56) (2) (v6)) (0) (a1))) 1, ((upd1 (upd1 (w56) (2) (v6)) (0) (a1))) 2)) by assumption) (show IMP ((1 ≤ ((w56)) 0 ∧ 1 ≤ ((w56)) 1 ∧ 1 ≤ ((w56)) 2) ∧ 1 ≤ a1) (1 ≤ ((upd1 (upd1 (w56) (2) (v6)) (0) (a1))) 0 ∧ 1 ≤ ((upd1 (upd1 (w56) (2) (v6)) (0) (a1))) 1 ∧ 1 ≤ ((upd1 (upd1 (w56) (2) (v6)) (0) (a1))) 2) by assumption))
          · refine Ew_of (pcₚ := 100) (fun _ => x_aload_n rfl (rk_o (l7_0) rfl rfl)) ?_
            refine w_gT H (o := 6) (t := 56) rfl (H.perm 6 rfl) rfl rfl rfl rfl rfl rfl ?_
            refine Ew_of (pcₚ := 104) (fun _ => x_iconst rfl) ?_
            refine Ew_of (pcₚ := 105) (fun _ => x_aload_n rfl (rk_o (l7_0) rfl rfl)) ?_
            refine w_gT H (o := 6) (t := 56) rfl (H.perm 6 rfl) rfl rfl rfl rfl rfl rfl ?_
            refine Ew_of (pcₚ := 109) (fun _ => x_iconst rfl) ?_
            refine w_lI H (o := 56) (n := 3) rfl (H.perm 56 rfl) rfl rfl (H.fix 56 rfl rfl) (show 0 ≤ 0 ∧ 0 < ((3 : Nat) : Int) from q_1579) (by decide) (fun v8 ev8 qv8 => ?_)
            have qv8 : (-2147483648 : Int) ≤ v8 ∧ v8 ≤ 2147483647 := qv8
            have ev8 : (upd1 (w56) (2) (v6)) (0) = v8 := (congrFun (congrArg (fun q => upd1 q (2) (v6)) ((funext (hA_7 56 rfl)).trans (ew56))) (0)).symm.trans ev8
            have hv2 := ev8
            try simp only [upd1] at hv2
            refine w_sI H (o := 56) (n := 3) rfl (H.perm 56 rfl) rfl rfl (H.fix 56 rfl rfl) (show 0 ≤ 1 ∧ 1 < ((3 : Nat) : Int) from q_1580) (by decide) (show (-2147483648 : Int) ≤ v8 ∧ v8 ≤ 2147483647 from qv8) (fun σ H => ?_)
            refine Ew_of (pcₚ := 112) (fun _ => x_aload_n rfl (rk_o (l7_0) rfl rfl)) ?_
            refine w_gT H (o := 6) (t := 56) rfl (H.perm 6 rfl) rfl rfl rfl rfl rfl rfl ?_
            refine Ew_of (pcₚ := 116) (fun _ => x_iconst rfl) ?_
            refine Ew_of (pcₚ := 117) (fun _ => x_iload_n rfl (rk_o (l7_1) rfl rfl)) ?_
            refine w_sI H (o := 56) (n := 3) rfl (H.perm 56 rfl) rfl rfl (H.fix 56 rfl rfl) (show 0 ≤ 0 ∧ 0 < ((3 : Nat) : Int) from q_1579) (by decide) (show (-2147483648 : Int) ≤ a1 ∧ a1 ≤ 2147483647 from q_2066 h2) (fun σ H => ?_)
            refine Ew_of (pcₚ := 119) (fun _ => x_iload_n rfl (rk_o (l7_3) rfl rfl)) ?_
            have : IMP (1 ≤ ((w56)) 0 ∧ 1 ≤ (a1)) ((x7_3) = nuG (((w56)) 0) (((w56)) 1) (((w56)) 2) ((a1)) (1 - (a2)) 1 ∧ ∃ zz, dsF ((x7_3)) (1 - (a2)) (((w56)) 0) (((w56)) 1) (((w56)) 2) = (zz, ((upd1 (upd1 (upd1 (w56) (2) (v6)) (1) (v8)) (0) (a1))) 0, ((upd1 (upd1 (upd1 (w56) (2) (v6)) (1) (v8)) (0) (a1))) 1, ((upd1 (upd1 (upd1 (w56) (2) (v6)) (1) (v8)) (0) (a1))) 2)) := fun h1 => ⟨hnu h1.1, (a1), by rw [hds h1]; first | (rw [if_pos (by omega), if_pos (by omega)]; exact Prod.ext rfl (Prod.ext rfl (Prod.ext hv2 hv1))) | (rw [if_pos (by omega), if_neg (by omega)]; exact Prod.ext rfl (Prod.ext rfl (Prod.ext hv2 rfl))) | (rw [if_neg (by omega), if_neg (by omega)]; rfl) | (exfalso; omega)⟩
            have : IMP ((1 ≤ ((w56)) 0 ∧ 1 ≤ ((w56)) 1 ∧ 1 ≤ ((w56)) 2) ∧ 1 ≤ (a1)) (1 ≤ ((upd1 (upd1 (upd1 (w56) (2) (v6)) (1) (v8)) (0) (a1))) 0 ∧ 1 ≤ ((upd1 (upd1 (upd1 (w56) (2) (v6)) (1) (v8)) (0) (a1))) 1 ∧ 1 ≤ ((upd1 (upd1 (upd1 (w56) (2) (v6)) (1) (v8)) (0) (a1))) 2) := fun h => by have a := h.1.1; have b := h.1.2.1; have c := h.1.2.2; have d := h.2; refine ⟨?_, ?_, ?_⟩ <;> (try simp only [upd1]) <;> (try omega)
            exact w_ireturn rfl (k (x7_3) σ _ _ H (SF_trans (SF_refl) hS_7 (any_sub rfl)) (SA_upd (SA_upd (SA_upd (SA_trans (SA_refl) hA_7 (any_subA rfl)) rfl) rfl) rfl) (upd1 (upd1 (upd1 (w56) (2) (v6)) (1) (v8)) (0) (a1)) (congrArg (fun q => upd1 q (0) (a1)) (congrArg (fun q => upd1 q (1) (v8)) (congrArg (fun q => upd1 q (2) (v6)) ((funext (hA_7 56 rfl)).trans (ew56))))) (show inr (x7_3) from j7_0) (show 1 ≤ (x7_3) ∧ (x7_3) ≤ a1 + 3 from j7_4) (show IMP (1 ≤ ((w56)) 0 ∧ 1 ≤ a1) ((x7_3) = nuG (((w56)) 0) (((w56)) 1) (((w56)) 2) (a1) (1 - a2) 1 ∧ ∃ zz, dsF ((x7_3)) (1 - a2) (((w56)) 0) (((w56)) 1) (((w56)) 2) = (zz, ((upd1 (upd1 (upd1 (w56) (2) (v6)) (1) (v8)) (0) (a1))) 0, ((upd1 (upd1 (upd1 (w56) (2) (v6)) (1) (v8)) (0) (a1))) 1, ((upd1 (upd1 (upd1 (w56) (2) (v6)) (1) (v8)) (0) (a1))) 2)) by assumption) (show IMP ((1 ≤ ((w56)) 0 ∧ 1 ≤ ((w56)) 1 ∧ 1 ≤ ((w56)) 2) ∧ 1 ≤ a1) (1 ≤ ((upd1 (upd1 (upd1 (w56) (2) (v6)) (1) (v8)) (0) (a1))) 0 ∧ 1 ≤ ((upd1 (upd1 (upd1 (w56) (2) (v6)) (1) (v8)) (0) (a1))) 1 ∧ 1 ≤ ((upd1 (upd1 (upd1 (w56) (2) (v6)) (1) (v8)) (0) (a1))) 2) by assumption))
      · refine Ew_of (pcₚ := 67) (fun _ => x_iconst rfl) ?_
        refine Ew_of (pcₚ := 73) (fun _ => x_goto rfl rfl) ?_
        refine Ew_of (pcₚ := 75) (fun _ => x_istore rfl) ?_
        have hds : IMP (1 ≤ ((w56)) 0 ∧ 1 ≤ (a1)) (dsF ((x7_3)) (1 - (a2)) (((w56)) 0) (((w56)) 1) (((w56)) 2) = ((a1), (a1), (if 1 < (5) then ((w56)) 0 else ((w56)) 1), (if 2 < (5) then ((w56)) 1 else ((w56)) 2))) := fun h1 => by have e := hnu h1.1; have ha := h1.2; have k := nuG_ds (r0 := ((w56)) 0) (r1 := ((w56)) 1) (r2 := ((w56)) 2) (d := (a1)) (li := 1 - (a2)) (w := (5)) (by rw [← e]; omega) (by omega); rw [← e] at k; exact k
        refine Ew_of (pcₚ := 77) (fun _ => x_iload rfl rk_s) ?_
        refine Ew_of (pcₚ := 78) (fun _ => x_iconst rfl) ?_
        refine w_icmple (t := 93) rfl rfl (show inr (5) from q_727) (show inr (2) from q_122) (fun b9 => ?_) (fun b9 => ?_)
        · refine Ew_of (pcₚ := 95) (fun _ => x_iload rfl rk_s) ?_
          refine Ew_of (pcₚ := 96) (fun _ => x_iconst rfl) ?_
          refine w_icmple (t := 111) rfl rfl (show inr (5) from q_727) (show inr (1) from q_135) (fun b10 => ?_) (fun b10 => ?_)
          · refine Ew_of (pcₚ := 112) (fun _ => x_aload_n rfl (rk_o (l7_0) rfl rfl)) ?_
            refine w_gT H (o := 6) (t := 56) rfl (H.perm 6 rfl) rfl rfl rfl rfl rfl rfl ?_
            refine Ew_of (pcₚ := 116) (fun _ => x_iconst rfl) ?_
            refine Ew_of (pcₚ := 117) (fun _ => x_iload_n rfl (rk_o (l7_1) rfl rfl)) ?_
            refine w_sI H (o := 56) (n := 3) rfl (H.perm 56 rfl) rfl rfl (H.fix 56 rfl rfl) (show 0 ≤ 0 ∧ 0 < ((3 : Nat) : Int) from q_1579) (by decide) (show (-2147483648 : Int) ≤ a1 ∧ a1 ≤ 2147483647 from q_2066 h2) (fun σ H => ?_)
            refine Ew_of (pcₚ := 119) (fun _ => x_iload_n rfl (rk_o (l7_3) rfl rfl)) ?_
            have : IMP (1 ≤ ((w56)) 0 ∧ 1 ≤ (a1)) ((x7_3) = nuG (((w56)) 0) (((w56)) 1) (((w56)) 2) ((a1)) (1 - (a2)) 1 ∧ ∃ zz, dsF ((x7_3)) (1 - (a2)) (((w56)) 0) (((w56)) 1) (((w56)) 2) = (zz, ((upd1 (w56) (0) (a1))) 0, ((upd1 (w56) (0) (a1))) 1, ((upd1 (w56) (0) (a1))) 2)) := fun h1 => ⟨hnu h1.1, (a1), by rw [hds h1]; first | (rw [if_pos (by omega), if_pos (by omega)]; exact Prod.ext rfl (Prod.ext rfl (Prod.ext hv2 hv1))) | (rw [if_pos (by omega), if_neg (by omega)]; exact Prod.ext rfl (Prod.ext rfl (Prod.ext hv2 rfl))) | (rw [if_neg (by omega), if_neg (by omega)]; rfl) | (exfalso; omega)⟩
            have : IMP ((1 ≤ ((w56)) 0 ∧ 1 ≤ ((w56)) 1 ∧ 1 ≤ ((w56)) 2) ∧ 1 ≤ (a1)) (1 ≤ ((upd1 (w56) (0) (a1))) 0 ∧ 1 ≤ ((upd1 (w56) (0) (a1))) 1 ∧ 1 ≤ ((upd1 (w56) (0) (a1))) 2) := fun h => by have a := h.1.1; have b := h.1.2.1; have c := h.1.2.2; have d := h.2; refine ⟨?_, ?_, ?_⟩ <;> (try simp only [upd1]) <;> (try omega)
            exact w_ireturn rfl (k (x7_3) σ _ _ H (SF_trans (SF_refl) hS_7 (any_sub rfl)) (SA_upd (SA_trans (SA_refl) hA_7 (any_subA rfl)) rfl) (upd1 (w56) (0) (a1)) (congrArg (fun q => upd1 q (0) (a1)) ((funext (hA_7 56 rfl)).trans (ew56))) (show inr (x7_3) from j7_0) (show 1 ≤ (x7_3) ∧ (x7_3) ≤ a1 + 3 from j7_4) (show IMP (1 ≤ ((w56)) 0 ∧ 1 ≤ a1) ((x7_3) = nuG (((w56)) 0) (((w56)) 1) (((w56)) 2) (a1) (1 - a2) 1 ∧ ∃ zz, dsF ((x7_3)) (1 - a2) (((w56)) 0) (((w56)) 1) (((w56)) 2) = (zz, ((upd1 (w56) (0) (a1))) 0, ((upd1 (w56) (0) (a1))) 1, ((upd1 (w56) (0) (a1))) 2)) by assumption) (show IMP ((1 ≤ ((w56)) 0 ∧ 1 ≤ ((w56)) 1 ∧ 1 ≤ ((w56)) 2) ∧ 1 ≤ a1) (1 ≤ ((upd1 (w56) (0) (a1))) 0 ∧ 1 ≤ ((upd1 (w56) (0) (a1))) 1 ∧ 1 ≤ ((upd1 (w56) (0) (a1))) 2) by assumption))
          · refine Ew_of (pcₚ := 100) (fun _ => x_aload_n rfl (rk_o (l7_0) rfl rfl)) ?_
            refine w_gT H (o := 6) (t := 56) rfl (H.perm 6 rfl) rfl rfl rfl rfl rfl rfl ?_
            refine Ew_of (pcₚ := 104) (fun _ => x_iconst rfl) ?_
            refine Ew_of (pcₚ := 105) (fun _ => x_aload_n rfl (rk_o (l7_0) rfl rfl)) ?_
            refine w_gT H (o := 6) (t := 56) rfl (H.perm 6 rfl) rfl rfl rfl rfl rfl rfl ?_
            refine Ew_of (pcₚ := 109) (fun _ => x_iconst rfl) ?_
            refine w_lI H (o := 56) (n := 3) rfl (H.perm 56 rfl) rfl rfl (H.fix 56 rfl rfl) (show 0 ≤ 0 ∧ 0 < ((3 : Nat) : Int) from q_1579) (by decide) (fun v11 ev11 qv11 => ?_)
            have qv11 : (-2147483648 : Int) ≤ v11 ∧ v11 ≤ 2147483647 := qv11
            have ev11 : (w56) (0) = v11 := (congrFun ((funext (hA_7 56 rfl)).trans (ew56)) (0)).symm.trans ev11
            have hv2 := ev11
            try simp only [upd1] at hv2
            refine w_sI H (o := 56) (n := 3) rfl (H.perm 56 rfl) rfl rfl (H.fix 56 rfl rfl) (show 0 ≤ 1 ∧ 1 < ((3 : Nat) : Int) from q_1580) (by decide) (show (-2147483648 : Int) ≤ v11 ∧ v11 ≤ 2147483647 from qv11) (fun σ H => ?_)
            refine Ew_of (pcₚ := 112) (fun _ => x_aload_n rfl (rk_o (l7_0) rfl rfl)) ?_
            refine w_gT H (o := 6) (t := 56) rfl (H.perm 6 rfl) rfl rfl rfl rfl rfl rfl ?_
            refine Ew_of (pcₚ := 116) (fun _ => x_iconst rfl) ?_
            refine Ew_of (pcₚ := 117) (fun _ => x_iload_n rfl (rk_o (l7_1) rfl rfl)) ?_
            refine w_sI H (o := 56) (n := 3) rfl (H.perm 56 rfl) rfl rfl (H.fix 56 rfl rfl) (show 0 ≤ 0 ∧ 0 < ((3 : Nat) : Int) from q_1579) (by decide) (show (-2147483648 : Int) ≤ a1 ∧ a1 ≤ 2147483647 from q_2066 h2) (fun σ H => ?_)
            refine Ew_of (pcₚ := 119) (fun _ => x_iload_n rfl (rk_o (l7_3) rfl rfl)) ?_
            have : IMP (1 ≤ ((w56)) 0 ∧ 1 ≤ (a1)) ((x7_3) = nuG (((w56)) 0) (((w56)) 1) (((w56)) 2) ((a1)) (1 - (a2)) 1 ∧ ∃ zz, dsF ((x7_3)) (1 - (a2)) (((w56)) 0) (((w56)) 1) (((w56)) 2) = (zz, ((upd1 (upd1 (w56) (1) (v11)) (0) (a1))) 0, ((upd1 (upd1 (w56) (1) (v11)) (0) (a1))) 1, ((upd1 (upd1 (w56) (1) (v11)) (0) (a1))) 2)) := fun h1 => ⟨hnu h1.1, (a1), by rw [hds h1]; first | (rw [if_pos (by omega), if_pos (by omega)]; exact Prod.ext rfl (Prod.ext rfl (Prod.ext hv2 hv1))) | (rw [if_pos (by omega), if_neg (by omega)]; exact Prod.ext rfl (Prod.ext rfl (Prod.ext hv2 rfl))) | (rw [if_neg (by omega), if_neg (by omega)]; rfl) | (exfalso; omega)⟩
            have : IMP ((1 ≤ ((w56)) 0 ∧ 1 ≤ ((w56)) 1 ∧ 1 ≤ ((w56)) 2) ∧ 1 ≤ (a1)) (1 ≤ ((upd1 (upd1 (w56) (1) (v11)) (0) (a1))) 0 ∧ 1 ≤ ((upd1 (upd1 (w56) (1) (v11)) (0) (a1))) 1 ∧ 1 ≤ ((upd1 (upd1 (w56) (1) (v11)) (0) (a1))) 2) := fun h => by have a := h.1.1; have b := h.1.2.1; have c := h.1.2.2; have d := h.2; refine ⟨?_, ?_, ?_⟩ <;> (try simp only [upd1]) <;> (try omega)
            exact w_ireturn rfl (k (x7_3) σ _ _ H (SF_trans (SF_refl) hS_7 (any_sub rfl)) (SA_upd (SA_upd (SA_trans (SA_refl) hA_7 (any_subA rfl)) rfl) rfl) (upd1 (upd1 (w56) (1) (v11)) (0) (a1)) (congrArg (fun q => upd1 q (0) (a1)) (congrArg (fun q => upd1 q (1) (v11)) ((funext (hA_7 56 rfl)).trans (ew56)))) (show inr (x7_3) from j7_0) (show 1 ≤ (x7_3) ∧ (x7_3) ≤ a1 + 3 from j7_4) (show IMP (1 ≤ ((w56)) 0 ∧ 1 ≤ a1) ((x7_3) = nuG (((w56)) 0) (((w56)) 1) (((w56)) 2) (a1) (1 - a2) 1 ∧ ∃ zz, dsF ((x7_3)) (1 - a2) (((w56)) 0) (((w56)) 1) (((w56)) 2) = (zz, ((upd1 (upd1 (w56) (1) (v11)) (0) (a1))) 0, ((upd1 (upd1 (w56) (1) (v11)) (0) (a1))) 1, ((upd1 (upd1 (w56) (1) (v11)) (0) (a1))) 2)) by assumption) (show IMP ((1 ≤ ((w56)) 0 ∧ 1 ≤ ((w56)) 1 ∧ 1 ≤ ((w56)) 2) ∧ 1 ≤ a1) (1 ≤ ((upd1 (upd1 (w56) (1) (v11)) (0) (a1))) 0 ∧ 1 ≤ ((upd1 (upd1 (w56) (1) (v11)) (0) (a1))) 1 ∧ 1 ≤ ((upd1 (upd1 (w56) (1) (v11)) (0) (a1))) 2) by assumption))
        · refine Ew_of (pcₚ := 82) (fun _ => x_aload_n rfl (rk_o (l7_0) rfl rfl)) ?_
          refine w_gT H (o := 6) (t := 56) rfl (H.perm 6 rfl) rfl rfl rfl rfl rfl rfl ?_
          refine Ew_of (pcₚ := 86) (fun _ => x_iconst rfl) ?_
          refine Ew_of (pcₚ := 87) (fun _ => x_aload_n rfl (rk_o (l7_0) rfl rfl)) ?_
          refine w_gT H (o := 6) (t := 56) rfl (H.perm 6 rfl) rfl rfl rfl rfl rfl rfl ?_
          refine Ew_of (pcₚ := 91) (fun _ => x_iconst rfl) ?_
          refine w_lI H (o := 56) (n := 3) rfl (H.perm 56 rfl) rfl rfl (H.fix 56 rfl rfl) (show 0 ≤ 1 ∧ 1 < ((3 : Nat) : Int) from q_1580) (by decide) (fun v12 ev12 qv12 => ?_)
          have qv12 : (-2147483648 : Int) ≤ v12 ∧ v12 ≤ 2147483647 := qv12
          have ev12 : (w56) (1) = v12 := (congrFun ((funext (hA_7 56 rfl)).trans (ew56)) (1)).symm.trans ev12
          have hv1 := ev12
          refine w_sI H (o := 56) (n := 3) rfl (H.perm 56 rfl) rfl rfl (H.fix 56 rfl rfl) (show 0 ≤ 2 ∧ 2 < ((3 : Nat) : Int) from q_1581) (by decide) (show (-2147483648 : Int) ≤ v12 ∧ v12 ≤ 2147483647 from qv12) (fun σ H => ?_)
          refine Ew_of (pcₚ := 95) (fun _ => x_iload rfl rk_s) ?_
          refine Ew_of (pcₚ := 96) (fun _ => x_iconst rfl) ?_
          refine w_icmple (t := 111) rfl rfl (show inr (5) from q_727) (show inr (1) from q_135) (fun b13 => ?_) (fun b13 => ?_)
          · refine Ew_of (pcₚ := 112) (fun _ => x_aload_n rfl (rk_o (l7_0) rfl rfl)) ?_
            refine w_gT H (o := 6) (t := 56) rfl (H.perm 6 rfl) rfl rfl rfl rfl rfl rfl ?_
            refine Ew_of (pcₚ := 116) (fun _ => x_iconst rfl) ?_
            refine Ew_of (pcₚ := 117) (fun _ => x_iload_n rfl (rk_o (l7_1) rfl rfl)) ?_
            refine w_sI H (o := 56) (n := 3) rfl (H.perm 56 rfl) rfl rfl (H.fix 56 rfl rfl) (show 0 ≤ 0 ∧ 0 < ((3 : Nat) : Int) from q_1579) (by decide) (show (-2147483648 : Int) ≤ a1 ∧ a1 ≤ 2147483647 from q_2066 h2) (fun σ H => ?_)
            refine Ew_of (pcₚ := 119) (fun _ => x_iload_n rfl (rk_o (l7_3) rfl rfl)) ?_
            have : IMP (1 ≤ ((w56)) 0 ∧ 1 ≤ (a1)) ((x7_3) = nuG (((w56)) 0) (((w56)) 1) (((w56)) 2) ((a1)) (1 - (a2)) 1 ∧ ∃ zz, dsF ((x7_3)) (1 - (a2)) (((w56)) 0) (((w56)) 1) (((w56)) 2) = (zz, ((upd1 (upd1 (w56) (2) (v12)) (0) (a1))) 0, ((upd1 (upd1 (w56) (2) (v12)) (0) (a1))) 1, ((upd1 (upd1 (w56) (2) (v12)) (0) (a1))) 2)) := fun h1 => ⟨hnu h1.1, (a1), by rw [hds h1]; first | (rw [if_pos (by omega), if_pos (by omega)]; exact Prod.ext rfl (Prod.ext rfl (Prod.ext hv2 hv1))) | (rw [if_pos (by omega), if_neg (by omega)]; exact Prod.ext rfl (Prod.ext rfl (Prod.ext hv2 rfl))) | (rw [if_neg (by omega), if_neg (by omega)]; rfl) | (exfalso; omega)⟩
            have : IMP ((1 ≤ ((w56)) 0 ∧ 1 ≤ ((w56)) 1 ∧ 1 ≤ ((w56)) 2) ∧ 1 ≤ (a1)) (1 ≤ ((upd1 (upd1 (w56) (2) (v12)) (0) (a1))) 0 ∧ 1 ≤ ((upd1 (upd1 (w56) (2) (v12)) (0) (a1))) 1 ∧ 1 ≤ ((upd1 (upd1 (w56) (2) (v12)) (0) (a1))) 2) := fun h => by have a := h.1.1; have b := h.1.2.1; have c := h.1.2.2; have d := h.2; refine ⟨?_, ?_, ?_⟩ <;> (try simp only [upd1]) <;> (try omega)
            exact w_ireturn rfl (k (x7_3) σ _ _ H (SF_trans (SF_refl) hS_7 (any_sub rfl)) (SA_upd (SA_upd (SA_trans (SA_refl) hA_7 (any_subA rfl)) rfl) rfl) (upd1 (upd1 (w56) (2) (v12)) (0) (a1)) (congrArg (fun q => upd1 q (0) (a1)) (congrArg (fun q => upd1 q (2) (v12)) ((funext (hA_7 56 rfl)).trans (ew56)))) (show inr (x7_3) from j7_0) (show 1 ≤ (x7_3) ∧ (x7_3) ≤ a1 + 3 from j7_4) (show IMP (1 ≤ ((w56)) 0 ∧ 1 ≤ a1) ((x7_3) = nuG (((w56)) 0) (((w56)) 1) (((w56)) 2) (a1) (1 - a2) 1 ∧ ∃ zz, dsF ((x7_3)) (1 - a2) (((w56)) 0) (((w56)) 1) (((w56)) 2) = (zz, ((upd1 (upd1 (w56) (2) (v12)) (0) (a1))) 0, ((upd1 (upd1 (w56) (2) (v12)) (0) (a1))) 1, ((upd1 (upd1 (w56) (2) (v12)) (0) (a1))) 2)) by assumption) (show IMP ((1 ≤ ((w56)) 0 ∧ 1 ≤ ((w56)) 1 ∧ 1 ≤ ((w56)) 2) ∧ 1 ≤ a1) (1 ≤ ((upd1 (upd1 (w56) (2) (v12)) (0) (a1))) 0 ∧ 1 ≤ ((upd1 (upd1 (w56) (2) (v12)) (0) (a1))) 1 ∧ 1 ≤ ((upd1 (upd1 (w56) (2) (v12)) (0) (a1))) 2) by assumption))
          · refine Ew_of (pcₚ := 100) (fun _ => x_aload_n rfl (rk_o (l7_0) rfl rfl)) ?_
            refine w_gT H (o := 6) (t := 56) rfl (H.perm 6 rfl) rfl rfl rfl rfl rfl rfl ?_
            refine Ew_of (pcₚ := 104) (fun _ => x_iconst rfl) ?_
            refine Ew_of (pcₚ := 105) (fun _ => x_aload_n rfl (rk_o (l7_0) rfl rfl)) ?_
            refine w_gT H (o := 6) (t := 56) rfl (H.perm 6 rfl) rfl rfl rfl rfl rfl rfl ?_
            refine Ew_of (pcₚ := 109) (fun _ => x_iconst rfl) ?_
            refine w_lI H (o := 56) (n := 3) rfl (H.perm 56 rfl) rfl rfl (H.fix 56 rfl rfl) (show 0 ≤ 0 ∧ 0 < ((3 : Nat) : Int) from q_1579) (by decide) (fun v14 ev14 qv14 => ?_)
            have qv14 : (-2147483648 : Int) ≤ v14 ∧ v14 ≤ 2147483647 := qv14
            have ev14 : (upd1 (w56) (2) (v12)) (0) = v14 := (congrFun (congrArg (fun q => upd1 q (2) (v12)) ((funext (hA_7 56 rfl)).trans (ew56))) (0)).symm.trans ev14
            have hv2 := ev14
            try simp only [upd1] at hv2
            refine w_sI H (o := 56) (n := 3) rfl (H.perm 56 rfl) rfl rfl (H.fix 56 rfl rfl) (show 0 ≤ 1 ∧ 1 < ((3 : Nat) : Int) from q_1580) (by decide) (show (-2147483648 : Int) ≤ v14 ∧ v14 ≤ 2147483647 from qv14) (fun σ H => ?_)
            refine Ew_of (pcₚ := 112) (fun _ => x_aload_n rfl (rk_o (l7_0) rfl rfl)) ?_
            refine w_gT H (o := 6) (t := 56) rfl (H.perm 6 rfl) rfl rfl rfl rfl rfl rfl ?_
            refine Ew_of (pcₚ := 116) (fun _ => x_iconst rfl) ?_
            refine Ew_of (pcₚ := 117) (fun _ => x_iload_n rfl (rk_o (l7_1) rfl rfl)) ?_
            refine w_sI H (o := 56) (n := 3) rfl (H.perm 56 rfl) rfl rfl (H.fix 56 rfl rfl) (show 0 ≤ 0 ∧ 0 < ((3 : Nat) : Int) from q_1579) (by decide) (show (-2147483648 : Int) ≤ a1 ∧ a1 ≤ 2147483647 from q_2066 h2) (fun σ H => ?_)
            refine Ew_of (pcₚ := 119) (fun _ => x_iload_n rfl (rk_o (l7_3) rfl rfl)) ?_
            have : IMP (1 ≤ ((w56)) 0 ∧ 1 ≤ (a1)) ((x7_3) = nuG (((w56)) 0) (((w56)) 1) (((w56)) 2) ((a1)) (1 - (a2)) 1 ∧ ∃ zz, dsF ((x7_3)) (1 - (a2)) (((w56)) 0) (((w56)) 1) (((w56)) 2) = (zz, ((upd1 (upd1 (upd1 (w56) (2) (v12)) (1) (v14)) (0) (a1))) 0, ((upd1 (upd1 (upd1 (w56) (2) (v12)) (1) (v14)) (0) (a1))) 1, ((upd1 (upd1 (upd1 (w56) (2) (v12)) (1) (v14)) (0) (a1))) 2)) := fun h1 => ⟨hnu h1.1, (a1), by rw [hds h1]; first | (rw [if_pos (by omega), if_pos (by omega)]; exact Prod.ext rfl (Prod.ext rfl (Prod.ext hv2 hv1))) | (rw [if_pos (by omega), if_neg (by omega)]; exact Prod.ext rfl (Prod.ext rfl (Prod.ext hv2 rfl))) | (rw [if_neg (by omega), if_neg (by omega)]; rfl) | (exfalso; omega)⟩
            have : IMP ((1 ≤ ((w56)) 0 ∧ 1 ≤ ((w56)) 1 ∧ 1 ≤ ((w56)) 2) ∧ 1 ≤ (a1)) (1 ≤ ((upd1 (upd1 (upd1 (w56) (2) (v12)) (1) (v14)) (0) (a1))) 0 ∧ 1 ≤ ((upd1 (upd1 (upd1 (w56) (2) (v12)) (1) (v14)) (0) (a1))) 1 ∧ 1 ≤ ((upd1 (upd1 (upd1 (w56) (2) (v12)) (1) (v14)) (0) (a1))) 2) := fun h => by have a := h.1.1; have b := h.1.2.1; have c := h.1.2.2; have d := h.2; refine ⟨?_, ?_, ?_⟩ <;> (try simp only [upd1]) <;> (try omega)
            exact w_ireturn rfl (k (x7_3) σ _ _ H (SF_trans (SF_refl) hS_7 (any_sub rfl)) (SA_upd (SA_upd (SA_upd (SA_trans (SA_refl) hA_7 (any_subA rfl)) rfl) rfl) rfl) (upd1 (upd1 (upd1 (w56) (2) (v12)) (1) (v14)) (0) (a1)) (congrArg (fun q => upd1 q (0) (a1)) (congrArg (fun q => upd1 q (1) (v14)) (congrArg (fun q => upd1 q (2) (v12)) ((funext (hA_7 56 rfl)).trans (ew56))))) (show inr (x7_3) from j7_0) (show 1 ≤ (x7_3) ∧ (x7_3) ≤ a1 + 3 from j7_4) (show IMP (1 ≤ ((w56)) 0 ∧ 1 ≤ a1) ((x7_3) = nuG (((w56)) 0) (((w56)) 1) (((w56)) 2) (a1) (1 - a2) 1 ∧ ∃ zz, dsF ((x7_3)) (1 - a2) (((w56)) 0) (((w56)) 1) (((w56)) 2) = (zz, ((upd1 (upd1 (upd1 (w56) (2) (v12)) (1) (v14)) (0) (a1))) 0, ((upd1 (upd1 (upd1 (w56) (2) (v12)) (1) (v14)) (0) (a1))) 1, ((upd1 (upd1 (upd1 (w56) (2) (v12)) (1) (v14)) (0) (a1))) 2)) by assumption) (show IMP ((1 ≤ ((w56)) 0 ∧ 1 ≤ ((w56)) 1 ∧ 1 ≤ ((w56)) 2) ∧ 1 ≤ a1) (1 ≤ ((upd1 (upd1 (upd1 (w56) (2) (v12)) (1) (v14)) (0) (a1))) 0 ∧ 1 ≤ ((upd1 (upd1 (upd1 (w56) (2) (v12)) (1) (v14)) (0) (a1))) 1 ∧ 1 ≤ ((upd1 (upd1 (upd1 (w56) (2) (v12)) (1) (v14)) (0) (a1))) 2) by assumption))
    · refine Ew_of (pcₚ := 14) (fun _ => x_iload rfl l7_4) ?_
      refine Ew_of (pcₚ := 15) (fun _ => x_iload_n rfl l7_2) ?_
      refine w_iadd rfl ?_
      refine Ew_of (pcₚ := 18) (fun _ => x_istore rfl) ?_
      refine Ew_of (pcₚ := 20) (fun _ => x_iload rfl rk_s) ?_
      refine Ew_of (pcₚ := 21) (fun _ => x_iconst rfl) ?_
      refine w_icmpne (t := 35) rfl rfl (show inr ((x7_4 + a2)) from q_2068 b1 h2 j7_5) (show inr (4) from q_216) (fun b15 => ?_) (fun b15 => ?_)
      · refine Ew_of (pcₚ := 36) (fun _ => x_aload_n rfl (rk_o (l7_0) rfl rfl)) ?_
        refine w_gT H (o := 6) (t := 56) rfl (H.perm 6 rfl) rfl rfl rfl rfl rfl rfl ?_
        refine Ew_of (pcₚ := 41) (fun _ => x_iload rfl rk_s) ?_
        refine Ew_of (pcₚ := 42) (fun _ => x_iconst rfl) ?_
        refine w_isub rfl ?_
        refine w_lI H (o := 56) (n := 3) rfl (H.perm 56 rfl) rfl rfl (H.fix 56 rfl rfl) (show 0 ≤ ((x7_4 + a2) - 1) ∧ ((x7_4 + a2) - 1) < ((3 : Nat) : Int) by omega) (by decide) (fun v16 ev16 qv16 => ?_)
        have qv16 : (-2147483648 : Int) ≤ v16 ∧ v16 ≤ 2147483647 := qv16
        have ev16 : (w56) (((x7_4 + a2) - 1)) = v16 := (congrFun ((funext (hA_7 56 rfl)).trans (ew56)) (((x7_4 + a2) - 1))).symm.trans ev16
        have hcc : IMP (1 ≤ ((w56)) 0) (nuC (((w56)) 0) (((w56)) 1) (((w56)) 2) (1 - (a2)) ((x7_4)) = (v16)) := fun h1 => by first | exact nuC_w (w := ((x7_4 + a2))) (by omega) (.inr (.inr (.inr ⟨by omega, by (rw [hv0] at h1 hlr0 ⊢; exact sbI_1 (by omega))⟩))) | exact nuC_w (w := ((x7_4 + a2))) (by omega) (by have hv : ((w56)) (((x7_4 + a2)) - 1) = (v16) := (by assumption); rcases (show ((x7_4 + a2)) = 1 ∨ ((x7_4 + a2)) = 2 ∨ ((x7_4 + a2)) = 3 by omega) with q | q | q; (exact .inl ⟨q, by rw [← hv, q]; rfl⟩); (exact .inr (.inl ⟨q, by rw [← hv, q]; rfl⟩)); (exact .inr (.inr (.inl ⟨q, by rw [← hv, q]; rfl⟩))))
        refine Ew_of (pcₚ := 45) (fun _ => x_iload_n rfl (rk_o (l7_1) rfl rfl)) ?_
        refine w_icmpne (t := 53) rfl rfl (show inr (v16) from q_18 qv16) (show inr (a1) from h0) (fun b17 => ?_) (fun b17 => ?_)
        · refine Ew_of (pcₚ := 54) (fun _ => x_iload_n rfl (rk_o (l7_3) rfl rfl)) ?_
          refine Ew_of (pcₚ := 55) (fun _ => x_istore_n rfl) ?_
          refine Ew_of (pcₚ := 58) (fun _ => x_iinc (len := 3) rfl (rk_o (rk_o (l7_4) rfl rfl) rfl rfl)) ?_
          refine Ew_of (pcₚ := 7) (fun _ => x_goto rfl rfl) ?_
          have : IMP (1 ≤ ((w56)) 0) ((x7_3) = nuG (((w56)) 0) (((w56)) 1) (((w56)) 2) ((a1)) (1 - (a2)) (((x7_4 + (-1))) + 1)) := by rw [show (((x7_4 + (-1))) + 1 : Int) = ql4 by omega, hql4]; first | exact fun h1 => (nuG_y (by omega) (by rw [hcc h1]; omega)).symm | exact fun h1 => (j7_q h1).trans (nuG_n (by omega) (by rw [hcc h1]; omega) (by omega)).symm
          exact ih7 _ (msE hm7 q_556 (q_557 b1)) _ σ _ _ (x7_3) ((x7_4 + (-1))) (rk_o (rk_o (rk_o (l7_0) rfl rfl) rfl rfl) rfl rfl) (rk_o (rk_o (rk_o (l7_1) rfl rfl) rfl rfl) rfl rfl) (rk_o (rk_o (rk_o (l7_2) rfl rfl) rfl rfl) rfl rfl) (rk_o (rk_s) rfl rfl) (rk_s) H (hS_7) (hA_7)   (show inr (x7_3) from j7_0) (show inr ((x7_4 + (-1))) from q_2072 b1 j7_5) (show ((x7_4 + (-1))) ≤ (3) from q_2071 j7_5) (show (3) ≤ ((x7_4 + (-1))) ∨ (0) ≤ ((x7_4 + (-1))) from q_2070 b1) (show 1 ≤ (x7_3) ∧ (x7_3) ≤ (a1) + 3 from j7_4) (show 0 ≤ ((x7_4 + (-1))) ∧ ((x7_4 + (-1))) ≤ 3 from q_2069 b1 j7_5) (show IMP (1 ≤ ((w56)) 0) ((x7_3) = nuG (((w56)) 0) (((w56)) 1) (((w56)) 2) ((a1)) (1 - (a2)) (((x7_4 + (-1))) + 1)) by assumption) rfl
        · refine Ew_of (pcₚ := 50) (fun _ => x_iload rfl (rk_o (l7_4) rfl rfl)) ?_
          refine Ew_of (pcₚ := 54) (fun _ => x_goto rfl rfl) ?_
          refine Ew_of (pcₚ := 55) (fun _ => x_istore_n rfl) ?_
          refine Ew_of (pcₚ := 58) (fun _ => x_iinc (len := 3) rfl (rk_o (rk_o (l7_4) rfl rfl) rfl rfl)) ?_
          refine Ew_of (pcₚ := 7) (fun _ => x_goto rfl rfl) ?_
          have : IMP (1 ≤ ((w56)) 0) ((x7_4) = nuG (((w56)) 0) (((w56)) 1) (((w56)) 2) ((a1)) (1 - (a2)) (((x7_4 + (-1))) + 1)) := by rw [show (((x7_4 + (-1))) + 1 : Int) = ql4 by omega, hql4]; first | exact fun h1 => (nuG_y (by omega) (by rw [hcc h1]; omega)).symm | exact fun h1 => (j7_q h1).trans (nuG_n (by omega) (by rw [hcc h1]; omega) (by omega)).symm
          exact ih7 _ (msE hm7 q_556 (q_557 b1)) _ σ _ _ (x7_4) ((x7_4 + (-1))) (rk_o (rk_o (rk_o (l7_0) rfl rfl) rfl rfl) rfl rfl) (rk_o (rk_o (rk_o (l7_1) rfl rfl) rfl rfl) rfl rfl) (rk_o (rk_o (rk_o (l7_2) rfl rfl) rfl rfl) rfl rfl) (rk_o (rk_s) rfl rfl) (rk_s) H (hS_7) (hA_7)   (show inr (x7_4) from j7_1) (show inr ((x7_4 + (-1))) from q_2072 b1 j7_5) (show ((x7_4 + (-1))) ≤ (3) from q_2071 j7_5) (show (3) ≤ ((x7_4 + (-1))) ∨ (0) ≤ ((x7_4 + (-1))) from q_2070 b1) (show 1 ≤ (x7_4) ∧ (x7_4) ≤ (a1) + 3 from q_2073 b1 h2 j7_5) (show 0 ≤ ((x7_4 + (-1))) ∧ ((x7_4 + (-1))) ≤ 3 from q_2069 b1 j7_5) (show IMP (1 ≤ ((w56)) 0) ((x7_4) = nuG (((w56)) 0) (((w56)) 1) (((w56)) 2) ((a1)) (1 - (a2)) (((x7_4 + (-1))) + 1)) by assumption) rfl
      · refine Ew_of (pcₚ := 25) (fun _ => x_aload_n rfl (rk_o (l7_0) rfl rfl)) ?_
        refine w_gT H (o := 6) (t := 56) rfl (H.perm 6 rfl) rfl rfl rfl rfl rfl rfl ?_
        refine Ew_of (pcₚ := 29) (fun _ => x_iconst rfl) ?_
        refine w_lI H (o := 56) (n := 3) rfl (H.perm 56 rfl) rfl rfl (H.fix 56 rfl rfl) (show 0 ≤ 0 ∧ 0 < ((3 : Nat) : Int) from q_1579) (by decide) (fun v18 ev18 qv18 => ?_)
        have qv18 : (-2147483648 : Int) ≤ v18 ∧ v18 ≤ 2147483647 := qv18
        have ev18 : (w56) (0) = v18 := (congrFun ((funext (hA_7 56 rfl)).trans (ew56)) (0)).symm.trans ev18
        have hv0 := ev18
        refine Ew_of (pcₚ := 31) (fun _ => x_iconst rfl) ?_
        refine w_isubE rfl ?_
        have g19 : inr (sbI (v18) (1)) := toI_inr _
        refine Ew_of (pcₚ := 44) (fun _ => x_goto rfl rfl) ?_
        have hcc : IMP (1 ≤ ((w56)) 0) (nuC (((w56)) 0) (((w56)) 1) (((w56)) 2) (1 - (a2)) ((x7_4)) = ((sbI (v18) (1)))) := fun h1 => by first | exact nuC_w (w := ((x7_4 + a2))) (by omega) (.inr (.inr (.inr ⟨by omega, by (rw [hv0] at h1 hlr0 ⊢; exact sbI_1 (by omega))⟩))) | exact nuC_w (w := ((x7_4 + a2))) (by omega) (by have hv : ((w56)) (((x7_4 + a2)) - 1) = ((sbI (v18) (1))) := (by assumption); rcases (show ((x7_4 + a2)) = 1 ∨ ((x7_4 + a2)) = 2 ∨ ((x7_4 + a2)) = 3 by omega) with q | q | q; (exact .inl ⟨q, by rw [← hv, q]; rfl⟩); (exact .inr (.inl ⟨q, by rw [← hv, q]; rfl⟩)); (exact .inr (.inr (.inl ⟨q, by rw [← hv, q]; rfl⟩))))
        refine Ew_of (pcₚ := 45) (fun _ => x_iload_n rfl (rk_o (l7_1) rfl rfl)) ?_
        refine w_icmpne (t := 53) rfl rfl (show inr ((sbI (v18) (1))) from g19) (show inr (a1) from h0) (fun b20 => ?_) (fun b20 => ?_)
        · refine Ew_of (pcₚ := 54) (fun _ => x_iload_n rfl (rk_o (l7_3) rfl rfl)) ?_
          refine Ew_of (pcₚ := 55) (fun _ => x_istore_n rfl) ?_
          refine Ew_of (pcₚ := 58) (fun _ => x_iinc (len := 3) rfl (rk_o (rk_o (l7_4) rfl rfl) rfl rfl)) ?_
          refine Ew_of (pcₚ := 7) (fun _ => x_goto rfl rfl) ?_
          have : IMP (1 ≤ ((w56)) 0) ((x7_3) = nuG (((w56)) 0) (((w56)) 1) (((w56)) 2) ((a1)) (1 - (a2)) (((x7_4 + (-1))) + 1)) := by rw [show (((x7_4 + (-1))) + 1 : Int) = ql4 by omega, hql4]; first | exact fun h1 => (nuG_y (by omega) (by rw [hcc h1]; omega)).symm | exact fun h1 => (j7_q h1).trans (nuG_n (by omega) (by rw [hcc h1]; omega) (by omega)).symm
          exact ih7 _ (msE hm7 q_556 (q_557 b1)) _ σ _ _ (x7_3) ((x7_4 + (-1))) (rk_o (rk_o (rk_o (l7_0) rfl rfl) rfl rfl) rfl rfl) (rk_o (rk_o (rk_o (l7_1) rfl rfl) rfl rfl) rfl rfl) (rk_o (rk_o (rk_o (l7_2) rfl rfl) rfl rfl) rfl rfl) (rk_o (rk_s) rfl rfl) (rk_s) H (hS_7) (hA_7)   (show inr (x7_3) from j7_0) (show inr ((x7_4 + (-1))) from q_2072 b1 j7_5) (show ((x7_4 + (-1))) ≤ (3) from q_2071 j7_5) (show (3) ≤ ((x7_4 + (-1))) ∨ (0) ≤ ((x7_4 + (-1))) from q_2070 b1) (show 1 ≤ (x7_3) ∧ (x7_3) ≤ (a1) + 3 from j7_4) (show 0 ≤ ((x7_4 + (-1))) ∧ ((x7_4 + (-1))) ≤ 3 from q_2069 b1 j7_5) (show IMP (1 ≤ ((w56)) 0) ((x7_3) = nuG (((w56)) 0) (((w56)) 1) (((w56)) 2) ((a1)) (1 - (a2)) (((x7_4 + (-1))) + 1)) by assumption) rfl
        · refine Ew_of (pcₚ := 50) (fun _ => x_iload rfl (rk_o (l7_4) rfl rfl)) ?_
          refine Ew_of (pcₚ := 54) (fun _ => x_goto rfl rfl) ?_
          refine Ew_of (pcₚ := 55) (fun _ => x_istore_n rfl) ?_
          refine Ew_of (pcₚ := 58) (fun _ => x_iinc (len := 3) rfl (rk_o (rk_o (l7_4) rfl rfl) rfl rfl)) ?_
          refine Ew_of (pcₚ := 7) (fun _ => x_goto rfl rfl) ?_
          have : IMP (1 ≤ ((w56)) 0) ((x7_4) = nuG (((w56)) 0) (((w56)) 1) (((w56)) 2) ((a1)) (1 - (a2)) (((x7_4 + (-1))) + 1)) := by rw [show (((x7_4 + (-1))) + 1 : Int) = ql4 by omega, hql4]; first | exact fun h1 => (nuG_y (by omega) (by rw [hcc h1]; omega)).symm | exact fun h1 => (j7_q h1).trans (nuG_n (by omega) (by rw [hcc h1]; omega) (by omega)).symm
          exact ih7 _ (msE hm7 q_556 (q_557 b1)) _ σ _ _ (x7_4) ((x7_4 + (-1))) (rk_o (rk_o (rk_o (l7_0) rfl rfl) rfl rfl) rfl rfl) (rk_o (rk_o (rk_o (l7_1) rfl rfl) rfl rfl) rfl rfl) (rk_o (rk_o (rk_o (l7_2) rfl rfl) rfl rfl) rfl rfl) (rk_o (rk_s) rfl rfl) (rk_s) H (hS_7) (hA_7)   (show inr (x7_4) from j7_1) (show inr ((x7_4 + (-1))) from q_2072 b1 j7_5) (show ((x7_4 + (-1))) ≤ (3) from q_2071 j7_5) (show (3) ≤ ((x7_4 + (-1))) ∨ (0) ≤ ((x7_4 + (-1))) from q_2070 b1) (show 1 ≤ (x7_4) ∧ (x7_4) ≤ (a1) + 3 from q_2073 b1 h2 j7_5) (show 0 ≤ ((x7_4 + (-1))) ∧ ((x7_4 + (-1))) ≤ 3 from q_2069 b1 j7_5) (show IMP (1 ≤ ((w56)) 0) ((x7_4) = nuG (((w56)) 0) (((w56)) 1) (((w56)) 2) ((a1)) (1 - (a2)) (((x7_4 + (-1))) + 1)) by assumption) rfl

theorem M406 {σ0 σ : rS} {D N : Nat → Nat} {F : hF} {A : hA} {d c s : Nat} {Q : wQ} (H : HS σ0 σ D N F A) {a1 : Int} (h0 : inr (a1)) (h1 : -1 ≤ (a1)) (k : ∀ (z : Int) σ Fₚ Aₚ, HS σ0 σ D N Fₚ Aₚ → SF [] F Fₚ → SA [] A Aₚ → (inr (z)) → ((z) = mass ((a1))) → Q (some (I z)) σ c s) : Ew 406 (d + 0) 0 (rargs 0 [I a1]) [] σ c s Q := by
  have := mass_eq ((a1))
  refine Ew_of (pcₚ := 1) (fun _ => x_iload_n rfl rfl) ?_
  refine w_ifge (t := 8) rfl rfl (show inr (a1) from h0) (fun b1 => ?_) (fun b1 => ?_)
  · refine Ew_of (pcₚ := 9) (fun _ => x_iload_n rfl rfl) ?_
    exact w_ireturn rfl (k (a1) σ _ _ H (SF_refl) (SA_refl) (show inr (a1) from h0) (show (a1) = mass (a1) by omega))
  · refine Ew_of (pcₚ := 5) (fun _ => x_iconst rfl) ?_
    refine Ew_of (pcₚ := 9) (fun _ => x_goto rfl rfl) ?_
    exact w_ireturn rfl (k (1) σ _ _ H (SF_refl) (SA_refl) (show inr (1) from q_135) (show (1) = mass (a1) by omega))

