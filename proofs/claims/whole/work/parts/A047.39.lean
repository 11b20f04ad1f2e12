section
/-! 39.ref -/
theorem M292 {σ0 σ : rS} {D N : Nat → Nat} {F : hF} {A : hA} {d c s : Nat} {Q : wQ} (H : HS σ0 σ D N F A) {a1 a2 a3 : Int} (u5_10 : Int) (eu5_10 : F 5 10 = u5_10) (u5_25 : Int) (eu5_25 : F 5 25 = u5_25) (u5_39 : Int) (eu5_39 : F 5 39 = u5_39) (w14 : Int → Int) (ew14 : A 14 = w14) (w31 : Int → Int) (ew31 : A 31 = w31) (w32 : Int → Int) (ew32 : A 32 = w32) (GG : Int → Int) (h0 : inr (a1)) (h1 : inr (a2)) (h2 : inr (a3)) (h3 : 0 ≤ (u5_25) ∧ (u5_25) ≤ (a1) ∧ (a1) ≤ 65536) (h4 : 0 ≤ (a3) ∧ 3 * (a3) ≤ (a2) ∧ (a2) ≤ 131072) (h5 : (u5_39) = 0) (h6 : (a3) = ((a2) + 3) / 4) (h7 : 0 ≤ (u5_10)) (h8 : ∀ i, 0 ≤ i → i < 256 → ((w31)) i = GG i) (h9 : fl ((w32)) (p2 ((u5_10))) = CELS GG ((u5_10))) (k : ∀ (z : Int) σ Fₚ Aₚ, HS σ0 σ D N Fₚ Aₚ → SF [(5, 30), (5, 31), (5, 39), (5, 44), (5, 45)] F Fₚ → SA [46] A Aₚ → ∀ y5_30 : Int, Fₚ 5 30 = y5_30 → ∀ y5_31 : Int, Fₚ 5 31 = y5_31 → ∀ y5_39 : Int, Fₚ 5 39 = y5_39 → ∀ v46 : Int → Int, Aₚ 46 = v46 → ((z) = 0 ∨ (z) = 1) → (0 ≤ (y5_39) ∧ (y5_39) ≤ (a2)) → (STA (STF ((w14)) GG ((u5_10)) ((a2)) 1 ((u5_25)) ((a1))) ((z)) ((y5_30)) ((y5_31)) (sc ((v46)) 0 ((y5_39)))) → Q (some (I z)) σ c s) : Ew 292 (d + 3) 0 (rargs 0 [.ref (D 5), I a1, I a2, I a3]) [] σ c s Q := by
  have r1 : (0 : Int) ≤ u5_10 ∧ u5_10 ≤ 11 := rngE (show (0 : Int) ≤ F 5 10 ∧ F 5 10 ≤ 11 from H.frng 5 10) (show F 5 10 = u5_10 from (eu5_10))
  have r2 : (0 : Int) ≤ u5_25 ∧ u5_25 ≤ 65536 := rngE (show (0 : Int) ≤ F 5 25 ∧ F 5 25 ≤ 65536 from H.frng 5 25) (show F 5 25 = u5_25 from (eu5_25))
  have r3 : (0 : Int) ≤ u5_39 ∧ u5_39 ≤ 131072 := rngE (show (0 : Int) ≤ F 5 39 ∧ F 5 39 ≤ 131072 from H.frng 5 39) (show F 5 39 = u5_39 from (eu5_39))
  refine Ew_of (pcₚ := 1) (fun _ => x_aload_n rfl rfl) ?_
  refine w_gI H (o := 5) (w := u5_25) rfl (H.perm 5 rfl) rfl rfl rfl (fun _ => rfl) (eu5_25) ?_
  refine Ew_of (pcₚ := 6) (fun _ => x_istore rfl) ?_
  refine Ew_of (pcₚ := 7) (fun _ => x_iload_n rfl (rk_o (rfl) rfl rfl)) ?_
  refine Ew_of (pcₚ := 8) (fun _ => x_aload_n rfl (rk_o (rfl) rfl rfl)) ?_
  refine w_gI H (o := 5) (w := u5_25) rfl (H.perm 5 rfl) rfl rfl rfl (fun _ => rfl) (eu5_25) ?_
  refine w_isub rfl ?_
  refine Ew_of (pcₚ := 14) (fun _ => x_bipush (z := 6) rfl (by decide)) ?_
  refine w_icmpge (t := 26) rfl rfl (show inr ((a1 - u5_25)) from q_1592 h3 r2) (show inr (6) from q_756) (fun b4 => ?_) (fun b4 => ?_)
  · refine Ew_of (pcₚ := 27) (fun _ => x_aload_n rfl (rk_o (rfl) rfl rfl)) ?_
    refine w_gI H (o := 5) (w := u5_25) rfl (H.perm 5 rfl) rfl rfl rfl (fun _ => rfl) (eu5_25) ?_
    refine Ew_of (pcₚ := 32) (fun _ => x_bipush (z := 6) rfl (by decide)) ?_
    refine w_iadd rfl ?_
    refine Ew_of (pcₚ := 35) (fun _ => x_istore rfl) ?_
    refine Ew_of (pcₚ := 36) (fun _ => x_aload_n rfl (rk_o (rk_o (rfl) rfl rfl) rfl rfl)) ?_
    refine Ew_of (pcₚ := 37) (fun _ => x_aload_n rfl (rk_o (rk_o (rfl) rfl rfl) rfl rfl)) ?_
    refine w_gI H (o := 5) (w := u5_25) rfl (H.perm 5 rfl) rfl rfl rfl (fun _ => rfl) (eu5_25) ?_
    refine Ew_of (pcₚ := 41) (fun _ => x_iconst rfl) ?_
    refine w_inv H (o := 5) rfl rfl rfl (H.perm 5 rfl) rfl rfl (by rfl) (M257 H (w14) (ew14) (show inr (u5_25) from q_286 r2) (show inr (2) from q_122) (show 0 ≤ (u5_25) ∧ 0 ≤ (2) ∧ (2) ≤ 8 ∧ (u5_25) + (2) ≤ 65536 from q_1593 b4 h3 r2) (fun z9 σ F5 A6 H hS7 hA8 pz9_0 pz9_1 pz9_2 pz9_3 pz9_4 pz9_5 pz9_6 pz9_7 pz9_8 pz9_9 => ⟨rfl, ?_⟩))
    replace pz9_1 := pz9_1.resolve_left (by decide)
    replace pz9_2 := pz9_2.resolve_right (by decide)
    replace pz9_3 := pz9_3 (by decide)
    replace pz9_4 := pz9_4 (by decide)
    replace pz9_5 := pz9_5 (by decide)
    (try clear pz9_6)
    (try clear pz9_7)
    replace pz9_8 := pz9_8 (by decide)
    have hN0 : z9 = nvl ((w14)) ((u5_25)) 2 := nmb_nn pz9_9 (by omega) pz9_0
    refine Ew_of (pcₚ := 45) (fun _ => x_aload_n rfl (rk_o (rk_o (rfl) rfl rfl) rfl rfl)) ?_
    refine Ew_of (pcₚ := 46) (fun _ => x_aload_n rfl (rk_o (rk_o (rfl) rfl rfl) rfl rfl)) ?_
    refine w_gI H (o := 5) (w := u5_25) rfl (H.perm 5 rfl) rfl rfl rfl (fun _ => rfl) ((hS7 5 25 rfl).trans (eu5_25)) ?_
    refine Ew_of (pcₚ := 50) (fun _ => x_iconst rfl) ?_
    refine w_iadd rfl ?_
    refine Ew_of (pcₚ := 52) (fun _ => x_iconst rfl) ?_
    refine w_inv H (o := 5) rfl rfl rfl (H.perm 5 rfl) rfl rfl (by rfl) (M257 H (w14) ((funext (hA8 14 rfl)).trans (ew14)) (show inr ((u5_25 + 2)) from q_1595 r2) (show inr (2) from q_122) (show 0 ≤ ((u5_25 + 2)) ∧ 0 ≤ (2) ∧ (2) ≤ 8 ∧ ((u5_25 + 2)) + (2) ≤ 65536 from q_1594 b4 h3 r2) (fun z14 σ F10 A11 H hS12 hA13 pz14_0 pz14_1 pz14_2 pz14_3 pz14_4 pz14_5 pz14_6 pz14_7 pz14_8 pz14_9 => ⟨rfl, ?_⟩))
    replace pz14_1 := pz14_1.resolve_left (by decide)
    replace pz14_2 := pz14_2.resolve_right (by decide)
    replace pz14_3 := pz14_3 (by decide)
    replace pz14_4 := pz14_4 (by decide)
    replace pz14_5 := pz14_5 (by decide)
    (try clear pz14_6)
    (try clear pz14_7)
    replace pz14_8 := pz14_8 (by decide)
    have hN1 : z14 = nvl ((w14)) ((u5_25) + 2) 2 := nmb_nn pz14_9 (by omega) pz14_0
    refine w_ladd rfl ?_
    refine Ew_of (pcₚ := 57) (fun _ => x_aload_n rfl (rk_o (rk_o (rfl) rfl rfl) rfl rfl)) ?_
    refine Ew_of (pcₚ := 58) (fun _ => x_aload_n rfl (rk_o (rk_o (rfl) rfl rfl) rfl rfl)) ?_
    refine w_gI H (o := 5) (w := u5_25) rfl (H.perm 5 rfl) rfl rfl rfl (fun _ => rfl) (((hS12 5 25 rfl).trans (hS7 5 25 rfl)).trans (eu5_25)) ?_
    refine Ew_of (pcₚ := 62) (fun _ => x_iconst rfl) ?_
    refine w_iadd rfl ?_
    refine Ew_of (pcₚ := 64) (fun _ => x_iconst rfl) ?_
    refine w_inv H (o := 5) rfl rfl rfl (H.perm 5 rfl) rfl rfl (by rfl) (M257 H (w14) ((funext (hA13 14 rfl)).trans ((funext (hA8 14 rfl)).trans (ew14))) (show inr ((u5_25 + 4)) from q_1597 r2) (show inr (2) from q_122) (show 0 ≤ ((u5_25 + 4)) ∧ 0 ≤ (2) ∧ (2) ≤ 8 ∧ ((u5_25 + 4)) + (2) ≤ 65536 from q_1596 b4 h3 r2) (fun z19 σ F15 A16 H hS17 hA18 pz19_0 pz19_1 pz19_2 pz19_3 pz19_4 pz19_5 pz19_6 pz19_7 pz19_8 pz19_9 => ⟨rfl, ?_⟩))
    replace pz19_1 := pz19_1.resolve_left (by decide)
    replace pz19_2 := pz19_2.resolve_right (by decide)
    replace pz19_3 := pz19_3 (by decide)
    replace pz19_4 := pz19_4 (by decide)
    replace pz19_5 := pz19_5 (by decide)
    (try clear pz19_6)
    (try clear pz19_7)
    replace pz19_8 := pz19_8 (by decide)
    have hN2 : z19 = nvl ((w14)) ((u5_25) + 4) 2 := nmb_nn pz19_9 (by omega) pz19_0
    refine w_ladd rfl ?_
    refine Ew_of (pcₚ := 70) (fun _ => x_lstore rfl) ?_
    refine Ew_of (pcₚ := 72) (fun _ => x_lload rfl rk2_s) ?_
    refine Ew_of (pcₚ := 73) (fun _ => x_iload_n rfl (rk2_o (rk_o (rk_o (rfl) rfl rfl) rfl rfl) rfl rfl)) ?_
    refine Ew_of (pcₚ := 75) (fun _ => x_iload rfl (rk2_o (rk_s) rfl rfl)) ?_
    refine w_isub rfl ?_
    refine w_i2l rfl (show inr ((a1 - (u5_25 + 6))) from q_1598 b4 h3 r2) ?_
    refine w_lcmp rfl (show inrJ (((z9 + z14) + z19)) by omega) (show inrJ ((a1 - (u5_25 + 6))) from q_1599 b4 h3 r2) (fun z20 gz20 gaz20 gbz20 => ?_)
    refine w_ifle (t := 90) rfl rfl (show inr (z20) from gz20) (fun b21 => ?_) (fun b21 => ?_)
    · refine Ew_of (pcₚ := 91) (fun _ => x_iconst rfl) ?_
      refine Ew_of (pcₚ := 93) (fun _ => x_istore rfl) ?_
      have hpf0 : PF ((w14)) ((u5_25)) (0 : Int).toNat = 0 := rfl
      have hpf3 := PF_3 (g := (w14)) (a := (u5_25))
      have hB : ∀ i, (0 : Int) ≤ (w14) i ∧ (w14) i ≤ 255 := fun i => by have h1 : (0 : Int) ≤ A16 14 i ∧ A16 14 i ≤ 255 := H.arng 14 i; rw [show A16 14 = w14 from (funext (hA18 14 rfl)).trans ((funext (hA13 14 rfl)).trans ((funext (hA8 14 rfl)).trans (ew14)))] at h1; exact h1
      (try clear pz9_0)
      have hle3 : (u5_25) + 6 + PF ((w14)) ((u5_25)) (3 : Int).toNat ≤ (a1) := by omega
      (try clear hpf3)
      have : SIR (STF ((w14)) GG ((u5_10)) ((a2)) 1 ((u5_25)) ((a1))) ((w14)) GG ((u5_10)) ((a2)) 4 (((a2) + 3) / 4) ((u5_25)) ((a1)) (0) (((u5_25 + 6))) (sc ((A 46)) 0 ((u5_39))) := ⟨by decide, by decide, by rw [sc_nil (f := (A 46)) (by omega)]; exact ST_4 (by decide) (by omega)⟩
      suffices hl93 : ∀ (m : Nat), ∀ (ls : rO) (σ : rS) (F_93 : hF) (A_93 : hA) (x93_5 : Int) (x93_8 : Int), rlook ls 0 = some (.ref (D 5)) → rlook ls 1 = some (I (a1)) → rlook ls 2 = some (I (a2)) → rlook ls 3 = some (I (a3)) → rlook ls 4 = some (I (u5_25)) → rlook ls 5 = some (I (x93_5)) → rlook ls 8 = some (I (x93_8)) → HS σ0 σ D N F_93 A_93 → SF [(5, 39), (5, 44), (5, 45)] F15 F_93 → SA [46] A16 A_93 → ∀ y93_5_39 : Int, F_93 5 39 = y93_5_39 → ∀ w93_46 : Int → Int, A_93 46 = w93_46 → (inr (x93_5)) → (inr (x93_8)) → (0 ≤ (x93_8) ∧ (x93_8) ≤ 4) → (0 ≤ (y93_5_39) ∧ (y93_5_39) ≤ (a2)) → ((y93_5_39) ≤ (x93_8) * (a3) ∨ (x93_8) = 4) → ((x93_5) = (u5_25) + 6 + PF ((w14)) ((u5_25)) ((x93_8) : Int).toNat ∨ (x93_8) = 4) → (SIR (STF ((w14)) GG ((u5_10)) ((a2)) 1 ((u5_25)) ((a1))) ((w14)) GG ((u5_10)) ((a2)) 4 (((a2) + 3) / 4) ((u5_25)) ((a1)) ((x93_8)) ((x93_5)) (sc ((w93_46)) 0 ((y93_5_39)))) → (4 - (x93_8)).toNat = m → Ew 292 (d + 3) 93 ls [] σ c s Q from
        hl93 _ _ σ _ _ ((u5_25 + 6)) (0) (rk_o (rk2_o (rk_o (rk_o (rfl) rfl rfl) rfl rfl) rfl rfl) rfl rfl) (rk_o (rk2_o (rk_o (rk_o (rfl) rfl rfl) rfl rfl) rfl rfl) rfl rfl) (rk_o (rk2_o (rk_o (rk_o (rfl) rfl rfl) rfl rfl) rfl rfl) rfl rfl) (rk_o (rk2_o (rk_o (rk_o (rfl) rfl rfl) rfl rfl) rfl rfl) rfl rfl) (rk_o (rk2_o (rk_o (rk_s) rfl rfl) rfl rfl) rfl rfl) (rk_o (rk2_o (rk_s) rfl rfl) rfl rfl) (rk_s) H (SF_refl) (SA_refl) (u5_39) (((((hS17 5 39 rfl).trans (hS12 5 39 rfl)).trans (hS7 5 39 rfl)).trans (eu5_39))) (A 46) ((funext (hA18 46 rfl)).trans ((funext (hA13 46 rfl)).trans (funext (hA8 46 rfl)))) (show inr ((u5_25 + 6)) from q_1602 r2) (show inr (0) from q_2) (show 0 ≤ (0) ∧ (0) ≤ 4 from q_990) (show 0 ≤ (u5_39) ∧ (u5_39) ≤ (a2) from q_1601 h4 h5 r3) (show (u5_39) ≤ (0) * (a3) ∨ (0) = 4 from q_1600 h5) (show ((u5_25 + 6)) = (u5_25) + 6 + PF ((w14)) ((u5_25)) ((0) : Int).toNat ∨ (0) = 4 by omega) (show SIR (STF ((w14)) GG ((u5_10)) ((a2)) 1 ((u5_25)) ((a1))) ((w14)) GG ((u5_10)) ((a2)) 4 (((a2) + 3) / 4) ((u5_25)) ((a1)) ((0)) (((u5_25 + 6))) (sc ((A 46)) 0 ((u5_39))) by assumption) rfl
      as_aux_lemma =>
      intro m
      induction m using Nat.strongRecOn with
      | _ m ih93 =>
        intro ls σ F_93 A_93 x93_5 x93_8 l93_0 l93_1 l93_2 l93_3 l93_4 l93_5 l93_8 H hS_93 hA_93 y93_5_39 ey93_5_39 w93_46 ew93_46 j93_0 j93_1 j93_2 j93_3 j93_4 j93_5 j93_6 hm93
        have r22 : (0 : Int) ≤ y93_5_39 ∧ y93_5_39 ≤ 131072 := rngE (show (0 : Int) ≤ F_93 5 39 ∧ F_93 5 39 ≤ 131072 from H.frng 5 39) (show F_93 5 39 = y93_5_39 from (ey93_5_39))
        have j93_s : SIR (STF ((w14)) GG ((u5_10)) ((a2)) 1 ((u5_25)) ((a1))) ((w14)) GG ((u5_10)) ((a2)) 4 (((a2) + 3) / 4) ((u5_25)) ((a1)) ((x93_8)) ((x93_5)) (sc ((w93_46)) 0 ((y93_5_39))) := j93_6
        refine Ew_of (pcₚ := 95) (fun _ => x_iload rfl l93_8) ?_
        refine Ew_of (pcₚ := 96) (fun _ => x_iconst rfl) ?_
        refine w_icmpge (t := 172) rfl rfl (show inr (x93_8) from j93_1) (show inr (4) from q_216) (fun b23 => ?_) (fun b23 => ?_)
        · refine Ew_of (pcₚ := 173) (fun _ => x_iconst rfl) ?_
          have r24 : (0 : Int) ≤ F 5 30 ∧ F 5 30 ≤ 20 := rngE (show (0 : Int) ≤ F_93 5 30 ∧ F_93 5 30 ≤ 20 from H.frng 5 30) (show F_93 5 30 = F 5 30 from ((((hS_93 5 30 rfl).trans (hS17 5 30 rfl)).trans (hS12 5 30 rfl)).trans (hS7 5 30 rfl)))
          have r25 : (0 : Int) ≤ F 5 31 ∧ F 5 31 ≤ 65536 := rngE (show (0 : Int) ≤ F_93 5 31 ∧ F_93 5 31 ≤ 65536 from H.frng 5 31) (show F_93 5 31 = F 5 31 from ((((hS_93 5 31 rfl).trans (hS17 5 31 rfl)).trans (hS12 5 31 rfl)).trans (hS7 5 31 rfl)))
          have : STA (STF ((w14)) GG ((u5_10)) ((a2)) 1 ((u5_25)) ((a1))) ((1)) ((F 5 30)) ((F 5 31)) (sc ((w93_46)) 0 ((y93_5_39))) := STA_y (SIR_e j93_s (by omega)) (by omega)
          exact w_ireturn rfl (k (1) σ _ _ H (SF_trans (SF_trans (SF_trans (SF_trans (SF_refl) hS7 (any_sub rfl)) hS12 (any_sub rfl)) hS17 (any_sub rfl)) hS_93 (any_sub rfl)) (SA_trans (SA_trans (SA_trans (SA_trans (SA_refl) hA8 (any_subA rfl)) hA13 (any_subA rfl)) hA18 (any_subA rfl)) hA_93 (any_subA rfl)) (F 5 30) (((((hS_93 5 30 rfl).trans (hS17 5 30 rfl)).trans (hS12 5 30 rfl)).trans (hS7 5 30 rfl))) (F 5 31) (((((hS_93 5 31 rfl).trans (hS17 5 31 rfl)).trans (hS12 5 31 rfl)).trans (hS7 5 31 rfl))) (y93_5_39) ((ey93_5_39)) (w93_46) (ew93_46) (show (1) = 0 ∨ (1) = 1 by first | exact q_49 | omega) (show 0 ≤ (y93_5_39) ∧ (y93_5_39) ≤ a2 from j93_3) (show STA (STF ((w14)) GG ((u5_10)) (a2) 1 ((u5_25)) (a1)) ((1)) ((F 5 30)) ((F 5 31)) (sc ((w93_46)) 0 ((y93_5_39))) by assumption))
        · have hc125 : ∀ (tc125_0 : Int), ∀ (ls : rO) (σ : rS) (F_c125 : hF) (A_c125 : hA) , rlook ls 0 = some (.ref (D 5)) → rlook ls 1 = some (I (a1)) → rlook ls 2 = some (I (a2)) → rlook ls 3 = some (I (a3)) → rlook ls 4 = some (I (u5_25)) → rlook ls 5 = some (I (x93_5)) → rlook ls 8 = some (I (x93_8)) → HS σ0 σ D N F_c125 A_c125 → SF [] F_93 F_c125 → SA [] A_93 A_c125 → (inr (tc125_0)) → ((tc125_0) = (a1) ∧ (x93_8) = 3 ∨ (x93_8) < 3 ∧ (tc125_0) = (u5_25) + 6 + PF ((w14)) ((u5_25)) ((x93_8) + 1 : Int).toNat) → ((x93_8) = 3 ∧ (tc125_0) = (a1) ∨ (x93_8) ≠ 3 ∧ (tc125_0) = (x93_5) + nvl ((w14)) ((u5_25) + 2 * (x93_8)) 2) → Ew 292 (d + 3) 125 ls [I (tc125_0)] σ c s Q := by
           as_aux_lemma =>
            intro tc125_0 ls σ F_c125 A_c125  lc125_0 lc125_1 lc125_2 lc125_3 lc125_4 lc125_5 lc125_8 H hS_c125 hA_c125   jc125_0 jc125_1 jc125_2
            have k125 : (x93_8) = 3 ∧ (tc125_0) = (a1) ∨ (x93_8) ≠ 3 ∧ (tc125_0) = (x93_5) + nvl ((w14)) ((u5_25) + 2 * (x93_8)) 2 := jc125_2
            have hpl := PF_le3 (g := (w14)) (a := (u5_25)) (k := (x93_8)) hB (by omega) (by omega)
            have hpn := fun q => PF_le3 (g := (w14)) (a := (u5_25)) (k := (x93_8) + 1) hB (by omega) q
            have hm3 := mul_le3 (k := (x93_8)) (c := (a3)) (by omega) (by omega) (by omega)
            have hm4 : (x93_8) < 3 → ((x93_8) + 1) * (a3) ≤ 3 * (a3) := fun q => Int.mul_le_mul_of_nonneg_right (by omega) (by omega)
            refine Ew_of (pcₚ := 127) (fun _ => x_istore rfl) ?_
            refine Ew_of (pcₚ := 128) (fun _ => x_aload_n rfl (rk_o (lc125_0) rfl rfl)) ?_
            refine Ew_of (pcₚ := 130) (fun _ => x_iload rfl (rk_o (lc125_5) rfl rfl)) ?_
            refine Ew_of (pcₚ := 132) (fun _ => x_iload rfl rk_s) ?_
            refine Ew_of (pcₚ := 134) (fun _ => x_iload rfl (rk_o (lc125_8) rfl rfl)) ?_
            refine Ew_of (pcₚ := 135) (fun _ => x_iconst rfl) ?_
            have hc147 : ∀ (tc147_0 : Int), ∀ (ls : rO) (σ : rS) (F_c147 : hF) (A_c147 : hA) , rlook ls 0 = some (.ref (D 5)) → rlook ls 1 = some (I (a1)) → rlook ls 2 = some (I (a2)) → rlook ls 3 = some (I (a3)) → rlook ls 4 = some (I (u5_25)) → rlook ls 5 = some (I (x93_5)) → rlook ls 8 = some (I (x93_8)) → rlook ls 9 = some (I (tc125_0)) → HS σ0 σ D N F_c147 A_c147 → SF [] F_c125 F_c147 → SA [] A_c125 A_c147 → (inr (tc147_0)) → (((x93_8) ≠ (3) ∧ (tc147_0) = (a3)) ∨ ((x93_8) = (3) ∧ (tc147_0) = ((a2 - (3 * a3))))) → Ew 292 (d + 3) 147 ls [I (tc147_0), I (tc125_0), I (x93_5), .ref (D 5)] σ c s Q := by
             as_aux_lemma =>
              intro tc147_0 ls σ F_c147 A_c147  lc147_0 lc147_1 lc147_2 lc147_3 lc147_4 lc147_5 lc147_8 lc147_9 H hS_c147 hA_c147   jc147_0 jc147_1
              have hst : (x93_8) = 4 - 1 ∧ (tc125_0) = (a1) ∧ (tc147_0) = (a2) - (x93_8) * (((a2) + 3) / 4) ∨ (x93_8) ≠ 4 - 1 ∧ (tc125_0) = (x93_5) + nvl ((w14)) ((u5_25) + 2 * (x93_8)) 2 ∧ (tc147_0) = ((a2) + 3) / 4 := by rcases k125 with ⟨x, y⟩ | ⟨x, y⟩; (exact .inl ⟨by omega, by omega, by rw [x]; omega⟩); (exact .inr ⟨by omega, by omega, by omega⟩)
              refine w_inv H (o := 5) rfl rfl rfl (H.perm 5 rfl) rfl rfl (by rfl) (M273 H (u5_10) ((((((((hS_c147 5 10 rfl).trans (hS_c125 5 10 rfl)).trans (hS_93 5 10 rfl)).trans (hS17 5 10 rfl)).trans (hS12 5 10 rfl)).trans (hS7 5 10 rfl)).trans (eu5_10))) (y93_5_39) ((((hS_c147 5 39 rfl).trans (hS_c125 5 39 rfl)).trans (ey93_5_39))) (w14) ((funext (hA_c147 14 rfl)).trans ((funext (hA_c125 14 rfl)).trans ((funext (hA_93 14 rfl)).trans ((funext (hA18 14 rfl)).trans ((funext (hA13 14 rfl)).trans ((funext (hA8 14 rfl)).trans (ew14))))))) (w31) ((funext (hA_c147 31 rfl)).trans ((funext (hA_c125 31 rfl)).trans ((funext (hA_93 31 rfl)).trans ((funext (hA18 31 rfl)).trans ((funext (hA13 31 rfl)).trans ((funext (hA8 31 rfl)).trans (ew31))))))) (w32) ((funext (hA_c147 32 rfl)).trans ((funext (hA_c125 32 rfl)).trans ((funext (hA_93 32 rfl)).trans ((funext (hA18 32 rfl)).trans ((funext (hA13 32 rfl)).trans ((funext (hA8 32 rfl)).trans (ew32))))))) (w93_46) ((funext (hA_c147 46 rfl)).trans ((funext (hA_c125 46 rfl)).trans (ew93_46))) (GG) (show inr (x93_5) from j93_0) (show inr (tc125_0) from jc125_0) (show inr (tc147_0) from jc147_0) (h8) (show 0 ≤ (x93_5) ∧ (x93_5) ≤ 65536 ∧ 0 ≤ (tc125_0) ∧ (tc125_0) ≤ 65536 by omega) (show 0 ≤ (tc147_0) ∧ (y93_5_39) + (tc147_0) ≤ 131072 by omega) (show 0 ≤ (y93_5_39) from q_1603 r22) (show 0 ≤ (u5_10) from h7) (h9) (fun z30 σ F26 A27 H hS28 hA29 y31 ey32 wq33 ewq34 pz30_0 pz30_1 pz30_2 pz30_3 => ⟨rretB rfl pz30_0, ?_⟩))
              have r35 : (0 : Int) ≤ y31 ∧ y31 ≤ 131072 := rngE (show (0 : Int) ≤ F26 5 39 ∧ F26 5 39 ≤ 131072 from H.frng 5 39) (show F26 5 39 = y31 from (ey32))
              have hdc := pz30_2
              refine w_ifne (t := 162) rfl rfl (show inr (z30) from q_138 pz30_0) (fun b36 => ?_) (fun b36 => ?_)
              · refine Ew_of (pcₚ := 164) (fun _ => x_iload rfl lc147_9) ?_
                refine Ew_of (pcₚ := 166) (fun _ => x_istore rfl) ?_
                refine Ew_of (pcₚ := 169) (fun _ => x_iinc (len := 3) rfl (rk_o (lc147_8) rfl rfl)) ?_
                refine Ew_of (pcₚ := 93) (fun _ => x_goto rfl rfl) ?_
                have : SIR (STF ((w14)) GG ((u5_10)) ((a2)) 1 ((u5_25)) ((a1))) ((w14)) GG ((u5_10)) ((a2)) 4 (((a2) + 3) / 4) ((u5_25)) ((a1)) (((x93_8 + 1))) ((tc125_0)) (sc ((wq33)) 0 ((y31))) := SIR_s j93_s (by omega) hst (DCA_1 hdc (by omega)) rfl
                exact ih93 _ (msE hm93 q_612 (q_613 b23)) _ σ _ _ (tc125_0) ((x93_8 + 1)) (rk_o (rk_o (lc147_0) rfl rfl) rfl rfl) (rk_o (rk_o (lc147_1) rfl rfl) rfl rfl) (rk_o (rk_o (lc147_2) rfl rfl) rfl rfl) (rk_o (rk_o (lc147_3) rfl rfl) rfl rfl) (rk_o (rk_o (lc147_4) rfl rfl) rfl rfl) (rk_o (rk_s) rfl rfl) (rk_s) H (SF_trans (SF_trans (SF_trans (hS_93) hS_c125 (any_sub rfl)) hS_c147 (any_sub rfl)) hS28 (any_sub rfl)) (SA_trans (SA_trans (SA_trans (hA_93) hA_c125 (any_subA rfl)) hA_c147 (any_subA rfl)) hA29 (any_subA rfl)) (y31) ((ey32)) (wq33) (ewq34) (show inr (tc125_0) from jc125_0) (show inr ((x93_8 + 1)) from q_1605 b23 j93_2) (show 0 ≤ ((x93_8 + 1)) ∧ ((x93_8 + 1)) ≤ 4 from q_1604 b23 j93_2) (show 0 ≤ (y31) ∧ (y31) ≤ (a2) by omega) (show (y31) ≤ ((x93_8 + 1)) * (a3) ∨ ((x93_8 + 1)) = 4 by omega) (show (tc125_0) = (u5_25) + 6 + PF ((w14)) ((u5_25)) (((x93_8 + 1)) : Int).toNat ∨ ((x93_8 + 1)) = 4 by omega) (show SIR (STF ((w14)) GG ((u5_10)) ((a2)) 1 ((u5_25)) ((a1))) ((w14)) GG ((u5_10)) ((a2)) 4 (((a2) + 3) / 4) ((u5_25)) ((a1)) (((x93_8 + 1))) ((tc125_0)) (sc ((wq33)) 0 ((y31))) by assumption) rfl
              · refine Ew_of (pcₚ := 154) (fun _ => x_aload_n rfl lc147_0) ?_
                refine Ew_of (pcₚ := 156) (fun _ => x_bipush (z := 14) rfl (by decide)) ?_
                refine Ew_of (pcₚ := 158) (fun _ => x_iload rfl lc147_5) ?_
                refine w_inv H (o := 5) rfl rfl rfl (H.perm 5 rfl) rfl rfl (by rfl) (M282 H (show inr (14) from q_1607) (show inr (x93_5) from j93_0) (show 0 ≤ (14) ∧ (14) ≤ 20 from q_1606) (show 0 ≤ (x93_5) ∧ (x93_5) ≤ 65536 by omega) (fun z41 σ F37 A38 H hS39 hA40 y42 ey43 y44 ey45 pz41_0 pz41_1 pz41_2 pz41_3 => ⟨rretB rfl pz41_0, ?_⟩))
                have r46 : (0 : Int) ≤ y42 ∧ y42 ≤ 20 := rngE (show (0 : Int) ≤ F37 5 30 ∧ F37 5 30 ≤ 20 from H.frng 5 30) (show F37 5 30 = y42 from (ey43))
                have r47 : (0 : Int) ≤ y44 ∧ y44 ≤ 65536 := rngE (show (0 : Int) ≤ F37 5 31 ∧ F37 5 31 ≤ 65536 from H.frng 5 31) (show F37 5 31 = y44 from (ey45))
                have : STA (STF ((w14)) GG ((u5_10)) ((a2)) 1 ((u5_25)) ((a1))) ((z41)) ((y42)) ((y44)) (sc ((wq33)) 0 ((y31))) := STA_f (SIR_f j93_s (by omega) hst (DCA_0 hdc (by omega))) (by omega) (by omega) (by omega)
                exact w_ireturn rfl (k (z41) σ _ _ H (SF_trans (SF_trans (SF_trans (SF_trans (SF_trans (SF_trans (SF_trans (SF_trans (SF_refl) hS7 (any_sub rfl)) hS12 (any_sub rfl)) hS17 (any_sub rfl)) hS_93 (any_sub rfl)) hS_c125 (any_sub rfl)) hS_c147 (any_sub rfl)) hS28 (any_sub rfl)) hS39 (any_sub rfl)) (SA_trans (SA_trans (SA_trans (SA_trans (SA_trans (SA_trans (SA_trans (SA_trans (SA_refl) hA8 (any_subA rfl)) hA13 (any_subA rfl)) hA18 (any_subA rfl)) hA_93 (any_subA rfl)) hA_c125 (any_subA rfl)) hA_c147 (any_subA rfl)) hA29 (any_subA rfl)) hA40 (any_subA rfl)) (y42) ((ey43)) (y44) ((ey45)) (y31) (((hS39 5 39 rfl).trans (ey32))) (wq33) ((funext (hA40 46 rfl)).trans (ewq34)) (show (z41) = 0 ∨ (z41) = 1 from pz41_0) (show 0 ≤ (y31) ∧ (y31) ≤ a2 by omega) (show STA (STF ((w14)) GG ((u5_10)) (a2) 1 ((u5_25)) (a1)) ((z41)) ((y42)) ((y44)) (sc ((wq33)) 0 ((y31))) by assumption))
            refine w_icmpne (t := 146) rfl rfl (show inr (x93_8) from j93_1) (show inr (3) from q_246) (fun b48 => ?_) (fun b48 => ?_)
            · refine Ew_of (pcₚ := 147) (fun _ => x_iload_n rfl (rk_o (lc125_3) rfl rfl)) ?_
              exact hc147 (a3) _ σ _ _  (rk_o (lc125_0) rfl rfl) (rk_o (lc125_1) rfl rfl) (rk_o (lc125_2) rfl rfl) (rk_o (lc125_3) rfl rfl) (rk_o (lc125_4) rfl rfl) (rk_o (lc125_5) rfl rfl) (rk_o (lc125_8) rfl rfl) (rk_s) H (SF_refl) (SA_refl)   (show inr (a3) from h2) (show ((x93_8) ≠ (3) ∧ (a3) = (a3)) ∨ ((x93_8) = (3) ∧ (a3) = ((a2 - (3 * a3)))) from q_1608 b48)
            · refine Ew_of (pcₚ := 139) (fun _ => x_iload_n rfl (rk_o (lc125_2) rfl rfl)) ?_
              refine Ew_of (pcₚ := 140) (fun _ => x_iconst rfl) ?_
              refine Ew_of (pcₚ := 141) (fun _ => x_iload_n rfl (rk_o (lc125_3) rfl rfl)) ?_
              refine w_imul rfl ?_
              refine w_isub rfl ?_
              refine Ew_of (pcₚ := 147) (fun _ => x_goto rfl rfl) ?_
              exact hc147 ((a2 - (3 * a3))) _ σ _ _  (rk_o (lc125_0) rfl rfl) (rk_o (lc125_1) rfl rfl) (rk_o (lc125_2) rfl rfl) (rk_o (lc125_3) rfl rfl) (rk_o (lc125_4) rfl rfl) (rk_o (lc125_5) rfl rfl) (rk_o (lc125_8) rfl rfl) (rk_s) H (SF_refl) (SA_refl)   (show inr ((a2 - (3 * a3))) from q_1610 h4 h6) (show ((x93_8) ≠ (3) ∧ ((a2 - (3 * a3))) = (a3)) ∨ ((x93_8) = (3) ∧ ((a2 - (3 * a3))) = ((a2 - (3 * a3)))) from q_1609 b48)
          have hps := PF_s (g := (w14)) (a := (u5_25)) (k := (x93_8)) (kₚ := (x93_8) + 1) (by omega) rfl
          have hpl := PF_le3 (g := (w14)) (a := (u5_25)) (k := (x93_8)) hB (by omega) (by omega)
          refine Ew_of (pcₚ := 101) (fun _ => x_iload rfl l93_8) ?_
          refine Ew_of (pcₚ := 102) (fun _ => x_iconst rfl) ?_
          refine w_icmpne (t := 109) rfl rfl (show inr (x93_8) from j93_1) (show inr (3) from q_246) (fun b49 => ?_) (fun b49 => ?_)
          · refine Ew_of (pcₚ := 111) (fun _ => x_iload rfl l93_5) ?_
            refine Ew_of (pcₚ := 112) (fun _ => x_aload_n rfl l93_0) ?_
            refine Ew_of (pcₚ := 114) (fun _ => x_iload rfl l93_4) ?_
            refine Ew_of (pcₚ := 115) (fun _ => x_iconst rfl) ?_
            refine Ew_of (pcₚ := 117) (fun _ => x_iload rfl l93_8) ?_
            refine w_imul rfl ?_
            refine w_iadd rfl ?_
            refine Ew_of (pcₚ := 120) (fun _ => x_iconst rfl) ?_
            refine w_inv H (o := 5) rfl rfl rfl (H.perm 5 rfl) rfl rfl (by rfl) (M257 H (w14) ((funext (hA_93 14 rfl)).trans ((funext (hA18 14 rfl)).trans ((funext (hA13 14 rfl)).trans ((funext (hA8 14 rfl)).trans (ew14))))) (show inr ((u5_25 + (2 * x93_8))) from q_1611 b23 j93_2 r2) (show inr (2) from q_122) (show 0 ≤ ((u5_25 + (2 * x93_8))) ∧ 0 ≤ (2) ∧ (2) ≤ 8 ∧ ((u5_25 + (2 * x93_8))) + (2) ≤ 65536 by omega) (fun z54 σ F50 A51 H hS52 hA53 pz54_0 pz54_1 pz54_2 pz54_3 pz54_4 pz54_5 pz54_6 pz54_7 pz54_8 pz54_9 => ⟨rfl, ?_⟩))
            replace pz54_1 := pz54_1.resolve_left (by decide)
            replace pz54_2 := pz54_2.resolve_right (by decide)
            replace pz54_3 := pz54_3 (by decide)
            replace pz54_4 := pz54_4 (by decide)
            replace pz54_5 := pz54_5 (by decide)
            (try clear pz54_6)
            (try clear pz54_7)
            replace pz54_8 := pz54_8 (by decide)
            have hN8 : z54 = nvl ((w14)) ((u5_25) + 2 * (x93_8)) 2 := nmb_nn pz54_9 (by omega) pz54_0
            refine w_l2i rfl ?_
            refine w_iadd rfl ?_
            have : (x93_8) = 3 ∧ ((x93_5 + z54)) = (a1) ∨ (x93_8) ≠ 3 ∧ ((x93_5 + z54)) = (x93_5) + nvl ((w14)) ((u5_25) + 2 * (x93_8)) 2 := by first | exact .inl ⟨by omega, by omega⟩ | exact .inr ⟨by omega, by rw [← hN8]⟩
            exact hc125 ((x93_5 + z54)) _ σ _ _  (l93_0) (l93_1) (l93_2) (l93_3) (l93_4) (l93_5) (l93_8) H (SF_trans (SF_refl) hS52 (any_sub rfl)) (SA_trans (SA_refl) hA53 (any_subA rfl))   (show inr ((x93_5 + z54)) by omega) (show ((x93_5 + z54)) = (a1) ∧ (x93_8) = 3 ∨ (x93_8) < 3 ∧ ((x93_5 + z54)) = (u5_25) + 6 + PF ((w14)) ((u5_25)) ((x93_8) + 1 : Int).toNat by omega) (show (x93_8) = 3 ∧ ((x93_5 + z54)) = (a1) ∨ (x93_8) ≠ 3 ∧ ((x93_5 + z54)) = (x93_5) + nvl ((w14)) ((u5_25) + 2 * (x93_8)) 2 by assumption)
          · refine Ew_of (pcₚ := 106) (fun _ => x_iload_n rfl l93_1) ?_
            refine Ew_of (pcₚ := 125) (fun _ => x_goto rfl rfl) ?_
            have : (x93_8) = 3 ∧ (a1) = (a1) ∨ (x93_8) ≠ 3 ∧ (a1) = (x93_5) + nvl ((w14)) ((u5_25) + 2 * (x93_8)) 2 := by first | exact .inl ⟨by omega, by omega⟩ | exact .inr ⟨by omega, by rw [← hN8]⟩
            exact hc125 (a1) _ σ _ _  (l93_0) (l93_1) (l93_2) (l93_3) (l93_4) (l93_5) (l93_8) H (SF_refl) (SA_refl)   (show inr (a1) from h0) (show (a1) = (a1) ∧ (x93_8) = 3 ∨ (x93_8) < 3 ∧ (a1) = (u5_25) + 6 + PF ((w14)) ((u5_25)) ((x93_8) + 1 : Int).toNat by omega) (show (x93_8) = 3 ∧ (a1) = (a1) ∨ (x93_8) ≠ 3 ∧ (a1) = (x93_5) + nvl ((w14)) ((u5_25) + 2 * (x93_8)) 2 by assumption)
    · refine Ew_of (pcₚ := 82) (fun _ => x_aload_n rfl (rk2_o (rk_o (rk_o (rfl) rfl rfl) rfl rfl) rfl rfl)) ?_
      refine Ew_of (pcₚ := 84) (fun _ => x_bipush (z := 14) rfl (by decide)) ?_
      refine Ew_of (pcₚ := 86) (fun _ => x_iload rfl (rk2_o (rk_o (rk_s) rfl rfl) rfl rfl)) ?_
      refine w_inv H (o := 5) rfl rfl rfl (H.perm 5 rfl) rfl rfl (by rfl) (M282 H (show inr (14) from q_1607) (show inr (u5_25) from q_286 r2) (show 0 ≤ (14) ∧ (14) ≤ 20 from q_1606) (show 0 ≤ (u5_25) ∧ (u5_25) ≤ 65536 from r2) (fun z59 σ F55 A56 H hS57 hA58 y60 ey61 y62 ey63 pz59_0 pz59_1 pz59_2 pz59_3 => ⟨rretB rfl pz59_0, ?_⟩))
      have r64 : (0 : Int) ≤ y60 ∧ y60 ≤ 20 := rngE (show (0 : Int) ≤ F55 5 30 ∧ F55 5 30 ≤ 20 from H.frng 5 30) (show F55 5 30 = y60 from (ey61))
      have r65 : (0 : Int) ≤ y62 ∧ y62 ≤ 65536 := rngE (show (0 : Int) ≤ F55 5 31 ∧ F55 5 31 ≤ 65536 from H.frng 5 31) (show F55 5 31 = y62 from (ey63))
      have : STA (STF ((w14)) GG ((u5_10)) ((a2)) 1 ((u5_25)) ((a1))) ((z59)) ((y60)) ((y62)) (sc ((A 46)) 0 ((u5_39))) := STA_f (ST_b (by decide) (by omega)) (by omega) (by omega) (by omega)
      exact w_ireturn rfl (k (z59) σ _ _ H (SF_trans (SF_trans (SF_trans (SF_trans (SF_refl) hS7 (any_sub rfl)) hS12 (any_sub rfl)) hS17 (any_sub rfl)) hS57 (any_sub rfl)) (SA_trans (SA_trans (SA_trans (SA_trans (SA_refl) hA8 (any_subA rfl)) hA13 (any_subA rfl)) hA18 (any_subA rfl)) hA58 (any_subA rfl)) (y60) ((ey61)) (y62) ((ey63)) (u5_39) ((((((hS57 5 39 rfl).trans (hS17 5 39 rfl)).trans (hS12 5 39 rfl)).trans (hS7 5 39 rfl)).trans (eu5_39))) (A 46) ((funext (hA58 46 rfl)).trans ((funext (hA18 46 rfl)).trans ((funext (hA13 46 rfl)).trans (funext (hA8 46 rfl))))) (show (z59) = 0 ∨ (z59) = 1 from pz59_0) (show 0 ≤ (u5_39) ∧ (u5_39) ≤ a2 from q_1601 h4 h5 r3) (show STA (STF ((w14)) GG ((u5_10)) (a2) 1 ((u5_25)) (a1)) ((z59)) ((y60)) ((y62)) (sc ((A 46)) 0 ((u5_39))) by assumption))
  · refine Ew_of (pcₚ := 18) (fun _ => x_aload_n rfl (rk_o (rfl) rfl rfl)) ?_
    refine Ew_of (pcₚ := 20) (fun _ => x_bipush (z := 14) rfl (by decide)) ?_
    refine Ew_of (pcₚ := 22) (fun _ => x_iload rfl rk_s) ?_
    refine w_inv H (o := 5) rfl rfl rfl (H.perm 5 rfl) rfl rfl (by rfl) (M282 H (show inr (14) from q_1607) (show inr (u5_25) from q_286 r2) (show 0 ≤ (14) ∧ (14) ≤ 20 from q_1606) (show 0 ≤ (u5_25) ∧ (u5_25) ≤ 65536 from r2) (fun z70 σ F66 A67 H hS68 hA69 y71 ey72 y73 ey74 pz70_0 pz70_1 pz70_2 pz70_3 => ⟨rretB rfl pz70_0, ?_⟩))
    have r75 : (0 : Int) ≤ y71 ∧ y71 ≤ 20 := rngE (show (0 : Int) ≤ F66 5 30 ∧ F66 5 30 ≤ 20 from H.frng 5 30) (show F66 5 30 = y71 from (ey72))
    have r76 : (0 : Int) ≤ y73 ∧ y73 ≤ 65536 := rngE (show (0 : Int) ≤ F66 5 31 ∧ F66 5 31 ≤ 65536 from H.frng 5 31) (show F66 5 31 = y73 from (ey74))
    have hna := nvl2_r (I := (w14)) (a := (u5_25))
    have hnb := nvl2_r (I := (w14)) (a := (u5_25) + 2)
    have hnc := nvl2_r (I := (w14)) (a := (u5_25) + 4)
    have : STA (STF ((w14)) GG ((u5_10)) ((a2)) 1 ((u5_25)) ((a1))) ((z70)) ((y71)) ((y73)) (sc ((A 46)) 0 ((u5_39))) := STA_f (ST_b (by decide) (by omega)) (by omega) (by omega) (by omega)
    exact w_ireturn rfl (k (z70) σ _ _ H (SF_trans (SF_refl) hS68 (any_sub rfl)) (SA_trans (SA_refl) hA69 (any_subA rfl)) (y71) ((ey72)) (y73) ((ey74)) (u5_39) (((hS68 5 39 rfl).trans (eu5_39))) (A 46) (funext (hA69 46 rfl)) (show (z70) = 0 ∨ (z70) = 1 from pz70_0) (show 0 ≤ (u5_39) ∧ (u5_39) ≤ a2 from q_1601 h4 h5 r3) (show STA (STF ((w14)) GG ((u5_10)) (a2) 1 ((u5_25)) (a1)) ((z70)) ((y71)) ((y73)) (sc ((A 46)) 0 ((u5_39))) by assumption))


end
section
/-! 40.ref -/
set_option maxHeartbeats 16000000 in
theorem M291 {σ0 σ : rS} {D N : Nat → Nat} {F : hF} {A : hA} {d c s : Nat} {Q : wQ} (H : HS σ0 σ D N F A) {a1 : Int} (u1_1 : Int) (eu1_1 : F 1 1 = u1_1) (u5_10 : Int) (eu5_10 : F 5 10 = u5_10) (u5_25 : Int) (eu5_25 : F 5 25 = u5_25) (u5_29 : Int) (eu5_29 : F 5 29 = u5_29) (u5_39 : Int) (eu5_39 : F 5 39 = u5_39) (w14 : Int → Int) (ew14 : A 14 = w14) (w31 : Int → Int) (ew31 : A 31 = w31) (w32 : Int → Int) (ew32 : A 32 = w32) (GG : Int → Int) (h0 : inr (a1)) (h1 : 0 ≤ (u5_25) ∧ (u5_25) ≤ (a1) ∧ (a1) ≤ (u1_1)) (h2 : (u5_39) = 0) (h3 : RCO ((u5_10)) (GG) ((w31)) ((w32))) (k : ∀ (z : Int) σ Fₚ Aₚ, HS σ0 σ D N Fₚ Aₚ → SF [(5, 10), (5, 19), (5, 25), (5, 30), (5, 31), (5, 39), (5, 44), (5, 45)] F Fₚ → SA [31, 32, 39, 40, 41, 42, 43, 44, 46] A Aₚ → ∀ y5_10 : Int, Fₚ 5 10 = y5_10 → ∀ y5_25 : Int, Fₚ 5 25 = y5_25 → ∀ y5_30 : Int, Fₚ 5 30 = y5_30 → ∀ y5_31 : Int, Fₚ 5 31 = y5_31 → ∀ y5_39 : Int, Fₚ 5 39 = y5_39 → ∀ v31 : Int → Int, Aₚ 31 = v31 → ∀ v32 : Int → Int, Aₚ 32 = v32 → ∀ v46 : Int → Int, Aₚ 46 = v46 → ((z) = 0 ∨ (z) = 1) → ((z) = 1 → (u5_25) ≤ (y5_25) ∧ (y5_25) ≤ (a1)) → (0 ≤ (y5_39) ∧ (y5_39) ≤ 131072) → (LTA (LTF ((w14)) ((u5_25)) ((a1)) ((u5_29)) ((u5_10)) GG) ((z)) ((y5_30)) ((y5_31)) ((y5_25)) (sc ((v46)) 0 ((y5_39))) ((y5_10)) ((v31)) ((v32))) → Q (some (I z)) σ c s) : Ew 291 (d + 4) 0 (rargs 0 [.ref (D 5), I a1]) [] σ c s Q := by
  have r1 : (0 : Int) ≤ u1_1 ∧ u1_1 ≤ 65536 := rngE (show (0 : Int) ≤ F 1 1 ∧ F 1 1 ≤ 65536 from H.frng 1 1) (show F 1 1 = u1_1 from (eu1_1))
  have r2 : (0 : Int) ≤ u5_10 ∧ u5_10 ≤ 11 := rngE (show (0 : Int) ≤ F 5 10 ∧ F 5 10 ≤ 11 from H.frng 5 10) (show F 5 10 = u5_10 from (eu5_10))
  have r3 : (0 : Int) ≤ u5_25 ∧ u5_25 ≤ 65536 := rngE (show (0 : Int) ≤ F 5 25 ∧ F 5 25 ≤ 65536 from H.frng 5 25) (show F 5 25 = u5_25 from (eu5_25))
  have r4 : (0 : Int) ≤ u5_29 ∧ u5_29 ≤ 131072 := rngE (show (0 : Int) ≤ F 5 29 ∧ F 5 29 ≤ 131072 from H.frng 5 29) (show F 5 29 = u5_29 from (eu5_29))
  have r5 : (0 : Int) ≤ u5_39 ∧ u5_39 ≤ 131072 := rngE (show (0 : Int) ≤ F 5 39 ∧ F 5 39 ≤ 131072 from H.frng 5 39) (show F 5 39 = u5_39 from (eu5_39))
  have hrco : RCO ((u5_10)) (GG) ((w31)) ((w32)) := h3
  refine Ew_of (pcₚ := 1) (fun _ => x_aload_n rfl rfl) ?_
  refine w_gI H (o := 5) (w := u5_25) rfl (H.perm 5 rfl) rfl rfl rfl (fun _ => rfl) (eu5_25) ?_
  refine Ew_of (pcₚ := 5) (fun _ => x_istore_n rfl) ?_
  refine Ew_of (pcₚ := 6) (fun _ => x_aload_n rfl (rk_o (rfl) rfl rfl)) ?_
  refine w_gI H (o := 5) (w := u5_25) rfl (H.perm 5 rfl) rfl rfl rfl (fun _ => rfl) (eu5_25) ?_
  refine Ew_of (pcₚ := 10) (fun _ => x_iload_n rfl (rk_o (rfl) rfl rfl)) ?_
  refine w_icmplt (t := 21) rfl rfl (show inr (u5_25) from q_286 r3) (show inr (a1) from h0) (fun b6 => ?_) (fun b6 => ?_)
  · refine Ew_of (pcₚ := 22) (fun _ => x_aload_n rfl (rk_o (rfl) rfl rfl)) ?_
    refine w_gT H (o := 5) (t := 1) rfl (H.perm 5 rfl) rfl rfl rfl rfl rfl rfl ?_
    refine w_gT H (o := 1) (t := 14) rfl (H.perm 1 rfl) rfl rfl rfl rfl rfl rfl ?_
    refine Ew_of (pcₚ := 29) (fun _ => x_aload_n rfl (rk_o (rfl) rfl rfl)) ?_
    refine w_gI H (o := 5) (w := u5_25) rfl (H.perm 5 rfl) rfl rfl rfl (fun _ => rfl) (eu5_25) ?_
    refine w_lI H (o := 14) (n := 65536) rfl (H.perm 14 rfl) rfl rfl (H.fix 14 rfl rfl) (show 0 ≤ u5_25 ∧ u5_25 < ((65536 : Nat) : Int) from q_1612 b6 h1 r1 r3) (by decide) (fun v7 ev7 qv7 => ?_)
    have qv7 : (0 : Int) ≤ v7 ∧ v7 ≤ 255 := qv7
    have ev7 : (w14) (u5_25) = v7 := (congrFun (ew14) (u5_25)).symm.trans ev7
    have hx1 := ev7
    refine Ew_of (pcₚ := 34) (fun _ => x_iconst rfl) ?_
    refine w_irem rfl (show inr (v7) ∧ 0 ≤ v7 from q_515 qv7) (show inr (4) ∧ 0 < 4 from q_1074) ?_
    refine Ew_of (pcₚ := 36) (fun _ => x_istore_n rfl) ?_
    refine Ew_of (pcₚ := 37) (fun _ => x_aload_n rfl (rk_o (rk_o (rfl) rfl rfl) rfl rfl)) ?_
    refine w_gT H (o := 5) (t := 1) rfl (H.perm 5 rfl) rfl rfl rfl rfl rfl rfl ?_
    refine w_gT H (o := 1) (t := 14) rfl (H.perm 1 rfl) rfl rfl rfl rfl rfl rfl ?_
    refine Ew_of (pcₚ := 44) (fun _ => x_aload_n rfl (rk_o (rk_o (rfl) rfl rfl) rfl rfl)) ?_
    refine w_gI H (o := 5) (w := u5_25) rfl (H.perm 5 rfl) rfl rfl rfl (fun _ => rfl) (eu5_25) ?_
    refine w_lI H (o := 14) (n := 65536) rfl (H.perm 14 rfl) rfl rfl (H.fix 14 rfl rfl) (show 0 ≤ u5_25 ∧ u5_25 < ((65536 : Nat) : Int) from q_1612 b6 h1 r1 r3) (by decide) (fun v8 ev8 qv8 => ?_)
    have qv8 : (0 : Int) ≤ v8 ∧ v8 ≤ 255 := qv8
    have ev8 : (w14) (u5_25) = v8 := (congrFun (ew14) (u5_25)).symm.trans ev8
    have hx2 := ev8
    obtain ⟨qx, hqx⟩ : ∃ q : Int, q = (v8) := ⟨_, rfl⟩
    rw [← hqx] at hx2
    refine Ew_of (pcₚ := 49) (fun _ => x_iconst rfl) ?_
    refine w_idiv rfl (show inr (v8) ∧ 0 ≤ v8 from q_515 qv8) (show inr (4) ∧ 0 < 4 from q_1074) ?_
    refine Ew_of (pcₚ := 51) (fun _ => x_iconst rfl) ?_
    refine w_irem rfl (show inr ((v8 / 4)) ∧ 0 ≤ (v8 / 4) from q_1613 qv8) (show inr (4) ∧ 0 < 4 from q_1074) ?_
    refine Ew_of (pcₚ := 54) (fun _ => x_istore rfl) ?_
    refine Ew_of (pcₚ := 55) (fun _ => x_iload_n rfl (rk_o (rk_s) rfl rfl)) ?_
    refine Ew_of (pcₚ := 56) (fun _ => x_iconst rfl) ?_
    refine w_icmpge (t := 256) rfl rfl (show inr ((v7 % 4)) from q_1075) (show inr (2) from q_122) (fun b9 => ?_) (fun b9 => ?_)
    · refine Ew_of (pcₚ := 258) (fun _ => x_iload rfl rk_s) ?_
      refine Ew_of (pcₚ := 259) (fun _ => x_iconst rfl) ?_
      have hc270 : ∀ (tc270_0 : Int), ∀ (ls : rO) (σ : rS) (F_c270 : hF) (A_c270 : hA) , rlook ls 0 = some (.ref (D 5)) → rlook ls 1 = some (I (a1)) → rlook ls 2 = some (I (u5_25)) → rlook ls 3 = some (I ((v7 % 4))) → rlook ls 4 = some (I (((v8 / 4) % 4))) → HS σ0 σ D N F_c270 A_c270 → SF [] F F_c270 → SA [] A A_c270 → (inr (tc270_0)) → (((((v8 / 4) % 4)) ≥ (2) ∧ (tc270_0) = ((((v8 / 4) % 4) + 2))) ∨ ((((v8 / 4) % 4)) < (2) ∧ (tc270_0) = (3))) → Ew 291 (d + 4) 270 ls [I (tc270_0)] σ c s Q := by
       as_aux_lemma =>
        intro tc270_0 ls σ F_c270 A_c270  lc270_0 lc270_1 lc270_2 lc270_3 lc270_4 H hS_c270 hA_c270   jc270_0 jc270_1
        refine Ew_of (pcₚ := 272) (fun _ => x_istore rfl) ?_
        have hb5 : (tc270_0) = lcB (qx / 4 % 4) := by unfold lcB; split; (omega); (omega)
        refine Ew_of (pcₚ := 274) (fun _ => x_iload rfl (rk_o (lc270_4) rfl rfl)) ?_
        refine Ew_of (pcₚ := 275) (fun _ => x_iconst rfl) ?_
        have hc296 : ∀ (tc296_0 : Int), ∀ (ls : rO) (σ : rS) (F_c296 : hF) (A_c296 : hA) , rlook ls 0 = some (.ref (D 5)) → rlook ls 1 = some (I (a1)) → rlook ls 2 = some (I (u5_25)) → rlook ls 3 = some (I ((v7 % 4))) → rlook ls 4 = some (I (((v8 / 4) % 4))) → rlook ls 5 = some (I (tc270_0)) → HS σ0 σ D N F_c296 A_c296 → SF [] F_c270 F_c296 → SA [] A_c270 A_c296 → (inr (tc296_0)) → (((((v8 / 4) % 4)) ≥ (2) ∧ (((v8 / 4) % 4)) ≠ (2) ∧ (tc296_0) = (18)) ∨ ((((v8 / 4) % 4)) ≥ (2) ∧ (((v8 / 4) % 4)) = (2) ∧ (tc296_0) = (14)) ∨ ((((v8 / 4) % 4)) < (2) ∧ (tc296_0) = (10))) → Ew 291 (d + 4) 296 ls [I (tc296_0)] σ c s Q := by
         as_aux_lemma =>
          intro tc296_0 ls σ F_c296 A_c296  lc296_0 lc296_1 lc296_2 lc296_3 lc296_4 lc296_5 H hS_c296 hA_c296   jc296_0 jc296_1
          refine Ew_of (pcₚ := 298) (fun _ => x_istore rfl) ?_
          have hw6 : (tc296_0) = lcW (qx / 4 % 4) := by unfold lcW; split; (omega); (split); (omega); (omega)
          refine Ew_of (pcₚ := 299) (fun _ => x_iload_n rfl (rk_o (lc296_1) rfl rfl)) ?_
          refine Ew_of (pcₚ := 300) (fun _ => x_aload_n rfl (rk_o (lc296_0) rfl rfl)) ?_
          refine w_gI H (o := 5) (w := u5_25) rfl (H.perm 5 rfl) rfl rfl rfl (fun _ => rfl) (((hS_c296 5 25 rfl).trans (hS_c270 5 25 rfl)).trans (eu5_25)) ?_
          refine w_isub rfl ?_
          refine Ew_of (pcₚ := 306) (fun _ => x_iload rfl (rk_o (lc296_5) rfl rfl)) ?_
          refine w_icmpge (t := 317) rfl rfl (show inr ((a1 - u5_25)) from q_1614 b6 h0 r3) (show inr (tc270_0) from jc270_0) (fun b10 => ?_) (fun b10 => ?_)
          · refine Ew_of (pcₚ := 318) (fun _ => x_aload_n rfl (rk_o (lc296_0) rfl rfl)) ?_
            refine Ew_of (pcₚ := 319) (fun _ => x_aload_n rfl (rk_o (lc296_0) rfl rfl)) ?_
            refine w_gI H (o := 5) (w := u5_25) rfl (H.perm 5 rfl) rfl rfl rfl (fun _ => rfl) (((hS_c296 5 25 rfl).trans (hS_c270 5 25 rfl)).trans (eu5_25)) ?_
            refine Ew_of (pcₚ := 324) (fun _ => x_iload rfl (rk_o (lc296_5) rfl rfl)) ?_
            refine w_inv H (o := 5) rfl rfl rfl (H.perm 5 rfl) rfl rfl (by rfl) (M257 H (w14) ((funext (hA_c296 14 rfl)).trans ((funext (hA_c270 14 rfl)).trans (ew14))) (show inr (u5_25) from q_286 r3) (show inr (tc270_0) from jc270_0) (show 0 ≤ (u5_25) ∧ 0 ≤ (tc270_0) ∧ (tc270_0) ≤ 8 ∧ (u5_25) + (tc270_0) ≤ 65536 from q_1615 b10 h1 jc270_1 r1 r3) (fun z15 σ F11 A12 H hS13 hA14 pz15_0 pz15_1 pz15_2 pz15_3 pz15_4 pz15_5 pz15_6 pz15_7 pz15_8 pz15_9 => ⟨rfl, ?_⟩))
            have hN2 : z15 = nvl ((w14)) ((u5_25)) ((tc270_0) : Int).toNat := nmb_nn pz15_9 (by omega) pz15_0
            refine Ew_of (pcₚ := 328) (fun _ => x_iconst rfl) ?_
            refine w_lshrK 4 16 (by decide) (by decide) rfl (show inrJ (z15) from pz15_0) (fun z16 gz16 dz16 => ?_)
            refine Ew_of (pcₚ := 331) (fun _ => x_lstore rfl) ?_
            have : p2 ((tc296_0)) ≤ p2 18 := p2_mono (by omega)
            have : p2 18 = 262144 := by decide
            have := p2_pos ((tc296_0))
            have h7 : (z16) = nvl ((w14)) ((u5_25)) ((tc270_0) : Int).toNat / 16 := by omega
            refine Ew_of (pcₚ := 333) (fun _ => x_lload rfl rk2_s) ?_
            refine Ew_of (pcₚ := 334) (fun _ => x_lconst (z := 1) rfl (by decide)) ?_
            refine Ew_of (pcₚ := 336) (fun _ => x_iload rfl (rk2_o (rk_s) rfl rfl)) ?_
            refine w_lshl1 rfl (show 0 ≤ tc296_0 ∧ tc296_0 ≤ 63 from q_1616 jc296_1) ?_
            refine Ew_of (pcₚ := 338) (fun _ => x_lconst (z := 1) rfl (by decide)) ?_
            refine w_lsub rfl ?_
            refine w_landE rfl ?_
            have g18 : inrJ (anJ (z16) ((p2 (tc296_0) - 1))) := toJ_inr _
            have hq9_ : ((anJ (z16) ((p2 (tc296_0) - 1)))) = (z16) % p2 ((tc296_0)) := anJ_m (by omega) (by omega)
            have hr9 : 0 ≤ ((anJ (z16) ((p2 (tc296_0) - 1)))) ∧ ((anJ (z16) ((p2 (tc296_0) - 1)))) < p2 ((tc296_0)) := by rw [hq9_]; exact ⟨Int.emod_nonneg _ (by omega), Int.emod_lt_of_pos _ (by omega)⟩
            obtain ⟨q9, hq9⟩ : ∃ q : Int, q = ((anJ (z16) ((p2 (tc296_0) - 1)))) := ⟨_, rfl⟩
            rw [← hq9]
            have gq9 : inrJ q9 := by rw [hq9]; omega
            have hn9 : q9 = nvl ((w14)) ((u5_25)) ((tc270_0) : Int).toNat / 16 % p2 (lcW (qx / 4 % 4)) := by rw [hq9, hq9_, h7, hw6]
            refine w_l2i rfl ?_
            refine Ew_of (pcₚ := 343) (fun _ => x_istore rfl) ?_
            refine Ew_of (pcₚ := 345) (fun _ => x_lload rfl (rk_o (rk2_s) rfl rfl)) ?_
            refine Ew_of (pcₚ := 347) (fun _ => x_iload rfl (rk_o (rk2_o (rk_s) rfl rfl) rfl rfl)) ?_
            refine w_lshrE rfl ?_
            have g19 : inrJ (srJ (z16) (tc296_0)) := toJ_inr _
            have hsr := srJ_d (v := (z16)) (k := (tc296_0)) (by omega) (by omega)
            have hsr0 : 0 ≤ ((srJ (z16) (tc296_0))) ∧ ((srJ (z16) (tc296_0))) ≤ (z16) := by rw [hsr]; exact ⟨Int.ediv_nonneg (by omega) (by omega), Int.ediv_le_self _ (by omega)⟩
            obtain ⟨qs, hqs⟩ : ∃ q : Int, q = ((srJ (z16) (tc296_0))) := ⟨_, rfl⟩
            rw [← hqs]
            have gqs : inrJ qs := by rw [hqs]; omega
            refine Ew_of (pcₚ := 349) (fun _ => x_lconst (z := 1) rfl (by decide)) ?_
            refine Ew_of (pcₚ := 351) (fun _ => x_iload rfl (rk_o (rk2_o (rk_s) rfl rfl) rfl rfl)) ?_
            refine w_lshl1 rfl (show 0 ≤ tc296_0 ∧ tc296_0 ≤ 63 from q_1616 jc296_1) ?_
            refine Ew_of (pcₚ := 353) (fun _ => x_lconst (z := 1) rfl (by decide)) ?_
            refine w_lsub rfl ?_
            refine w_landE rfl ?_
            have g21 : inrJ (anJ (qs) ((p2 (tc296_0) - 1))) := toJ_inr _
            have hq10_ : ((anJ (qs) ((p2 (tc296_0) - 1)))) = qs % p2 ((tc296_0)) := anJ_m (by omega) (by omega)
            have hr10 : 0 ≤ ((anJ (qs) ((p2 (tc296_0) - 1)))) ∧ ((anJ (qs) ((p2 (tc296_0) - 1)))) < p2 ((tc296_0)) := by rw [hq10_]; exact ⟨Int.emod_nonneg _ (by omega), Int.emod_lt_of_pos _ (by omega)⟩
            obtain ⟨q10, hq10⟩ : ∃ q : Int, q = ((anJ (qs) ((p2 (tc296_0) - 1)))) := ⟨_, rfl⟩
            rw [← hq10]
            have gq10 : inrJ q10 := by rw [hq10]; omega
            have hn10 : q10 = nvl ((w14)) ((u5_25)) ((tc270_0) : Int).toNat / 16 / p2 (lcW (qx / 4 % 4)) % p2 (lcW (qx / 4 % 4)) := by rw [hq10, hq10_, hqs, hsr, h7, hw6]
            refine w_l2i rfl ?_
            refine Ew_of (pcₚ := 358) (fun _ => x_istore rfl) ?_
            refine Ew_of (pcₚ := 359) (fun _ => x_aload_n rfl (rk_o (rk_o (rk2_o (rk_o (lc296_0) rfl rfl) rfl rfl) rfl rfl) rfl rfl)) ?_
            refine Ew_of (pcₚ := 360) (fun _ => x_dup rfl rfl) ?_
            refine w_gI H (o := 5) (w := u5_25) rfl (H.perm 5 rfl) rfl rfl rfl (fun _ => rfl) ((((hS13 5 25 rfl).trans (hS_c296 5 25 rfl)).trans (hS_c270 5 25 rfl)).trans (eu5_25)) ?_
            refine Ew_of (pcₚ := 365) (fun _ => x_iload rfl (rk_o (rk_o (rk2_o (rk_o (lc296_5) rfl rfl) rfl rfl) rfl rfl) rfl rfl)) ?_
            refine w_iadd rfl ?_
            refine w_pI H (o := 5) rfl rfl (H.perm 5 rfl) rfl rfl rfl (fun _ => rfl) rfl (show (0 : Int) ≤ (u5_25 + tc270_0) ∧ (u5_25 + tc270_0) ≤ 65536 by omega) (fun σ H => ?_)
            refine Ew_of (pcₚ := 371) (fun _ => x_iload rfl (rk_o (rk_s) rfl rfl)) ?_
            refine Ew_of (pcₚ := 372) (fun _ => x_iconst rfl) ?_
            refine w_iadd rfl ?_
            refine Ew_of (pcₚ := 374) (fun _ => x_iconst rfl) ?_
            refine w_idiv rfl (show inr ((q9 + 3)) ∧ 0 ≤ (q9 + 3) by omega) (show inr (4) ∧ 0 < 4 from q_1074) ?_
            refine Ew_of (pcₚ := 377) (fun _ => x_istore rfl) ?_
            have hLT2 : LTF ((w14)) ((u5_25)) ((a1)) ((u5_29)) ((u5_10)) GG = LT2 ((w14)) ((u5_25)) ((a1)) ((u5_29)) ((u5_10)) GG (((v7 % 4))) (qx / 4 % 4) ((tc270_0)) ((q9)) ((q10)) := LTF_2 (by omega) hx2 (by omega) (by omega) rfl hb5 hn9 hn10
            rw [show qx / 4 % 4 = (((v8 / 4) % 4)) by omega] at hLT2
            refine Ew_of (pcₚ := 379) (fun _ => x_iload rfl (rk_o (rk_o (rk_s) rfl rfl) rfl rfl)) ?_
            refine Ew_of (pcₚ := 380) (fun _ => x_aload_n rfl (rk_o (rk_o (rk_o (rk2_o (rk_o (lc296_0) rfl rfl) rfl rfl) rfl rfl) rfl rfl) rfl rfl)) ?_
            refine w_gI H (o := 5) (w := u5_29) rfl (H.perm 5 rfl) rfl rfl rfl (fun _ => rfl) ((((hS13 5 29 rfl).trans (hS_c296 5 29 rfl)).trans (hS_c270 5 29 rfl)).trans (eu5_29)) ?_
            refine w_icmpgt (t := 400) rfl rfl (show inr (q9) by omega) (show inr (u5_29) from q_1569 r4) (fun b22 => ?_) (fun b22 => ?_)
            · refine Ew_of (pcₚ := 401) (fun _ => x_aload_n rfl (rk_o (rk_o (rk_o (rk2_o (rk_o (lc296_0) rfl rfl) rfl rfl) rfl rfl) rfl rfl) rfl rfl)) ?_
              refine Ew_of (pcₚ := 403) (fun _ => x_bipush (z := 11) rfl (by decide)) ?_
              refine Ew_of (pcₚ := 404) (fun _ => x_iload_n rfl (rk_o (rk_o (rk_o (rk2_o (rk_o (lc296_2) rfl rfl) rfl rfl) rfl rfl) rfl rfl) rfl rfl)) ?_
              refine w_inv H (o := 5) rfl rfl rfl (H.perm 5 rfl) rfl rfl (by rfl) (M282 H (show inr (11) from q_326) (show inr (u5_25) from q_286 r3) (show 0 ≤ (11) ∧ (11) ≤ 20 from q_1617) (show 0 ≤ (u5_25) ∧ (u5_25) ≤ 65536 from r3) (fun z27 σ F23 A24 H hS25 hA26 y28 ey29 y30 ey31 pz27_0 pz27_1 pz27_2 pz27_3 => ⟨rretB rfl pz27_0, ?_⟩))
              have r32 : (0 : Int) ≤ y28 ∧ y28 ≤ 20 := rngE (show (0 : Int) ≤ F23 5 30 ∧ F23 5 30 ≤ 20 from H.frng 5 30) (show F23 5 30 = y28 from (ey29))
              have r33 : (0 : Int) ≤ y30 ∧ y30 ≤ 65536 := rngE (show (0 : Int) ≤ F23 5 31 ∧ F23 5 31 ≤ 65536 from H.frng 5 31) (show F23 5 31 = y30 from (ey31))
              have : LTA (LTF ((w14)) ((u5_25)) ((a1)) ((u5_29)) ((u5_10)) GG) ((z27)) ((y28)) ((y30)) (((u5_25 + tc270_0))) (sc ((A 46)) 0 ((u5_39))) ((u5_10)) ((w31)) ((w32)) := LTA_f (hLT2.trans (LT2_11 (by omega) (by omega))) (by decide) (by omega) (by omega) (by omega)
              exact w_ireturn rfl (k (z27) σ _ _ H (SF_trans (SF_upd (SF_trans (SF_trans (SF_trans (SF_refl) hS_c270 (any_sub rfl)) hS_c296 (any_sub rfl)) hS13 (any_sub rfl)) rfl) hS25 (any_sub rfl)) (SA_trans (SA_trans (SA_trans (SA_trans (SA_refl) hA_c270 (any_subA rfl)) hA_c296 (any_subA rfl)) hA14 (any_subA rfl)) hA26 (any_subA rfl)) (u5_10) ((((((hS25 5 10 rfl).trans (hS13 5 10 rfl)).trans (hS_c296 5 10 rfl)).trans (hS_c270 5 10 rfl)).trans (eu5_10))) ((u5_25 + tc270_0)) ((hS25 5 25 rfl)) (y28) ((ey29)) (y30) ((ey31)) (u5_39) ((((((hS25 5 39 rfl).trans (hS13 5 39 rfl)).trans (hS_c296 5 39 rfl)).trans (hS_c270 5 39 rfl)).trans (eu5_39))) (w31) ((funext (hA26 31 rfl)).trans ((funext (hA14 31 rfl)).trans ((funext (hA_c296 31 rfl)).trans ((funext (hA_c270 31 rfl)).trans (ew31))))) (w32) ((funext (hA26 32 rfl)).trans ((funext (hA14 32 rfl)).trans ((funext (hA_c296 32 rfl)).trans ((funext (hA_c270 32 rfl)).trans (ew32))))) (A 46) ((funext (hA26 46 rfl)).trans ((funext (hA14 46 rfl)).trans ((funext (hA_c296 46 rfl)).trans (funext (hA_c270 46 rfl))))) (show (z27) = 0 ∨ (z27) = 1 from pz27_0) (show (z27) = 1 → (u5_25) ≤ ((u5_25 + tc270_0)) ∧ ((u5_25 + tc270_0)) ≤ a1 from q_1618 b10 jc270_0 pz27_1) (show 0 ≤ (u5_39) ∧ (u5_39) ≤ 131072 from r5) (show LTA (LTF ((w14)) ((u5_25)) (a1) ((u5_29)) ((u5_10)) GG) ((z27)) ((y28)) ((y30)) (((u5_25 + tc270_0))) (sc ((A 46)) 0 ((u5_39))) ((u5_10)) ((w31)) ((w32)) by assumption))
            · refine Ew_of (pcₚ := 388) (fun _ => x_iload rfl (rk_o (rk_o (rk_o (rk2_o (rk_o (lc296_4) rfl rfl) rfl rfl) rfl rfl) rfl rfl) rfl rfl)) ?_
              have hc408 : ∀ (ls : rO) (σ : rS) (F_c408 : hF) (A_c408 : hA) , rlook ls 0 = some (.ref (D 5)) → rlook ls 1 = some (I (a1)) → rlook ls 2 = some (I (u5_25)) → rlook ls 3 = some (I ((v7 % 4))) → rlook ls 4 = some (I (((v8 / 4) % 4))) → rlook ls 9 = some (I (q9)) → rlook ls 10 = some (I (q10)) → rlook ls 11 = some (I (((q9 + 3) / 4))) → HS σ0 σ D N F_c408 A_c408 → SF [] (updF F11 5 25 ((u5_25 + tc270_0))) F_c408 → SA [] A12 A_c408 → (((((v8 / 4) % 4)) ≤ (0)) ∨ ((((v8 / 4) % 4)) > (0) ∧ (q9) ≥ ((3 * ((q9 + 3) / 4))))) → Ew 291 (d + 4) 408 ls [] σ c s Q := by
               as_aux_lemma =>
                intro  ls σ F_c408 A_c408  lc408_0 lc408_1 lc408_2 lc408_3 lc408_4 lc408_9 lc408_10 lc408_11 H hS_c408 hA_c408   jc408_0
                refine Ew_of (pcₚ := 409) (fun _ => x_iload_n rfl lc408_3) ?_
                refine Ew_of (pcₚ := 410) (fun _ => x_iconst rfl) ?_
                have hc428 : ∀ (ls : rO) (σ : rS) (F_c428 : hF) (A_c428 : hA) , rlook ls 0 = some (.ref (D 5)) → rlook ls 1 = some (I (a1)) → rlook ls 3 = some (I ((v7 % 4))) → rlook ls 4 = some (I (((v8 / 4) % 4))) → rlook ls 9 = some (I (q9)) → rlook ls 10 = some (I (q10)) → rlook ls 11 = some (I (((q9 + 3) / 4))) → HS σ0 σ D N F_c428 A_c428 → SF [] F_c408 F_c428 → SA [] A_c408 A_c428 → ((((v7 % 4)) ≠ (3)) ∨ (((v7 % 4)) = (3) ∧ (u5_10) ≠ (0))) → Ew 291 (d + 4) 428 ls [] σ c s Q := by
                 as_aux_lemma =>
                  intro  ls σ F_c428 A_c428  lc428_0 lc428_1 lc428_3 lc428_4 lc428_9 lc428_10 lc428_11 H hS_c428 hA_c428   jc428_0
                  refine Ew_of (pcₚ := 429) (fun _ => x_iload_n rfl lc428_1) ?_
                  refine Ew_of (pcₚ := 430) (fun _ => x_aload_n rfl lc428_0) ?_
                  refine w_gI H (o := 5) (w := (u5_25 + tc270_0)) rfl (H.perm 5 rfl) rfl rfl rfl (fun _ => rfl) ((hS_c428 5 25 rfl).trans (hS_c408 5 25 rfl)) ?_
                  refine w_isub rfl ?_
                  refine Ew_of (pcₚ := 436) (fun _ => x_iload rfl lc428_10) ?_
                  refine w_icmpge (t := 447) rfl rfl (show inr ((a1 - (u5_25 + tc270_0))) by omega) (show inr (q10) by omega) (fun b34 => ?_) (fun b34 => ?_)
                  · refine Ew_of (pcₚ := 448) (fun _ => x_aload_n rfl lc428_0) ?_
                    refine w_gI H (o := 5) (w := (u5_25 + tc270_0)) rfl (H.perm 5 rfl) rfl rfl rfl (fun _ => rfl) ((hS_c428 5 25 rfl).trans (hS_c408 5 25 rfl)) ?_
                    refine Ew_of (pcₚ := 453) (fun _ => x_iload rfl lc428_10) ?_
                    refine w_iadd rfl ?_
                    refine Ew_of (pcₚ := 456) (fun _ => x_istore rfl) ?_
                    have hc495 : ∀ (ls : rO) (σ : rS) (F_c495 : hF) (A_c495 : hA) , rlook ls 0 = some (.ref (D 5)) → rlook ls 4 = some (I (((v8 / 4) % 4))) → rlook ls 9 = some (I (q9)) → rlook ls 11 = some (I (((q9 + 3) / 4))) → rlook ls 12 = some (I (((u5_25 + tc270_0) + q10))) → HS σ0 σ D N F_c495 A_c495 → SF [(5, 10), (5, 19), (5, 25), (5, 44), (5, 45)] F_c428 F_c495 → SA [31, 32, 39, 40, 41, 42, 43, 44] A_c428 A_c495 → ∀ yc495_5_10 : Int, F_c495 5 10 = yc495_5_10 → ∀ yc495_5_25 : Int, F_c495 5 25 = yc495_5_25 → ∀ wc495_31 : Int → Int, A_c495 31 = wc495_31 → ∀ wc495_32 : Int → Int, A_c495 32 = wc495_32 → (((u5_25 + tc270_0)) ≤ (yc495_5_25) ∧ (yc495_5_25) ≤ (((u5_25 + tc270_0) + q10))) → (LT5 (LTF ((w14)) ((u5_25)) ((a1)) ((u5_29)) ((u5_10)) GG) ((w14)) ((yc495_5_25)) ((((u5_25 + tc270_0) + q10))) ((((v8 / 4) % 4))) ((q9)) ((yc495_5_10)) ((wc495_31)) ((wc495_32))) → Ew 291 (d + 4) 495 ls [] σ c s Q := by
                     as_aux_lemma =>
                      intro  ls σ F_c495 A_c495  lc495_0 lc495_4 lc495_9 lc495_11 lc495_12 H hS_c495 hA_c495 yc495_5_10 eyc495_5_10 yc495_5_25 eyc495_5_25 wc495_31 ewc495_31 wc495_32 ewc495_32 jc495_0 jc495_1
                      have r35 : (0 : Int) ≤ yc495_5_10 ∧ yc495_5_10 ≤ 11 := rngE (show (0 : Int) ≤ F_c495 5 10 ∧ F_c495 5 10 ≤ 11 from H.frng 5 10) (show F_c495 5 10 = yc495_5_10 from (eyc495_5_10))
                      have r36 : (0 : Int) ≤ yc495_5_25 ∧ yc495_5_25 ≤ 65536 := rngE (show (0 : Int) ≤ F_c495 5 25 ∧ F_c495 5 25 ≤ 65536 from H.frng 5 25) (show F_c495 5 25 = yc495_5_25 from (eyc495_5_25))
                      have k495 : LT5 (LTF ((w14)) ((u5_25)) ((a1)) ((u5_29)) ((u5_10)) GG) ((w14)) ((yc495_5_25)) ((((u5_25 + tc270_0) + q10))) ((((v8 / 4) % 4))) ((q9)) ((yc495_5_10)) ((wc495_31)) ((wc495_32)) := jc495_1
                      obtain ⟨G2_, hL5, hci5, hag5, hfl5⟩ := k495
                      have htop5 := hci5.1
                      have hrc5 : RCO ((yc495_5_10)) (G2_) ((wc495_31)) ((wc495_32)) := .inr ⟨hci5, hag5, hfl5⟩
                      refine Ew_of (pcₚ := 497) (fun _ => x_iload rfl lc495_4) ?_
                      refine w_ifne (t := 526) rfl rfl (show inr (((v8 / 4) % 4)) from q_1619) (fun b37 => ?_) (fun b37 => ?_)
                      · refine Ew_of (pcₚ := 527) (fun _ => x_aload_n rfl lc495_0) ?_
                        refine Ew_of (pcₚ := 529) (fun _ => x_iload rfl lc495_12) ?_
                        refine Ew_of (pcₚ := 531) (fun _ => x_iload rfl lc495_9) ?_
                        refine Ew_of (pcₚ := 533) (fun _ => x_iload rfl lc495_11) ?_
                        refine w_inv H (o := 5) rfl rfl rfl (H.perm 5 rfl) rfl rfl (by rfl) (M292 H (yc495_5_10) ((eyc495_5_10)) (yc495_5_25) ((eyc495_5_25)) (u5_39) ((((((((hS_c495 5 39 rfl).trans (hS_c428 5 39 rfl)).trans (hS_c408 5 39 rfl)).trans (hS13 5 39 rfl)).trans (hS_c296 5 39 rfl)).trans (hS_c270 5 39 rfl)).trans (eu5_39))) (w14) ((funext (hA_c495 14 rfl)).trans ((funext (hA_c428 14 rfl)).trans ((funext (hA_c408 14 rfl)).trans ((funext (hA14 14 rfl)).trans ((funext (hA_c296 14 rfl)).trans ((funext (hA_c270 14 rfl)).trans (ew14))))))) (wc495_31) (ewc495_31) (wc495_32) (ewc495_32) (G2_) (show inr (((u5_25 + tc270_0) + q10)) from q_1623 b34 h1 jc270_0 jc495_0 r1 r3) (show inr (q9) by omega) (show inr (((q9 + 3) / 4)) by omega) (show 0 ≤ (yc495_5_25) ∧ (yc495_5_25) ≤ (((u5_25 + tc270_0) + q10)) ∧ (((u5_25 + tc270_0) + q10)) ≤ 65536 from q_1622 b34 h1 jc495_0 r1 r36) (show 0 ≤ (((q9 + 3) / 4)) ∧ 3 * (((q9 + 3) / 4)) ≤ (q9) ∧ (q9) ≤ 131072 by omega) (show (u5_39) = 0 from h2) (show (((q9 + 3) / 4)) = ((q9) + 3) / 4 from q_1621) (show 0 ≤ (yc495_5_10) from q_1620 r35) (show ∀ i, 0 ≤ i → i < 256 → ((wc495_31)) i = (G2_) i by assumption) (show fl ((wc495_32)) (p2 ((yc495_5_10))) = CELS (G2_) ((yc495_5_10)) by assumption) (fun z42 σ F38 A39 H hS40 hA41 y43 ey44 y45 ey46 y47 ey48 wq49 ewq50 pz42_0 pz42_1 pz42_2 => ⟨rretB rfl pz42_0, ?_⟩))
                        have r51 : (0 : Int) ≤ y43 ∧ y43 ≤ 20 := rngE (show (0 : Int) ≤ F38 5 30 ∧ F38 5 30 ≤ 20 from H.frng 5 30) (show F38 5 30 = y43 from (ey44))
                        have r52 : (0 : Int) ≤ y45 ∧ y45 ≤ 65536 := rngE (show (0 : Int) ≤ F38 5 31 ∧ F38 5 31 ≤ 65536 from H.frng 5 31) (show F38 5 31 = y45 from (ey46))
                        have r53 : (0 : Int) ≤ y47 ∧ y47 ≤ 131072 := rngE (show (0 : Int) ≤ F38 5 39 ∧ F38 5 39 ≤ 131072 from H.frng 5 39) (show F38 5 39 = y47 from (ey48))
                        have hs7 : z42 = 1 → STF ((w14)) G2_ ((yc495_5_10)) ((q9)) 1 ((yc495_5_25)) ((((u5_25 + tc270_0) + q10))) = (1, 0, sc ((wq49)) 0 ((y47))) := fun z => by rcases pz42_2 with ⟨a, _⟩ | ⟨_, b⟩; (omega); (exact b)
                        have hs6 : z42 = 0 → (STF ((w14)) G2_ ((yc495_5_10)) ((q9)) 1 ((yc495_5_25)) ((((u5_25 + tc270_0) + q10)))).1 = 0 ∧ (y43) = 14 ∧ (y45) = (STF ((w14)) G2_ ((yc495_5_10)) ((q9)) 1 ((yc495_5_25)) ((((u5_25 + tc270_0) + q10)))).2.1 := fun z => by rcases pz42_2 with ⟨_, a, b, c⟩ | ⟨a, _⟩; (exact ⟨a, b, c⟩); (omega)
                        refine w_ifne (t := 541) rfl rfl (show inr (z42) from q_138 pz42_0) (fun b54 => ?_) (fun b54 => ?_)
                        · refine Ew_of (pcₚ := 542) (fun _ => x_aload_n rfl lc495_0) ?_
                          refine Ew_of (pcₚ := 544) (fun _ => x_iload rfl lc495_12) ?_
                          refine w_pI H (o := 5) rfl rfl (H.perm 5 rfl) rfl rfl rfl (fun _ => rfl) rfl (show (0 : Int) ≤ ((u5_25 + tc270_0) + q10) ∧ ((u5_25 + tc270_0) + q10) ≤ 65536 from q_1624 b34 h1 jc495_0 r1 r36) (fun σ H => ?_)
                          refine Ew_of (pcₚ := 548) (fun _ => x_iconst rfl) ?_
                          have : LTA (LTF ((w14)) ((u5_25)) ((a1)) ((u5_29)) ((u5_10)) GG) ((1)) ((y43)) ((y45)) ((((u5_25 + tc270_0) + q10))) (sc ((wq49)) 0 ((y47))) ((yc495_5_10)) ((wc495_31)) ((wc495_32)) := by first | exact LTA_y (hL5.trans (LT3_y (ST_1y (by omega) (DCA_1 hdc5 (by omega))))) (by omega) rfl rfl rfl hrc5 | exact LTA_y (hL5.trans (LT3_y (by rw [STF_l1 (by omega)]; exact hs7 (by omega)))) (by omega) rfl rfl rfl hrc5
                          exact w_ireturn rfl (k (1) σ _ _ H (SF_upd (SF_trans (SF_trans (SF_trans (SF_trans (SF_upd (SF_trans (SF_trans (SF_trans (SF_refl) hS_c270 (any_sub rfl)) hS_c296 (any_sub rfl)) hS13 (any_sub rfl)) rfl) hS_c408 (any_sub rfl)) hS_c428 (any_sub rfl)) hS_c495 (any_sub rfl)) hS40 (any_sub rfl)) rfl) (SA_trans (SA_trans (SA_trans (SA_trans (SA_trans (SA_trans (SA_trans (SA_refl) hA_c270 (any_subA rfl)) hA_c296 (any_subA rfl)) hA14 (any_subA rfl)) hA_c408 (any_subA rfl)) hA_c428 (any_subA rfl)) hA_c495 (any_subA rfl)) hA41 (any_subA rfl)) (yc495_5_10) (((hS40 5 10 rfl).trans (eyc495_5_10))) (((u5_25 + tc270_0) + q10)) (rfl) (y43) ((ey44)) (y45) ((ey46)) (y47) ((ey48)) (wc495_31) ((funext (hA41 31 rfl)).trans (ewc495_31)) (wc495_32) ((funext (hA41 32 rfl)).trans (ewc495_32)) (wq49) (ewq50) (show (1) = 0 ∨ (1) = 1 by first | exact q_49 | omega) (show (1) = 1 → (u5_25) ≤ (((u5_25 + tc270_0) + q10)) ∧ (((u5_25 + tc270_0) + q10)) ≤ a1 by omega) (show 0 ≤ (y47) ∧ (y47) ≤ 131072 from r53) (show LTA (LTF ((w14)) ((u5_25)) (a1) ((u5_29)) ((u5_10)) GG) ((1)) ((y43)) ((y45)) ((((u5_25 + tc270_0) + q10))) (sc ((wq49)) 0 ((y47))) ((yc495_5_10)) ((wc495_31)) ((wc495_32)) by assumption))
                        · refine Ew_of (pcₚ := 540) (fun _ => x_iconst rfl) ?_
                          obtain ⟨hs61, hs62, hs63⟩ := hs6 (by omega)
                          have : LTA (LTF ((w14)) ((u5_25)) ((a1)) ((u5_29)) ((u5_10)) GG) ((0)) ((y43)) ((y45)) ((yc495_5_25)) (sc ((wq49)) 0 ((y47))) ((yc495_5_10)) ((wc495_31)) ((wc495_32)) := LTA_f (hL5.trans ((LT3_g (by rw [STF_l1 (by omega)]; exact hs61)).trans (by rw [STF_l1 (by omega), ← hs63]))) (by decide) (by omega) hs62 rfl
                          exact w_ireturn rfl (k (0) σ _ _ H (SF_trans (SF_trans (SF_trans (SF_trans (SF_upd (SF_trans (SF_trans (SF_trans (SF_refl) hS_c270 (any_sub rfl)) hS_c296 (any_sub rfl)) hS13 (any_sub rfl)) rfl) hS_c408 (any_sub rfl)) hS_c428 (any_sub rfl)) hS_c495 (any_sub rfl)) hS40 (any_sub rfl)) (SA_trans (SA_trans (SA_trans (SA_trans (SA_trans (SA_trans (SA_trans (SA_refl) hA_c270 (any_subA rfl)) hA_c296 (any_subA rfl)) hA14 (any_subA rfl)) hA_c408 (any_subA rfl)) hA_c428 (any_subA rfl)) hA_c495 (any_subA rfl)) hA41 (any_subA rfl)) (yc495_5_10) (((hS40 5 10 rfl).trans (eyc495_5_10))) (yc495_5_25) (((hS40 5 25 rfl).trans (eyc495_5_25))) (y43) ((ey44)) (y45) ((ey46)) (y47) ((ey48)) (wc495_31) ((funext (hA41 31 rfl)).trans (ewc495_31)) (wc495_32) ((funext (hA41 32 rfl)).trans (ewc495_32)) (wq49) (ewq50) (show (0) = 0 ∨ (0) = 1 by first | exact q_45 | omega) (show (0) = 1 → (u5_25) ≤ (yc495_5_25) ∧ (yc495_5_25) ≤ a1 by first | exact q_1625 b34 jc495_0 r3 r36 | omega) (show 0 ≤ (y47) ∧ (y47) ≤ 131072 from r53) (show LTA (LTF ((w14)) ((u5_25)) (a1) ((u5_29)) ((u5_10)) GG) ((0)) ((y43)) ((y45)) ((yc495_5_25)) (sc ((wq49)) 0 ((y47))) ((yc495_5_10)) ((wc495_31)) ((wc495_32)) by assumption))
                      · have hnil : sc ((A 46)) 0 ((u5_39)) = [] := sc_nil (by omega)
                        refine Ew_of (pcₚ := 501) (fun _ => x_aload_n rfl lc495_0) ?_
                        refine Ew_of (pcₚ := 502) (fun _ => x_aload_n rfl lc495_0) ?_
                        refine w_gI H (o := 5) (w := yc495_5_25) rfl (H.perm 5 rfl) rfl rfl rfl (fun _ => rfl) (eyc495_5_25) ?_
                        refine Ew_of (pcₚ := 507) (fun _ => x_iload rfl lc495_12) ?_
                        refine Ew_of (pcₚ := 509) (fun _ => x_iload rfl lc495_9) ?_
                        refine w_inv H (o := 5) rfl rfl rfl (H.perm 5 rfl) rfl rfl (by rfl) (M273 H (yc495_5_10) ((eyc495_5_10)) (u5_39) ((((((((hS_c495 5 39 rfl).trans (hS_c428 5 39 rfl)).trans (hS_c408 5 39 rfl)).trans (hS13 5 39 rfl)).trans (hS_c296 5 39 rfl)).trans (hS_c270 5 39 rfl)).trans (eu5_39))) (w14) ((funext (hA_c495 14 rfl)).trans ((funext (hA_c428 14 rfl)).trans ((funext (hA_c408 14 rfl)).trans ((funext (hA14 14 rfl)).trans ((funext (hA_c296 14 rfl)).trans ((funext (hA_c270 14 rfl)).trans (ew14))))))) (wc495_31) (ewc495_31) (wc495_32) (ewc495_32) (A 46) ((funext (hA_c495 46 rfl)).trans ((funext (hA_c428 46 rfl)).trans ((funext (hA_c408 46 rfl)).trans ((funext (hA14 46 rfl)).trans ((funext (hA_c296 46 rfl)).trans (funext (hA_c270 46 rfl))))))) (G2_) (show inr (yc495_5_25) from q_286 r36) (show inr (((u5_25 + tc270_0) + q10)) from q_1623 b34 h1 jc270_0 jc495_0 r1 r3) (show inr (q9) by omega) (show ∀ i, 0 ≤ i → i < 256 → ((wc495_31)) i = (G2_) i by assumption) (show 0 ≤ (yc495_5_25) ∧ (yc495_5_25) ≤ 65536 ∧ 0 ≤ (((u5_25 + tc270_0) + q10)) ∧ (((u5_25 + tc270_0) + q10)) ≤ 65536 from q_1626 b34 h1 jc495_0 r1 r36) (show 0 ≤ (q9) ∧ (u5_39) + (q9) ≤ 131072 by omega) (show 0 ≤ (u5_39) from q_1603 r5) (show 0 ≤ (yc495_5_10) from q_1620 r35) (show fl ((wc495_32)) (p2 ((yc495_5_10))) = CELS ((G2_)) ((yc495_5_10)) by assumption) (fun z59 σ F55 A56 H hS57 hA58 y60 ey61 wq62 ewq63 pz59_0 pz59_1 pz59_2 pz59_3 => ⟨rretB rfl pz59_0, ?_⟩))
                        have r64 : (0 : Int) ≤ y60 ∧ y60 ≤ 131072 := rngE (show (0 : Int) ≤ F55 5 39 ∧ F55 5 39 ≤ 131072 from H.frng 5 39) (show F55 5 39 = y60 from (ey61))
                        have hdc5 := pz59_2
                        rw [hnil] at hdc5
                        refine w_ifne (t := 541) rfl rfl (show inr (z59) from q_138 pz59_0) (fun b65 => ?_) (fun b65 => ?_)
                        · refine Ew_of (pcₚ := 542) (fun _ => x_aload_n rfl lc495_0) ?_
                          refine Ew_of (pcₚ := 544) (fun _ => x_iload rfl lc495_12) ?_
                          refine w_pI H (o := 5) rfl rfl (H.perm 5 rfl) rfl rfl rfl (fun _ => rfl) rfl (show (0 : Int) ≤ ((u5_25 + tc270_0) + q10) ∧ ((u5_25 + tc270_0) + q10) ≤ 65536 from q_1624 b34 h1 jc495_0 r1 r36) (fun σ H => ?_)
                          refine Ew_of (pcₚ := 548) (fun _ => x_iconst rfl) ?_
                          have r66 : (0 : Int) ≤ F 5 30 ∧ F 5 30 ≤ 20 := rngE (show (0 : Int) ≤ (updF F55 5 25 (((u5_25 + tc270_0) + q10))) 5 30 ∧ (updF F55 5 25 (((u5_25 + tc270_0) + q10))) 5 30 ≤ 20 from H.frng 5 30) (show (updF F55 5 25 (((u5_25 + tc270_0) + q10))) 5 30 = F 5 30 from (((((((hS57 5 30 rfl).trans (hS_c495 5 30 rfl)).trans (hS_c428 5 30 rfl)).trans (hS_c408 5 30 rfl)).trans (hS13 5 30 rfl)).trans (hS_c296 5 30 rfl)).trans (hS_c270 5 30 rfl)))
                          have r67 : (0 : Int) ≤ F 5 31 ∧ F 5 31 ≤ 65536 := rngE (show (0 : Int) ≤ (updF F55 5 25 (((u5_25 + tc270_0) + q10))) 5 31 ∧ (updF F55 5 25 (((u5_25 + tc270_0) + q10))) 5 31 ≤ 65536 from H.frng 5 31) (show (updF F55 5 25 (((u5_25 + tc270_0) + q10))) 5 31 = F 5 31 from (((((((hS57 5 31 rfl).trans (hS_c495 5 31 rfl)).trans (hS_c428 5 31 rfl)).trans (hS_c408 5 31 rfl)).trans (hS13 5 31 rfl)).trans (hS_c296 5 31 rfl)).trans (hS_c270 5 31 rfl)))
                          have : LTA (LTF ((w14)) ((u5_25)) ((a1)) ((u5_29)) ((u5_10)) GG) ((1)) ((F 5 30)) ((F 5 31)) ((((u5_25 + tc270_0) + q10))) (sc ((wq62)) 0 ((y60))) ((yc495_5_10)) ((wc495_31)) ((wc495_32)) := by first | exact LTA_y (hL5.trans (LT3_y (ST_1y (by omega) (DCA_1 hdc5 (by omega))))) (by omega) rfl rfl rfl hrc5 | exact LTA_y (hL5.trans (LT3_y (by rw [STF_l1 (by omega)]; exact hs7 (by omega)))) (by omega) rfl rfl rfl hrc5
                          exact w_ireturn rfl (k (1) σ _ _ H (SF_upd (SF_trans (SF_trans (SF_trans (SF_trans (SF_upd (SF_trans (SF_trans (SF_trans (SF_refl) hS_c270 (any_sub rfl)) hS_c296 (any_sub rfl)) hS13 (any_sub rfl)) rfl) hS_c408 (any_sub rfl)) hS_c428 (any_sub rfl)) hS_c495 (any_sub rfl)) hS57 (any_sub rfl)) rfl) (SA_trans (SA_trans (SA_trans (SA_trans (SA_trans (SA_trans (SA_trans (SA_refl) hA_c270 (any_subA rfl)) hA_c296 (any_subA rfl)) hA14 (any_subA rfl)) hA_c408 (any_subA rfl)) hA_c428 (any_subA rfl)) hA_c495 (any_subA rfl)) hA58 (any_subA rfl)) (yc495_5_10) (((hS57 5 10 rfl).trans (eyc495_5_10))) (((u5_25 + tc270_0) + q10)) (rfl) (F 5 30) ((((((((hS57 5 30 rfl).trans (hS_c495 5 30 rfl)).trans (hS_c428 5 30 rfl)).trans (hS_c408 5 30 rfl)).trans (hS13 5 30 rfl)).trans (hS_c296 5 30 rfl)).trans (hS_c270 5 30 rfl))) (F 5 31) ((((((((hS57 5 31 rfl).trans (hS_c495 5 31 rfl)).trans (hS_c428 5 31 rfl)).trans (hS_c408 5 31 rfl)).trans (hS13 5 31 rfl)).trans (hS_c296 5 31 rfl)).trans (hS_c270 5 31 rfl))) (y60) ((ey61)) (wc495_31) ((funext (hA58 31 rfl)).trans (ewc495_31)) (wc495_32) ((funext (hA58 32 rfl)).trans (ewc495_32)) (wq62) (ewq63) (show (1) = 0 ∨ (1) = 1 by first | exact q_49 | omega) (show (1) = 1 → (u5_25) ≤ (((u5_25 + tc270_0) + q10)) ∧ (((u5_25 + tc270_0) + q10)) ≤ a1 by omega) (show 0 ≤ (y60) ∧ (y60) ≤ 131072 from r64) (show LTA (LTF ((w14)) ((u5_25)) (a1) ((u5_29)) ((u5_10)) GG) ((1)) ((F 5 30)) ((F 5 31)) ((((u5_25 + tc270_0) + q10))) (sc ((wq62)) 0 ((y60))) ((yc495_5_10)) ((wc495_31)) ((wc495_32)) by assumption))
                        · refine Ew_of (pcₚ := 516) (fun _ => x_aload_n rfl lc495_0) ?_
                          refine Ew_of (pcₚ := 518) (fun _ => x_bipush (z := 14) rfl (by decide)) ?_
                          refine Ew_of (pcₚ := 519) (fun _ => x_aload_n rfl lc495_0) ?_
                          refine w_gI H (o := 5) (w := yc495_5_25) rfl (H.perm 5 rfl) rfl rfl rfl (fun _ => rfl) ((hS57 5 25 rfl).trans (eyc495_5_25)) ?_
                          refine w_inv H (o := 5) rfl rfl rfl (H.perm 5 rfl) rfl rfl (by rfl) (M282 H (show inr (14) from q_1607) (show inr (yc495_5_25) from q_286 r36) (show 0 ≤ (14) ∧ (14) ≤ 20 from q_1606) (show 0 ≤ (yc495_5_25) ∧ (yc495_5_25) ≤ 65536 from r36) (fun z72 σ F68 A69 H hS70 hA71 y73 ey74 y75 ey76 pz72_0 pz72_1 pz72_2 pz72_3 => ⟨rretB rfl pz72_0, ?_⟩))
                          have r77 : (0 : Int) ≤ y73 ∧ y73 ≤ 20 := rngE (show (0 : Int) ≤ F68 5 30 ∧ F68 5 30 ≤ 20 from H.frng 5 30) (show F68 5 30 = y73 from (ey74))
                          have r78 : (0 : Int) ≤ y75 ∧ y75 ≤ 65536 := rngE (show (0 : Int) ≤ F68 5 31 ∧ F68 5 31 ≤ 65536 from H.frng 5 31) (show F68 5 31 = y75 from (ey76))
                          have : LTA (LTF ((w14)) ((u5_25)) ((a1)) ((u5_29)) ((u5_10)) GG) ((z72)) ((y73)) ((y75)) ((yc495_5_25)) (sc ((wq62)) 0 ((y60))) ((yc495_5_10)) ((wc495_31)) ((wc495_32)) := LTA_f (hL5.trans (LT3_f (ST_1f (by omega) (DCA_0 hdc5 (by omega))))) (by decide) (by omega) (by omega) (by omega)
                          exact w_ireturn rfl (k (z72) σ _ _ H (SF_trans (SF_trans (SF_trans (SF_trans (SF_trans (SF_upd (SF_trans (SF_trans (SF_trans (SF_refl) hS_c270 (any_sub rfl)) hS_c296 (any_sub rfl)) hS13 (any_sub rfl)) rfl) hS_c408 (any_sub rfl)) hS_c428 (any_sub rfl)) hS_c495 (any_sub rfl)) hS57 (any_sub rfl)) hS70 (any_sub rfl)) (SA_trans (SA_trans (SA_trans (SA_trans (SA_trans (SA_trans (SA_trans (SA_trans (SA_refl) hA_c270 (any_subA rfl)) hA_c296 (any_subA rfl)) hA14 (any_subA rfl)) hA_c408 (any_subA rfl)) hA_c428 (any_subA rfl)) hA_c495 (any_subA rfl)) hA58 (any_subA rfl)) hA71 (any_subA rfl)) (yc495_5_10) ((((hS70 5 10 rfl).trans (hS57 5 10 rfl)).trans (eyc495_5_10))) (yc495_5_25) ((((hS70 5 25 rfl).trans (hS57 5 25 rfl)).trans (eyc495_5_25))) (y73) ((ey74)) (y75) ((ey76)) (y60) (((hS70 5 39 rfl).trans (ey61))) (wc495_31) ((funext (hA71 31 rfl)).trans ((funext (hA58 31 rfl)).trans (ewc495_31))) (wc495_32) ((funext (hA71 32 rfl)).trans ((funext (hA58 32 rfl)).trans (ewc495_32))) (wq62) ((funext (hA71 46 rfl)).trans (ewq63)) (show (z72) = 0 ∨ (z72) = 1 from pz72_0) (show (z72) = 1 → (u5_25) ≤ (yc495_5_25) ∧ (yc495_5_25) ≤ a1 from q_1627 b34 jc495_0 pz72_1 r3 r36) (show 0 ≤ (y60) ∧ (y60) ≤ 131072 from r64) (show LTA (LTF ((w14)) ((u5_25)) (a1) ((u5_29)) ((u5_10)) GG) ((z72)) ((y73)) ((y75)) ((yc495_5_25)) (sc ((wq62)) 0 ((y60))) ((yc495_5_10)) ((wc495_31)) ((wc495_32)) by assumption))
                    refine Ew_of (pcₚ := 457) (fun _ => x_iload_n rfl (rk_o (lc428_3) rfl rfl)) ?_
                    refine Ew_of (pcₚ := 458) (fun _ => x_iconst rfl) ?_
                    refine w_icmpne (t := 495) rfl rfl (show inr ((v7 % 4)) from q_1628 b9) (show inr (2) from q_122) (fun b79 => ?_) (fun b79 => ?_)
                    · have : LT5 (LTF ((w14)) ((u5_25)) ((a1)) ((u5_29)) ((u5_10)) GG) ((w14)) (((u5_25 + tc270_0))) ((((u5_25 + tc270_0) + q10))) ((((v8 / 4) % 4))) ((q9)) ((u5_10)) ((w31)) ((w32)) := by first | exact LT5_k (hLT2.trans (LT2_k (by omega) (show ¬ ((u5_29) < (q9) ∨ 0 < (((v8 / 4) % 4)) ∧ (q9) < 3 * (((q9) + 3) / 4)) by omega) (by omega) (by omega) (by omega) (by omega) (by omega))) hrco (by omega) | exact LT5_d hLT2 (by omega) (show ¬ ((u5_29) < (q9) ∨ 0 < (((v8 / 4) % 4)) ∧ (q9) < 3 * (((q9) + 3) / 4)) by omega) (by omega) (by omega) (by omega) (by omega) pzMISS_3 (by omega) (pzMISS_2 (by omega)) (pzMISS_4 (by omega))
                      exact hc495  _ σ _ _  (rk_o (lc428_0) rfl rfl) (rk_o (lc428_4) rfl rfl) (rk_o (lc428_9) rfl rfl) (rk_o (lc428_11) rfl rfl) (rk_s) H (SF_refl) (SA_refl) (u5_10) (((((((hS_c428 5 10 rfl).trans (hS_c408 5 10 rfl)).trans (hS13 5 10 rfl)).trans (hS_c296 5 10 rfl)).trans (hS_c270 5 10 rfl)).trans (eu5_10))) ((u5_25 + tc270_0)) (((hS_c428 5 25 rfl).trans (hS_c408 5 25 rfl))) (w31) ((funext (hA_c428 31 rfl)).trans ((funext (hA_c408 31 rfl)).trans ((funext (hA14 31 rfl)).trans ((funext (hA_c296 31 rfl)).trans ((funext (hA_c270 31 rfl)).trans (ew31)))))) (w32) ((funext (hA_c428 32 rfl)).trans ((funext (hA_c408 32 rfl)).trans ((funext (hA14 32 rfl)).trans ((funext (hA_c296 32 rfl)).trans ((funext (hA_c270 32 rfl)).trans (ew32)))))) (show ((u5_25 + tc270_0)) ≤ ((u5_25 + tc270_0)) ∧ ((u5_25 + tc270_0)) ≤ (((u5_25 + tc270_0) + q10)) by omega) (show LT5 (LTF ((w14)) ((u5_25)) ((a1)) ((u5_29)) ((u5_10)) GG) ((w14)) (((u5_25 + tc270_0))) ((((u5_25 + tc270_0) + q10))) ((((v8 / 4) % 4))) ((q9)) ((u5_10)) ((w31)) ((w32)) by assumption)
                    · refine Ew_of (pcₚ := 462) (fun _ => x_aload_n rfl (rk_o (lc428_0) rfl rfl)) ?_
                      refine Ew_of (pcₚ := 463) (fun _ => x_aload_n rfl (rk_o (lc428_0) rfl rfl)) ?_
                      refine w_gI H (o := 5) (w := (u5_25 + tc270_0)) rfl (H.perm 5 rfl) rfl rfl rfl (fun _ => rfl) ((hS_c428 5 25 rfl).trans (hS_c408 5 25 rfl)) ?_
                      refine Ew_of (pcₚ := 468) (fun _ => x_iload rfl rk_s) ?_
                      refine w_inv H (o := 5) rfl rfl rfl (H.perm 5 rfl) rfl rfl (by rfl) (M271 H (w14) ((funext (hA_c428 14 rfl)).trans ((funext (hA_c408 14 rfl)).trans ((funext (hA14 14 rfl)).trans ((funext (hA_c296 14 rfl)).trans ((funext (hA_c270 14 rfl)).trans (ew14)))))) (show inr ((u5_25 + tc270_0)) from q_1629 b10 h1 jc270_0 r1 r3) (show inr (((u5_25 + tc270_0) + q10)) by omega) (show 0 ≤ ((u5_25 + tc270_0)) ∧ ((u5_25 + tc270_0)) ≤ 65536 ∧ 0 ≤ (((u5_25 + tc270_0) + q10)) ∧ (((u5_25 + tc270_0) + q10)) ≤ 65536 by omega) (fun z84 σ F80 A81 H hS82 hA83 y85 ey86 wq87 ewq88 wq89 ewq90 pz84_0 pz84_1 pz84_2 pz84_3 pz84_4 => ⟨rfl, ?_⟩))
                      have r91 : (0 : Int) ≤ y85 ∧ y85 ≤ 11 := rngE (show (0 : Int) ≤ F80 5 10 ∧ F80 5 10 ≤ 11 from H.frng 5 10) (show F80 5 10 = y85 from (ey86))
                      refine Ew_of (pcₚ := 473) (fun _ => x_istore rfl) ?_
                      refine Ew_of (pcₚ := 475) (fun _ => x_iload rfl rk_s) ?_
                      refine w_ifge (t := 489) rfl rfl (show inr (z84) from pz84_0) (fun b92 => ?_) (fun b92 => ?_)
                      · refine Ew_of (pcₚ := 490) (fun _ => x_aload_n rfl (rk_o (rk_o (lc428_0) rfl rfl) rfl rfl)) ?_
                        refine Ew_of (pcₚ := 492) (fun _ => x_iload rfl rk_s) ?_
                        refine w_pI H (o := 5) rfl rfl (H.perm 5 rfl) rfl rfl rfl (fun _ => rfl) rfl (show (0 : Int) ≤ z84 ∧ z84 ≤ 65536 from q_1630 b34 b92 h1 pz84_1 pz84_2 r1) (fun σ H => ?_)
                        have : LT5 (LTF ((w14)) ((u5_25)) ((a1)) ((u5_29)) ((u5_10)) GG) ((w14)) ((z84)) ((((u5_25 + tc270_0) + q10))) ((((v8 / 4) % 4))) ((q9)) ((y85)) ((wq87)) ((wq89)) := by first | exact LT5_k (hLT2.trans (LT2_k (by omega) (show ¬ ((u5_29) < (q9) ∨ 0 < (((v8 / 4) % 4)) ∧ (q9) < 3 * (((q9) + 3) / 4)) by omega) (by omega) (by omega) (by omega) (by omega) (by omega))) hrco (by omega) | exact LT5_d hLT2 (by omega) (show ¬ ((u5_29) < (q9) ∨ 0 < (((v8 / 4) % 4)) ∧ (q9) < 3 * (((q9) + 3) / 4)) by omega) (by omega) (by omega) (by omega) (by omega) pz84_3 (by omega) (pz84_2 (by omega)) (pz84_4 (by omega))
                        exact hc495  _ σ _ _  (rk_o (rk_o (lc428_0) rfl rfl) rfl rfl) (rk_o (rk_o (lc428_4) rfl rfl) rfl rfl) (rk_o (rk_o (lc428_9) rfl rfl) rfl rfl) (rk_o (rk_o (lc428_11) rfl rfl) rfl rfl) (rk_o (rk_s) rfl rfl) H (SF_upd (SF_trans (SF_refl) hS82 (any_sub rfl)) rfl) (SA_trans (SA_refl) hA83 (any_subA rfl)) (y85) ((ey86)) (z84) (rfl) (wq87) (ewq88) (wq89) (ewq90) (show ((u5_25 + tc270_0)) ≤ (z84) ∧ (z84) ≤ (((u5_25 + tc270_0) + q10)) from q_1631 b92 jc270_0 pz84_1 pz84_2 r3) (show LT5 (LTF ((w14)) ((u5_25)) ((a1)) ((u5_29)) ((u5_10)) GG) ((w14)) ((z84)) ((((u5_25 + tc270_0) + q10))) ((((v8 / 4) % 4))) ((q9)) ((y85)) ((wq87)) ((wq89)) by assumption)
                      · refine Ew_of (pcₚ := 479) (fun _ => x_aload_n rfl (rk_o (rk_o (lc428_0) rfl rfl) rfl rfl)) ?_
                        refine Ew_of (pcₚ := 481) (fun _ => x_bipush (z := 12) rfl (by decide)) ?_
                        refine Ew_of (pcₚ := 482) (fun _ => x_aload_n rfl (rk_o (rk_o (lc428_0) rfl rfl) rfl rfl)) ?_
                        refine w_gI H (o := 5) (w := (u5_25 + tc270_0)) rfl (H.perm 5 rfl) rfl rfl rfl (fun _ => rfl) (((hS82 5 25 rfl).trans (hS_c428 5 25 rfl)).trans (hS_c408 5 25 rfl)) ?_
                        refine w_inv H (o := 5) rfl rfl rfl (H.perm 5 rfl) rfl rfl (by rfl) (M282 H (show inr (12) from q_599) (show inr ((u5_25 + tc270_0)) from q_1629 b10 h1 jc270_0 r1 r3) (show 0 ≤ (12) ∧ (12) ≤ 20 from q_1154) (show 0 ≤ ((u5_25 + tc270_0)) ∧ ((u5_25 + tc270_0)) ≤ 65536 by omega) (fun z97 σ F93 A94 H hS95 hA96 y98 ey99 y100 ey101 pz97_0 pz97_1 pz97_2 pz97_3 => ⟨rretB rfl pz97_0, ?_⟩))
                        have r102 : (0 : Int) ≤ y98 ∧ y98 ≤ 20 := rngE (show (0 : Int) ≤ F93 5 30 ∧ F93 5 30 ≤ 20 from H.frng 5 30) (show F93 5 30 = y98 from (ey99))
                        have r103 : (0 : Int) ≤ y100 ∧ y100 ≤ 65536 := rngE (show (0 : Int) ≤ F93 5 31 ∧ F93 5 31 ≤ 65536 from H.frng 5 31) (show F93 5 31 = y100 from (ey101))
                        have hBb : ∀ i, (0 : Int) ≤ (w14) i ∧ (w14) i ≤ 255 := fun i => by have h1 : (0 : Int) ≤ A94 14 i ∧ A94 14 i ≤ 255 := H.arng 14 i; rw [show A94 14 = w14 from (funext (hA96 14 rfl)).trans ((funext (hA83 14 rfl)).trans ((funext (hA_c428 14 rfl)).trans ((funext (hA_c408 14 rfl)).trans ((funext (hA14 14 rfl)).trans ((funext (hA_c296 14 rfl)).trans ((funext (hA_c270 14 rfl)).trans (ew14)))))))] at h1; exact h1
                        have : LTA (LTF ((w14)) ((u5_25)) ((a1)) ((u5_29)) ((u5_10)) GG) ((z97)) ((y98)) ((y100)) (((u5_25 + tc270_0))) (sc ((A 46)) 0 ((u5_39))) ((y85)) ((wq87)) ((wq89)) := LTA_f (hLT2.trans (LT2_12 (p := ((u5_25 + tc270_0))) (to := (((u5_25 + tc270_0) + q10))) (by omega) (show ¬ ((u5_29) < (q9) ∨ 0 < (((v8 / 4) % 4)) ∧ (q9) < 3 * (((q9) + 3) / 4)) by omega) (by omega) (by omega) (by omega) (by omega) (DSA_n1 hBb (by omega) (by have h := pz84_3; rw [show z84 = -1 by omega] at h; exact h)))) (by decide) (by omega) (by omega) (by omega)
                        exact w_ireturn rfl (k (z97) σ _ _ H (SF_trans (SF_trans (SF_trans (SF_trans (SF_upd (SF_trans (SF_trans (SF_trans (SF_refl) hS_c270 (any_sub rfl)) hS_c296 (any_sub rfl)) hS13 (any_sub rfl)) rfl) hS_c408 (any_sub rfl)) hS_c428 (any_sub rfl)) hS82 (any_sub rfl)) hS95 (any_sub rfl)) (SA_trans (SA_trans (SA_trans (SA_trans (SA_trans (SA_trans (SA_trans (SA_refl) hA_c270 (any_subA rfl)) hA_c296 (any_subA rfl)) hA14 (any_subA rfl)) hA_c408 (any_subA rfl)) hA_c428 (any_subA rfl)) hA83 (any_subA rfl)) hA96 (any_subA rfl)) (y85) (((hS95 5 10 rfl).trans (ey86))) ((u5_25 + tc270_0)) (((((hS95 5 25 rfl).trans (hS82 5 25 rfl)).trans (hS_c428 5 25 rfl)).trans (hS_c408 5 25 rfl))) (y98) ((ey99)) (y100) ((ey101)) (u5_39) (((((((((hS95 5 39 rfl).trans (hS82 5 39 rfl)).trans (hS_c428 5 39 rfl)).trans (hS_c408 5 39 rfl)).trans (hS13 5 39 rfl)).trans (hS_c296 5 39 rfl)).trans (hS_c270 5 39 rfl)).trans (eu5_39))) (wq87) ((funext (hA96 31 rfl)).trans (ewq88)) (wq89) ((funext (hA96 32 rfl)).trans (ewq90)) (A 46) ((funext (hA96 46 rfl)).trans ((funext (hA83 46 rfl)).trans ((funext (hA_c428 46 rfl)).trans ((funext (hA_c408 46 rfl)).trans ((funext (hA14 46 rfl)).trans ((funext (hA_c296 46 rfl)).trans (funext (hA_c270 46 rfl)))))))) (show (z97) = 0 ∨ (z97) = 1 from pz97_0) (show (z97) = 1 → (u5_25) ≤ ((u5_25 + tc270_0)) ∧ ((u5_25 + tc270_0)) ≤ a1 from q_1618 b10 jc270_0 pz97_1) (show 0 ≤ (u5_39) ∧ (u5_39) ≤ 131072 from r5) (show LTA (LTF ((w14)) ((u5_25)) (a1) ((u5_29)) ((u5_10)) GG) ((z97)) ((y98)) ((y100)) (((u5_25 + tc270_0))) (sc ((A 46)) 0 ((u5_39))) ((y85)) ((wq87)) ((wq89)) by assumption))
                  · refine Ew_of (pcₚ := 440) (fun _ => x_aload_n rfl lc428_0) ?_
                    refine Ew_of (pcₚ := 442) (fun _ => x_bipush (z := 10) rfl (by decide)) ?_
                    refine Ew_of (pcₚ := 443) (fun _ => x_iload_n rfl lc428_1) ?_
                    refine w_inv H (o := 5) rfl rfl rfl (H.perm 5 rfl) rfl rfl (by rfl) (M282 H (show inr (10) from q_746) (show inr (a1) from h0) (show 0 ≤ (10) ∧ (10) ≤ 20 from q_1633) (show 0 ≤ (a1) ∧ (a1) ≤ 65536 from q_1632 b6 h1 r1) (fun z108 σ F104 A105 H hS106 hA107 y109 ey110 y111 ey112 pz108_0 pz108_1 pz108_2 pz108_3 => ⟨rretB rfl pz108_0, ?_⟩))
                    have r113 : (0 : Int) ≤ y109 ∧ y109 ≤ 20 := rngE (show (0 : Int) ≤ F104 5 30 ∧ F104 5 30 ≤ 20 from H.frng 5 30) (show F104 5 30 = y109 from (ey110))
                    have r114 : (0 : Int) ≤ y111 ∧ y111 ≤ 65536 := rngE (show (0 : Int) ≤ F104 5 31 ∧ F104 5 31 ≤ 65536 from H.frng 5 31) (show F104 5 31 = y111 from (ey112))
                    have : LTA (LTF ((w14)) ((u5_25)) ((a1)) ((u5_29)) ((u5_10)) GG) ((z108)) ((y109)) ((y111)) (((u5_25 + tc270_0))) (sc ((A 46)) 0 ((u5_39))) ((u5_10)) ((w31)) ((w32)) := LTA_f (hLT2.trans (LT2_10 (by omega) (show ¬ ((u5_29) < (q9) ∨ 0 < (((v8 / 4) % 4)) ∧ (q9) < 3 * (((q9) + 3) / 4)) by omega) (by omega) (by omega))) (by decide) (by omega) (by omega) (by omega)
                    exact w_ireturn rfl (k (z108) σ _ _ H (SF_trans (SF_trans (SF_trans (SF_upd (SF_trans (SF_trans (SF_trans (SF_refl) hS_c270 (any_sub rfl)) hS_c296 (any_sub rfl)) hS13 (any_sub rfl)) rfl) hS_c408 (any_sub rfl)) hS_c428 (any_sub rfl)) hS106 (any_sub rfl)) (SA_trans (SA_trans (SA_trans (SA_trans (SA_trans (SA_trans (SA_refl) hA_c270 (any_subA rfl)) hA_c296 (any_subA rfl)) hA14 (any_subA rfl)) hA_c408 (any_subA rfl)) hA_c428 (any_subA rfl)) hA107 (any_subA rfl)) (u5_10) ((((((((hS106 5 10 rfl).trans (hS_c428 5 10 rfl)).trans (hS_c408 5 10 rfl)).trans (hS13 5 10 rfl)).trans (hS_c296 5 10 rfl)).trans (hS_c270 5 10 rfl)).trans (eu5_10))) ((u5_25 + tc270_0)) ((((hS106 5 25 rfl).trans (hS_c428 5 25 rfl)).trans (hS_c408 5 25 rfl))) (y109) ((ey110)) (y111) ((ey112)) (u5_39) ((((((((hS106 5 39 rfl).trans (hS_c428 5 39 rfl)).trans (hS_c408 5 39 rfl)).trans (hS13 5 39 rfl)).trans (hS_c296 5 39 rfl)).trans (hS_c270 5 39 rfl)).trans (eu5_39))) (w31) ((funext (hA107 31 rfl)).trans ((funext (hA_c428 31 rfl)).trans ((funext (hA_c408 31 rfl)).trans ((funext (hA14 31 rfl)).trans ((funext (hA_c296 31 rfl)).trans ((funext (hA_c270 31 rfl)).trans (ew31))))))) (w32) ((funext (hA107 32 rfl)).trans ((funext (hA_c428 32 rfl)).trans ((funext (hA_c408 32 rfl)).trans ((funext (hA14 32 rfl)).trans ((funext (hA_c296 32 rfl)).trans ((funext (hA_c270 32 rfl)).trans (ew32))))))) (A 46) ((funext (hA107 46 rfl)).trans ((funext (hA_c428 46 rfl)).trans ((funext (hA_c408 46 rfl)).trans ((funext (hA14 46 rfl)).trans ((funext (hA_c296 46 rfl)).trans (funext (hA_c270 46 rfl))))))) (show (z108) = 0 ∨ (z108) = 1 from pz108_0) (show (z108) = 1 → (u5_25) ≤ ((u5_25 + tc270_0)) ∧ ((u5_25 + tc270_0)) ≤ a1 from q_1618 b10 jc270_0 pz108_1) (show 0 ≤ (u5_39) ∧ (u5_39) ≤ 131072 from r5) (show LTA (LTF ((w14)) ((u5_25)) (a1) ((u5_29)) ((u5_10)) GG) ((z108)) ((y109)) ((y111)) (((u5_25 + tc270_0))) (sc ((A 46)) 0 ((u5_39))) ((u5_10)) ((w31)) ((w32)) by assumption))
                refine w_icmpne (t := 428) rfl rfl (show inr ((v7 % 4)) from q_1628 b9) (show inr (3) from q_246) (fun b115 => ?_) (fun b115 => ?_)
                · exact hc428  _ σ _ _  (lc408_0) (lc408_1) (lc408_3) (lc408_4) (lc408_9) (lc408_10) (lc408_11) H (SF_refl) (SA_refl)   (show (((v7 % 4)) ≠ (3)) ∨ (((v7 % 4)) = (3) ∧ (u5_10) ≠ (0)) from q_1634 b115)
                · refine Ew_of (pcₚ := 414) (fun _ => x_aload_n rfl lc408_0) ?_
                  refine w_gI H (o := 5) (w := u5_10) rfl (H.perm 5 rfl) rfl rfl rfl (fun _ => rfl) (((((hS_c408 5 10 rfl).trans (hS13 5 10 rfl)).trans (hS_c296 5 10 rfl)).trans (hS_c270 5 10 rfl)).trans (eu5_10)) ?_
                  refine w_ifne (t := 428) rfl rfl (show inr (u5_10) from q_1389 r2) (fun b116 => ?_) (fun b116 => ?_)
                  · exact hc428  _ σ _ _  (lc408_0) (lc408_1) (lc408_3) (lc408_4) (lc408_9) (lc408_10) (lc408_11) H (SF_refl) (SA_refl)   (show (((v7 % 4)) ≠ (3)) ∨ (((v7 % 4)) = (3) ∧ (u5_10) ≠ (0)) from q_1635 b115 b116)
                  · refine Ew_of (pcₚ := 421) (fun _ => x_aload_n rfl lc408_0) ?_
                    refine Ew_of (pcₚ := 423) (fun _ => x_bipush (z := 13) rfl (by decide)) ?_
                    refine Ew_of (pcₚ := 424) (fun _ => x_iload_n rfl lc408_2) ?_
                    refine w_inv H (o := 5) rfl rfl rfl (H.perm 5 rfl) rfl rfl (by rfl) (M282 H (show inr (13) from q_350) (show inr (u5_25) from q_286 r3) (show 0 ≤ (13) ∧ (13) ≤ 20 from q_1636) (show 0 ≤ (u5_25) ∧ (u5_25) ≤ 65536 from r3) (fun z121 σ F117 A118 H hS119 hA120 y122 ey123 y124 ey125 pz121_0 pz121_1 pz121_2 pz121_3 => ⟨rretB rfl pz121_0, ?_⟩))
                    have r126 : (0 : Int) ≤ y122 ∧ y122 ≤ 20 := rngE (show (0 : Int) ≤ F117 5 30 ∧ F117 5 30 ≤ 20 from H.frng 5 30) (show F117 5 30 = y122 from (ey123))
                    have r127 : (0 : Int) ≤ y124 ∧ y124 ≤ 65536 := rngE (show (0 : Int) ≤ F117 5 31 ∧ F117 5 31 ≤ 65536 from H.frng 5 31) (show F117 5 31 = y124 from (ey125))
                    have : LTA (LTF ((w14)) ((u5_25)) ((a1)) ((u5_29)) ((u5_10)) GG) ((z121)) ((y122)) ((y124)) (((u5_25 + tc270_0))) (sc ((A 46)) 0 ((u5_39))) ((u5_10)) ((w31)) ((w32)) := LTA_f (hLT2.trans (LT2_13 (by omega) (show ¬ ((u5_29) < (q9) ∨ 0 < (((v8 / 4) % 4)) ∧ (q9) < 3 * (((q9) + 3) / 4)) by omega) ⟨by omega, by omega⟩)) (by decide) (by omega) (by omega) (by omega)
                    exact w_ireturn rfl (k (z121) σ _ _ H (SF_trans (SF_trans (SF_upd (SF_trans (SF_trans (SF_trans (SF_refl) hS_c270 (any_sub rfl)) hS_c296 (any_sub rfl)) hS13 (any_sub rfl)) rfl) hS_c408 (any_sub rfl)) hS119 (any_sub rfl)) (SA_trans (SA_trans (SA_trans (SA_trans (SA_trans (SA_refl) hA_c270 (any_subA rfl)) hA_c296 (any_subA rfl)) hA14 (any_subA rfl)) hA_c408 (any_subA rfl)) hA120 (any_subA rfl)) (u5_10) (((((((hS119 5 10 rfl).trans (hS_c408 5 10 rfl)).trans (hS13 5 10 rfl)).trans (hS_c296 5 10 rfl)).trans (hS_c270 5 10 rfl)).trans (eu5_10))) ((u5_25 + tc270_0)) (((hS119 5 25 rfl).trans (hS_c408 5 25 rfl))) (y122) ((ey123)) (y124) ((ey125)) (u5_39) (((((((hS119 5 39 rfl).trans (hS_c408 5 39 rfl)).trans (hS13 5 39 rfl)).trans (hS_c296 5 39 rfl)).trans (hS_c270 5 39 rfl)).trans (eu5_39))) (w31) ((funext (hA120 31 rfl)).trans ((funext (hA_c408 31 rfl)).trans ((funext (hA14 31 rfl)).trans ((funext (hA_c296 31 rfl)).trans ((funext (hA_c270 31 rfl)).trans (ew31)))))) (w32) ((funext (hA120 32 rfl)).trans ((funext (hA_c408 32 rfl)).trans ((funext (hA14 32 rfl)).trans ((funext (hA_c296 32 rfl)).trans ((funext (hA_c270 32 rfl)).trans (ew32)))))) (A 46) ((funext (hA120 46 rfl)).trans ((funext (hA_c408 46 rfl)).trans ((funext (hA14 46 rfl)).trans ((funext (hA_c296 46 rfl)).trans (funext (hA_c270 46 rfl)))))) (show (z121) = 0 ∨ (z121) = 1 from pz121_0) (show (z121) = 1 → (u5_25) ≤ ((u5_25 + tc270_0)) ∧ ((u5_25 + tc270_0)) ≤ a1 from q_1618 b10 jc270_0 pz121_1) (show 0 ≤ (u5_39) ∧ (u5_39) ≤ 131072 from r5) (show LTA (LTF ((w14)) ((u5_25)) (a1) ((u5_29)) ((u5_10)) GG) ((z121)) ((y122)) ((y124)) (((u5_25 + tc270_0))) (sc ((A 46)) 0 ((u5_39))) ((u5_10)) ((w31)) ((w32)) by assumption))
              refine w_ifle (t := 408) rfl rfl (show inr (((v8 / 4) % 4)) from q_1619) (fun b128 => ?_) (fun b128 => ?_)
              · exact hc408  _ σ _ _  (rk_o (rk_o (rk_o (rk2_o (rk_o (lc296_0) rfl rfl) rfl rfl) rfl rfl) rfl rfl) rfl rfl) (rk_o (rk_o (rk_o (rk2_o (rk_o (lc296_1) rfl rfl) rfl rfl) rfl rfl) rfl rfl) rfl rfl) (rk_o (rk_o (rk_o (rk2_o (rk_o (lc296_2) rfl rfl) rfl rfl) rfl rfl) rfl rfl) rfl rfl) (rk_o (rk_o (rk_o (rk2_o (rk_o (lc296_3) rfl rfl) rfl rfl) rfl rfl) rfl rfl) rfl rfl) (rk_o (rk_o (rk_o (rk2_o (rk_o (lc296_4) rfl rfl) rfl rfl) rfl rfl) rfl rfl) rfl rfl) (rk_o (rk_o (rk_s) rfl rfl) rfl rfl) (rk_o (rk_s) rfl rfl) (rk_s) H (SF_refl) (SA_refl)   (show ((((v8 / 4) % 4)) ≤ (0)) ∨ ((((v8 / 4) % 4)) > (0) ∧ (q9) ≥ ((3 * ((q9 + 3) / 4)))) from q_1637 b128)
              · refine Ew_of (pcₚ := 393) (fun _ => x_iload rfl (rk_o (rk_o (rk_s) rfl rfl) rfl rfl)) ?_
                refine Ew_of (pcₚ := 394) (fun _ => x_iconst rfl) ?_
                refine Ew_of (pcₚ := 396) (fun _ => x_iload rfl rk_s) ?_
                refine w_imul rfl ?_
                refine w_icmpge (t := 408) rfl rfl (show inr (q9) by omega) (show inr ((3 * ((q9 + 3) / 4))) by omega) (fun b129 => ?_) (fun b129 => ?_)
                · exact hc408  _ σ _ _  (rk_o (rk_o (rk_o (rk2_o (rk_o (lc296_0) rfl rfl) rfl rfl) rfl rfl) rfl rfl) rfl rfl) (rk_o (rk_o (rk_o (rk2_o (rk_o (lc296_1) rfl rfl) rfl rfl) rfl rfl) rfl rfl) rfl rfl) (rk_o (rk_o (rk_o (rk2_o (rk_o (lc296_2) rfl rfl) rfl rfl) rfl rfl) rfl rfl) rfl rfl) (rk_o (rk_o (rk_o (rk2_o (rk_o (lc296_3) rfl rfl) rfl rfl) rfl rfl) rfl rfl) rfl rfl) (rk_o (rk_o (rk_o (rk2_o (rk_o (lc296_4) rfl rfl) rfl rfl) rfl rfl) rfl rfl) rfl rfl) (rk_o (rk_o (rk_s) rfl rfl) rfl rfl) (rk_o (rk_s) rfl rfl) (rk_s) H (SF_refl) (SA_refl)   (show ((((v8 / 4) % 4)) ≤ (0)) ∨ ((((v8 / 4) % 4)) > (0) ∧ (q9) ≥ ((3 * ((q9 + 3) / 4)))) from q_1638 b128 b129)
                · refine Ew_of (pcₚ := 401) (fun _ => x_aload_n rfl (rk_o (rk_o (rk_o (rk2_o (rk_o (lc296_0) rfl rfl) rfl rfl) rfl rfl) rfl rfl) rfl rfl)) ?_
                  refine Ew_of (pcₚ := 403) (fun _ => x_bipush (z := 11) rfl (by decide)) ?_
                  refine Ew_of (pcₚ := 404) (fun _ => x_iload_n rfl (rk_o (rk_o (rk_o (rk2_o (rk_o (lc296_2) rfl rfl) rfl rfl) rfl rfl) rfl rfl) rfl rfl)) ?_
                  refine w_inv H (o := 5) rfl rfl rfl (H.perm 5 rfl) rfl rfl (by rfl) (M282 H (show inr (11) from q_326) (show inr (u5_25) from q_286 r3) (show 0 ≤ (11) ∧ (11) ≤ 20 from q_1617) (show 0 ≤ (u5_25) ∧ (u5_25) ≤ 65536 from r3) (fun z134 σ F130 A131 H hS132 hA133 y135 ey136 y137 ey138 pz134_0 pz134_1 pz134_2 pz134_3 => ⟨rretB rfl pz134_0, ?_⟩))
                  have r139 : (0 : Int) ≤ y135 ∧ y135 ≤ 20 := rngE (show (0 : Int) ≤ F130 5 30 ∧ F130 5 30 ≤ 20 from H.frng 5 30) (show F130 5 30 = y135 from (ey136))
                  have r140 : (0 : Int) ≤ y137 ∧ y137 ≤ 65536 := rngE (show (0 : Int) ≤ F130 5 31 ∧ F130 5 31 ≤ 65536 from H.frng 5 31) (show F130 5 31 = y137 from (ey138))
                  have : LTA (LTF ((w14)) ((u5_25)) ((a1)) ((u5_29)) ((u5_10)) GG) ((z134)) ((y135)) ((y137)) (((u5_25 + tc270_0))) (sc ((A 46)) 0 ((u5_39))) ((u5_10)) ((w31)) ((w32)) := LTA_f (hLT2.trans (LT2_11 (by omega) (by omega))) (by decide) (by omega) (by omega) (by omega)
                  exact w_ireturn rfl (k (z134) σ _ _ H (SF_trans (SF_upd (SF_trans (SF_trans (SF_trans (SF_refl) hS_c270 (any_sub rfl)) hS_c296 (any_sub rfl)) hS13 (any_sub rfl)) rfl) hS132 (any_sub rfl)) (SA_trans (SA_trans (SA_trans (SA_trans (SA_refl) hA_c270 (any_subA rfl)) hA_c296 (any_subA rfl)) hA14 (any_subA rfl)) hA133 (any_subA rfl)) (u5_10) ((((((hS132 5 10 rfl).trans (hS13 5 10 rfl)).trans (hS_c296 5 10 rfl)).trans (hS_c270 5 10 rfl)).trans (eu5_10))) ((u5_25 + tc270_0)) ((hS132 5 25 rfl)) (y135) ((ey136)) (y137) ((ey138)) (u5_39) ((((((hS132 5 39 rfl).trans (hS13 5 39 rfl)).trans (hS_c296 5 39 rfl)).trans (hS_c270 5 39 rfl)).trans (eu5_39))) (w31) ((funext (hA133 31 rfl)).trans ((funext (hA14 31 rfl)).trans ((funext (hA_c296 31 rfl)).trans ((funext (hA_c270 31 rfl)).trans (ew31))))) (w32) ((funext (hA133 32 rfl)).trans ((funext (hA14 32 rfl)).trans ((funext (hA_c296 32 rfl)).trans ((funext (hA_c270 32 rfl)).trans (ew32))))) (A 46) ((funext (hA133 46 rfl)).trans ((funext (hA14 46 rfl)).trans ((funext (hA_c296 46 rfl)).trans (funext (hA_c270 46 rfl))))) (show (z134) = 0 ∨ (z134) = 1 from pz134_0) (show (z134) = 1 → (u5_25) ≤ ((u5_25 + tc270_0)) ∧ ((u5_25 + tc270_0)) ≤ a1 from q_1618 b10 jc270_0 pz134_1) (show 0 ≤ (u5_39) ∧ (u5_39) ≤ 131072 from r5) (show LTA (LTF ((w14)) ((u5_25)) (a1) ((u5_29)) ((u5_10)) GG) ((z134)) ((y135)) ((y137)) (((u5_25 + tc270_0))) (sc ((A 46)) 0 ((u5_39))) ((u5_10)) ((w31)) ((w32)) by assumption))
          · refine Ew_of (pcₚ := 310) (fun _ => x_aload_n rfl (rk_o (lc296_0) rfl rfl)) ?_
            refine Ew_of (pcₚ := 312) (fun _ => x_bipush (z := 10) rfl (by decide)) ?_
            refine Ew_of (pcₚ := 313) (fun _ => x_iload_n rfl (rk_o (lc296_1) rfl rfl)) ?_
            refine w_inv H (o := 5) rfl rfl rfl (H.perm 5 rfl) rfl rfl (by rfl) (M282 H (show inr (10) from q_746) (show inr (a1) from h0) (show 0 ≤ (10) ∧ (10) ≤ 20 from q_1633) (show 0 ≤ (a1) ∧ (a1) ≤ 65536 from q_1632 b6 h1 r1) (fun z145 σ F141 A142 H hS143 hA144 y146 ey147 y148 ey149 pz145_0 pz145_1 pz145_2 pz145_3 => ⟨rretB rfl pz145_0, ?_⟩))
            have r150 : (0 : Int) ≤ y146 ∧ y146 ≤ 20 := rngE (show (0 : Int) ≤ F141 5 30 ∧ F141 5 30 ≤ 20 from H.frng 5 30) (show F141 5 30 = y146 from (ey147))
            have r151 : (0 : Int) ≤ y148 ∧ y148 ≤ 65536 := rngE (show (0 : Int) ≤ F141 5 31 ∧ F141 5 31 ≤ 65536 from H.frng 5 31) (show F141 5 31 = y148 from (ey149))
            have : LTA (LTF ((w14)) ((u5_25)) ((a1)) ((u5_29)) ((u5_10)) GG) ((z145)) ((y146)) ((y148)) ((u5_25)) (sc ((A 46)) 0 ((u5_39))) ((u5_10)) ((w31)) ((w32)) := LTA_f (LTF_h (b := (tc270_0)) (by omega) hx2 (.inr ⟨by omega, hb5⟩) (by omega)) (by decide) (by omega) (by omega) (by omega)
            exact w_ireturn rfl (k (z145) σ _ _ H (SF_trans (SF_trans (SF_trans (SF_refl) hS_c270 (any_sub rfl)) hS_c296 (any_sub rfl)) hS143 (any_sub rfl)) (SA_trans (SA_trans (SA_trans (SA_refl) hA_c270 (any_subA rfl)) hA_c296 (any_subA rfl)) hA144 (any_subA rfl)) (u5_10) (((((hS143 5 10 rfl).trans (hS_c296 5 10 rfl)).trans (hS_c270 5 10 rfl)).trans (eu5_10))) (u5_25) (((((hS143 5 25 rfl).trans (hS_c296 5 25 rfl)).trans (hS_c270 5 25 rfl)).trans (eu5_25))) (y146) ((ey147)) (y148) ((ey149)) (u5_39) (((((hS143 5 39 rfl).trans (hS_c296 5 39 rfl)).trans (hS_c270 5 39 rfl)).trans (eu5_39))) (w31) ((funext (hA144 31 rfl)).trans ((funext (hA_c296 31 rfl)).trans ((funext (hA_c270 31 rfl)).trans (ew31)))) (w32) ((funext (hA144 32 rfl)).trans ((funext (hA_c296 32 rfl)).trans ((funext (hA_c270 32 rfl)).trans (ew32)))) (A 46) ((funext (hA144 46 rfl)).trans ((funext (hA_c296 46 rfl)).trans (funext (hA_c270 46 rfl)))) (show (z145) = 0 ∨ (z145) = 1 from pz145_0) (show (z145) = 1 → (u5_25) ≤ (u5_25) ∧ (u5_25) ≤ a1 from q_1639 h1) (show 0 ≤ (u5_39) ∧ (u5_39) ≤ 131072 from r5) (show LTA (LTF ((w14)) ((u5_25)) (a1) ((u5_29)) ((u5_10)) GG) ((z145)) ((y146)) ((y148)) ((u5_25)) (sc ((A 46)) 0 ((u5_39))) ((u5_10)) ((w31)) ((w32)) by assumption))
        refine w_icmpge (t := 283) rfl rfl (show inr (((v8 / 4) % 4)) from q_1619) (show inr (2) from q_122) (fun b152 => ?_) (fun b152 => ?_)
        · refine Ew_of (pcₚ := 285) (fun _ => x_iload rfl (rk_o (lc270_4) rfl rfl)) ?_
          refine Ew_of (pcₚ := 286) (fun _ => x_iconst rfl) ?_
          refine w_icmpne (t := 294) rfl rfl (show inr (((v8 / 4) % 4)) from q_1640 b152) (show inr (2) from q_122) (fun b153 => ?_) (fun b153 => ?_)
          · refine Ew_of (pcₚ := 296) (fun _ => x_bipush (z := 18) rfl (by decide)) ?_
            exact hc296 (18) _ σ _ _  (rk_o (lc270_0) rfl rfl) (rk_o (lc270_1) rfl rfl) (rk_o (lc270_2) rfl rfl) (rk_o (lc270_3) rfl rfl) (rk_o (lc270_4) rfl rfl) (rk_s) H (SF_refl) (SA_refl)   (show inr (18) from q_601) (show ((((v8 / 4) % 4)) ≥ (2) ∧ (((v8 / 4) % 4)) ≠ (2) ∧ (18) = (18)) ∨ ((((v8 / 4) % 4)) ≥ (2) ∧ (((v8 / 4) % 4)) = (2) ∧ (18) = (14)) ∨ ((((v8 / 4) % 4)) < (2) ∧ (18) = (10)) from q_1641 b152 b153)
          · refine Ew_of (pcₚ := 291) (fun _ => x_bipush (z := 14) rfl (by decide)) ?_
            refine Ew_of (pcₚ := 296) (fun _ => x_goto rfl rfl) ?_
            exact hc296 (14) _ σ _ _  (rk_o (lc270_0) rfl rfl) (rk_o (lc270_1) rfl rfl) (rk_o (lc270_2) rfl rfl) (rk_o (lc270_3) rfl rfl) (rk_o (lc270_4) rfl rfl) (rk_s) H (SF_refl) (SA_refl)   (show inr (14) from q_1607) (show ((((v8 / 4) % 4)) ≥ (2) ∧ (((v8 / 4) % 4)) ≠ (2) ∧ (14) = (18)) ∨ ((((v8 / 4) % 4)) ≥ (2) ∧ (((v8 / 4) % 4)) = (2) ∧ (14) = (14)) ∨ ((((v8 / 4) % 4)) < (2) ∧ (14) = (10)) from q_1642 b153)
        · refine Ew_of (pcₚ := 280) (fun _ => x_bipush (z := 10) rfl (by decide)) ?_
          refine Ew_of (pcₚ := 296) (fun _ => x_goto rfl rfl) ?_
          exact hc296 (10) _ σ _ _  (rk_o (lc270_0) rfl rfl) (rk_o (lc270_1) rfl rfl) (rk_o (lc270_2) rfl rfl) (rk_o (lc270_3) rfl rfl) (rk_o (lc270_4) rfl rfl) (rk_s) H (SF_refl) (SA_refl)   (show inr (10) from q_746) (show ((((v8 / 4) % 4)) ≥ (2) ∧ (((v8 / 4) % 4)) ≠ (2) ∧ (10) = (18)) ∨ ((((v8 / 4) % 4)) ≥ (2) ∧ (((v8 / 4) % 4)) = (2) ∧ (10) = (14)) ∨ ((((v8 / 4) % 4)) < (2) ∧ (10) = (10)) from q_1643 b152)
      refine w_icmpge (t := 266) rfl rfl (show inr (((v8 / 4) % 4)) from q_1619) (show inr (2) from q_122) (fun b154 => ?_) (fun b154 => ?_)
      · refine Ew_of (pcₚ := 268) (fun _ => x_iload rfl rk_s) ?_
        refine Ew_of (pcₚ := 269) (fun _ => x_iconst rfl) ?_
        refine w_iadd rfl ?_
        exact hc270 ((((v8 / 4) % 4) + 2)) _ σ _ _  (rk_o (rk_o (rk_o (rfl) rfl rfl) rfl rfl) rfl rfl) (rk_o (rk_o (rk_o (rfl) rfl rfl) rfl rfl) rfl rfl) (rk_o (rk_o (rk_s) rfl rfl) rfl rfl) (rk_o (rk_s) rfl rfl) (rk_s) H (SF_refl) (SA_refl)   (show inr ((((v8 / 4) % 4) + 2)) from q_1645 b154) (show ((((v8 / 4) % 4)) ≥ (2) ∧ ((((v8 / 4) % 4) + 2)) = ((((v8 / 4) % 4) + 2))) ∨ ((((v8 / 4) % 4)) < (2) ∧ ((((v8 / 4) % 4) + 2)) = (3)) from q_1644 b154)
      · refine Ew_of (pcₚ := 263) (fun _ => x_iconst rfl) ?_
        refine Ew_of (pcₚ := 270) (fun _ => x_goto rfl rfl) ?_
        exact hc270 (3) _ σ _ _  (rk_o (rk_o (rk_o (rfl) rfl rfl) rfl rfl) rfl rfl) (rk_o (rk_o (rk_o (rfl) rfl rfl) rfl rfl) rfl rfl) (rk_o (rk_o (rk_s) rfl rfl) rfl rfl) (rk_o (rk_s) rfl rfl) (rk_s) H (SF_refl) (SA_refl)   (show inr (3) from q_246) (show ((((v8 / 4) % 4)) ≥ (2) ∧ (3) = ((((v8 / 4) % 4) + 2))) ∨ ((((v8 / 4) % 4)) < (2) ∧ (3) = (3)) from q_1646 b154)
    · refine Ew_of (pcₚ := 61) (fun _ => x_iload rfl rk_s) ?_
      refine Ew_of (pcₚ := 62) (fun _ => x_iconst rfl) ?_
      refine w_irem rfl (show inr (((v8 / 4) % 4)) ∧ 0 ≤ ((v8 / 4) % 4) from q_1647) (show inr (2) ∧ 0 < 2 from q_1234) ?_
      have hc81 : ∀ (tc81_0 : Int), ∀ (ls : rO) (σ : rS) (F_c81 : hF) (A_c81 : hA) , rlook ls 0 = some (.ref (D 5)) → rlook ls 1 = some (I (a1)) → rlook ls 2 = some (I (u5_25)) → rlook ls 3 = some (I ((v7 % 4))) → HS σ0 σ D N F_c81 A_c81 → SF [] F F_c81 → SA [] A A_c81 → (inr (tc81_0)) → ((((((v8 / 4) % 4) % 2)) ≠ (0) ∧ (((v8 / 4) % 4)) ≠ (1) ∧ (tc81_0) = (3)) ∨ (((((v8 / 4) % 4) % 2)) ≠ (0) ∧ (((v8 / 4) % 4)) = (1) ∧ (tc81_0) = (2)) ∨ (((((v8 / 4) % 4) % 2)) = (0) ∧ (tc81_0) = (1))) → Ew 291 (d + 4) 81 ls [I (tc81_0)] σ c s Q := by
       as_aux_lemma =>
        intro tc81_0 ls σ F_c81 A_c81  lc81_0 lc81_1 lc81_2 lc81_3 H hS_c81 hA_c81   jc81_0 jc81_1
        refine Ew_of (pcₚ := 83) (fun _ => x_istore rfl) ?_
        obtain ⟨q5, hq5⟩ : ∃ q : Int, q = (tc81_0) := ⟨_, rfl⟩
        have hb5 : (tc81_0) = lhB (qx / 4 % 4) := by unfold lhB; split; (omega); (split); (omega); (omega)
        refine Ew_of (pcₚ := 84) (fun _ => x_iload_n rfl (rk_o (lc81_1) rfl rfl)) ?_
        refine Ew_of (pcₚ := 85) (fun _ => x_aload_n rfl (rk_o (lc81_0) rfl rfl)) ?_
        refine w_gI H (o := 5) (w := u5_25) rfl (H.perm 5 rfl) rfl rfl rfl (fun _ => rfl) ((hS_c81 5 25 rfl).trans (eu5_25)) ?_
        refine w_isub rfl ?_
        refine Ew_of (pcₚ := 91) (fun _ => x_iload rfl rk_s) ?_
        refine w_icmpge (t := 102) rfl rfl (show inr ((a1 - u5_25)) from q_1614 b6 h0 r3) (show inr (tc81_0) from jc81_0) (fun b155 => ?_) (fun b155 => ?_)
        · refine Ew_of (pcₚ := 103) (fun _ => x_aload_n rfl (rk_o (lc81_0) rfl rfl)) ?_
          refine Ew_of (pcₚ := 104) (fun _ => x_aload_n rfl (rk_o (lc81_0) rfl rfl)) ?_
          refine w_gI H (o := 5) (w := u5_25) rfl (H.perm 5 rfl) rfl rfl rfl (fun _ => rfl) ((hS_c81 5 25 rfl).trans (eu5_25)) ?_
          refine Ew_of (pcₚ := 109) (fun _ => x_iload rfl rk_s) ?_
          refine w_inv H (o := 5) rfl rfl rfl (H.perm 5 rfl) rfl rfl (by rfl) (M257 H (w14) ((funext (hA_c81 14 rfl)).trans (ew14)) (show inr (u5_25) from q_286 r3) (show inr (tc81_0) from jc81_0) (show 0 ≤ (u5_25) ∧ 0 ≤ (tc81_0) ∧ (tc81_0) ≤ 8 ∧ (u5_25) + (tc81_0) ≤ 65536 from q_1648 b155 h1 jc81_1 r1 r3) (fun z160 σ F156 A157 H hS158 hA159 pz160_0 pz160_1 pz160_2 pz160_3 pz160_4 pz160_5 pz160_6 pz160_7 pz160_8 pz160_9 => ⟨rfl, ?_⟩))
          have hN1 : z160 = nvl ((w14)) ((u5_25)) ((tc81_0) : Int).toNat := nmb_nn pz160_9 (by omega) pz160_0
          refine w_l2i rfl ?_
          refine Ew_of (pcₚ := 115) (fun _ => x_iload rfl rk_s) ?_
          refine Ew_of (pcₚ := 116) (fun _ => x_iconst rfl) ?_
          have hc126 : ∀ (tc126_0 : Int), ∀ (ls : rO) (σ : rS) (F_c126 : hF) (A_c126 : hA) , rlook ls 0 = some (.ref (D 5)) → rlook ls 1 = some (I (a1)) → rlook ls 2 = some (I (u5_25)) → rlook ls 3 = some (I ((v7 % 4))) → rlook ls 5 = some (I (tc81_0)) → HS σ0 σ D N F_c126 A_c126 → SF [] F156 F_c126 → SA [] A157 A_c126 → (inr (tc126_0)) → (((tc81_0) ≠ (1) ∧ (tc126_0) = (16)) ∨ ((tc81_0) = (1) ∧ (tc126_0) = (8))) → Ew 291 (d + 4) 126 ls [I (tc126_0), I (z160)] σ c s Q := by
           as_aux_lemma =>
            intro tc126_0 ls σ F_c126 A_c126  lc126_0 lc126_1 lc126_2 lc126_3 lc126_5 H hS_c126 hA_c126   jc126_0 jc126_1
            have hdv : 0 ≤ (z160) / (tc126_0) ∧ (z160) / (tc126_0) ≤ (z160) := ⟨Int.ediv_nonneg (by omega) (by omega), Int.ediv_le_self _ (by omega)⟩
            obtain ⟨qd, hqd⟩ : ∃ q : Int, q = (tc126_0) := ⟨_, rfl⟩
            have hd8 : (tc81_0) = 1 ∧ qd = 8 ∨ (tc81_0) ≠ 1 ∧ qd = 16 := by omega
            refine w_idiv rfl (show inr (z160) ∧ 0 ≤ z160 by omega) (show inr (tc126_0) ∧ 0 < tc126_0 from q_1649 jc126_0 jc126_1) ?_
            have hn6 : ((z160 / tc126_0)) = nvl ((w14)) ((u5_25)) ((tc81_0) : Int).toNat / qd := by rw [← hN1, hqd]
            refine Ew_of (pcₚ := 129) (fun _ => x_istore rfl) ?_
            refine Ew_of (pcₚ := 130) (fun _ => x_aload_n rfl (rk_o (lc126_0) rfl rfl)) ?_
            refine Ew_of (pcₚ := 131) (fun _ => x_dup rfl rfl) ?_
            refine w_gI H (o := 5) (w := u5_25) rfl (H.perm 5 rfl) rfl rfl rfl (fun _ => rfl) ((((hS_c126 5 25 rfl).trans (hS158 5 25 rfl)).trans (hS_c81 5 25 rfl)).trans (eu5_25)) ?_
            refine Ew_of (pcₚ := 136) (fun _ => x_iload rfl (rk_o (lc126_5) rfl rfl)) ?_
            refine w_iadd rfl ?_
            refine w_pI H (o := 5) rfl rfl (H.perm 5 rfl) rfl rfl rfl (fun _ => rfl) rfl (show (0 : Int) ≤ (u5_25 + tc81_0) ∧ (u5_25 + tc81_0) ≤ 65536 by omega) (fun σ H => ?_)
            have hLT : LTF ((w14)) ((u5_25)) ((a1)) ((u5_29)) ((u5_10)) GG = LT0 ((w14)) ((u5_25)) ((a1)) ((u5_29)) ((u5_10)) GG (((v7 % 4))) (qx / 4 % 4) ((tc81_0)) (((z160 / tc126_0))) := LTF_0 (by omega) hx2 (by omega) (by omega) rfl hb5 hn6 hd8
            rw [← hq5] at hLT
            refine Ew_of (pcₚ := 142) (fun _ => x_iload rfl rk_s) ?_
            refine Ew_of (pcₚ := 143) (fun _ => x_aload_n rfl (rk_o (lc126_0) rfl rfl)) ?_
            refine w_gI H (o := 5) (w := u5_29) rfl (H.perm 5 rfl) rfl rfl rfl (fun _ => rfl) ((((hS_c126 5 29 rfl).trans (hS158 5 29 rfl)).trans (hS_c81 5 29 rfl)).trans (eu5_29)) ?_
            refine w_icmple (t := 157) rfl rfl (show inr ((z160 / tc126_0)) by omega) (show inr (u5_29) from q_1569 r4) (fun b161 => ?_) (fun b161 => ?_)
            · refine Ew_of (pcₚ := 158) (fun _ => x_iload_n rfl (rk_o (lc126_3) rfl rfl)) ?_
              have hc167 : ∀ (tc167_0 : Int), ∀ (ls : rO) (σ : rS) (F_c167 : hF) (A_c167 : hA) , rlook ls 0 = some (.ref (D 5)) → rlook ls 1 = some (I (a1)) → rlook ls 3 = some (I ((v7 % 4))) → rlook ls 6 = some (I ((z160 / tc126_0))) → HS σ0 σ D N F_c167 A_c167 → SF [] (updF F_c126 5 25 ((u5_25 + tc81_0))) F_c167 → SA [] A_c126 A_c167 → (inr (tc167_0)) → ((((v7 % 4)) ≠ (0) ∧ (tc167_0) = (1)) ∨ (((v7 % 4)) = (0) ∧ (tc167_0) = ((z160 / tc126_0)))) → Ew 291 (d + 4) 167 ls [I (tc167_0)] σ c s Q := by
               as_aux_lemma =>
                intro tc167_0 ls σ F_c167 A_c167  lc167_0 lc167_1 lc167_3 lc167_6 H hS_c167 hA_c167   jc167_0 jc167_1
                refine Ew_of (pcₚ := 169) (fun _ => x_istore rfl) ?_
                have hfo : ((v7 % 4)) = 0 ∧ (tc167_0) = ((z160 / tc126_0)) ∨ ((v7 % 4)) ≠ 0 ∧ (tc167_0) = 1 := by omega
                refine Ew_of (pcₚ := 170) (fun _ => x_iload_n rfl (rk_o (lc167_1) rfl rfl)) ?_
                refine Ew_of (pcₚ := 171) (fun _ => x_aload_n rfl (rk_o (lc167_0) rfl rfl)) ?_
                refine w_gI H (o := 5) (w := (u5_25 + tc81_0)) rfl (H.perm 5 rfl) rfl rfl rfl (fun _ => rfl) (hS_c167 5 25 rfl) ?_
                refine w_isub rfl ?_
                refine Ew_of (pcₚ := 177) (fun _ => x_iload rfl rk_s) ?_
                refine w_icmpge (t := 188) rfl rfl (show inr ((a1 - (u5_25 + tc81_0))) by omega) (show inr (tc167_0) from jc167_0) (fun b162 => ?_) (fun b162 => ?_)
                · refine Ew_of (pcₚ := 189) (fun _ => x_iconst rfl) ?_
                  refine Ew_of (pcₚ := 191) (fun _ => x_istore rfl) ?_
                  have : (((v7 % 4)) = 0 ∧ sc ((A 46)) 0 (0) = sc ((w14)) (((u5_25 + tc81_0))) (((u5_25 + tc81_0)) + 0)) ∨ (((v7 % 4)) ≠ 0 ∧ sc ((A 46)) 0 (0) = List.replicate (0 : Int).toNat (((w14)) (((u5_25 + tc81_0))))) := by rcases (show ((v7 % 4)) = 0 ∨ ((v7 % 4)) ≠ 0 by omega) with z | z; (exact .inl ⟨z, by rw [sc_nil (f := (A 46)) (Int.le_refl 0), sc_nil (by omega)]⟩); (exact .inr ⟨z, by rw [sc_nil (f := (A 46)) (Int.le_refl 0)]; rfl⟩)
                  suffices hl191 : ∀ (m : Nat), ∀ (ls : rO) (σ : rS) (F_191 : hF) (A_191 : hA) (x191_8 : Int), rlook ls 0 = some (.ref (D 5)) → rlook ls 3 = some (I ((v7 % 4))) → rlook ls 6 = some (I ((z160 / tc126_0))) → rlook ls 7 = some (I (tc167_0)) → rlook ls 8 = some (I (x191_8)) → HS σ0 σ D N F_191 A_191 → SF [] F_c167 F_191 → SA [46] A_c167 A_191 → ∀ w191_46 : Int → Int, A_191 46 = w191_46 → (inr (x191_8)) → ((0) ≤ (x191_8)) → ((x191_8) ≤ (0) ∨ (x191_8) ≤ (((z160 / tc126_0)))) → ((((v7 % 4)) = 0 ∧ sc ((w191_46)) 0 ((x191_8)) = sc ((w14)) (((u5_25 + tc81_0))) (((u5_25 + tc81_0)) + (x191_8))) ∨ (((v7 % 4)) ≠ 0 ∧ sc ((w191_46)) 0 ((x191_8)) = List.replicate ((x191_8) : Int).toNat (((w14)) (((u5_25 + tc81_0)))))) → ((((z160 / tc126_0))) - (x191_8)).toNat = m → Ew 291 (d + 4) 191 ls [] σ c s Q from
                    hl191 _ _ σ _ _ (0) (rk_o (rk_o (lc167_0) rfl rfl) rfl rfl) (rk_o (rk_o (lc167_3) rfl rfl) rfl rfl) (rk_o (rk_o (lc167_6) rfl rfl) rfl rfl) (rk_o (rk_s) rfl rfl) (rk_s) H (SF_refl) (SA_refl)  (A 46) ((funext (hA_c167 46 rfl)).trans ((funext (hA_c126 46 rfl)).trans ((funext (hA159 46 rfl)).trans (funext (hA_c81 46 rfl))))) (show inr (0) from q_2) (show (0) ≤ (0) from q_1) (show (0) ≤ (0) ∨ (0) ≤ (((z160 / tc126_0))) from q_1650) (show (((v7 % 4)) = 0 ∧ sc ((A 46)) 0 ((0)) = sc ((w14)) (((u5_25 + tc81_0))) (((u5_25 + tc81_0)) + (0))) ∨ (((v7 % 4)) ≠ 0 ∧ sc ((A 46)) 0 ((0)) = List.replicate ((0) : Int).toNat (((w14)) (((u5_25 + tc81_0))))) by assumption) rfl
                  as_aux_lemma =>
                  intro m
                  induction m using Nat.strongRecOn with
                  | _ m ih191 =>
                    intro ls σ F_191 A_191 x191_8 l191_0 l191_3 l191_6 l191_7 l191_8 H hS_191 hA_191  w191_46 ew191_46 j191_0 j191_1 j191_2 j191_3 hm191
                    have j191_l : (((v7 % 4)) = 0 ∧ sc ((w191_46)) 0 ((x191_8)) = sc ((w14)) (((u5_25 + tc81_0))) (((u5_25 + tc81_0)) + (x191_8))) ∨ (((v7 % 4)) ≠ 0 ∧ sc ((w191_46)) 0 ((x191_8)) = List.replicate ((x191_8) : Int).toNat (((w14)) (((u5_25 + tc81_0))))) := by assumption
                    refine Ew_of (pcₚ := 193) (fun _ => x_iload rfl l191_8) ?_
                    refine Ew_of (pcₚ := 195) (fun _ => x_iload rfl l191_6) ?_
                    refine w_icmpge (t := 237) rfl rfl (show inr (x191_8) from j191_0) (show inr ((z160 / tc126_0)) from q_1651 b161 hdv r4) (fun b163 => ?_) (fun b163 => ?_)
                    · have hA : ((v7 % 4)) = 0 ∧ (tc167_0) = ((z160 / tc126_0)) ∧ sc ((w191_46)) 0 (((z160 / tc126_0))) = sc ((w14)) ((u5_25) + q5) ((u5_25) + q5 + ((z160 / tc126_0))) ∨ ((v7 % 4)) ≠ 0 ∧ (tc167_0) = 1 ∧ sc ((w191_46)) 0 (((z160 / tc126_0))) = List.replicate (((z160 / tc126_0)) : Int).toNat (((w14)) ((u5_25) + q5)) := by rw [show (u5_25) + q5 = ((u5_25 + tc81_0)) by omega, show ((z160 / tc126_0)) = (x191_8) by omega]; rcases j191_l with ⟨z, w⟩ | ⟨z, w⟩; (exact .inl ⟨z, by omega, w⟩); (exact .inr ⟨z, by omega, w⟩)
                      refine Ew_of (pcₚ := 238) (fun _ => x_aload_n rfl l191_0) ?_
                      refine Ew_of (pcₚ := 240) (fun _ => x_iload rfl l191_6) ?_
                      refine w_pI H (o := 5) rfl rfl (H.perm 5 rfl) rfl rfl rfl (fun _ => rfl) rfl (show (0 : Int) ≤ (z160 / tc126_0) ∧ (z160 / tc126_0) ≤ 131072 from q_1652 b161 hdv r4) (fun σ H => ?_)
                      refine Ew_of (pcₚ := 244) (fun _ => x_aload_n rfl l191_0) ?_
                      refine Ew_of (pcₚ := 245) (fun _ => x_dup rfl rfl) ?_
                      refine w_gI H (o := 5) (w := (u5_25 + tc81_0)) rfl (H.perm 5 rfl) rfl rfl rfl (fun _ => rfl) ((hS_191 5 25 rfl).trans (hS_c167 5 25 rfl)) ?_
                      refine Ew_of (pcₚ := 250) (fun _ => x_iload rfl l191_7) ?_
                      refine w_iadd rfl ?_
                      refine w_pI H (o := 5) rfl rfl (H.perm 5 rfl) rfl rfl rfl (fun _ => rfl) rfl (show (0 : Int) ≤ ((u5_25 + tc81_0) + tc167_0) ∧ ((u5_25 + tc81_0) + tc167_0) ≤ 65536 by omega) (fun σ H => ?_)
                      refine Ew_of (pcₚ := 255) (fun _ => x_iconst rfl) ?_
                      have r164 : (0 : Int) ≤ F 5 30 ∧ F 5 30 ≤ 20 := rngE (show (0 : Int) ≤ (updF (updF F_191 5 39 ((z160 / tc126_0))) 5 25 (((u5_25 + tc81_0) + tc167_0))) 5 30 ∧ (updF (updF F_191 5 39 ((z160 / tc126_0))) 5 25 (((u5_25 + tc81_0) + tc167_0))) 5 30 ≤ 20 from H.frng 5 30) (show (updF (updF F_191 5 39 ((z160 / tc126_0))) 5 25 (((u5_25 + tc81_0) + tc167_0))) 5 30 = F 5 30 from (((((hS_191 5 30 rfl).trans (hS_c167 5 30 rfl)).trans (hS_c126 5 30 rfl)).trans (hS158 5 30 rfl)).trans (hS_c81 5 30 rfl)))
                      have r165 : (0 : Int) ≤ F 5 31 ∧ F 5 31 ≤ 65536 := rngE (show (0 : Int) ≤ (updF (updF F_191 5 39 ((z160 / tc126_0))) 5 25 (((u5_25 + tc81_0) + tc167_0))) 5 31 ∧ (updF (updF F_191 5 39 ((z160 / tc126_0))) 5 25 (((u5_25 + tc81_0) + tc167_0))) 5 31 ≤ 65536 from H.frng 5 31) (show (updF (updF F_191 5 39 ((z160 / tc126_0))) 5 25 (((u5_25 + tc81_0) + tc167_0))) 5 31 = F 5 31 from (((((hS_191 5 31 rfl).trans (hS_c167 5 31 rfl)).trans (hS_c126 5 31 rfl)).trans (hS158 5 31 rfl)).trans (hS_c81 5 31 rfl)))
                      have : LTA (LTF ((w14)) ((u5_25)) ((a1)) ((u5_29)) ((u5_10)) GG) ((1)) ((F 5 30)) ((F 5 31)) ((((u5_25 + tc81_0) + tc167_0))) (sc ((w191_46)) 0 (((z160 / tc126_0)))) ((u5_10)) ((w31)) ((w32)) := LTA_y (hLT.trans (LT0_y (by omega) (by omega) hA (by omega) (by omega))) (by omega) rfl rfl rfl hrco
                      exact w_ireturn rfl (k (1) σ _ _ H (SF_upd (SF_upd (SF_trans (SF_trans (SF_upd (SF_trans (SF_trans (SF_trans (SF_refl) hS_c81 (any_sub rfl)) hS158 (any_sub rfl)) hS_c126 (any_sub rfl)) rfl) hS_c167 (any_sub rfl)) hS_191 (any_sub rfl)) rfl) rfl) (SA_trans (SA_trans (SA_trans (SA_trans (SA_trans (SA_refl) hA_c81 (any_subA rfl)) hA159 (any_subA rfl)) hA_c126 (any_subA rfl)) hA_c167 (any_subA rfl)) hA_191 (any_subA rfl)) (u5_10) (((((((hS_191 5 10 rfl).trans (hS_c167 5 10 rfl)).trans (hS_c126 5 10 rfl)).trans (hS158 5 10 rfl)).trans (hS_c81 5 10 rfl)).trans (eu5_10))) (((u5_25 + tc81_0) + tc167_0)) (rfl) (F 5 30) ((((((hS_191 5 30 rfl).trans (hS_c167 5 30 rfl)).trans (hS_c126 5 30 rfl)).trans (hS158 5 30 rfl)).trans (hS_c81 5 30 rfl))) (F 5 31) ((((((hS_191 5 31 rfl).trans (hS_c167 5 31 rfl)).trans (hS_c126 5 31 rfl)).trans (hS158 5 31 rfl)).trans (hS_c81 5 31 rfl))) ((z160 / tc126_0)) (rfl) (w31) ((funext (hA_191 31 rfl)).trans ((funext (hA_c167 31 rfl)).trans ((funext (hA_c126 31 rfl)).trans ((funext (hA159 31 rfl)).trans ((funext (hA_c81 31 rfl)).trans (ew31)))))) (w32) ((funext (hA_191 32 rfl)).trans ((funext (hA_c167 32 rfl)).trans ((funext (hA_c126 32 rfl)).trans ((funext (hA159 32 rfl)).trans ((funext (hA_c81 32 rfl)).trans (ew32)))))) (w191_46) (ew191_46) (show (1) = 0 ∨ (1) = 1 by first | exact q_49 | omega) (show (1) = 1 → (u5_25) ≤ (((u5_25 + tc81_0) + tc167_0)) ∧ (((u5_25 + tc81_0) + tc167_0)) ≤ a1 by omega) (show 0 ≤ ((z160 / tc126_0)) ∧ ((z160 / tc126_0)) ≤ 131072 from q_1652 b161 hdv r4) (show LTA (LTF ((w14)) ((u5_25)) (a1) ((u5_29)) ((u5_10)) GG) ((1)) ((F 5 30)) ((F 5 31)) ((((u5_25 + tc81_0) + tc167_0))) (sc ((w191_46)) 0 (((z160 / tc126_0)))) ((u5_10)) ((w31)) ((w32)) by assumption))
                    · refine Ew_of (pcₚ := 199) (fun _ => x_aload_n rfl l191_0) ?_
                      refine w_gT H (o := 5) (t := 46) rfl (H.perm 5 rfl) rfl rfl rfl rfl rfl rfl ?_
                      refine Ew_of (pcₚ := 204) (fun _ => x_iload rfl l191_8) ?_
                      refine Ew_of (pcₚ := 205) (fun _ => x_aload_n rfl l191_0) ?_
                      refine w_gT H (o := 5) (t := 1) rfl (H.perm 5 rfl) rfl rfl rfl rfl rfl rfl ?_
                      refine w_gT H (o := 1) (t := 14) rfl (H.perm 1 rfl) rfl rfl rfl rfl rfl rfl ?_
                      refine Ew_of (pcₚ := 212) (fun _ => x_iload_n rfl l191_3) ?_
                      refine w_ifne (t := 225) rfl rfl (show inr ((v7 % 4)) from q_1653 b9) (fun b166 => ?_) (fun b166 => ?_)
                      · refine Ew_of (pcₚ := 226) (fun _ => x_aload_n rfl l191_0) ?_
                        refine w_gI H (o := 5) (w := (u5_25 + tc81_0)) rfl (H.perm 5 rfl) rfl rfl rfl (fun _ => rfl) ((hS_191 5 25 rfl).trans (hS_c167 5 25 rfl)) ?_
                        obtain ⟨qi, hqi⟩ : ∃ q : Int, q = ((u5_25 + tc81_0)) := ⟨_, rfl⟩
                        refine w_lI H (o := 14) (n := 65536) rfl (H.perm 14 rfl) rfl rfl (H.fix 14 rfl rfl) (show 0 ≤ (u5_25 + tc81_0) ∧ (u5_25 + tc81_0) < ((65536 : Nat) : Int) by omega) (by decide) (fun v167 ev167 qv167 => ?_)
                        have qv167 : (0 : Int) ≤ v167 ∧ v167 ≤ 255 := qv167
                        have ev167 : (w14) ((u5_25 + tc81_0)) = v167 := (congrFun ((funext (hA_191 14 rfl)).trans ((funext (hA_c167 14 rfl)).trans ((funext (hA_c126 14 rfl)).trans ((funext (hA159 14 rfl)).trans ((funext (hA_c81 14 rfl)).trans (ew14)))))) ((u5_25 + tc81_0))).symm.trans ev167
                        have hv9 := ev167
                        rw [← hqi] at hv9
                        refine w_sI H (o := 46) (n := 131072) rfl (H.perm 46 rfl) rfl rfl (H.fix 46 rfl rfl) (show 0 ≤ x191_8 ∧ x191_8 < ((131072 : Nat) : Int) from q_1654 b161 b163 j191_1 r4) (by decide) (show (0 : Int) ≤ v167 ∧ v167 ≤ 255 from qv167) (fun σ H => ?_)
                        refine Ew_of (pcₚ := 234) (fun _ => x_iinc (len := 3) rfl (l191_8)) ?_
                        refine Ew_of (pcₚ := 191) (fun _ => x_goto rfl rfl) ?_
                        have : (((v7 % 4)) = 0 ∧ sc ((upd1 (w191_46) (x191_8) (v167))) 0 (((x191_8 + 1))) = sc ((w14)) (((u5_25 + tc81_0))) (((u5_25 + tc81_0)) + ((x191_8 + 1)))) ∨ (((v7 % 4)) ≠ 0 ∧ sc ((upd1 (w191_46) (x191_8) (v167))) 0 (((x191_8 + 1))) = List.replicate (((x191_8 + 1)) : Int).toNat (((w14)) (((u5_25 + tc81_0))))) := by rcases j191_l with ⟨z, w⟩ | ⟨z, w⟩; (exact .inl ⟨z, LL_0 w (by omega) hv9 (by omega) (by omega) rfl⟩); (exact .inr ⟨z, LL_1 w (by omega) (by rw [← hv9, show qi = ((u5_25 + tc81_0)) by omega]) (by omega) rfl⟩)
                        exact ih191 _ (msE hm191 q_1657 (q_1658 b163)) _ σ _ _ ((x191_8 + 1)) (rk_o (l191_0) rfl rfl) (rk_o (l191_3) rfl rfl) (rk_o (l191_6) rfl rfl) (rk_o (l191_7) rfl rfl) (rk_s) H (hS_191) (SA_upd (hA_191) rfl)  (upd1 (w191_46) (x191_8) (v167)) (congrArg (fun q => upd1 q (x191_8) (v167)) (ew191_46)) (show inr ((x191_8 + 1)) from q_1656 b161 b163 j191_1 r4) (show (0) ≤ ((x191_8 + 1)) from q_14 j191_1) (show ((x191_8 + 1)) ≤ (0) ∨ ((x191_8 + 1)) ≤ (((z160 / tc126_0))) from q_1655 b163) (show (((v7 % 4)) = 0 ∧ sc ((upd1 (w191_46) (x191_8) (v167))) 0 (((x191_8 + 1))) = sc ((w14)) (((u5_25 + tc81_0))) (((u5_25 + tc81_0)) + ((x191_8 + 1)))) ∨ (((v7 % 4)) ≠ 0 ∧ sc ((upd1 (w191_46) (x191_8) (v167))) 0 (((x191_8 + 1))) = List.replicate (((x191_8 + 1)) : Int).toNat (((w14)) (((u5_25 + tc81_0))))) by assumption) rfl
                      · refine Ew_of (pcₚ := 216) (fun _ => x_aload_n rfl l191_0) ?_
                        refine w_gI H (o := 5) (w := (u5_25 + tc81_0)) rfl (H.perm 5 rfl) rfl rfl rfl (fun _ => rfl) ((hS_191 5 25 rfl).trans (hS_c167 5 25 rfl)) ?_
                        refine Ew_of (pcₚ := 221) (fun _ => x_iload rfl l191_8) ?_
                        refine w_iadd rfl ?_
                        refine Ew_of (pcₚ := 229) (fun _ => x_goto rfl rfl) ?_
                        obtain ⟨qi, hqi⟩ : ∃ q : Int, q = (((u5_25 + tc81_0) + x191_8)) := ⟨_, rfl⟩
                        refine w_lI H (o := 14) (n := 65536) rfl (H.perm 14 rfl) rfl rfl (H.fix 14 rfl rfl) (show 0 ≤ ((u5_25 + tc81_0) + x191_8) ∧ ((u5_25 + tc81_0) + x191_8) < ((65536 : Nat) : Int) by omega) (by decide) (fun v168 ev168 qv168 => ?_)
                        have qv168 : (0 : Int) ≤ v168 ∧ v168 ≤ 255 := qv168
                        have ev168 : (w14) (((u5_25 + tc81_0) + x191_8)) = v168 := (congrFun ((funext (hA_191 14 rfl)).trans ((funext (hA_c167 14 rfl)).trans ((funext (hA_c126 14 rfl)).trans ((funext (hA159 14 rfl)).trans ((funext (hA_c81 14 rfl)).trans (ew14)))))) (((u5_25 + tc81_0) + x191_8))).symm.trans ev168
                        have hv9 := ev168
                        rw [← hqi] at hv9
                        refine w_sI H (o := 46) (n := 131072) rfl (H.perm 46 rfl) rfl rfl (H.fix 46 rfl rfl) (show 0 ≤ x191_8 ∧ x191_8 < ((131072 : Nat) : Int) from q_1654 b161 b163 j191_1 r4) (by decide) (show (0 : Int) ≤ v168 ∧ v168 ≤ 255 from qv168) (fun σ H => ?_)
                        refine Ew_of (pcₚ := 234) (fun _ => x_iinc (len := 3) rfl (l191_8)) ?_
                        refine Ew_of (pcₚ := 191) (fun _ => x_goto rfl rfl) ?_
                        have : (((v7 % 4)) = 0 ∧ sc ((upd1 (w191_46) (x191_8) (v168))) 0 (((x191_8 + 1))) = sc ((w14)) (((u5_25 + tc81_0))) (((u5_25 + tc81_0)) + ((x191_8 + 1)))) ∨ (((v7 % 4)) ≠ 0 ∧ sc ((upd1 (w191_46) (x191_8) (v168))) 0 (((x191_8 + 1))) = List.replicate (((x191_8 + 1)) : Int).toNat (((w14)) (((u5_25 + tc81_0))))) := by rcases j191_l with ⟨z, w⟩ | ⟨z, w⟩; (exact .inl ⟨z, LL_0 w (by omega) hv9 (by omega) (by omega) rfl⟩); (exact .inr ⟨z, LL_1 w (by omega) (by rw [← hv9, show qi = ((u5_25 + tc81_0)) by omega]) (by omega) rfl⟩)
                        exact ih191 _ (msE hm191 q_1657 (q_1658 b163)) _ σ _ _ ((x191_8 + 1)) (rk_o (l191_0) rfl rfl) (rk_o (l191_3) rfl rfl) (rk_o (l191_6) rfl rfl) (rk_o (l191_7) rfl rfl) (rk_s) H (hS_191) (SA_upd (hA_191) rfl)  (upd1 (w191_46) (x191_8) (v168)) (congrArg (fun q => upd1 q (x191_8) (v168)) (ew191_46)) (show inr ((x191_8 + 1)) from q_1656 b161 b163 j191_1 r4) (show (0) ≤ ((x191_8 + 1)) from q_14 j191_1) (show ((x191_8 + 1)) ≤ (0) ∨ ((x191_8 + 1)) ≤ (((z160 / tc126_0))) from q_1655 b163) (show (((v7 % 4)) = 0 ∧ sc ((upd1 (w191_46) (x191_8) (v168))) 0 (((x191_8 + 1))) = sc ((w14)) (((u5_25 + tc81_0))) (((u5_25 + tc81_0)) + ((x191_8 + 1)))) ∨ (((v7 % 4)) ≠ 0 ∧ sc ((upd1 (w191_46) (x191_8) (v168))) 0 (((x191_8 + 1))) = List.replicate (((x191_8 + 1)) : Int).toNat (((w14)) (((u5_25 + tc81_0))))) by assumption) rfl
                · refine Ew_of (pcₚ := 181) (fun _ => x_aload_n rfl (rk_o (lc167_0) rfl rfl)) ?_
                  refine Ew_of (pcₚ := 183) (fun _ => x_bipush (z := 10) rfl (by decide)) ?_
                  refine Ew_of (pcₚ := 184) (fun _ => x_iload_n rfl (rk_o (lc167_1) rfl rfl)) ?_
                  refine w_inv H (o := 5) rfl rfl rfl (H.perm 5 rfl) rfl rfl (by rfl) (M282 H (show inr (10) from q_746) (show inr (a1) from h0) (show 0 ≤ (10) ∧ (10) ≤ 20 from q_1633) (show 0 ≤ (a1) ∧ (a1) ≤ 65536 from q_1632 b6 h1 r1) (fun z173 σ F169 A170 H hS171 hA172 y174 ey175 y176 ey177 pz173_0 pz173_1 pz173_2 pz173_3 => ⟨rretB rfl pz173_0, ?_⟩))
                  have r178 : (0 : Int) ≤ y174 ∧ y174 ≤ 20 := rngE (show (0 : Int) ≤ F169 5 30 ∧ F169 5 30 ≤ 20 from H.frng 5 30) (show F169 5 30 = y174 from (ey175))
                  have r179 : (0 : Int) ≤ y176 ∧ y176 ≤ 65536 := rngE (show (0 : Int) ≤ F169 5 31 ∧ F169 5 31 ≤ 65536 from H.frng 5 31) (show F169 5 31 = y176 from (ey177))
                  have : LTA (LTF ((w14)) ((u5_25)) ((a1)) ((u5_29)) ((u5_10)) GG) ((z173)) ((y174)) ((y176)) (((u5_25 + tc81_0))) (sc ((A 46)) 0 ((u5_39))) ((u5_10)) ((w31)) ((w32)) := LTA_f (hLT.trans (LT0_10 (by omega) (by omega) hfo (by omega))) (by decide) (by omega) (by omega) (by omega)
                  exact w_ireturn rfl (k (z173) σ _ _ H (SF_trans (SF_trans (SF_upd (SF_trans (SF_trans (SF_trans (SF_refl) hS_c81 (any_sub rfl)) hS158 (any_sub rfl)) hS_c126 (any_sub rfl)) rfl) hS_c167 (any_sub rfl)) hS171 (any_sub rfl)) (SA_trans (SA_trans (SA_trans (SA_trans (SA_trans (SA_refl) hA_c81 (any_subA rfl)) hA159 (any_subA rfl)) hA_c126 (any_subA rfl)) hA_c167 (any_subA rfl)) hA172 (any_subA rfl)) (u5_10) (((((((hS171 5 10 rfl).trans (hS_c167 5 10 rfl)).trans (hS_c126 5 10 rfl)).trans (hS158 5 10 rfl)).trans (hS_c81 5 10 rfl)).trans (eu5_10))) ((u5_25 + tc81_0)) (((hS171 5 25 rfl).trans (hS_c167 5 25 rfl))) (y174) ((ey175)) (y176) ((ey177)) (u5_39) (((((((hS171 5 39 rfl).trans (hS_c167 5 39 rfl)).trans (hS_c126 5 39 rfl)).trans (hS158 5 39 rfl)).trans (hS_c81 5 39 rfl)).trans (eu5_39))) (w31) ((funext (hA172 31 rfl)).trans ((funext (hA_c167 31 rfl)).trans ((funext (hA_c126 31 rfl)).trans ((funext (hA159 31 rfl)).trans ((funext (hA_c81 31 rfl)).trans (ew31)))))) (w32) ((funext (hA172 32 rfl)).trans ((funext (hA_c167 32 rfl)).trans ((funext (hA_c126 32 rfl)).trans ((funext (hA159 32 rfl)).trans ((funext (hA_c81 32 rfl)).trans (ew32)))))) (A 46) ((funext (hA172 46 rfl)).trans ((funext (hA_c167 46 rfl)).trans ((funext (hA_c126 46 rfl)).trans ((funext (hA159 46 rfl)).trans (funext (hA_c81 46 rfl)))))) (show (z173) = 0 ∨ (z173) = 1 from pz173_0) (show (z173) = 1 → (u5_25) ≤ ((u5_25 + tc81_0)) ∧ ((u5_25 + tc81_0)) ≤ a1 from q_1618 b155 jc81_0 pz173_1) (show 0 ≤ (u5_39) ∧ (u5_39) ≤ 131072 from r5) (show LTA (LTF ((w14)) ((u5_25)) (a1) ((u5_29)) ((u5_10)) GG) ((z173)) ((y174)) ((y176)) (((u5_25 + tc81_0))) (sc ((A 46)) 0 ((u5_39))) ((u5_10)) ((w31)) ((w32)) by assumption))
              refine w_ifne (t := 166) rfl rfl (show inr ((v7 % 4)) from q_1653 b9) (fun b180 => ?_) (fun b180 => ?_)
              · refine Ew_of (pcₚ := 167) (fun _ => x_iconst rfl) ?_
                exact hc167 (1) _ σ _ _  (rk_o (lc126_0) rfl rfl) (rk_o (lc126_1) rfl rfl) (rk_o (lc126_3) rfl rfl) (rk_s) H (SF_refl) (SA_refl)   (show inr (1) from q_135) (show (((v7 % 4)) ≠ (0) ∧ (1) = (1)) ∨ (((v7 % 4)) = (0) ∧ (1) = ((z160 / tc126_0))) from q_1659 b180)
              · refine Ew_of (pcₚ := 163) (fun _ => x_iload rfl rk_s) ?_
                refine Ew_of (pcₚ := 167) (fun _ => x_goto rfl rfl) ?_
                exact hc167 ((z160 / tc126_0)) _ σ _ _  (rk_o (lc126_0) rfl rfl) (rk_o (lc126_1) rfl rfl) (rk_o (lc126_3) rfl rfl) (rk_s) H (SF_refl) (SA_refl)   (show inr ((z160 / tc126_0)) from q_1651 b161 hdv r4) (show (((v7 % 4)) ≠ (0) ∧ ((z160 / tc126_0)) = (1)) ∨ (((v7 % 4)) = (0) ∧ ((z160 / tc126_0)) = ((z160 / tc126_0))) from q_1660 b180)
            · refine Ew_of (pcₚ := 150) (fun _ => x_aload_n rfl (rk_o (lc126_0) rfl rfl)) ?_
              refine Ew_of (pcₚ := 152) (fun _ => x_bipush (z := 11) rfl (by decide)) ?_
              refine Ew_of (pcₚ := 153) (fun _ => x_iload_n rfl (rk_o (lc126_2) rfl rfl)) ?_
              refine w_inv H (o := 5) rfl rfl rfl (H.perm 5 rfl) rfl rfl (by rfl) (M282 H (show inr (11) from q_326) (show inr (u5_25) from q_286 r3) (show 0 ≤ (11) ∧ (11) ≤ 20 from q_1617) (show 0 ≤ (u5_25) ∧ (u5_25) ≤ 65536 from r3) (fun z185 σ F181 A182 H hS183 hA184 y186 ey187 y188 ey189 pz185_0 pz185_1 pz185_2 pz185_3 => ⟨rretB rfl pz185_0, ?_⟩))
              have r190 : (0 : Int) ≤ y186 ∧ y186 ≤ 20 := rngE (show (0 : Int) ≤ F181 5 30 ∧ F181 5 30 ≤ 20 from H.frng 5 30) (show F181 5 30 = y186 from (ey187))
              have r191 : (0 : Int) ≤ y188 ∧ y188 ≤ 65536 := rngE (show (0 : Int) ≤ F181 5 31 ∧ F181 5 31 ≤ 65536 from H.frng 5 31) (show F181 5 31 = y188 from (ey189))
              have : LTA (LTF ((w14)) ((u5_25)) ((a1)) ((u5_29)) ((u5_10)) GG) ((z185)) ((y186)) ((y188)) (((u5_25 + tc81_0))) (sc ((A 46)) 0 ((u5_39))) ((u5_10)) ((w31)) ((w32)) := LTA_f (hLT.trans (LT0_11 (by omega) (by omega))) (by decide) (by omega) (by omega) (by omega)
              exact w_ireturn rfl (k (z185) σ _ _ H (SF_trans (SF_upd (SF_trans (SF_trans (SF_trans (SF_refl) hS_c81 (any_sub rfl)) hS158 (any_sub rfl)) hS_c126 (any_sub rfl)) rfl) hS183 (any_sub rfl)) (SA_trans (SA_trans (SA_trans (SA_trans (SA_refl) hA_c81 (any_subA rfl)) hA159 (any_subA rfl)) hA_c126 (any_subA rfl)) hA184 (any_subA rfl)) (u5_10) ((((((hS183 5 10 rfl).trans (hS_c126 5 10 rfl)).trans (hS158 5 10 rfl)).trans (hS_c81 5 10 rfl)).trans (eu5_10))) ((u5_25 + tc81_0)) ((hS183 5 25 rfl)) (y186) ((ey187)) (y188) ((ey189)) (u5_39) ((((((hS183 5 39 rfl).trans (hS_c126 5 39 rfl)).trans (hS158 5 39 rfl)).trans (hS_c81 5 39 rfl)).trans (eu5_39))) (w31) ((funext (hA184 31 rfl)).trans ((funext (hA_c126 31 rfl)).trans ((funext (hA159 31 rfl)).trans ((funext (hA_c81 31 rfl)).trans (ew31))))) (w32) ((funext (hA184 32 rfl)).trans ((funext (hA_c126 32 rfl)).trans ((funext (hA159 32 rfl)).trans ((funext (hA_c81 32 rfl)).trans (ew32))))) (A 46) ((funext (hA184 46 rfl)).trans ((funext (hA_c126 46 rfl)).trans ((funext (hA159 46 rfl)).trans (funext (hA_c81 46 rfl))))) (show (z185) = 0 ∨ (z185) = 1 from pz185_0) (show (z185) = 1 → (u5_25) ≤ ((u5_25 + tc81_0)) ∧ ((u5_25 + tc81_0)) ≤ a1 from q_1618 b155 jc81_0 pz185_1) (show 0 ≤ (u5_39) ∧ (u5_39) ≤ 131072 from r5) (show LTA (LTF ((w14)) ((u5_25)) (a1) ((u5_29)) ((u5_10)) GG) ((z185)) ((y186)) ((y188)) (((u5_25 + tc81_0))) (sc ((A 46)) 0 ((u5_39))) ((u5_10)) ((w31)) ((w32)) by assumption))
          refine w_icmpne (t := 124) rfl rfl (show inr (tc81_0) from jc81_0) (show inr (1) from q_135) (fun b192 => ?_) (fun b192 => ?_)
          · refine Ew_of (pcₚ := 126) (fun _ => x_bipush (z := 16) rfl (by decide)) ?_
            exact hc126 (16) _ σ _ _  (rk_o (lc81_0) rfl rfl) (rk_o (lc81_1) rfl rfl) (rk_o (lc81_2) rfl rfl) (rk_o (lc81_3) rfl rfl) (rk_s) H (SF_refl) (SA_refl)   (show inr (16) from q_345) (show ((tc81_0) ≠ (1) ∧ (16) = (16)) ∨ ((tc81_0) = (1) ∧ (16) = (8)) from q_1661 b192)
          · refine Ew_of (pcₚ := 121) (fun _ => x_bipush (z := 8) rfl (by decide)) ?_
            refine Ew_of (pcₚ := 126) (fun _ => x_goto rfl rfl) ?_
            exact hc126 (8) _ σ _ _  (rk_o (lc81_0) rfl rfl) (rk_o (lc81_1) rfl rfl) (rk_o (lc81_2) rfl rfl) (rk_o (lc81_3) rfl rfl) (rk_s) H (SF_refl) (SA_refl)   (show inr (8) from q_141) (show ((tc81_0) ≠ (1) ∧ (8) = (16)) ∨ ((tc81_0) = (1) ∧ (8) = (8)) from q_1662 b192)
        · refine Ew_of (pcₚ := 95) (fun _ => x_aload_n rfl (rk_o (lc81_0) rfl rfl)) ?_
          refine Ew_of (pcₚ := 97) (fun _ => x_bipush (z := 10) rfl (by decide)) ?_
          refine Ew_of (pcₚ := 98) (fun _ => x_iload_n rfl (rk_o (lc81_1) rfl rfl)) ?_
          refine w_inv H (o := 5) rfl rfl rfl (H.perm 5 rfl) rfl rfl (by rfl) (M282 H (show inr (10) from q_746) (show inr (a1) from h0) (show 0 ≤ (10) ∧ (10) ≤ 20 from q_1633) (show 0 ≤ (a1) ∧ (a1) ≤ 65536 from q_1632 b6 h1 r1) (fun z197 σ F193 A194 H hS195 hA196 y198 ey199 y200 ey201 pz197_0 pz197_1 pz197_2 pz197_3 => ⟨rretB rfl pz197_0, ?_⟩))
          have r202 : (0 : Int) ≤ y198 ∧ y198 ≤ 20 := rngE (show (0 : Int) ≤ F193 5 30 ∧ F193 5 30 ≤ 20 from H.frng 5 30) (show F193 5 30 = y198 from (ey199))
          have r203 : (0 : Int) ≤ y200 ∧ y200 ≤ 65536 := rngE (show (0 : Int) ≤ F193 5 31 ∧ F193 5 31 ≤ 65536 from H.frng 5 31) (show F193 5 31 = y200 from (ey201))
          have : LTA (LTF ((w14)) ((u5_25)) ((a1)) ((u5_29)) ((u5_10)) GG) ((z197)) ((y198)) ((y200)) ((u5_25)) (sc ((A 46)) 0 ((u5_39))) ((u5_10)) ((w31)) ((w32)) := LTA_f (LTF_h (b := (tc81_0)) (by omega) hx2 (.inl ⟨by omega, hb5⟩) (by omega)) (by decide) (by omega) (by omega) (by omega)
          exact w_ireturn rfl (k (z197) σ _ _ H (SF_trans (SF_trans (SF_refl) hS_c81 (any_sub rfl)) hS195 (any_sub rfl)) (SA_trans (SA_trans (SA_refl) hA_c81 (any_subA rfl)) hA196 (any_subA rfl)) (u5_10) ((((hS195 5 10 rfl).trans (hS_c81 5 10 rfl)).trans (eu5_10))) (u5_25) ((((hS195 5 25 rfl).trans (hS_c81 5 25 rfl)).trans (eu5_25))) (y198) ((ey199)) (y200) ((ey201)) (u5_39) ((((hS195 5 39 rfl).trans (hS_c81 5 39 rfl)).trans (eu5_39))) (w31) ((funext (hA196 31 rfl)).trans ((funext (hA_c81 31 rfl)).trans (ew31))) (w32) ((funext (hA196 32 rfl)).trans ((funext (hA_c81 32 rfl)).trans (ew32))) (A 46) ((funext (hA196 46 rfl)).trans (funext (hA_c81 46 rfl))) (show (z197) = 0 ∨ (z197) = 1 from pz197_0) (show (z197) = 1 → (u5_25) ≤ (u5_25) ∧ (u5_25) ≤ a1 from q_1639 h1) (show 0 ≤ (u5_39) ∧ (u5_39) ≤ 131072 from r5) (show LTA (LTF ((w14)) ((u5_25)) (a1) ((u5_29)) ((u5_10)) GG) ((z197)) ((y198)) ((y200)) ((u5_25)) (sc ((A 46)) 0 ((u5_39))) ((u5_10)) ((w31)) ((w32)) by assumption))
      refine w_ifne (t := 70) rfl rfl (show inr ((((v8 / 4) % 4) % 2)) from q_1663) (fun b204 => ?_) (fun b204 => ?_)
      · refine Ew_of (pcₚ := 72) (fun _ => x_iload rfl rk_s) ?_
        refine Ew_of (pcₚ := 73) (fun _ => x_iconst rfl) ?_
        refine w_icmpne (t := 80) rfl rfl (show inr (((v8 / 4) % 4)) from q_1619) (show inr (1) from q_135) (fun b205 => ?_) (fun b205 => ?_)
        · refine Ew_of (pcₚ := 81) (fun _ => x_iconst rfl) ?_
          exact hc81 (3) _ σ _ _  (rk_o (rk_o (rk_o (rfl) rfl rfl) rfl rfl) rfl rfl) (rk_o (rk_o (rk_o (rfl) rfl rfl) rfl rfl) rfl rfl) (rk_o (rk_o (rk_s) rfl rfl) rfl rfl) (rk_o (rk_s) rfl rfl) H (SF_refl) (SA_refl)   (show inr (3) from q_246) (show (((((v8 / 4) % 4) % 2)) ≠ (0) ∧ (((v8 / 4) % 4)) ≠ (1) ∧ (3) = (3)) ∨ (((((v8 / 4) % 4) % 2)) ≠ (0) ∧ (((v8 / 4) % 4)) = (1) ∧ (3) = (2)) ∨ (((((v8 / 4) % 4) % 2)) = (0) ∧ (3) = (1)) from q_1664 b204 b205)
        · refine Ew_of (pcₚ := 77) (fun _ => x_iconst rfl) ?_
          refine Ew_of (pcₚ := 81) (fun _ => x_goto rfl rfl) ?_
          exact hc81 (2) _ σ _ _  (rk_o (rk_o (rk_o (rfl) rfl rfl) rfl rfl) rfl rfl) (rk_o (rk_o (rk_o (rfl) rfl rfl) rfl rfl) rfl rfl) (rk_o (rk_o (rk_s) rfl rfl) rfl rfl) (rk_o (rk_s) rfl rfl) H (SF_refl) (SA_refl)   (show inr (2) from q_122) (show (((((v8 / 4) % 4) % 2)) ≠ (0) ∧ (((v8 / 4) % 4)) ≠ (1) ∧ (2) = (3)) ∨ (((((v8 / 4) % 4) % 2)) ≠ (0) ∧ (((v8 / 4) % 4)) = (1) ∧ (2) = (2)) ∨ (((((v8 / 4) % 4) % 2)) = (0) ∧ (2) = (1)) from q_1665 b204 b205)
      · refine Ew_of (pcₚ := 67) (fun _ => x_iconst rfl) ?_
        refine Ew_of (pcₚ := 81) (fun _ => x_goto rfl rfl) ?_
        exact hc81 (1) _ σ _ _  (rk_o (rk_o (rk_o (rfl) rfl rfl) rfl rfl) rfl rfl) (rk_o (rk_o (rk_o (rfl) rfl rfl) rfl rfl) rfl rfl) (rk_o (rk_o (rk_s) rfl rfl) rfl rfl) (rk_o (rk_s) rfl rfl) H (SF_refl) (SA_refl)   (show inr (1) from q_135) (show (((((v8 / 4) % 4) % 2)) ≠ (0) ∧ (((v8 / 4) % 4)) ≠ (1) ∧ (1) = (3)) ∨ (((((v8 / 4) % 4) % 2)) ≠ (0) ∧ (((v8 / 4) % 4)) = (1) ∧ (1) = (2)) ∨ (((((v8 / 4) % 4) % 2)) = (0) ∧ (1) = (1)) from q_1666 b204)
  · refine Ew_of (pcₚ := 14) (fun _ => x_aload_n rfl (rk_o (rfl) rfl rfl)) ?_
    refine Ew_of (pcₚ := 16) (fun _ => x_bipush (z := 10) rfl (by decide)) ?_
    refine Ew_of (pcₚ := 17) (fun _ => x_iload_n rfl (rk_o (rfl) rfl rfl)) ?_
    refine w_inv H (o := 5) rfl rfl rfl (H.perm 5 rfl) rfl rfl (by rfl) (M282 H (show inr (10) from q_746) (show inr (a1) from h0) (show 0 ≤ (10) ∧ (10) ≤ 20 from q_1633) (show 0 ≤ (a1) ∧ (a1) ≤ 65536 from q_1667 b6 h1 r3) (fun z210 σ F206 A207 H hS208 hA209 y211 ey212 y213 ey214 pz210_0 pz210_1 pz210_2 pz210_3 => ⟨rretB rfl pz210_0, ?_⟩))
    have r215 : (0 : Int) ≤ y211 ∧ y211 ≤ 20 := rngE (show (0 : Int) ≤ F206 5 30 ∧ F206 5 30 ≤ 20 from H.frng 5 30) (show F206 5 30 = y211 from (ey212))
    have r216 : (0 : Int) ≤ y213 ∧ y213 ≤ 65536 := rngE (show (0 : Int) ≤ F206 5 31 ∧ F206 5 31 ≤ 65536 from H.frng 5 31) (show F206 5 31 = y213 from (ey214))
    have : LTA (LTF ((w14)) ((u5_25)) ((a1)) ((u5_29)) ((u5_10)) GG) ((z210)) ((y211)) ((y213)) ((u5_25)) (sc ((A 46)) 0 ((u5_39))) ((u5_10)) ((w31)) ((w32)) := LTA_f (LTF_e (by omega)) (by decide) (by omega) (by omega) (by omega)
    exact w_ireturn rfl (k (z210) σ _ _ H (SF_trans (SF_refl) hS208 (any_sub rfl)) (SA_trans (SA_refl) hA209 (any_subA rfl)) (u5_10) (((hS208 5 10 rfl).trans (eu5_10))) (u5_25) (((hS208 5 25 rfl).trans (eu5_25))) (y211) ((ey212)) (y213) ((ey214)) (u5_39) (((hS208 5 39 rfl).trans (eu5_39))) (w31) ((funext (hA209 31 rfl)).trans (ew31)) (w32) ((funext (hA209 32 rfl)).trans (ew32)) (A 46) (funext (hA209 46 rfl)) (show (z210) = 0 ∨ (z210) = 1 from pz210_0) (show (z210) = 1 → (u5_25) ≤ (u5_25) ∧ (u5_25) ≤ a1 from q_1639 h1) (show 0 ≤ (u5_39) ∧ (u5_39) ≤ 131072 from r5) (show LTA (LTF ((w14)) ((u5_25)) (a1) ((u5_29)) ((u5_10)) GG) ((z210)) ((y211)) ((y213)) ((u5_25)) (sc ((A 46)) 0 ((u5_39))) ((u5_10)) ((w31)) ((w32)) by assumption))


end
