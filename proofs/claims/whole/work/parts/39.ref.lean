/-- Reader.fourStreams -/
theorem M292 {σ0 σ : rS} {D N : Nat → Nat} {F : hF} {A : hA} {d c s : Nat} {Q : wQ} (H : HS σ0 σ D N F A) {a1 a2 a3 : Int} (u5_10 : Int) (eu5_10 : F 5 10 = u5_10) (u5_25 : Int) (eu5_25 : F 5 25 = u5_25) (u5_39 : Int) (eu5_39 : F 5 39 = u5_39) (w14 : Int → Int) (ew14 : A 14 = w14) (w31 : Int → Int) (ew31 : A 31 = w31) (w32 : Int → Int) (ew32 : A 32 = w32) (GG : Int → Int) (h0 : inr (a1)) (h1 : inr (a2)) (h2 : inr (a3)) (h3 : 0 ≤ (u5_25) ∧ (u5_25) ≤ (a1) ∧ (a1) ≤ 65536) (h4 : 0 ≤ (a3) ∧ 3 * (a3) ≤ (a2) ∧ (a2) ≤ 131072) (h5 : (u5_39) = 0) (h6 : (a3) = ((a2) + 3) / 4) (h7 : 0 ≤ (u5_10)) (h8 : ∀ i, 0 ≤ i → i < 256 → ((w31)) i = GG i) (h9 : fl ((w32)) (p2 ((u5_10))) = CELS GG ((u5_10))) (k : ∀ (z : Int) σ F' A', HS σ0 σ D N F' A' → SF [(5, 30), (5, 31), (5, 39), (5, 44), (5, 45)] F F' → SA [46] A A' → ∀ y5_30 : Int, F' 5 30 = y5_30 → ∀ y5_31 : Int, F' 5 31 = y5_31 → ∀ y5_39 : Int, F' 5 39 = y5_39 → ∀ v46 : Int → Int, A' 46 = v46 → ((z) = 0 ∨ (z) = 1) → (0 ≤ (y5_39) ∧ (y5_39) ≤ (a2)) → (STA (STF ((w14)) GG ((u5_10)) ((a2)) 1 ((u5_25)) ((a1))) ((z)) ((y5_30)) ((y5_31)) (sc ((v46)) 0 ((y5_39)))) → Q (some (I z)) σ c s) : Ew 292 (d + 3) 0 (rargs 0 [.ref (D 5), I a1, I a2, I a3]) [] σ c s Q := by
  have r1 : (0 : Int) ≤ u5_10 ∧ u5_10 ≤ 11 := by have h1 : (0 : Int) ≤ F 5 10 ∧ F 5 10 ≤ 11 := H.frng 5 10; rw [show F 5 10 = u5_10 from (eu5_10)] at h1; exact h1
  have r2 : (0 : Int) ≤ u5_25 ∧ u5_25 ≤ 65536 := by have h1 : (0 : Int) ≤ F 5 25 ∧ F 5 25 ≤ 65536 := H.frng 5 25; rw [show F 5 25 = u5_25 from (eu5_25)] at h1; exact h1
  have r3 : (0 : Int) ≤ u5_39 ∧ u5_39 ≤ 131072 := by have h1 : (0 : Int) ≤ F 5 39 ∧ F 5 39 ≤ 131072 := H.frng 5 39; rw [show F 5 39 = u5_39 from (eu5_39)] at h1; exact h1
  refine Ew_of (pc' := 1) (fun _ => x_aload_n rfl rfl) ?_
  refine w_gI H (o := 5) (w := u5_25) rfl (H.perm 5 rfl) rfl rfl rfl (fun _ => rfl) (eu5_25) ?_
  refine Ew_of (pc' := 6) (fun _ => x_istore rfl) ?_
  refine Ew_of (pc' := 7) (fun _ => x_iload_n rfl (rk_o (rfl) rfl rfl)) ?_
  refine Ew_of (pc' := 8) (fun _ => x_aload_n rfl (rk_o (rfl) rfl rfl)) ?_
  refine w_gI H (o := 5) (w := u5_25) rfl (H.perm 5 rfl) rfl rfl rfl (fun _ => rfl) (eu5_25) ?_
  refine w_isub rfl ?_
  refine Ew_of (pc' := 14) (fun _ => x_bipush (z := 6) rfl (by decide)) ?_
  refine w_icmpge (t := 26) rfl rfl (show inr ((a1 - u5_25)) by omega) (show inr (6) by omega) (fun b4 => ?_) (fun b4 => ?_)
  · refine Ew_of (pc' := 27) (fun _ => x_aload_n rfl (rk_o (rfl) rfl rfl)) ?_
    refine w_gI H (o := 5) (w := u5_25) rfl (H.perm 5 rfl) rfl rfl rfl (fun _ => rfl) (eu5_25) ?_
    refine Ew_of (pc' := 32) (fun _ => x_bipush (z := 6) rfl (by decide)) ?_
    refine w_iadd rfl ?_
    refine Ew_of (pc' := 35) (fun _ => x_istore rfl) ?_
    refine Ew_of (pc' := 36) (fun _ => x_aload_n rfl (rk_o (rk_o (rfl) rfl rfl) rfl rfl)) ?_
    refine Ew_of (pc' := 37) (fun _ => x_aload_n rfl (rk_o (rk_o (rfl) rfl rfl) rfl rfl)) ?_
    refine w_gI H (o := 5) (w := u5_25) rfl (H.perm 5 rfl) rfl rfl rfl (fun _ => rfl) (eu5_25) ?_
    refine Ew_of (pc' := 41) (fun _ => x_iconst rfl) ?_
    refine w_inv H (o := 5) rfl rfl rfl (H.perm 5 rfl) rfl rfl (by rfl) (M257 H (w14) (ew14) (show inr (u5_25) by omega) (show inr (2) by omega) (show 0 ≤ (u5_25) ∧ 0 ≤ (2) ∧ (2) ≤ 8 ∧ (u5_25) + (2) ≤ 65536 by omega) (fun z9 σ F5 A6 H hS7 hA8 pz9_0 pz9_1 pz9_2 pz9_3 pz9_4 pz9_5 pz9_6 pz9_7 pz9_8 pz9_9 => ⟨rfl, ?_⟩))
    replace pz9_1 := pz9_1.resolve_left (by decide)
    replace pz9_2 := pz9_2.resolve_right (by decide)
    replace pz9_3 := pz9_3 (by decide)
    replace pz9_4 := pz9_4 (by decide)
    replace pz9_5 := pz9_5 (by decide)
    clear pz9_6
    clear pz9_7
    replace pz9_8 := pz9_8 (by decide)
    have hN0 : z9 = nvl ((w14)) ((u5_25)) 2 := nmb_nn pz9_9 (by omega) pz9_0
    refine Ew_of (pc' := 45) (fun _ => x_aload_n rfl (rk_o (rk_o (rfl) rfl rfl) rfl rfl)) ?_
    refine Ew_of (pc' := 46) (fun _ => x_aload_n rfl (rk_o (rk_o (rfl) rfl rfl) rfl rfl)) ?_
    refine w_gI H (o := 5) (w := u5_25) rfl (H.perm 5 rfl) rfl rfl rfl (fun _ => rfl) ((hS7 5 25 rfl).trans (eu5_25)) ?_
    refine Ew_of (pc' := 50) (fun _ => x_iconst rfl) ?_
    refine w_iadd rfl ?_
    refine Ew_of (pc' := 52) (fun _ => x_iconst rfl) ?_
    refine w_inv H (o := 5) rfl rfl rfl (H.perm 5 rfl) rfl rfl (by rfl) (M257 H (w14) ((funext (hA8 14 rfl)).trans (ew14)) (show inr ((u5_25 + 2)) by omega) (show inr (2) by omega) (show 0 ≤ ((u5_25 + 2)) ∧ 0 ≤ (2) ∧ (2) ≤ 8 ∧ ((u5_25 + 2)) + (2) ≤ 65536 by omega) (fun z14 σ F10 A11 H hS12 hA13 pz14_0 pz14_1 pz14_2 pz14_3 pz14_4 pz14_5 pz14_6 pz14_7 pz14_8 pz14_9 => ⟨rfl, ?_⟩))
    replace pz14_1 := pz14_1.resolve_left (by decide)
    replace pz14_2 := pz14_2.resolve_right (by decide)
    replace pz14_3 := pz14_3 (by decide)
    replace pz14_4 := pz14_4 (by decide)
    replace pz14_5 := pz14_5 (by decide)
    clear pz14_6
    clear pz14_7
    replace pz14_8 := pz14_8 (by decide)
    have hN1 : z14 = nvl ((w14)) ((u5_25) + 2) 2 := nmb_nn pz14_9 (by omega) pz14_0
    refine w_ladd rfl ?_
    refine Ew_of (pc' := 57) (fun _ => x_aload_n rfl (rk_o (rk_o (rfl) rfl rfl) rfl rfl)) ?_
    refine Ew_of (pc' := 58) (fun _ => x_aload_n rfl (rk_o (rk_o (rfl) rfl rfl) rfl rfl)) ?_
    refine w_gI H (o := 5) (w := u5_25) rfl (H.perm 5 rfl) rfl rfl rfl (fun _ => rfl) (((hS12 5 25 rfl).trans (hS7 5 25 rfl)).trans (eu5_25)) ?_
    refine Ew_of (pc' := 62) (fun _ => x_iconst rfl) ?_
    refine w_iadd rfl ?_
    refine Ew_of (pc' := 64) (fun _ => x_iconst rfl) ?_
    refine w_inv H (o := 5) rfl rfl rfl (H.perm 5 rfl) rfl rfl (by rfl) (M257 H (w14) ((funext (hA13 14 rfl)).trans ((funext (hA8 14 rfl)).trans (ew14))) (show inr ((u5_25 + 4)) by omega) (show inr (2) by omega) (show 0 ≤ ((u5_25 + 4)) ∧ 0 ≤ (2) ∧ (2) ≤ 8 ∧ ((u5_25 + 4)) + (2) ≤ 65536 by omega) (fun z19 σ F15 A16 H hS17 hA18 pz19_0 pz19_1 pz19_2 pz19_3 pz19_4 pz19_5 pz19_6 pz19_7 pz19_8 pz19_9 => ⟨rfl, ?_⟩))
    replace pz19_1 := pz19_1.resolve_left (by decide)
    replace pz19_2 := pz19_2.resolve_right (by decide)
    replace pz19_3 := pz19_3 (by decide)
    replace pz19_4 := pz19_4 (by decide)
    replace pz19_5 := pz19_5 (by decide)
    clear pz19_6
    clear pz19_7
    replace pz19_8 := pz19_8 (by decide)
    have hN2 : z19 = nvl ((w14)) ((u5_25) + 4) 2 := nmb_nn pz19_9 (by omega) pz19_0
    refine w_ladd rfl ?_
    refine Ew_of (pc' := 70) (fun _ => x_lstore rfl) ?_
    refine Ew_of (pc' := 72) (fun _ => x_lload rfl rk2_s) ?_
    refine Ew_of (pc' := 73) (fun _ => x_iload_n rfl (rk2_o (rk_o (rk_o (rfl) rfl rfl) rfl rfl) rfl rfl)) ?_
    refine Ew_of (pc' := 75) (fun _ => x_iload rfl (rk2_o (rk_s) rfl rfl)) ?_
    refine w_isub rfl ?_
    refine w_i2l rfl (show inr ((a1 - (u5_25 + 6))) by omega) ?_
    refine w_lcmp rfl (show inrJ (((z9 + z14) + z19)) by omega) (show inrJ ((a1 - (u5_25 + 6))) by omega) (fun z20 gz20 gaz20 gbz20 => ?_)
    refine w_ifle (t := 90) rfl rfl (show inr (z20) by omega) (fun b21 => ?_) (fun b21 => ?_)
    · refine Ew_of (pc' := 91) (fun _ => x_iconst rfl) ?_
      refine Ew_of (pc' := 93) (fun _ => x_istore rfl) ?_
      have hpf0 : PF ((w14)) ((u5_25)) (0 : Int).toNat = 0 := rfl
      have hpf3 := PF_3 (g := (w14)) (a := (u5_25))
      have hB : ∀ i, (0 : Int) ≤ (w14) i ∧ (w14) i ≤ 255 := fun i => by have h1 : (0 : Int) ≤ A16 14 i ∧ A16 14 i ≤ 255 := H.arng 14 i; rw [show A16 14 = w14 from (funext (hA18 14 rfl)).trans ((funext (hA13 14 rfl)).trans ((funext (hA8 14 rfl)).trans (ew14)))] at h1; exact h1
      clear pz9_0
      have hle3 : (u5_25) + 6 + PF ((w14)) ((u5_25)) (3 : Int).toNat ≤ (a1) := by omega
      clear hpf3
      have : SIR (STF ((w14)) GG ((u5_10)) ((a2)) 1 ((u5_25)) ((a1))) ((w14)) GG ((u5_10)) ((a2)) 4 (((a2) + 3) / 4) ((u5_25)) ((a1)) (0) (((u5_25 + 6))) (sc ((A 46)) 0 ((u5_39))) := ⟨by decide, by decide, by rw [sc_nil (f := (A 46)) (by omega)]; exact ST_4 (by decide) (by omega)⟩
      suffices hl93 : ∀ (m : Nat), ∀ (ls : rO) (σ : rS) (F_93 : hF) (A_93 : hA) (x93_5 : Int) (x93_8 : Int), rlook ls 0 = some (.ref (D 5)) → rlook ls 1 = some (I (a1)) → rlook ls 2 = some (I (a2)) → rlook ls 3 = some (I (a3)) → rlook ls 4 = some (I (u5_25)) → rlook ls 5 = some (I (x93_5)) → rlook ls 8 = some (I (x93_8)) → HS σ0 σ D N F_93 A_93 → SF [(5, 39), (5, 44), (5, 45)] F15 F_93 → SA [46] A16 A_93 → ∀ y93_5_39 : Int, F_93 5 39 = y93_5_39 → ∀ w93_46 : Int → Int, A_93 46 = w93_46 → (inr (x93_5)) → (inr (x93_8)) → (0 ≤ (x93_8) ∧ (x93_8) ≤ 4) → (0 ≤ (y93_5_39) ∧ (y93_5_39) ≤ (a2)) → ((y93_5_39) ≤ (x93_8) * (a3) ∨ (x93_8) = 4) → ((x93_5) = (u5_25) + 6 + PF ((w14)) ((u5_25)) ((x93_8) : Int).toNat ∨ (x93_8) = 4) → (SIR (STF ((w14)) GG ((u5_10)) ((a2)) 1 ((u5_25)) ((a1))) ((w14)) GG ((u5_10)) ((a2)) 4 (((a2) + 3) / 4) ((u5_25)) ((a1)) ((x93_8)) ((x93_5)) (sc ((w93_46)) 0 ((y93_5_39)))) → (4 - (x93_8)).toNat = m → Ew 292 (d + 3) 93 ls [] σ c s Q from
        hl93 _ _ σ _ _ ((u5_25 + 6)) (0) (rk_o (rk2_o (rk_o (rk_o (rfl) rfl rfl) rfl rfl) rfl rfl) rfl rfl) (rk_o (rk2_o (rk_o (rk_o (rfl) rfl rfl) rfl rfl) rfl rfl) rfl rfl) (rk_o (rk2_o (rk_o (rk_o (rfl) rfl rfl) rfl rfl) rfl rfl) rfl rfl) (rk_o (rk2_o (rk_o (rk_o (rfl) rfl rfl) rfl rfl) rfl rfl) rfl rfl) (rk_o (rk2_o (rk_o (rk_s) rfl rfl) rfl rfl) rfl rfl) (rk_o (rk2_o (rk_s) rfl rfl) rfl rfl) (rk_s) H (SF_refl) (SA_refl) (u5_39) (((((hS17 5 39 rfl).trans (hS12 5 39 rfl)).trans (hS7 5 39 rfl)).trans (eu5_39))) (A 46) ((funext (hA18 46 rfl)).trans ((funext (hA13 46 rfl)).trans (funext (hA8 46 rfl)))) (show inr ((u5_25 + 6)) by omega) (show inr (0) by omega) (show 0 ≤ (0) ∧ (0) ≤ 4 by omega) (show 0 ≤ (u5_39) ∧ (u5_39) ≤ (a2) by omega) (show (u5_39) ≤ (0) * (a3) ∨ (0) = 4 by omega) (show ((u5_25 + 6)) = (u5_25) + 6 + PF ((w14)) ((u5_25)) ((0) : Int).toNat ∨ (0) = 4 by omega) (show SIR (STF ((w14)) GG ((u5_10)) ((a2)) 1 ((u5_25)) ((a1))) ((w14)) GG ((u5_10)) ((a2)) 4 (((a2) + 3) / 4) ((u5_25)) ((a1)) ((0)) (((u5_25 + 6))) (sc ((A 46)) 0 ((u5_39))) by assumption) rfl
      as_aux_lemma =>
      intro m
      induction m using Nat.strongRecOn with
      | _ m ih93 =>
        intro ls σ F_93 A_93 x93_5 x93_8 l93_0 l93_1 l93_2 l93_3 l93_4 l93_5 l93_8 H hS_93 hA_93 y93_5_39 ey93_5_39 w93_46 ew93_46 j93_0 j93_1 j93_2 j93_3 j93_4 j93_5 j93_6 hm93
        have r22 : (0 : Int) ≤ y93_5_39 ∧ y93_5_39 ≤ 131072 := by have h1 : (0 : Int) ≤ F_93 5 39 ∧ F_93 5 39 ≤ 131072 := H.frng 5 39; rw [show F_93 5 39 = y93_5_39 from (ey93_5_39)] at h1; exact h1
        have j93_s : SIR (STF ((w14)) GG ((u5_10)) ((a2)) 1 ((u5_25)) ((a1))) ((w14)) GG ((u5_10)) ((a2)) 4 (((a2) + 3) / 4) ((u5_25)) ((a1)) ((x93_8)) ((x93_5)) (sc ((w93_46)) 0 ((y93_5_39))) := by assumption
        refine Ew_of (pc' := 95) (fun _ => x_iload rfl l93_8) ?_
        refine Ew_of (pc' := 96) (fun _ => x_iconst rfl) ?_
        refine w_icmpge (t := 172) rfl rfl (show inr (x93_8) by omega) (show inr (4) by omega) (fun b23 => ?_) (fun b23 => ?_)
        · refine Ew_of (pc' := 173) (fun _ => x_iconst rfl) ?_
          have r24 : (0 : Int) ≤ F 5 30 ∧ F 5 30 ≤ 20 := by have h1 : (0 : Int) ≤ F_93 5 30 ∧ F_93 5 30 ≤ 20 := H.frng 5 30; rw [show F_93 5 30 = F 5 30 from ((((hS_93 5 30 rfl).trans (hS17 5 30 rfl)).trans (hS12 5 30 rfl)).trans (hS7 5 30 rfl))] at h1; exact h1
          have r25 : (0 : Int) ≤ F 5 31 ∧ F 5 31 ≤ 65536 := by have h1 : (0 : Int) ≤ F_93 5 31 ∧ F_93 5 31 ≤ 65536 := H.frng 5 31; rw [show F_93 5 31 = F 5 31 from ((((hS_93 5 31 rfl).trans (hS17 5 31 rfl)).trans (hS12 5 31 rfl)).trans (hS7 5 31 rfl))] at h1; exact h1
          have : STA (STF ((w14)) GG ((u5_10)) ((a2)) 1 ((u5_25)) ((a1))) ((1)) ((F 5 30)) ((F 5 31)) (sc ((w93_46)) 0 ((y93_5_39))) := STA_y (SIR_e j93_s (by omega)) (by omega)
          exact w_ireturn rfl (k (1) σ _ _ H (SF_trans (SF_trans (SF_trans (SF_trans (SF_refl) hS7 (any_sub rfl)) hS12 (any_sub rfl)) hS17 (any_sub rfl)) hS_93 (any_sub rfl)) (SA_trans (SA_trans (SA_trans (SA_trans (SA_refl) hA8 (any_subA rfl)) hA13 (any_subA rfl)) hA18 (any_subA rfl)) hA_93 (any_subA rfl)) (F 5 30) (((((hS_93 5 30 rfl).trans (hS17 5 30 rfl)).trans (hS12 5 30 rfl)).trans (hS7 5 30 rfl))) (F 5 31) (((((hS_93 5 31 rfl).trans (hS17 5 31 rfl)).trans (hS12 5 31 rfl)).trans (hS7 5 31 rfl))) (y93_5_39) ((ey93_5_39)) (w93_46) (ew93_46) (show (1) = 0 ∨ (1) = 1 by omega) (show 0 ≤ (y93_5_39) ∧ (y93_5_39) ≤ a2 by omega) (show STA (STF ((w14)) GG ((u5_10)) (a2) 1 ((u5_25)) (a1)) ((1)) ((F 5 30)) ((F 5 31)) (sc ((w93_46)) 0 ((y93_5_39))) by assumption))
        · have hc125 : ∀ (tc125_0 : Int), ∀ (ls : rO) (σ : rS) (F_c125 : hF) (A_c125 : hA) , rlook ls 0 = some (.ref (D 5)) → rlook ls 1 = some (I (a1)) → rlook ls 2 = some (I (a2)) → rlook ls 3 = some (I (a3)) → rlook ls 4 = some (I (u5_25)) → rlook ls 5 = some (I (x93_5)) → rlook ls 8 = some (I (x93_8)) → HS σ0 σ D N F_c125 A_c125 → SF [] F_93 F_c125 → SA [] A_93 A_c125 → (inr (tc125_0)) → ((tc125_0) = (a1) ∧ (x93_8) = 3 ∨ (x93_8) < 3 ∧ (tc125_0) = (u5_25) + 6 + PF ((w14)) ((u5_25)) ((x93_8) + 1 : Int).toNat) → ((x93_8) = 3 ∧ (tc125_0) = (a1) ∨ (x93_8) ≠ 3 ∧ (tc125_0) = (x93_5) + nvl ((w14)) ((u5_25) + 2 * (x93_8)) 2) → Ew 292 (d + 3) 125 ls [I (tc125_0)] σ c s Q := by
           as_aux_lemma =>
            intro tc125_0 ls σ F_c125 A_c125  lc125_0 lc125_1 lc125_2 lc125_3 lc125_4 lc125_5 lc125_8 H hS_c125 hA_c125   jc125_0 jc125_1 jc125_2
            have k125 : (x93_8) = 3 ∧ (tc125_0) = (a1) ∨ (x93_8) ≠ 3 ∧ (tc125_0) = (x93_5) + nvl ((w14)) ((u5_25) + 2 * (x93_8)) 2 := by assumption
            have hpl := PF_le3 (g := (w14)) (a := (u5_25)) (k := (x93_8)) hB (by omega) (by omega)
            have hpn := fun q => PF_le3 (g := (w14)) (a := (u5_25)) (k := (x93_8) + 1) hB (by omega) q
            have hm3 := mul_le3 (k := (x93_8)) (c := (a3)) (by omega) (by omega) (by omega)
            have hm4 : (x93_8) < 3 → ((x93_8) + 1) * (a3) ≤ 3 * (a3) := fun q => Int.mul_le_mul_of_nonneg_right (by omega) (by omega)
            refine Ew_of (pc' := 127) (fun _ => x_istore rfl) ?_
            refine Ew_of (pc' := 128) (fun _ => x_aload_n rfl (rk_o (lc125_0) rfl rfl)) ?_
            refine Ew_of (pc' := 130) (fun _ => x_iload rfl (rk_o (lc125_5) rfl rfl)) ?_
            refine Ew_of (pc' := 132) (fun _ => x_iload rfl rk_s) ?_
            refine Ew_of (pc' := 134) (fun _ => x_iload rfl (rk_o (lc125_8) rfl rfl)) ?_
            refine Ew_of (pc' := 135) (fun _ => x_iconst rfl) ?_
            have hc147 : ∀ (tc147_0 : Int), ∀ (ls : rO) (σ : rS) (F_c147 : hF) (A_c147 : hA) , rlook ls 0 = some (.ref (D 5)) → rlook ls 1 = some (I (a1)) → rlook ls 2 = some (I (a2)) → rlook ls 3 = some (I (a3)) → rlook ls 4 = some (I (u5_25)) → rlook ls 5 = some (I (x93_5)) → rlook ls 8 = some (I (x93_8)) → rlook ls 9 = some (I (tc125_0)) → HS σ0 σ D N F_c147 A_c147 → SF [] F_c125 F_c147 → SA [] A_c125 A_c147 → (inr (tc147_0)) → (((x93_8) ≠ (3) ∧ (tc147_0) = (a3)) ∨ ((x93_8) = (3) ∧ (tc147_0) = ((a2 - (3 * a3))))) → Ew 292 (d + 3) 147 ls [I (tc147_0), I (tc125_0), I (x93_5), .ref (D 5)] σ c s Q := by
             as_aux_lemma =>
              intro tc147_0 ls σ F_c147 A_c147  lc147_0 lc147_1 lc147_2 lc147_3 lc147_4 lc147_5 lc147_8 lc147_9 H hS_c147 hA_c147   jc147_0 jc147_1
              have hst : (x93_8) = 4 - 1 ∧ (tc125_0) = (a1) ∧ (tc147_0) = (a2) - (x93_8) * (((a2) + 3) / 4) ∨ (x93_8) ≠ 4 - 1 ∧ (tc125_0) = (x93_5) + nvl ((w14)) ((u5_25) + 2 * (x93_8)) 2 ∧ (tc147_0) = ((a2) + 3) / 4 := by rcases k125 with ⟨x, y⟩ | ⟨x, y⟩; (exact .inl ⟨by omega, by omega, by rw [x]; omega⟩); (exact .inr ⟨by omega, by omega, by omega⟩)
              refine w_inv H (o := 5) rfl rfl rfl (H.perm 5 rfl) rfl rfl (by rfl) (M273 H (u5_10) ((((((((hS_c147 5 10 rfl).trans (hS_c125 5 10 rfl)).trans (hS_93 5 10 rfl)).trans (hS17 5 10 rfl)).trans (hS12 5 10 rfl)).trans (hS7 5 10 rfl)).trans (eu5_10))) (y93_5_39) ((((hS_c147 5 39 rfl).trans (hS_c125 5 39 rfl)).trans (ey93_5_39))) (w14) ((funext (hA_c147 14 rfl)).trans ((funext (hA_c125 14 rfl)).trans ((funext (hA_93 14 rfl)).trans ((funext (hA18 14 rfl)).trans ((funext (hA13 14 rfl)).trans ((funext (hA8 14 rfl)).trans (ew14))))))) (w31) ((funext (hA_c147 31 rfl)).trans ((funext (hA_c125 31 rfl)).trans ((funext (hA_93 31 rfl)).trans ((funext (hA18 31 rfl)).trans ((funext (hA13 31 rfl)).trans ((funext (hA8 31 rfl)).trans (ew31))))))) (w32) ((funext (hA_c147 32 rfl)).trans ((funext (hA_c125 32 rfl)).trans ((funext (hA_93 32 rfl)).trans ((funext (hA18 32 rfl)).trans ((funext (hA13 32 rfl)).trans ((funext (hA8 32 rfl)).trans (ew32))))))) (w93_46) ((funext (hA_c147 46 rfl)).trans ((funext (hA_c125 46 rfl)).trans (ew93_46))) (GG) (show inr (x93_5) by omega) (show inr (tc125_0) by omega) (show inr (tc147_0) by omega) (show ∀ i, 0 ≤ i → i < 256 → ((w31)) i = (GG) i by assumption) (show 0 ≤ (x93_5) ∧ (x93_5) ≤ 65536 ∧ 0 ≤ (tc125_0) ∧ (tc125_0) ≤ 65536 by omega) (show 0 ≤ (tc147_0) ∧ (y93_5_39) + (tc147_0) ≤ 131072 by omega) (show 0 ≤ (y93_5_39) by omega) (show 0 ≤ (u5_10) by omega) (show fl ((w32)) (p2 ((u5_10))) = CELS ((GG)) ((u5_10)) by assumption) (fun z30 σ F26 A27 H hS28 hA29 y31 ey32 wq33 ewq34 pz30_0 pz30_1 pz30_2 pz30_3 => ⟨rretB rfl pz30_0, ?_⟩))
              have r35 : (0 : Int) ≤ y31 ∧ y31 ≤ 131072 := by have h1 : (0 : Int) ≤ F26 5 39 ∧ F26 5 39 ≤ 131072 := H.frng 5 39; rw [show F26 5 39 = y31 from (ey32)] at h1; exact h1
              have hdc := pz30_2
              refine w_ifne (t := 162) rfl rfl (show inr (z30) by omega) (fun b36 => ?_) (fun b36 => ?_)
              · refine Ew_of (pc' := 164) (fun _ => x_iload rfl lc147_9) ?_
                refine Ew_of (pc' := 166) (fun _ => x_istore rfl) ?_
                refine Ew_of (pc' := 169) (fun _ => x_iinc (len := 3) rfl (rk_o (lc147_8) rfl rfl)) ?_
                refine Ew_of (pc' := 93) (fun _ => x_goto rfl rfl) ?_
                have : SIR (STF ((w14)) GG ((u5_10)) ((a2)) 1 ((u5_25)) ((a1))) ((w14)) GG ((u5_10)) ((a2)) 4 (((a2) + 3) / 4) ((u5_25)) ((a1)) (((x93_8 + 1))) ((tc125_0)) (sc ((wq33)) 0 ((y31))) := SIR_s j93_s (by omega) hst (DCA_1 hdc (by omega)) rfl
                exact ih93 _ (by omega) _ σ _ _ (tc125_0) ((x93_8 + 1)) (rk_o (rk_o (lc147_0) rfl rfl) rfl rfl) (rk_o (rk_o (lc147_1) rfl rfl) rfl rfl) (rk_o (rk_o (lc147_2) rfl rfl) rfl rfl) (rk_o (rk_o (lc147_3) rfl rfl) rfl rfl) (rk_o (rk_o (lc147_4) rfl rfl) rfl rfl) (rk_o (rk_s) rfl rfl) (rk_s) H (SF_trans (SF_trans (SF_trans (hS_93) hS_c125 (any_sub rfl)) hS_c147 (any_sub rfl)) hS28 (any_sub rfl)) (SA_trans (SA_trans (SA_trans (hA_93) hA_c125 (any_subA rfl)) hA_c147 (any_subA rfl)) hA29 (any_subA rfl)) (y31) ((ey32)) (wq33) (ewq34) (show inr (tc125_0) by omega) (show inr ((x93_8 + 1)) by omega) (show 0 ≤ ((x93_8 + 1)) ∧ ((x93_8 + 1)) ≤ 4 by omega) (show 0 ≤ (y31) ∧ (y31) ≤ (a2) by omega) (show (y31) ≤ ((x93_8 + 1)) * (a3) ∨ ((x93_8 + 1)) = 4 by omega) (show (tc125_0) = (u5_25) + 6 + PF ((w14)) ((u5_25)) (((x93_8 + 1)) : Int).toNat ∨ ((x93_8 + 1)) = 4 by omega) (show SIR (STF ((w14)) GG ((u5_10)) ((a2)) 1 ((u5_25)) ((a1))) ((w14)) GG ((u5_10)) ((a2)) 4 (((a2) + 3) / 4) ((u5_25)) ((a1)) (((x93_8 + 1))) ((tc125_0)) (sc ((wq33)) 0 ((y31))) by assumption) rfl
              · refine Ew_of (pc' := 154) (fun _ => x_aload_n rfl lc147_0) ?_
                refine Ew_of (pc' := 156) (fun _ => x_bipush (z := 14) rfl (by decide)) ?_
                refine Ew_of (pc' := 158) (fun _ => x_iload rfl lc147_5) ?_
                refine w_inv H (o := 5) rfl rfl rfl (H.perm 5 rfl) rfl rfl (by rfl) (M282 H (show inr (14) by omega) (show inr (x93_5) by omega) (show 0 ≤ (14) ∧ (14) ≤ 20 by omega) (show 0 ≤ (x93_5) ∧ (x93_5) ≤ 65536 by omega) (fun z41 σ F37 A38 H hS39 hA40 y42 ey43 y44 ey45 pz41_0 pz41_1 pz41_2 pz41_3 => ⟨rretB rfl pz41_0, ?_⟩))
                have r46 : (0 : Int) ≤ y42 ∧ y42 ≤ 20 := by have h1 : (0 : Int) ≤ F37 5 30 ∧ F37 5 30 ≤ 20 := H.frng 5 30; rw [show F37 5 30 = y42 from (ey43)] at h1; exact h1
                have r47 : (0 : Int) ≤ y44 ∧ y44 ≤ 65536 := by have h1 : (0 : Int) ≤ F37 5 31 ∧ F37 5 31 ≤ 65536 := H.frng 5 31; rw [show F37 5 31 = y44 from (ey45)] at h1; exact h1
                have : STA (STF ((w14)) GG ((u5_10)) ((a2)) 1 ((u5_25)) ((a1))) ((z41)) ((y42)) ((y44)) (sc ((wq33)) 0 ((y31))) := STA_f (SIR_f j93_s (by omega) hst (DCA_0 hdc (by omega))) (by omega) (by omega) (by omega)
                exact w_ireturn rfl (k (z41) σ _ _ H (SF_trans (SF_trans (SF_trans (SF_trans (SF_trans (SF_trans (SF_trans (SF_trans (SF_refl) hS7 (any_sub rfl)) hS12 (any_sub rfl)) hS17 (any_sub rfl)) hS_93 (any_sub rfl)) hS_c125 (any_sub rfl)) hS_c147 (any_sub rfl)) hS28 (any_sub rfl)) hS39 (any_sub rfl)) (SA_trans (SA_trans (SA_trans (SA_trans (SA_trans (SA_trans (SA_trans (SA_trans (SA_refl) hA8 (any_subA rfl)) hA13 (any_subA rfl)) hA18 (any_subA rfl)) hA_93 (any_subA rfl)) hA_c125 (any_subA rfl)) hA_c147 (any_subA rfl)) hA29 (any_subA rfl)) hA40 (any_subA rfl)) (y42) ((ey43)) (y44) ((ey45)) (y31) (((hS39 5 39 rfl).trans (ey32))) (wq33) ((funext (hA40 46 rfl)).trans (ewq34)) (show (z41) = 0 ∨ (z41) = 1 by omega) (show 0 ≤ (y31) ∧ (y31) ≤ a2 by omega) (show STA (STF ((w14)) GG ((u5_10)) (a2) 1 ((u5_25)) (a1)) ((z41)) ((y42)) ((y44)) (sc ((wq33)) 0 ((y31))) by assumption))
            refine w_icmpne (t := 146) rfl rfl (show inr (x93_8) by omega) (show inr (3) by omega) (fun b48 => ?_) (fun b48 => ?_)
            · refine Ew_of (pc' := 147) (fun _ => x_iload_n rfl (rk_o (lc125_3) rfl rfl)) ?_
              exact hc147 (a3) _ σ _ _  (rk_o (lc125_0) rfl rfl) (rk_o (lc125_1) rfl rfl) (rk_o (lc125_2) rfl rfl) (rk_o (lc125_3) rfl rfl) (rk_o (lc125_4) rfl rfl) (rk_o (lc125_5) rfl rfl) (rk_o (lc125_8) rfl rfl) (rk_s) H (SF_refl) (SA_refl)   (show inr (a3) by omega) (show ((x93_8) ≠ (3) ∧ (a3) = (a3)) ∨ ((x93_8) = (3) ∧ (a3) = ((a2 - (3 * a3)))) by omega)
            · refine Ew_of (pc' := 139) (fun _ => x_iload_n rfl (rk_o (lc125_2) rfl rfl)) ?_
              refine Ew_of (pc' := 140) (fun _ => x_iconst rfl) ?_
              refine Ew_of (pc' := 141) (fun _ => x_iload_n rfl (rk_o (lc125_3) rfl rfl)) ?_
              refine w_imul rfl ?_
              refine w_isub rfl ?_
              refine Ew_of (pc' := 147) (fun _ => x_goto rfl rfl) ?_
              exact hc147 ((a2 - (3 * a3))) _ σ _ _  (rk_o (lc125_0) rfl rfl) (rk_o (lc125_1) rfl rfl) (rk_o (lc125_2) rfl rfl) (rk_o (lc125_3) rfl rfl) (rk_o (lc125_4) rfl rfl) (rk_o (lc125_5) rfl rfl) (rk_o (lc125_8) rfl rfl) (rk_s) H (SF_refl) (SA_refl)   (show inr ((a2 - (3 * a3))) by omega) (show ((x93_8) ≠ (3) ∧ ((a2 - (3 * a3))) = (a3)) ∨ ((x93_8) = (3) ∧ ((a2 - (3 * a3))) = ((a2 - (3 * a3)))) by omega)
          have hps := PF_s (g := (w14)) (a := (u5_25)) (k := (x93_8)) (k' := (x93_8) + 1) (by omega) rfl
          have hpl := PF_le3 (g := (w14)) (a := (u5_25)) (k := (x93_8)) hB (by omega) (by omega)
          refine Ew_of (pc' := 101) (fun _ => x_iload rfl l93_8) ?_
          refine Ew_of (pc' := 102) (fun _ => x_iconst rfl) ?_
          refine w_icmpne (t := 109) rfl rfl (show inr (x93_8) by omega) (show inr (3) by omega) (fun b49 => ?_) (fun b49 => ?_)
          · refine Ew_of (pc' := 111) (fun _ => x_iload rfl l93_5) ?_
            refine Ew_of (pc' := 112) (fun _ => x_aload_n rfl l93_0) ?_
            refine Ew_of (pc' := 114) (fun _ => x_iload rfl l93_4) ?_
            refine Ew_of (pc' := 115) (fun _ => x_iconst rfl) ?_
            refine Ew_of (pc' := 117) (fun _ => x_iload rfl l93_8) ?_
            refine w_imul rfl ?_
            refine w_iadd rfl ?_
            refine Ew_of (pc' := 120) (fun _ => x_iconst rfl) ?_
            refine w_inv H (o := 5) rfl rfl rfl (H.perm 5 rfl) rfl rfl (by rfl) (M257 H (w14) ((funext (hA_93 14 rfl)).trans ((funext (hA18 14 rfl)).trans ((funext (hA13 14 rfl)).trans ((funext (hA8 14 rfl)).trans (ew14))))) (show inr ((u5_25 + (2 * x93_8))) by omega) (show inr (2) by omega) (show 0 ≤ ((u5_25 + (2 * x93_8))) ∧ 0 ≤ (2) ∧ (2) ≤ 8 ∧ ((u5_25 + (2 * x93_8))) + (2) ≤ 65536 by omega) (fun z54 σ F50 A51 H hS52 hA53 pz54_0 pz54_1 pz54_2 pz54_3 pz54_4 pz54_5 pz54_6 pz54_7 pz54_8 pz54_9 => ⟨rfl, ?_⟩))
            replace pz54_1 := pz54_1.resolve_left (by decide)
            replace pz54_2 := pz54_2.resolve_right (by decide)
            replace pz54_3 := pz54_3 (by decide)
            replace pz54_4 := pz54_4 (by decide)
            replace pz54_5 := pz54_5 (by decide)
            clear pz54_6
            clear pz54_7
            replace pz54_8 := pz54_8 (by decide)
            have hN8 : z54 = nvl ((w14)) ((u5_25) + 2 * (x93_8)) 2 := nmb_nn pz54_9 (by omega) pz54_0
            refine w_l2i rfl ?_
            refine w_iadd rfl ?_
            have : (x93_8) = 3 ∧ ((x93_5 + z54)) = (a1) ∨ (x93_8) ≠ 3 ∧ ((x93_5 + z54)) = (x93_5) + nvl ((w14)) ((u5_25) + 2 * (x93_8)) 2 := by first | exact .inl ⟨by omega, by omega⟩ | exact .inr ⟨by omega, by rw [← hN8]⟩
            exact hc125 ((x93_5 + z54)) _ σ _ _  (l93_0) (l93_1) (l93_2) (l93_3) (l93_4) (l93_5) (l93_8) H (SF_trans (SF_refl) hS52 (any_sub rfl)) (SA_trans (SA_refl) hA53 (any_subA rfl))   (show inr ((x93_5 + z54)) by omega) (show ((x93_5 + z54)) = (a1) ∧ (x93_8) = 3 ∨ (x93_8) < 3 ∧ ((x93_5 + z54)) = (u5_25) + 6 + PF ((w14)) ((u5_25)) ((x93_8) + 1 : Int).toNat by omega) (show (x93_8) = 3 ∧ ((x93_5 + z54)) = (a1) ∨ (x93_8) ≠ 3 ∧ ((x93_5 + z54)) = (x93_5) + nvl ((w14)) ((u5_25) + 2 * (x93_8)) 2 by assumption)
          · refine Ew_of (pc' := 106) (fun _ => x_iload_n rfl l93_1) ?_
            refine Ew_of (pc' := 125) (fun _ => x_goto rfl rfl) ?_
            have : (x93_8) = 3 ∧ (a1) = (a1) ∨ (x93_8) ≠ 3 ∧ (a1) = (x93_5) + nvl ((w14)) ((u5_25) + 2 * (x93_8)) 2 := by first | exact .inl ⟨by omega, by omega⟩ | exact .inr ⟨by omega, by rw [← hN8]⟩
            exact hc125 (a1) _ σ _ _  (l93_0) (l93_1) (l93_2) (l93_3) (l93_4) (l93_5) (l93_8) H (SF_refl) (SA_refl)   (show inr (a1) by omega) (show (a1) = (a1) ∧ (x93_8) = 3 ∨ (x93_8) < 3 ∧ (a1) = (u5_25) + 6 + PF ((w14)) ((u5_25)) ((x93_8) + 1 : Int).toNat by omega) (show (x93_8) = 3 ∧ (a1) = (a1) ∨ (x93_8) ≠ 3 ∧ (a1) = (x93_5) + nvl ((w14)) ((u5_25) + 2 * (x93_8)) 2 by assumption)
    · refine Ew_of (pc' := 82) (fun _ => x_aload_n rfl (rk2_o (rk_o (rk_o (rfl) rfl rfl) rfl rfl) rfl rfl)) ?_
      refine Ew_of (pc' := 84) (fun _ => x_bipush (z := 14) rfl (by decide)) ?_
      refine Ew_of (pc' := 86) (fun _ => x_iload rfl (rk2_o (rk_o (rk_s) rfl rfl) rfl rfl)) ?_
      refine w_inv H (o := 5) rfl rfl rfl (H.perm 5 rfl) rfl rfl (by rfl) (M282 H (show inr (14) by omega) (show inr (u5_25) by omega) (show 0 ≤ (14) ∧ (14) ≤ 20 by omega) (show 0 ≤ (u5_25) ∧ (u5_25) ≤ 65536 by omega) (fun z59 σ F55 A56 H hS57 hA58 y60 ey61 y62 ey63 pz59_0 pz59_1 pz59_2 pz59_3 => ⟨rretB rfl pz59_0, ?_⟩))
      have r64 : (0 : Int) ≤ y60 ∧ y60 ≤ 20 := by have h1 : (0 : Int) ≤ F55 5 30 ∧ F55 5 30 ≤ 20 := H.frng 5 30; rw [show F55 5 30 = y60 from (ey61)] at h1; exact h1
      have r65 : (0 : Int) ≤ y62 ∧ y62 ≤ 65536 := by have h1 : (0 : Int) ≤ F55 5 31 ∧ F55 5 31 ≤ 65536 := H.frng 5 31; rw [show F55 5 31 = y62 from (ey63)] at h1; exact h1
      have : STA (STF ((w14)) GG ((u5_10)) ((a2)) 1 ((u5_25)) ((a1))) ((z59)) ((y60)) ((y62)) (sc ((A 46)) 0 ((u5_39))) := STA_f (ST_b (by decide) (by omega)) (by omega) (by omega) (by omega)
      exact w_ireturn rfl (k (z59) σ _ _ H (SF_trans (SF_trans (SF_trans (SF_trans (SF_refl) hS7 (any_sub rfl)) hS12 (any_sub rfl)) hS17 (any_sub rfl)) hS57 (any_sub rfl)) (SA_trans (SA_trans (SA_trans (SA_trans (SA_refl) hA8 (any_subA rfl)) hA13 (any_subA rfl)) hA18 (any_subA rfl)) hA58 (any_subA rfl)) (y60) ((ey61)) (y62) ((ey63)) (u5_39) ((((((hS57 5 39 rfl).trans (hS17 5 39 rfl)).trans (hS12 5 39 rfl)).trans (hS7 5 39 rfl)).trans (eu5_39))) (A 46) ((funext (hA58 46 rfl)).trans ((funext (hA18 46 rfl)).trans ((funext (hA13 46 rfl)).trans (funext (hA8 46 rfl))))) (show (z59) = 0 ∨ (z59) = 1 by omega) (show 0 ≤ (u5_39) ∧ (u5_39) ≤ a2 by omega) (show STA (STF ((w14)) GG ((u5_10)) (a2) 1 ((u5_25)) (a1)) ((z59)) ((y60)) ((y62)) (sc ((A 46)) 0 ((u5_39))) by assumption))
  · refine Ew_of (pc' := 18) (fun _ => x_aload_n rfl (rk_o (rfl) rfl rfl)) ?_
    refine Ew_of (pc' := 20) (fun _ => x_bipush (z := 14) rfl (by decide)) ?_
    refine Ew_of (pc' := 22) (fun _ => x_iload rfl rk_s) ?_
    refine w_inv H (o := 5) rfl rfl rfl (H.perm 5 rfl) rfl rfl (by rfl) (M282 H (show inr (14) by omega) (show inr (u5_25) by omega) (show 0 ≤ (14) ∧ (14) ≤ 20 by omega) (show 0 ≤ (u5_25) ∧ (u5_25) ≤ 65536 by omega) (fun z70 σ F66 A67 H hS68 hA69 y71 ey72 y73 ey74 pz70_0 pz70_1 pz70_2 pz70_3 => ⟨rretB rfl pz70_0, ?_⟩))
    have r75 : (0 : Int) ≤ y71 ∧ y71 ≤ 20 := by have h1 : (0 : Int) ≤ F66 5 30 ∧ F66 5 30 ≤ 20 := H.frng 5 30; rw [show F66 5 30 = y71 from (ey72)] at h1; exact h1
    have r76 : (0 : Int) ≤ y73 ∧ y73 ≤ 65536 := by have h1 : (0 : Int) ≤ F66 5 31 ∧ F66 5 31 ≤ 65536 := H.frng 5 31; rw [show F66 5 31 = y73 from (ey74)] at h1; exact h1
    have hna := nvl2_r (I := (w14)) (a := (u5_25))
    have hnb := nvl2_r (I := (w14)) (a := (u5_25) + 2)
    have hnc := nvl2_r (I := (w14)) (a := (u5_25) + 4)
    have : STA (STF ((w14)) GG ((u5_10)) ((a2)) 1 ((u5_25)) ((a1))) ((z70)) ((y71)) ((y73)) (sc ((A 46)) 0 ((u5_39))) := STA_f (ST_b (by decide) (by omega)) (by omega) (by omega) (by omega)
    exact w_ireturn rfl (k (z70) σ _ _ H (SF_trans (SF_refl) hS68 (any_sub rfl)) (SA_trans (SA_refl) hA69 (any_subA rfl)) (y71) ((ey72)) (y73) ((ey74)) (u5_39) (((hS68 5 39 rfl).trans (eu5_39))) (A 46) (funext (hA69 46 rfl)) (show (z70) = 0 ∨ (z70) = 1 by omega) (show 0 ≤ (u5_39) ∧ (u5_39) ≤ a2 by omega) (show STA (STF ((w14)) GG ((u5_10)) (a2) 1 ((u5_25)) (a1)) ((z70)) ((y71)) ((y73)) (sc ((A 46)) 0 ((u5_39))) by assumption))
