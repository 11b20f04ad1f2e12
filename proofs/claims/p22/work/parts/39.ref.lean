/-- Reader.fourStreams -/
theorem M292 {σ0 σ : rS} {D N : Nat → Nat} {F : hF} {A : hA} {d c s : Nat} {Q : wQ} (H : HS σ0 σ D N F A) {a1 a2 a3 : Int} (u5_25 : Int) (eu5_25 : F 5 25 = u5_25) (u5_39 : Int) (eu5_39 : F 5 39 = u5_39) (h0 : inr (a1)) (h1 : inr (a2)) (h2 : inr (a3)) (h3 : 0 ≤ (u5_25) ∧ (u5_25) ≤ (a1) ∧ (a1) ≤ 65536) (h4 : 0 ≤ (a3) ∧ 3 * (a3) ≤ (a2) ∧ (a2) ≤ 131072) (h5 : (u5_39) = 0) (k : ∀ (z : Int) σ Fₚ Aₚ, HS σ0 σ D N Fₚ Aₚ → SF [(5, 30), (5, 31), (5, 39), (5, 44), (5, 45)] F Fₚ → SA [46] A Aₚ → ∀ y5_39 : Int, Fₚ 5 39 = y5_39 → ((z) = 0 ∨ (z) = 1) → (0 ≤ (y5_39) ∧ (y5_39) ≤ (a2)) → Q (some (I z)) σ c s) : Ew 292 (d + 3) 0 (rargs 0 [.ref (D 5), I a1, I a2, I a3]) [] σ c s Q := by
  have r1 : (0 : Int) ≤ u5_25 ∧ u5_25 ≤ 65536 := rngE (show (0 : Int) ≤ F 5 25 ∧ F 5 25 ≤ 65536 from H.frng 5 25) (show F 5 25 = u5_25 from (eu5_25))
  have r2 : (0 : Int) ≤ u5_39 ∧ u5_39 ≤ 131072 := rngE (show (0 : Int) ≤ F 5 39 ∧ F 5 39 ≤ 131072 from H.frng 5 39) (show F 5 39 = u5_39 from (eu5_39))
  refine Ew_of (pcₚ := 1) (fun _ => x_aload_n rfl rfl) ?_
  refine w_gI H (o := 5) (w := u5_25) rfl (H.perm 5 rfl) rfl rfl rfl (fun _ => rfl) (eu5_25) ?_
  refine Ew_of (pcₚ := 6) (fun _ => x_istore rfl) ?_
  refine Ew_of (pcₚ := 7) (fun _ => x_iload_n rfl (rk_o (rfl) rfl rfl)) ?_
  refine Ew_of (pcₚ := 8) (fun _ => x_aload_n rfl (rk_o (rfl) rfl rfl)) ?_
  refine w_gI H (o := 5) (w := u5_25) rfl (H.perm 5 rfl) rfl rfl rfl (fun _ => rfl) (eu5_25) ?_
  refine w_isub rfl ?_
  refine Ew_of (pcₚ := 14) (fun _ => x_bipush (z := 6) rfl (by decide)) ?_
  refine w_icmpge (t := 26) rfl rfl (show inr ((a1 - u5_25)) from q_1343 h3 r1) (show inr (6) from q_545) (fun b3 => ?_) (fun b3 => ?_)
  · refine Ew_of (pcₚ := 27) (fun _ => x_aload_n rfl (rk_o (rfl) rfl rfl)) ?_
    refine w_gI H (o := 5) (w := u5_25) rfl (H.perm 5 rfl) rfl rfl rfl (fun _ => rfl) (eu5_25) ?_
    refine Ew_of (pcₚ := 32) (fun _ => x_bipush (z := 6) rfl (by decide)) ?_
    refine w_iadd rfl ?_
    refine Ew_of (pcₚ := 35) (fun _ => x_istore rfl) ?_
    refine Ew_of (pcₚ := 36) (fun _ => x_aload_n rfl (rk_o (rk_o (rfl) rfl rfl) rfl rfl)) ?_
    refine Ew_of (pcₚ := 37) (fun _ => x_aload_n rfl (rk_o (rk_o (rfl) rfl rfl) rfl rfl)) ?_
    refine w_gI H (o := 5) (w := u5_25) rfl (H.perm 5 rfl) rfl rfl rfl (fun _ => rfl) (eu5_25) ?_
    refine Ew_of (pcₚ := 41) (fun _ => x_iconst rfl) ?_
    refine w_inv H (o := 5) rfl rfl rfl (H.perm 5 rfl) rfl rfl (by rfl) (M257 H (A 14) (rfl) (show inr (u5_25) from q_12 r1) (show inr (2) from q_55) (show 0 ≤ (u5_25) ∧ 0 ≤ (2) ∧ (2) ≤ 8 ∧ (u5_25) + (2) ≤ 65536 from q_1344 b3 h3 r1) (fun z8 σ F4 A5 H hS6 hA7 pz8_0 pz8_1 pz8_2 pz8_3 pz8_4 pz8_5 pz8_6 pz8_7 pz8_8 => ⟨rfl, ?_⟩))
    replace pz8_1 := pz8_1.resolve_left (by decide)
    replace pz8_2 := pz8_2.resolve_right (by decide)
    replace pz8_3 := pz8_3 (by decide)
    replace pz8_4 := pz8_4 (by decide)
    replace pz8_5 := pz8_5 (by decide)
    clear pz8_6
    clear pz8_7
    replace pz8_8 := pz8_8 (by decide)
    refine Ew_of (pcₚ := 45) (fun _ => x_aload_n rfl (rk_o (rk_o (rfl) rfl rfl) rfl rfl)) ?_
    refine Ew_of (pcₚ := 46) (fun _ => x_aload_n rfl (rk_o (rk_o (rfl) rfl rfl) rfl rfl)) ?_
    refine w_gI H (o := 5) (w := u5_25) rfl (H.perm 5 rfl) rfl rfl rfl (fun _ => rfl) ((hS6 5 25 rfl).trans (eu5_25)) ?_
    refine Ew_of (pcₚ := 50) (fun _ => x_iconst rfl) ?_
    refine w_iadd rfl ?_
    refine Ew_of (pcₚ := 52) (fun _ => x_iconst rfl) ?_
    refine w_inv H (o := 5) rfl rfl rfl (H.perm 5 rfl) rfl rfl (by rfl) (M257 H (A 14) (funext (hA7 14 rfl)) (show inr ((u5_25 + 2)) from q_1346 r1) (show inr (2) from q_55) (show 0 ≤ ((u5_25 + 2)) ∧ 0 ≤ (2) ∧ (2) ≤ 8 ∧ ((u5_25 + 2)) + (2) ≤ 65536 from q_1345 b3 h3 r1) (fun z13 σ F9 A10 H hS11 hA12 pz13_0 pz13_1 pz13_2 pz13_3 pz13_4 pz13_5 pz13_6 pz13_7 pz13_8 => ⟨rfl, ?_⟩))
    replace pz13_1 := pz13_1.resolve_left (by decide)
    replace pz13_2 := pz13_2.resolve_right (by decide)
    replace pz13_3 := pz13_3 (by decide)
    replace pz13_4 := pz13_4 (by decide)
    replace pz13_5 := pz13_5 (by decide)
    clear pz13_6
    clear pz13_7
    replace pz13_8 := pz13_8 (by decide)
    refine w_ladd rfl ?_
    refine Ew_of (pcₚ := 57) (fun _ => x_aload_n rfl (rk_o (rk_o (rfl) rfl rfl) rfl rfl)) ?_
    refine Ew_of (pcₚ := 58) (fun _ => x_aload_n rfl (rk_o (rk_o (rfl) rfl rfl) rfl rfl)) ?_
    refine w_gI H (o := 5) (w := u5_25) rfl (H.perm 5 rfl) rfl rfl rfl (fun _ => rfl) (((hS11 5 25 rfl).trans (hS6 5 25 rfl)).trans (eu5_25)) ?_
    refine Ew_of (pcₚ := 62) (fun _ => x_iconst rfl) ?_
    refine w_iadd rfl ?_
    refine Ew_of (pcₚ := 64) (fun _ => x_iconst rfl) ?_
    refine w_inv H (o := 5) rfl rfl rfl (H.perm 5 rfl) rfl rfl (by rfl) (M257 H (A 14) ((funext (hA12 14 rfl)).trans (funext (hA7 14 rfl))) (show inr ((u5_25 + 4)) from q_1348 r1) (show inr (2) from q_55) (show 0 ≤ ((u5_25 + 4)) ∧ 0 ≤ (2) ∧ (2) ≤ 8 ∧ ((u5_25 + 4)) + (2) ≤ 65536 from q_1347 b3 h3 r1) (fun z18 σ F14 A15 H hS16 hA17 pz18_0 pz18_1 pz18_2 pz18_3 pz18_4 pz18_5 pz18_6 pz18_7 pz18_8 => ⟨rfl, ?_⟩))
    replace pz18_1 := pz18_1.resolve_left (by decide)
    replace pz18_2 := pz18_2.resolve_right (by decide)
    replace pz18_3 := pz18_3 (by decide)
    replace pz18_4 := pz18_4 (by decide)
    replace pz18_5 := pz18_5 (by decide)
    clear pz18_6
    clear pz18_7
    replace pz18_8 := pz18_8 (by decide)
    refine w_ladd rfl ?_
    refine Ew_of (pcₚ := 70) (fun _ => x_lstore rfl) ?_
    refine Ew_of (pcₚ := 72) (fun _ => x_lload rfl rk2_s) ?_
    refine Ew_of (pcₚ := 73) (fun _ => x_iload_n rfl (rk2_o (rk_o (rk_o (rfl) rfl rfl) rfl rfl) rfl rfl)) ?_
    refine Ew_of (pcₚ := 75) (fun _ => x_iload rfl (rk2_o (rk_s) rfl rfl)) ?_
    refine w_isub rfl ?_
    refine w_i2l rfl (show inr ((a1 - (u5_25 + 6))) from q_1349 b3 h3 r1) ?_
    refine w_lcmp rfl (show inrJ (((z8 + z13) + z18)) by omega) (show inrJ ((a1 - (u5_25 + 6))) from q_1350 b3 h3 r1) (fun z19 gz19 gaz19 gbz19 => ?_)
    refine w_ifle (t := 90) rfl rfl (show inr (z19) from gz19) (fun b20 => ?_) (fun b20 => ?_)
    · refine Ew_of (pcₚ := 91) (fun _ => x_iconst rfl) ?_
      refine Ew_of (pcₚ := 93) (fun _ => x_istore rfl) ?_
      have hpf0 : PF ((A 14)) ((u5_25)) (0 : Int).toNat = 0 := rfl
      have hpf3 := PF_3 (g := (A 14)) (a := (u5_25))
      have hB : ∀ i, (0 : Int) ≤ (A 14) i ∧ (A 14) i ≤ 255 := fun i => by have h1 : (0 : Int) ≤ A15 14 i ∧ A15 14 i ≤ 255 := H.arng 14 i; rw [show A15 14 = A 14 from (funext (hA17 14 rfl)).trans ((funext (hA12 14 rfl)).trans (funext (hA7 14 rfl)))] at h1; exact h1
      clear pz8_0
      have hle3 : (u5_25) + 6 + PF ((A 14)) ((u5_25)) (3 : Int).toNat ≤ (a1) := by omega
      clear hpf3
      suffices hl93 : ∀ (m : Nat), ∀ (ls : rO) (σ : rS) (F_93 : hF) (A_93 : hA) (x93_5 : Int) (x93_8 : Int), rlook ls 0 = some (.ref (D 5)) → rlook ls 1 = some (I (a1)) → rlook ls 2 = some (I (a2)) → rlook ls 3 = some (I (a3)) → rlook ls 4 = some (I (u5_25)) → rlook ls 5 = some (I (x93_5)) → rlook ls 8 = some (I (x93_8)) → HS σ0 σ D N F_93 A_93 → SF [(5, 39), (5, 44), (5, 45)] F14 F_93 → SA [46] A15 A_93 → ∀ y93_5_39 : Int, F_93 5 39 = y93_5_39 → (inr (x93_5)) → (inr (x93_8)) → (0 ≤ (x93_8) ∧ (x93_8) ≤ 4) → (0 ≤ (y93_5_39) ∧ (y93_5_39) ≤ (a2)) → ((y93_5_39) ≤ (x93_8) * (a3) ∨ (x93_8) = 4) → ((x93_5) = (u5_25) + 6 + PF ((A 14)) ((u5_25)) ((x93_8) : Int).toNat ∨ (x93_8) = 4) → (4 - (x93_8)).toNat = m → Ew 292 (d + 3) 93 ls [] σ c s Q from
        hl93 _ _ σ _ _ ((u5_25 + 6)) (0) (rk_o (rk2_o (rk_o (rk_o (rfl) rfl rfl) rfl rfl) rfl rfl) rfl rfl) (rk_o (rk2_o (rk_o (rk_o (rfl) rfl rfl) rfl rfl) rfl rfl) rfl rfl) (rk_o (rk2_o (rk_o (rk_o (rfl) rfl rfl) rfl rfl) rfl rfl) rfl rfl) (rk_o (rk2_o (rk_o (rk_o (rfl) rfl rfl) rfl rfl) rfl rfl) rfl rfl) (rk_o (rk2_o (rk_o (rk_s) rfl rfl) rfl rfl) rfl rfl) (rk_o (rk2_o (rk_s) rfl rfl) rfl rfl) (rk_s) H (SF_refl) (SA_refl) (u5_39) (((((hS16 5 39 rfl).trans (hS11 5 39 rfl)).trans (hS6 5 39 rfl)).trans (eu5_39)))  (show inr ((u5_25 + 6)) from q_1354 r1) (show inr (0) from q_20) (show 0 ≤ (0) ∧ (0) ≤ 4 from q_1353) (show 0 ≤ (u5_39) ∧ (u5_39) ≤ (a2) from q_1352 h4 h5 r2) (show (u5_39) ≤ (0) * (a3) ∨ (0) = 4 from q_1351 h5) (show ((u5_25 + 6)) = (u5_25) + 6 + PF ((A 14)) ((u5_25)) ((0) : Int).toNat ∨ (0) = 4 by omega) rfl
      as_aux_lemma =>
      intro m
      induction m using Nat.strongRecOn with
      | _ m ih93 =>
        intro ls σ F_93 A_93 x93_5 x93_8 l93_0 l93_1 l93_2 l93_3 l93_4 l93_5 l93_8 H hS_93 hA_93 y93_5_39 ey93_5_39  j93_0 j93_1 j93_2 j93_3 j93_4 j93_5 hm93
        have r21 : (0 : Int) ≤ y93_5_39 ∧ y93_5_39 ≤ 131072 := rngE (show (0 : Int) ≤ F_93 5 39 ∧ F_93 5 39 ≤ 131072 from H.frng 5 39) (show F_93 5 39 = y93_5_39 from (ey93_5_39))
        refine Ew_of (pcₚ := 95) (fun _ => x_iload rfl l93_8) ?_
        refine Ew_of (pcₚ := 96) (fun _ => x_iconst rfl) ?_
        refine w_icmpge (t := 172) rfl rfl (show inr (x93_8) from j93_1) (show inr (4) from q_2) (fun b22 => ?_) (fun b22 => ?_)
        · refine Ew_of (pcₚ := 173) (fun _ => x_iconst rfl) ?_
          exact w_ireturn rfl (k (1) σ _ _ H (SF_trans (SF_trans (SF_trans (SF_trans (SF_refl) hS6 (any_sub rfl)) hS11 (any_sub rfl)) hS16 (any_sub rfl)) hS_93 (any_sub rfl)) (SA_trans (SA_trans (SA_trans (SA_trans (SA_refl) hA7 (any_subA rfl)) hA12 (any_subA rfl)) hA17 (any_subA rfl)) hA_93 (any_subA rfl)) (y93_5_39) ((ey93_5_39)) (show (1) = 0 ∨ (1) = 1 by first | exact q_5 | omega) (show 0 ≤ (y93_5_39) ∧ (y93_5_39) ≤ a2 from j93_3))
        · have hc125 : ∀ (tc125_0 : Int), ∀ (ls : rO) (σ : rS) (F_c125 : hF) (A_c125 : hA) , rlook ls 0 = some (.ref (D 5)) → rlook ls 1 = some (I (a1)) → rlook ls 2 = some (I (a2)) → rlook ls 3 = some (I (a3)) → rlook ls 4 = some (I (u5_25)) → rlook ls 5 = some (I (x93_5)) → rlook ls 8 = some (I (x93_8)) → HS σ0 σ D N F_c125 A_c125 → SF [] F_93 F_c125 → SA [] A_93 A_c125 → (inr (tc125_0)) → ((tc125_0) = (a1) ∧ (x93_8) = 3 ∨ (x93_8) < 3 ∧ (tc125_0) = (u5_25) + 6 + PF ((A 14)) ((u5_25)) ((x93_8) + 1 : Int).toNat) → Ew 292 (d + 3) 125 ls [I (tc125_0)] σ c s Q := by
           as_aux_lemma =>
            intro tc125_0 ls σ F_c125 A_c125  lc125_0 lc125_1 lc125_2 lc125_3 lc125_4 lc125_5 lc125_8 H hS_c125 hA_c125   jc125_0 jc125_1
            have hpl := PF_le3 (g := (A 14)) (a := (u5_25)) (k := (x93_8)) hB (by omega) (by omega)
            have hpn := fun q => PF_le3 (g := (A 14)) (a := (u5_25)) (k := (x93_8) + 1) hB (by omega) q
            have hm3 := mul_le3 (k := (x93_8)) (c := (a3)) (by omega) (by omega) (by omega)
            have hm4 : (x93_8) < 3 → ((x93_8) + 1) * (a3) ≤ 3 * (a3) := fun q => Int.mul_le_mul_of_nonneg_right (by omega) (by omega)
            refine Ew_of (pcₚ := 127) (fun _ => x_istore rfl) ?_
            refine Ew_of (pcₚ := 128) (fun _ => x_aload_n rfl (rk_o (lc125_0) rfl rfl)) ?_
            refine Ew_of (pcₚ := 130) (fun _ => x_iload rfl (rk_o (lc125_5) rfl rfl)) ?_
            refine Ew_of (pcₚ := 132) (fun _ => x_iload rfl rk_s) ?_
            refine Ew_of (pcₚ := 134) (fun _ => x_iload rfl (rk_o (lc125_8) rfl rfl)) ?_
            refine Ew_of (pcₚ := 135) (fun _ => x_iconst rfl) ?_
            have hc147 : ∀ (tc147_0 : Int), ∀ (ls : rO) (σ : rS) (F_c147 : hF) (A_c147 : hA) , rlook ls 0 = some (.ref (D 5)) → rlook ls 1 = some (I (a1)) → rlook ls 2 = some (I (a2)) → rlook ls 3 = some (I (a3)) → rlook ls 4 = some (I (u5_25)) → rlook ls 5 = some (I (x93_5)) → rlook ls 8 = some (I (x93_8)) → rlook ls 9 = some (I (tc125_0)) → HS σ0 σ D N F_c147 A_c147 → SF [] F_c125 F_c147 → SA [] A_c125 A_c147 → (inr (tc147_0)) → (((x93_8) ≠ (3) ∧ (tc147_0) = (a3)) ∨ ((x93_8) = (3) ∧ (tc147_0) = ((a2 - (3 * a3))))) → Ew 292 (d + 3) 147 ls [I (tc147_0), I (tc125_0), I (x93_5), .ref (D 5)] σ c s Q := by
             as_aux_lemma =>
              intro tc147_0 ls σ F_c147 A_c147  lc147_0 lc147_1 lc147_2 lc147_3 lc147_4 lc147_5 lc147_8 lc147_9 H hS_c147 hA_c147   jc147_0 jc147_1
              refine w_inv H (o := 5) rfl rfl rfl (H.perm 5 rfl) rfl rfl (by rfl) (M273 H (y93_5_39) ((((hS_c147 5 39 rfl).trans (hS_c125 5 39 rfl)).trans (ey93_5_39))) (show inr (x93_5) from j93_0) (show inr (tc125_0) from jc125_0) (show inr (tc147_0) from jc147_0) (show 0 ≤ (x93_5) ∧ (x93_5) ≤ 65536 ∧ 0 ≤ (tc125_0) ∧ (tc125_0) ≤ 65536 by omega) (show 0 ≤ (tc147_0) ∧ (y93_5_39) + (tc147_0) ≤ 131072 by omega) (fun z27 σ F23 A24 H hS25 hA26 y28 ey29 pz27_0 pz27_1 => ⟨rretB rfl pz27_0, ?_⟩))
              have r30 : (0 : Int) ≤ y28 ∧ y28 ≤ 131072 := rngE (show (0 : Int) ≤ F23 5 39 ∧ F23 5 39 ≤ 131072 from H.frng 5 39) (show F23 5 39 = y28 from (ey29))
              refine w_ifne (t := 162) rfl rfl (show inr (z27) from q_15 pz27_0) (fun b31 => ?_) (fun b31 => ?_)
              · refine Ew_of (pcₚ := 164) (fun _ => x_iload rfl lc147_9) ?_
                refine Ew_of (pcₚ := 166) (fun _ => x_istore rfl) ?_
                refine Ew_of (pcₚ := 169) (fun _ => x_iinc (len := 3) rfl (rk_o (lc147_8) rfl rfl)) ?_
                refine Ew_of (pcₚ := 93) (fun _ => x_goto rfl rfl) ?_
                exact ih93 _ (msE hm93 q_368 (q_369 b22)) _ σ _ _ (tc125_0) ((x93_8 + 1)) (rk_o (rk_o (lc147_0) rfl rfl) rfl rfl) (rk_o (rk_o (lc147_1) rfl rfl) rfl rfl) (rk_o (rk_o (lc147_2) rfl rfl) rfl rfl) (rk_o (rk_o (lc147_3) rfl rfl) rfl rfl) (rk_o (rk_o (lc147_4) rfl rfl) rfl rfl) (rk_o (rk_s) rfl rfl) (rk_s) H (SF_trans (SF_trans (SF_trans (hS_93) hS_c125 (any_sub rfl)) hS_c147 (any_sub rfl)) hS25 (any_sub rfl)) (SA_trans (SA_trans (SA_trans (hA_93) hA_c125 (any_subA rfl)) hA_c147 (any_subA rfl)) hA26 (any_subA rfl)) (y28) ((ey29))  (show inr (tc125_0) from jc125_0) (show inr ((x93_8 + 1)) from q_1356 b22 j93_2) (show 0 ≤ ((x93_8 + 1)) ∧ ((x93_8 + 1)) ≤ 4 from q_1355 b22 j93_2) (show 0 ≤ (y28) ∧ (y28) ≤ (a2) by omega) (show (y28) ≤ ((x93_8 + 1)) * (a3) ∨ ((x93_8 + 1)) = 4 by omega) (show (tc125_0) = (u5_25) + 6 + PF ((A 14)) ((u5_25)) (((x93_8 + 1)) : Int).toNat ∨ ((x93_8 + 1)) = 4 by omega) rfl
              · refine Ew_of (pcₚ := 154) (fun _ => x_aload_n rfl lc147_0) ?_
                refine Ew_of (pcₚ := 156) (fun _ => x_bipush (z := 14) rfl (by decide)) ?_
                refine Ew_of (pcₚ := 158) (fun _ => x_iload rfl lc147_5) ?_
                refine w_inv H (o := 5) rfl rfl rfl (H.perm 5 rfl) rfl rfl (by rfl) (M282 H (show inr (14) from q_1358) (show inr (x93_5) from j93_0) (show 0 ≤ (14) ∧ (14) ≤ 20 from q_1357) (show 0 ≤ (x93_5) ∧ (x93_5) ≤ 65536 by omega) (fun z36 σ F32 A33 H hS34 hA35 pz36_0 pz36_1 => ⟨rretB rfl pz36_0, ?_⟩))
                exact w_ireturn rfl (k (z36) σ _ _ H (SF_trans (SF_trans (SF_trans (SF_trans (SF_trans (SF_trans (SF_trans (SF_trans (SF_refl) hS6 (any_sub rfl)) hS11 (any_sub rfl)) hS16 (any_sub rfl)) hS_93 (any_sub rfl)) hS_c125 (any_sub rfl)) hS_c147 (any_sub rfl)) hS25 (any_sub rfl)) hS34 (any_sub rfl)) (SA_trans (SA_trans (SA_trans (SA_trans (SA_trans (SA_trans (SA_trans (SA_trans (SA_refl) hA7 (any_subA rfl)) hA12 (any_subA rfl)) hA17 (any_subA rfl)) hA_93 (any_subA rfl)) hA_c125 (any_subA rfl)) hA_c147 (any_subA rfl)) hA26 (any_subA rfl)) hA35 (any_subA rfl)) (y28) (((hS34 5 39 rfl).trans (ey29))) (show (z36) = 0 ∨ (z36) = 1 from pz36_0) (show 0 ≤ (y28) ∧ (y28) ≤ a2 by omega))
            refine w_icmpne (t := 146) rfl rfl (show inr (x93_8) from j93_1) (show inr (3) from q_66) (fun b37 => ?_) (fun b37 => ?_)
            · refine Ew_of (pcₚ := 147) (fun _ => x_iload_n rfl (rk_o (lc125_3) rfl rfl)) ?_
              exact hc147 (a3) _ σ _ _  (rk_o (lc125_0) rfl rfl) (rk_o (lc125_1) rfl rfl) (rk_o (lc125_2) rfl rfl) (rk_o (lc125_3) rfl rfl) (rk_o (lc125_4) rfl rfl) (rk_o (lc125_5) rfl rfl) (rk_o (lc125_8) rfl rfl) (rk_s) H (SF_refl) (SA_refl)   (show inr (a3) from h2) (show ((x93_8) ≠ (3) ∧ (a3) = (a3)) ∨ ((x93_8) = (3) ∧ (a3) = ((a2 - (3 * a3)))) from q_1359 b37)
            · refine Ew_of (pcₚ := 139) (fun _ => x_iload_n rfl (rk_o (lc125_2) rfl rfl)) ?_
              refine Ew_of (pcₚ := 140) (fun _ => x_iconst rfl) ?_
              refine Ew_of (pcₚ := 141) (fun _ => x_iload_n rfl (rk_o (lc125_3) rfl rfl)) ?_
              refine w_imul rfl ?_
              refine w_isub rfl ?_
              refine Ew_of (pcₚ := 147) (fun _ => x_goto rfl rfl) ?_
              exact hc147 ((a2 - (3 * a3))) _ σ _ _  (rk_o (lc125_0) rfl rfl) (rk_o (lc125_1) rfl rfl) (rk_o (lc125_2) rfl rfl) (rk_o (lc125_3) rfl rfl) (rk_o (lc125_4) rfl rfl) (rk_o (lc125_5) rfl rfl) (rk_o (lc125_8) rfl rfl) (rk_s) H (SF_refl) (SA_refl)   (show inr ((a2 - (3 * a3))) from q_1361 h4) (show ((x93_8) ≠ (3) ∧ ((a2 - (3 * a3))) = (a3)) ∨ ((x93_8) = (3) ∧ ((a2 - (3 * a3))) = ((a2 - (3 * a3)))) from q_1360 b37)
          have hps := PF_s (g := (A 14)) (a := (u5_25)) (k := (x93_8)) (kₚ := (x93_8) + 1) (by omega) rfl
          have hpl := PF_le3 (g := (A 14)) (a := (u5_25)) (k := (x93_8)) hB (by omega) (by omega)
          refine Ew_of (pcₚ := 101) (fun _ => x_iload rfl l93_8) ?_
          refine Ew_of (pcₚ := 102) (fun _ => x_iconst rfl) ?_
          refine w_icmpne (t := 109) rfl rfl (show inr (x93_8) from j93_1) (show inr (3) from q_66) (fun b38 => ?_) (fun b38 => ?_)
          · refine Ew_of (pcₚ := 111) (fun _ => x_iload rfl l93_5) ?_
            refine Ew_of (pcₚ := 112) (fun _ => x_aload_n rfl l93_0) ?_
            refine Ew_of (pcₚ := 114) (fun _ => x_iload rfl l93_4) ?_
            refine Ew_of (pcₚ := 115) (fun _ => x_iconst rfl) ?_
            refine Ew_of (pcₚ := 117) (fun _ => x_iload rfl l93_8) ?_
            refine w_imul rfl ?_
            refine w_iadd rfl ?_
            refine Ew_of (pcₚ := 120) (fun _ => x_iconst rfl) ?_
            refine w_inv H (o := 5) rfl rfl rfl (H.perm 5 rfl) rfl rfl (by rfl) (M257 H (A 14) ((funext (hA_93 14 rfl)).trans ((funext (hA17 14 rfl)).trans ((funext (hA12 14 rfl)).trans (funext (hA7 14 rfl))))) (show inr ((u5_25 + (2 * x93_8))) from q_1362 b22 j93_2 r1) (show inr (2) from q_55) (show 0 ≤ ((u5_25 + (2 * x93_8))) ∧ 0 ≤ (2) ∧ (2) ≤ 8 ∧ ((u5_25 + (2 * x93_8))) + (2) ≤ 65536 by omega) (fun z43 σ F39 A40 H hS41 hA42 pz43_0 pz43_1 pz43_2 pz43_3 pz43_4 pz43_5 pz43_6 pz43_7 pz43_8 => ⟨rfl, ?_⟩))
            replace pz43_1 := pz43_1.resolve_left (by decide)
            replace pz43_2 := pz43_2.resolve_right (by decide)
            replace pz43_3 := pz43_3 (by decide)
            replace pz43_4 := pz43_4 (by decide)
            replace pz43_5 := pz43_5 (by decide)
            clear pz43_6
            clear pz43_7
            replace pz43_8 := pz43_8 (by decide)
            refine w_l2i rfl ?_
            refine w_iadd rfl ?_
            exact hc125 ((x93_5 + z43)) _ σ _ _  (l93_0) (l93_1) (l93_2) (l93_3) (l93_4) (l93_5) (l93_8) H (SF_trans (SF_refl) hS41 (any_sub rfl)) (SA_trans (SA_refl) hA42 (any_subA rfl))   (show inr ((x93_5 + z43)) by omega) (show ((x93_5 + z43)) = (a1) ∧ (x93_8) = 3 ∨ (x93_8) < 3 ∧ ((x93_5 + z43)) = (u5_25) + 6 + PF ((A 14)) ((u5_25)) ((x93_8) + 1 : Int).toNat by omega)
          · refine Ew_of (pcₚ := 106) (fun _ => x_iload_n rfl l93_1) ?_
            refine Ew_of (pcₚ := 125) (fun _ => x_goto rfl rfl) ?_
            exact hc125 (a1) _ σ _ _  (l93_0) (l93_1) (l93_2) (l93_3) (l93_4) (l93_5) (l93_8) H (SF_refl) (SA_refl)   (show inr (a1) from h0) (show (a1) = (a1) ∧ (x93_8) = 3 ∨ (x93_8) < 3 ∧ (a1) = (u5_25) + 6 + PF ((A 14)) ((u5_25)) ((x93_8) + 1 : Int).toNat by omega)
    · refine Ew_of (pcₚ := 82) (fun _ => x_aload_n rfl (rk2_o (rk_o (rk_o (rfl) rfl rfl) rfl rfl) rfl rfl)) ?_
      refine Ew_of (pcₚ := 84) (fun _ => x_bipush (z := 14) rfl (by decide)) ?_
      refine Ew_of (pcₚ := 86) (fun _ => x_iload rfl (rk2_o (rk_o (rk_s) rfl rfl) rfl rfl)) ?_
      refine w_inv H (o := 5) rfl rfl rfl (H.perm 5 rfl) rfl rfl (by rfl) (M282 H (show inr (14) from q_1358) (show inr (u5_25) from q_12 r1) (show 0 ≤ (14) ∧ (14) ≤ 20 from q_1357) (show 0 ≤ (u5_25) ∧ (u5_25) ≤ 65536 from r1) (fun z48 σ F44 A45 H hS46 hA47 pz48_0 pz48_1 => ⟨rretB rfl pz48_0, ?_⟩))
      exact w_ireturn rfl (k (z48) σ _ _ H (SF_trans (SF_trans (SF_trans (SF_trans (SF_refl) hS6 (any_sub rfl)) hS11 (any_sub rfl)) hS16 (any_sub rfl)) hS46 (any_sub rfl)) (SA_trans (SA_trans (SA_trans (SA_trans (SA_refl) hA7 (any_subA rfl)) hA12 (any_subA rfl)) hA17 (any_subA rfl)) hA47 (any_subA rfl)) (u5_39) ((((((hS46 5 39 rfl).trans (hS16 5 39 rfl)).trans (hS11 5 39 rfl)).trans (hS6 5 39 rfl)).trans (eu5_39))) (show (z48) = 0 ∨ (z48) = 1 from pz48_0) (show 0 ≤ (u5_39) ∧ (u5_39) ≤ a2 from q_1352 h4 h5 r2))
  · refine Ew_of (pcₚ := 18) (fun _ => x_aload_n rfl (rk_o (rfl) rfl rfl)) ?_
    refine Ew_of (pcₚ := 20) (fun _ => x_bipush (z := 14) rfl (by decide)) ?_
    refine Ew_of (pcₚ := 22) (fun _ => x_iload rfl rk_s) ?_
    refine w_inv H (o := 5) rfl rfl rfl (H.perm 5 rfl) rfl rfl (by rfl) (M282 H (show inr (14) from q_1358) (show inr (u5_25) from q_12 r1) (show 0 ≤ (14) ∧ (14) ≤ 20 from q_1357) (show 0 ≤ (u5_25) ∧ (u5_25) ≤ 65536 from r1) (fun z53 σ F49 A50 H hS51 hA52 pz53_0 pz53_1 => ⟨rretB rfl pz53_0, ?_⟩))
    exact w_ireturn rfl (k (z53) σ _ _ H (SF_trans (SF_refl) hS51 (any_sub rfl)) (SA_trans (SA_refl) hA52 (any_subA rfl)) (u5_39) (((hS51 5 39 rfl).trans (eu5_39))) (show (z53) = 0 ∨ (z53) = 1 from pz53_0) (show 0 ≤ (u5_39) ∧ (u5_39) ≤ a2 from q_1352 h4 h5 r2))
