section
/-! 49.ref -/
theorem M416 {σ0 σ : rS} {D N : Nat → Nat} {F : hF} {A : hA} {d c s : Nat} {Q : wQ} (H : HS σ0 σ D N F A) {a1 a2 a3 : Int} (w75 : Int → Int) (ew75 : A 75 = w75) (h0 : inr (a1)) (h1 : inr (a2)) (h2 : inr (a3)) (h3 : 0 ≤ (a1) ∧ 0 ≤ (a2) ∧ (a1) + (a2) ≤ 64) (k : ∀ (z : Int) σ Fₚ Aₚ, HS σ0 σ D N Fₚ Aₚ → SF [] F Fₚ → SA [75] A Aₚ → ∀ v75 : Int → Int, Aₚ 75 = v75 → (inr (z)) → ((z) = (a1) + (a2)) → ((v75) = rns ((w75)) ((a1)) ((a2)) ((a3))) → Q (some (I z)) σ c s) : Ew 416 (d + 0) 0 (rargs 0 [.ref (D 6), I a1, I a2, I a3]) [] σ c s Q := by
  refine Ew_of (pcₚ := 1) (fun _ => x_iconst rfl) ?_
  refine Ew_of (pcₚ := 3) (fun _ => x_istore rfl) ?_
  have : (w75) = rns ((w75)) ((a1)) 0 ((a3)) := rns_0.symm
  suffices hl3 : ∀ (m : Nat), ∀ (ls : rO) (σ : rS) (F_3 : hF) (A_3 : hA) (x3_4 : Int), rlook ls 0 = some (.ref (D 6)) → rlook ls 1 = some (I (a1)) → rlook ls 2 = some (I (a2)) → rlook ls 3 = some (I (a3)) → rlook ls 4 = some (I (x3_4)) → HS σ0 σ D N F_3 A_3 → SF [] F F_3 → SA [75] A A_3 → ∀ w3_75 : Int → Int, A_3 75 = w3_75 → (inr (x3_4)) → ((0) ≤ (x3_4)) → ((x3_4) ≤ (0) ∨ (x3_4) ≤ ((a2))) → ((w3_75) = rns ((w75)) ((a1)) ((x3_4)) ((a3))) → (((a2)) - (x3_4)).toNat = m → Ew 416 (d + 0) 3 ls [] σ c s Q from
    hl3 _ _ σ _ _ (0) (rk_o (rfl) rfl rfl) (rk_o (rfl) rfl rfl) (rk_o (rfl) rfl rfl) (rk_o (rfl) rfl rfl) (rk_s) H (SF_refl) (SA_refl)  (w75) (ew75) (show inr (0) from q_2) (show (0) ≤ (0) from q_1) (show (0) ≤ (0) ∨ (0) ≤ ((a2)) from q_5) (show (w75) = rns ((w75)) ((a1)) ((0)) ((a3)) by assumption) rfl
  as_aux_lemma =>
  intro m
  induction m using Nat.strongRecOn with
  | _ m ih3 =>
    intro ls σ F_3 A_3 x3_4 l3_0 l3_1 l3_2 l3_3 l3_4 H hS_3 hA_3  w3_75 ew3_75 j3_0 j3_1 j3_2 j3_3 hm3
    refine Ew_of (pcₚ := 5) (fun _ => x_iload rfl l3_4) ?_
    refine Ew_of (pcₚ := 6) (fun _ => x_iload_n rfl l3_2) ?_
    refine w_icmpge (t := 25) rfl rfl (show inr (x3_4) from j3_0) (show inr (a2) from h1) (fun b1 => ?_) (fun b1 => ?_)
    · have : (w3_75) = rns ((w75)) ((a1)) ((a2)) ((a3)) := by rw [j3_3, show (x3_4) = (a2) by omega]
      refine Ew_of (pcₚ := 26) (fun _ => x_iload_n rfl l3_1) ?_
      refine Ew_of (pcₚ := 27) (fun _ => x_iload_n rfl l3_2) ?_
      refine w_iadd rfl ?_
      exact w_ireturn rfl (k ((a1 + a2)) σ _ _ H (SF_trans (SF_refl) hS_3 (any_sub rfl)) (SA_trans (SA_refl) hA_3 (any_subA rfl)) (w3_75) (ew3_75) (show inr ((a1 + a2)) from q_1347 h3) (show ((a1 + a2)) = a1 + a2 from q_1346) (show (w3_75) = rns ((w75)) (a1) (a2) (a3) by assumption))
    · refine Ew_of (pcₚ := 10) (fun _ => x_aload_n rfl l3_0) ?_
      refine w_gT H (o := 6) (t := 75) rfl (H.perm 6 rfl) rfl rfl rfl rfl rfl rfl ?_
      refine Ew_of (pcₚ := 14) (fun _ => x_iload_n rfl l3_1) ?_
      refine Ew_of (pcₚ := 16) (fun _ => x_iload rfl l3_4) ?_
      refine w_iadd rfl ?_
      refine Ew_of (pcₚ := 18) (fun _ => x_iload_n rfl l3_3) ?_
      refine w_sI H (o := 75) (n := 64) rfl (H.perm 75 rfl) rfl rfl (H.fix 75 rfl rfl) (show 0 ≤ (a1 + x3_4) ∧ (a1 + x3_4) < ((64 : Nat) : Int) from q_2102 b1 h3 j3_1) (by decide) (show (-2147483648 : Int) ≤ a3 ∧ a3 ≤ 2147483647 from q_31 h2) (fun σ H => ?_)
      refine Ew_of (pcₚ := 22) (fun _ => x_iinc (len := 3) rfl (l3_4)) ?_
      refine Ew_of (pcₚ := 3) (fun _ => x_goto rfl rfl) ?_
      have : (upd1 (w3_75) ((a1 + x3_4)) (a3)) = rns ((w75)) ((a1)) (((x3_4 + 1))) ((a3)) := by rw [j3_3]; exact rns_s (by omega)
      exact ih3 _ (msE hm3 q_16 (q_17 b1)) _ σ _ _ ((x3_4 + 1)) (rk_o (l3_0) rfl rfl) (rk_o (l3_1) rfl rfl) (rk_o (l3_2) rfl rfl) (rk_o (l3_3) rfl rfl) (rk_s) H (hS_3) (SA_upd (hA_3) rfl)  (upd1 (w3_75) ((a1 + x3_4)) (a3)) (congrArg (fun q => upd1 q ((a1 + x3_4)) (a3)) (ew3_75)) (show inr ((x3_4 + 1)) from q_1350 b1 h3 j3_1) (show (0) ≤ ((x3_4 + 1)) from q_14 j3_1) (show ((x3_4 + 1)) ≤ (0) ∨ ((x3_4 + 1)) ≤ ((a2)) from q_13 b1) (show (upd1 (w3_75) ((a1 + x3_4)) (a3)) = rns ((w75)) ((a1)) (((x3_4 + 1))) ((a3)) by assumption) rfl

theorem M417 {σ0 σ : rS} {D N : Nat → Nat} {F : hF} {A : hA} {d c s : Nat} {Q : wQ} (H : HS σ0 σ D N F A) {a1 : Int} (h0 : inr (a1)) (h1 : 0 ≤ (a1) ∧ (a1) ≤ 2) (k : ∀ (z : Int) σ Fₚ Aₚ, HS σ0 σ D N Fₚ Aₚ → SF [] F Fₚ → SA [75] A Aₚ → ∀ v75 : Int → Int, Aₚ 75 = v75 → (inr (z)) → (5 ≤ (z) ∧ (z) ≤ 6) → ((a1) = 1 ∧ (z) = 5 ∨ (a1) ≠ 1 ∧ (z) = 6) → (SH ((v75)) 0 64 ((z)) (lastOf ((a1)))) → (∀ i, (0 : Int) ≤ i → i < 64 → ((v75)) i = KK ((a1)) i) → Q (some (I z)) σ c s) : Ew 417 (d + 1) 0 (rargs 0 [.ref (D 6), I a1]) [] σ c s Q := by
  refine Ew_of (pcₚ := 1) (fun _ => x_aload_n rfl rfl) ?_
  refine Ew_of (pcₚ := 2) (fun _ => x_iconst rfl) ?_
  refine Ew_of (pcₚ := 4) (fun _ => x_bipush (z := 64) rfl (by decide)) ?_
  refine Ew_of (pcₚ := 5) (fun _ => x_iconst rfl) ?_
  refine w_inv H (o := 6) rfl rfl rfl (H.perm 6 rfl) rfl rfl (by rfl) (M416 H (A 75) (rfl) (show inr (0) from q_2) (show inr (64) from q_151) (show inr (0) from q_2) (show 0 ≤ (0) ∧ 0 ≤ (64) ∧ (0) + (64) ≤ 64 from q_1352) (fun z5 σ F1 A2 H hS3 hA4 wq6 ewq7 pz5_0 pz5_1 pz5_2 => ⟨rfl, ?_⟩))
  refine Ew_of (pcₚ := 9) (fun _ => x_istore_n rfl) ?_
  refine Ew_of (pcₚ := 10) (fun _ => x_iload_n rfl (rk_o (rfl) rfl rfl)) ?_
  refine w_ifne (t := 76) rfl rfl (show inr (a1) from h0) (fun b8 => ?_) (fun b8 => ?_)
  · refine Ew_of (pcₚ := 77) (fun _ => x_iload_n rfl (rk_o (rfl) rfl rfl)) ?_
    refine Ew_of (pcₚ := 78) (fun _ => x_iconst rfl) ?_
    refine w_icmpne (t := 111) rfl rfl (show inr (a1) from h0) (show inr (1) from q_135) (fun b9 => ?_) (fun b9 => ?_)
    · refine Ew_of (pcₚ := 112) (fun _ => x_aload_n rfl (rk_o (rfl) rfl rfl)) ?_
      refine Ew_of (pcₚ := 113) (fun _ => x_aload_n rfl (rk_o (rfl) rfl rfl)) ?_
      refine Ew_of (pcₚ := 114) (fun _ => x_aload_n rfl (rk_o (rfl) rfl rfl)) ?_
      refine Ew_of (pcₚ := 115) (fun _ => x_aload_n rfl (rk_o (rfl) rfl rfl)) ?_
      refine Ew_of (pcₚ := 116) (fun _ => x_aload_n rfl (rk_o (rfl) rfl rfl)) ?_
      refine Ew_of (pcₚ := 117) (fun _ => x_aload_n rfl (rk_o (rfl) rfl rfl)) ?_
      refine Ew_of (pcₚ := 118) (fun _ => x_iconst rfl) ?_
      refine Ew_of (pcₚ := 119) (fun _ => x_iconst rfl) ?_
      refine Ew_of (pcₚ := 120) (fun _ => x_iconst rfl) ?_
      refine w_inv H (o := 6) rfl rfl rfl (H.perm 6 rfl) rfl rfl (by rfl) (M416 H (wq6) (ewq7) (show inr (0) from q_2) (show inr (1) from q_135) (show inr (1) from q_135) (show 0 ≤ (0) ∧ 0 ≤ (1) ∧ (0) + (1) ≤ 64 from q_1354) (fun z14 σ F10 A11 H hS12 hA13 wq15 ewq16 pz14_0 pz14_1 pz14_2 => ⟨rfl, ?_⟩))
      refine Ew_of (pcₚ := 124) (fun _ => x_iconst rfl) ?_
      refine Ew_of (pcₚ := 125) (fun _ => x_iconst rfl) ?_
      refine w_inv H (o := 6) rfl rfl rfl (H.perm 6 rfl) rfl rfl (by rfl) (M416 H (wq15) (ewq16) (show inr (z14) from pz14_0) (show inr (1) from q_135) (show inr (4) from q_216) (show 0 ≤ (z14) ∧ 0 ≤ (1) ∧ (z14) + (1) ≤ 64 from q_1356 pz14_1) (fun z21 σ F17 A18 H hS19 hA20 wq22 ewq23 pz21_0 pz21_1 pz21_2 => ⟨rfl, ?_⟩))
      refine Ew_of (pcₚ := 129) (fun _ => x_iconst rfl) ?_
      refine Ew_of (pcₚ := 130) (fun _ => x_iconst rfl) ?_
      refine w_inv H (o := 6) rfl rfl rfl (H.perm 6 rfl) rfl rfl (by rfl) (M416 H (wq22) (ewq23) (show inr (z21) from pz21_0) (show inr (1) from q_135) (show inr (3) from q_246) (show 0 ≤ (z21) ∧ 0 ≤ (1) ∧ (z21) + (1) ≤ 64 from q_1358 pz14_1 pz21_1) (fun z28 σ F24 A25 H hS26 hA27 wq29 ewq30 pz28_0 pz28_1 pz28_2 => ⟨rfl, ?_⟩))
      refine Ew_of (pcₚ := 135) (fun _ => x_bipush (z := 6) rfl (by decide)) ?_
      refine Ew_of (pcₚ := 136) (fun _ => x_iconst rfl) ?_
      refine w_inv H (o := 6) rfl rfl rfl (H.perm 6 rfl) rfl rfl (by rfl) (M416 H (wq29) (ewq30) (show inr (z28) from pz28_0) (show inr (6) from q_756) (show inr (2) from q_122) (show 0 ≤ (z28) ∧ 0 ≤ (6) ∧ (z28) + (6) ≤ 64 from q_1360 pz14_1 pz21_1 pz28_1) (fun z35 σ F31 A32 H hS33 hA34 wq36 ewq37 pz35_0 pz35_1 pz35_2 => ⟨rfl, ?_⟩))
      refine Ew_of (pcₚ := 141) (fun _ => x_bipush (z := 37) rfl (by decide)) ?_
      refine Ew_of (pcₚ := 142) (fun _ => x_iconst rfl) ?_
      refine w_inv H (o := 6) rfl rfl rfl (H.perm 6 rfl) rfl rfl (by rfl) (M416 H (wq36) (ewq37) (show inr (z35) from pz35_0) (show inr (37) from q_1362) (show inr (1) from q_135) (show 0 ≤ (z35) ∧ 0 ≤ (37) ∧ (z35) + (37) ≤ 64 from q_1361 pz14_1 pz21_1 pz28_1 pz35_1) (fun z42 σ F38 A39 H hS40 hA41 wq43 ewq44 pz42_0 pz42_1 pz42_2 => ⟨rfl, ?_⟩))
      refine Ew_of (pcₚ := 147) (fun _ => x_bipush (z := 7) rfl (by decide)) ?_
      refine Ew_of (pcₚ := 148) (fun _ => x_iconst rfl) ?_
      refine w_inv H (o := 6) rfl rfl rfl (H.perm 6 rfl) rfl rfl (by rfl) (M416 H (wq43) (ewq44) (show inr (z42) from pz42_0) (show inr (7) from q_597) (show inr ((-1)) from q_63) (show 0 ≤ (z42) ∧ 0 ≤ (7) ∧ (z42) + (7) ≤ 64 by omega) (fun z49 σ F45 A46 H hS47 hA48 wq50 ewq51 pz49_0 pz49_1 pz49_2 => ⟨rfl, ?_⟩))
      have hkn : ∀ i, (0 : Int) ≤ i → i < 64 → ((wq50)) (0 + i) = K2 i := by intro i h0 h1; rw [pz49_2, pz42_2, pz35_2, pz28_2, pz21_2, pz14_2, pz5_2]; simp only [rns, K2]; omega
      have : SH ((wq50)) 0 64 6 (lastOf ((a1))) := by rw [show lastOf ((a1)) = 52 by have := lastOf_eq ((a1)); omega]; exact SH_K2 hkn
      have : ∀ i, (0 : Int) ≤ i → i < 64 → ((wq50)) i = KK ((a1)) i := fun i a b => by have := hkn i a b; rw [Int.zero_add] at this; rw [this]; unfold KK; simp [show (a1) = 2 by omega]
      refine Ew_of (pcₚ := 152) (fun _ => x_istore_n rfl) ?_
      refine Ew_of (pcₚ := 154) (fun _ => x_bipush (z := 6) rfl (by decide)) ?_
      exact w_ireturn rfl (k (6) σ _ _ H (SF_trans (SF_trans (SF_trans (SF_trans (SF_trans (SF_trans (SF_trans (SF_refl) hS3 (any_sub rfl)) hS12 (any_sub rfl)) hS19 (any_sub rfl)) hS26 (any_sub rfl)) hS33 (any_sub rfl)) hS40 (any_sub rfl)) hS47 (any_sub rfl)) (SA_trans (SA_trans (SA_trans (SA_trans (SA_trans (SA_trans (SA_trans (SA_refl) hA4 (any_subA rfl)) hA13 (any_subA rfl)) hA20 (any_subA rfl)) hA27 (any_subA rfl)) hA34 (any_subA rfl)) hA41 (any_subA rfl)) hA48 (any_subA rfl)) (wq50) (ewq51) (show inr (6) from q_756) (show 5 ≤ (6) ∧ (6) ≤ 6 by first | exact q_2104 | omega) (show a1 = 1 ∧ (6) = 5 ∨ a1 ≠ 1 ∧ (6) = 6 by first | exact q_2103 b9 | omega) (show SH ((wq50)) 0 64 ((6)) (lastOf (a1)) by assumption) (show ∀ i, (0 : Int) ≤ i → i < 64 → ((wq50)) i = KK (a1) i by assumption))
    · refine Ew_of (pcₚ := 82) (fun _ => x_aload_n rfl (rk_o (rfl) rfl rfl)) ?_
      refine Ew_of (pcₚ := 83) (fun _ => x_aload_n rfl (rk_o (rfl) rfl rfl)) ?_
      refine Ew_of (pcₚ := 84) (fun _ => x_aload_n rfl (rk_o (rfl) rfl rfl)) ?_
      refine Ew_of (pcₚ := 85) (fun _ => x_aload_n rfl (rk_o (rfl) rfl rfl)) ?_
      refine Ew_of (pcₚ := 86) (fun _ => x_iconst rfl) ?_
      refine Ew_of (pcₚ := 88) (fun _ => x_bipush (z := 6) rfl (by decide)) ?_
      refine Ew_of (pcₚ := 89) (fun _ => x_iconst rfl) ?_
      refine w_inv H (o := 6) rfl rfl rfl (H.perm 6 rfl) rfl rfl (by rfl) (M416 H (wq6) (ewq7) (show inr (0) from q_2) (show inr (6) from q_756) (show inr (1) from q_135) (show 0 ≤ (0) ∧ 0 ≤ (6) ∧ (0) + (6) ≤ 64 from q_1367) (fun z56 σ F52 A53 H hS54 hA55 wq57 ewq58 pz56_0 pz56_1 pz56_2 => ⟨rfl, ?_⟩))
      refine Ew_of (pcₚ := 93) (fun _ => x_iconst rfl) ?_
      refine Ew_of (pcₚ := 94) (fun _ => x_iconst rfl) ?_
      refine w_inv H (o := 6) rfl rfl rfl (H.perm 6 rfl) rfl rfl (by rfl) (M416 H (wq57) (ewq58) (show inr (z56) from pz56_0) (show inr (3) from q_246) (show inr (2) from q_122) (show 0 ≤ (z56) ∧ 0 ≤ (3) ∧ (z56) + (3) ≤ 64 from q_1368 pz56_1) (fun z63 σ F59 A60 H hS61 hA62 wq64 ewq65 pz63_0 pz63_1 pz63_2 => ⟨rfl, ?_⟩))
      refine Ew_of (pcₚ := 99) (fun _ => x_bipush (z := 15) rfl (by decide)) ?_
      refine Ew_of (pcₚ := 100) (fun _ => x_iconst rfl) ?_
      refine w_inv H (o := 6) rfl rfl rfl (H.perm 6 rfl) rfl rfl (by rfl) (M416 H (wq64) (ewq65) (show inr (z63) from pz63_0) (show inr (15) from q_399) (show inr (1) from q_135) (show 0 ≤ (z63) ∧ 0 ≤ (15) ∧ (z63) + (15) ≤ 64 from q_1369 pz56_1 pz63_1) (fun z70 σ F66 A67 H hS68 hA69 wq71 ewq72 pz70_0 pz70_1 pz70_2 => ⟨rfl, ?_⟩))
      refine Ew_of (pcₚ := 104) (fun _ => x_iconst rfl) ?_
      refine Ew_of (pcₚ := 105) (fun _ => x_iconst rfl) ?_
      refine w_inv H (o := 6) rfl rfl rfl (H.perm 6 rfl) rfl rfl (by rfl) (M416 H (wq71) (ewq72) (show inr (z70) from pz70_0) (show inr (5) from q_727) (show inr ((-1)) from q_63) (show 0 ≤ (z70) ∧ 0 ≤ (5) ∧ (z70) + (5) ≤ 64 from q_1370 pz56_1 pz63_1 pz70_1) (fun z77 σ F73 A74 H hS75 hA76 wq78 ewq79 pz77_0 pz77_1 pz77_2 => ⟨rfl, ?_⟩))
      have hkn : ∀ i, (0 : Int) ≤ i → i < 64 → ((wq78)) (0 + i) = K1 i := by intro i h0 h1; rw [pz77_2, pz70_2, pz63_2, pz56_2, pz5_2]; simp only [rns, K1]; omega
      have : SH ((wq78)) 0 64 5 (lastOf ((a1))) := by rw [show lastOf ((a1)) = 31 by have := lastOf_eq ((a1)); omega]; exact SH_K1 hkn
      have : ∀ i, (0 : Int) ≤ i → i < 64 → ((wq78)) i = KK ((a1)) i := fun i a b => by have := hkn i a b; rw [Int.zero_add] at this; rw [this]; unfold KK; simp [show (a1) = 1 by omega]
      refine Ew_of (pcₚ := 109) (fun _ => x_istore_n rfl) ?_
      refine Ew_of (pcₚ := 110) (fun _ => x_iconst rfl) ?_
      exact w_ireturn rfl (k (5) σ _ _ H (SF_trans (SF_trans (SF_trans (SF_trans (SF_trans (SF_refl) hS3 (any_sub rfl)) hS54 (any_sub rfl)) hS61 (any_sub rfl)) hS68 (any_sub rfl)) hS75 (any_sub rfl)) (SA_trans (SA_trans (SA_trans (SA_trans (SA_trans (SA_refl) hA4 (any_subA rfl)) hA55 (any_subA rfl)) hA62 (any_subA rfl)) hA69 (any_subA rfl)) hA76 (any_subA rfl)) (wq78) (ewq79) (show inr (5) from q_727) (show 5 ≤ (5) ∧ (5) ≤ 6 by first | exact q_2106 | omega) (show a1 = 1 ∧ (5) = 5 ∨ a1 ≠ 1 ∧ (5) = 6 by first | exact q_2105 b9 | omega) (show SH ((wq78)) 0 64 ((5)) (lastOf (a1)) by assumption) (show ∀ i, (0 : Int) ≤ i → i < 64 → ((wq78)) i = KK (a1) i by assumption))
  · refine Ew_of (pcₚ := 14) (fun _ => x_aload_n rfl (rk_o (rfl) rfl rfl)) ?_
    refine Ew_of (pcₚ := 15) (fun _ => x_aload_n rfl (rk_o (rfl) rfl rfl)) ?_
    refine Ew_of (pcₚ := 16) (fun _ => x_aload_n rfl (rk_o (rfl) rfl rfl)) ?_
    refine Ew_of (pcₚ := 17) (fun _ => x_aload_n rfl (rk_o (rfl) rfl rfl)) ?_
    refine Ew_of (pcₚ := 18) (fun _ => x_iconst rfl) ?_
    refine Ew_of (pcₚ := 19) (fun _ => x_iconst rfl) ?_
    refine Ew_of (pcₚ := 20) (fun _ => x_iconst rfl) ?_
    refine w_inv H (o := 6) rfl rfl rfl (H.perm 6 rfl) rfl rfl (by rfl) (M416 H (wq6) (ewq7) (show inr (0) from q_2) (show inr (1) from q_135) (show inr (4) from q_216) (show 0 ≤ (0) ∧ 0 ≤ (1) ∧ (0) + (1) ≤ 64 from q_1354) (fun z84 σ F80 A81 H hS82 hA83 wq85 ewq86 pz84_0 pz84_1 pz84_2 => ⟨rfl, ?_⟩))
    refine Ew_of (pcₚ := 24) (fun _ => x_iconst rfl) ?_
    refine Ew_of (pcₚ := 25) (fun _ => x_iconst rfl) ?_
    refine w_inv H (o := 6) rfl rfl rfl (H.perm 6 rfl) rfl rfl (by rfl) (M416 H (wq85) (ewq86) (show inr (z84) from pz84_0) (show inr (1) from q_135) (show inr (3) from q_246) (show 0 ≤ (z84) ∧ 0 ≤ (1) ∧ (z84) + (1) ≤ 64 from q_1356 pz84_1) (fun z91 σ F87 A88 H hS89 hA90 wq92 ewq93 pz91_0 pz91_1 pz91_2 => ⟨rfl, ?_⟩))
    refine Ew_of (pcₚ := 30) (fun _ => x_bipush (z := 11) rfl (by decide)) ?_
    refine Ew_of (pcₚ := 31) (fun _ => x_iconst rfl) ?_
    refine w_inv H (o := 6) rfl rfl rfl (H.perm 6 rfl) rfl rfl (by rfl) (M416 H (wq92) (ewq93) (show inr (z91) from pz91_0) (show inr (11) from q_326) (show inr (2) from q_122) (show 0 ≤ (z91) ∧ 0 ≤ (11) ∧ (z91) + (11) ≤ 64 from q_1371 pz84_1 pz91_1) (fun z98 σ F94 A95 H hS96 hA97 wq99 ewq100 pz98_0 pz98_1 pz98_2 => ⟨rfl, ?_⟩))
    refine Ew_of (pcₚ := 35) (fun _ => x_iconst rfl) ?_
    refine Ew_of (pcₚ := 36) (fun _ => x_iconst rfl) ?_
    refine w_inv H (o := 6) rfl rfl rfl (H.perm 6 rfl) rfl rfl (by rfl) (M416 H (wq99) (ewq100) (show inr (z98) from pz98_0) (show inr (3) from q_246) (show inr (1) from q_135) (show 0 ≤ (z98) ∧ 0 ≤ (3) ∧ (z98) + (3) ≤ 64 from q_1372 pz84_1 pz91_1 pz98_1) (fun z105 σ F101 A102 H hS103 hA104 wq106 ewq107 pz105_0 pz105_1 pz105_2 => ⟨rfl, ?_⟩))
    refine Ew_of (pcₚ := 40) (fun _ => x_istore_n rfl) ?_
    refine Ew_of (pcₚ := 41) (fun _ => x_aload_n rfl (rk_o (rk_o (rfl) rfl rfl) rfl rfl)) ?_
    refine Ew_of (pcₚ := 42) (fun _ => x_aload_n rfl (rk_o (rk_o (rfl) rfl rfl) rfl rfl)) ?_
    refine Ew_of (pcₚ := 43) (fun _ => x_aload_n rfl (rk_o (rk_o (rfl) rfl rfl) rfl rfl)) ?_
    refine Ew_of (pcₚ := 44) (fun _ => x_aload_n rfl (rk_o (rk_o (rfl) rfl rfl) rfl rfl)) ?_
    refine Ew_of (pcₚ := 45) (fun _ => x_aload_n rfl (rk_o (rk_o (rfl) rfl rfl) rfl rfl)) ?_
    refine Ew_of (pcₚ := 46) (fun _ => x_iload_n rfl rk_s) ?_
    refine Ew_of (pcₚ := 48) (fun _ => x_bipush (z := 9) rfl (by decide)) ?_
    refine Ew_of (pcₚ := 49) (fun _ => x_iconst rfl) ?_
    refine w_inv H (o := 6) rfl rfl rfl (H.perm 6 rfl) rfl rfl (by rfl) (M416 H (wq106) (ewq107) (show inr (z105) from pz105_0) (show inr (9) from q_291) (show inr (2) from q_122) (show 0 ≤ (z105) ∧ 0 ≤ (9) ∧ (z105) + (9) ≤ 64 from q_2107 pz105_1 pz84_1 pz91_1 pz98_1) (fun z112 σ F108 A109 H hS110 hA111 wq113 ewq114 pz112_0 pz112_1 pz112_2 => ⟨rfl, ?_⟩))
    refine Ew_of (pcₚ := 53) (fun _ => x_iconst rfl) ?_
    refine Ew_of (pcₚ := 54) (fun _ => x_iconst rfl) ?_
    refine w_inv H (o := 6) rfl rfl rfl (H.perm 6 rfl) rfl rfl (by rfl) (M416 H (wq113) (ewq114) (show inr (z112) from pz112_0) (show inr (1) from q_135) (show inr (3) from q_246) (show 0 ≤ (z112) ∧ 0 ≤ (1) ∧ (z112) + (1) ≤ 64 by omega) (fun z119 σ F115 A116 H hS117 hA118 wq120 ewq121 pz119_0 pz119_1 pz119_2 => ⟨rfl, ?_⟩))
    refine Ew_of (pcₚ := 58) (fun _ => x_iconst rfl) ?_
    refine Ew_of (pcₚ := 59) (fun _ => x_iconst rfl) ?_
    refine w_inv H (o := 6) rfl rfl rfl (H.perm 6 rfl) rfl rfl (by rfl) (M416 H (wq120) (ewq121) (show inr (z119) from pz119_0) (show inr (1) from q_135) (show inr (2) from q_122) (show 0 ≤ (z119) ∧ 0 ≤ (1) ∧ (z119) + (1) ≤ 64 by omega) (fun z126 σ F122 A123 H hS124 hA125 wq127 ewq128 pz126_0 pz126_1 pz126_2 => ⟨rfl, ?_⟩))
    refine Ew_of (pcₚ := 63) (fun _ => x_iconst rfl) ?_
    refine Ew_of (pcₚ := 64) (fun _ => x_iconst rfl) ?_
    refine w_inv H (o := 6) rfl rfl rfl (H.perm 6 rfl) rfl rfl (by rfl) (M416 H (wq127) (ewq128) (show inr (z126) from pz126_0) (show inr (5) from q_727) (show inr (1) from q_135) (show 0 ≤ (z126) ∧ 0 ≤ (5) ∧ (z126) + (5) ≤ 64 by omega) (fun z133 σ F129 A130 H hS131 hA132 wq134 ewq135 pz133_0 pz133_1 pz133_2 => ⟨rfl, ?_⟩))
    refine Ew_of (pcₚ := 68) (fun _ => x_iconst rfl) ?_
    refine Ew_of (pcₚ := 69) (fun _ => x_iconst rfl) ?_
    refine w_inv H (o := 6) rfl rfl rfl (H.perm 6 rfl) rfl rfl (by rfl) (M416 H (wq134) (ewq135) (show inr (z133) from pz133_0) (show inr (4) from q_216) (show inr ((-1)) from q_63) (show 0 ≤ (z133) ∧ 0 ≤ (4) ∧ (z133) + (4) ≤ 64 by omega) (fun z140 σ F136 A137 H hS138 hA139 wq141 ewq142 pz140_0 pz140_1 pz140_2 => ⟨rfl, ?_⟩))
    have hkn : ∀ i, (0 : Int) ≤ i → i < 64 → ((wq141)) (0 + i) = K0 i := by intro i h0 h1; rw [pz140_2, pz133_2, pz126_2, pz119_2, pz112_2, pz105_2, pz98_2, pz91_2, pz84_2, pz5_2]; simp only [rns, K0]; omega
    have : SH ((wq141)) 0 64 6 (lastOf ((a1))) := by rw [show lastOf ((a1)) = 35 by have := lastOf_eq ((a1)); omega]; exact SH_K0 hkn
    have : ∀ i, (0 : Int) ≤ i → i < 64 → ((wq141)) i = KK ((a1)) i := fun i a b => by have := hkn i a b; rw [Int.zero_add] at this; rw [this]; unfold KK; simp [show (a1) = 0 by omega]
    refine Ew_of (pcₚ := 73) (fun _ => x_istore_n rfl) ?_
    refine Ew_of (pcₚ := 75) (fun _ => x_bipush (z := 6) rfl (by decide)) ?_
    exact w_ireturn rfl (k (6) σ _ _ H (SF_trans (SF_trans (SF_trans (SF_trans (SF_trans (SF_trans (SF_trans (SF_trans (SF_trans (SF_trans (SF_refl) hS3 (any_sub rfl)) hS82 (any_sub rfl)) hS89 (any_sub rfl)) hS96 (any_sub rfl)) hS103 (any_sub rfl)) hS110 (any_sub rfl)) hS117 (any_sub rfl)) hS124 (any_sub rfl)) hS131 (any_sub rfl)) hS138 (any_sub rfl)) (SA_trans (SA_trans (SA_trans (SA_trans (SA_trans (SA_trans (SA_trans (SA_trans (SA_trans (SA_trans (SA_refl) hA4 (any_subA rfl)) hA83 (any_subA rfl)) hA90 (any_subA rfl)) hA97 (any_subA rfl)) hA104 (any_subA rfl)) hA111 (any_subA rfl)) hA118 (any_subA rfl)) hA125 (any_subA rfl)) hA132 (any_subA rfl)) hA139 (any_subA rfl)) (wq141) (ewq142) (show inr (6) from q_756) (show 5 ≤ (6) ∧ (6) ≤ 6 by first | exact q_2104 | omega) (show a1 = 1 ∧ (6) = 5 ∨ a1 ≠ 1 ∧ (6) = 6 by first | exact q_2108 b8 | omega) (show SH ((wq141)) 0 64 ((6)) (lastOf (a1)) by assumption) (show ∀ i, (0 : Int) ≤ i → i < 64 → ((wq141)) i = KK (a1) i by assumption))

theorem M421 {σ0 σ : rS} {D N : Nat → Nat} {F : hF} {A : hA} {d c s : Nat} {Q : wQ} (H : HS σ0 σ D N F A) {a1 a2 : Int} (w82 : Int → Int) (ew82 : A 82 = w82) (h0 : inr (a1)) (h1 : inr (a2)) (h2 : 0 ≤ (a1) ∧ (a1) ≤ 255) (h3 : 0 ≤ (a2) ∧ (a2) ≤ 11) (h4 : BD ((w82))) (k : ∀ (z : Int) σ Fₚ Aₚ, HS σ0 σ D N Fₚ Aₚ → SF [] F Fₚ → SA [] A Aₚ → (inr (z)) → (((w82)) ((a1)) = 0 ∧ (z) = 0 ∨ ((w82)) ((a1)) ≠ 0 ∧ (z) = (a2) + 1 - ((w82)) ((a1))) → Q (some (I z)) σ c s) : Ew 421 (d + 0) 0 (rargs 0 [.ref (D 6), I a1, I a2]) [] σ c s Q := by
  have hbd := (h4) ((a1)) (by omega) (by omega)
  refine Ew_of (pcₚ := 1) (fun _ => x_aload_n rfl rfl) ?_
  refine w_gT H (o := 6) (t := 82) rfl (H.perm 6 rfl) rfl rfl rfl rfl rfl rfl ?_
  refine Ew_of (pcₚ := 5) (fun _ => x_iload_n rfl rfl) ?_
  refine w_lI H (o := 82) (n := 256) rfl (H.perm 82 rfl) rfl rfl (H.fix 82 rfl rfl) (show 0 ≤ a1 ∧ a1 < ((256 : Nat) : Int) from q_1433 h2) (by decide) (fun v1 ev1 qv1 => ?_)
  have qv1 : (-2147483648 : Int) ≤ v1 ∧ v1 ≤ 2147483647 := qv1
  have ev1 : (w82) (a1) = v1 := (congrFun (ew82) (a1)).symm.trans ev1
  refine w_ifne (t := 13) rfl rfl (show inr (v1) from q_18 qv1) (fun b2 => ?_) (fun b2 => ?_)
  · refine Ew_of (pcₚ := 14) (fun _ => x_iload_n rfl rfl) ?_
    refine Ew_of (pcₚ := 15) (fun _ => x_iconst rfl) ?_
    refine w_iadd rfl ?_
    refine Ew_of (pcₚ := 17) (fun _ => x_aload_n rfl rfl) ?_
    refine w_gT H (o := 6) (t := 82) rfl (H.perm 6 rfl) rfl rfl rfl rfl rfl rfl ?_
    refine Ew_of (pcₚ := 21) (fun _ => x_iload_n rfl rfl) ?_
    refine w_lI H (o := 82) (n := 256) rfl (H.perm 82 rfl) rfl rfl (H.fix 82 rfl rfl) (show 0 ≤ a1 ∧ a1 < ((256 : Nat) : Int) from q_1433 h2) (by decide) (fun v3 ev3 qv3 => ?_)
    have qv3 : (-2147483648 : Int) ≤ v3 ∧ v3 ≤ 2147483647 := qv3
    have ev3 : (w82) (a1) = v3 := (congrFun (ew82) (a1)).symm.trans ev3
    refine w_isub rfl ?_
    exact w_ireturn rfl (k (((a2 + 1) - v3)) σ _ _ H (SF_refl) (SA_refl) (show inr (((a2 + 1) - v3)) by omega) (show ((w82)) (a1) = 0 ∧ (((a2 + 1) - v3)) = 0 ∨ ((w82)) (a1) ≠ 0 ∧ (((a2 + 1) - v3)) = a2 + 1 - ((w82)) (a1) by omega))
  · refine Ew_of (pcₚ := 10) (fun _ => x_iconst rfl) ?_
    refine Ew_of (pcₚ := 23) (fun _ => x_goto rfl rfl) ?_
    exact w_ireturn rfl (k (0) σ _ _ H (SF_refl) (SA_refl) (show inr (0) from q_2) (show ((w82)) (a1) = 0 ∧ (0) = 0 ∨ ((w82)) (a1) ≠ 0 ∧ (0) = a2 + 1 - ((w82)) (a1) by first | exact q_2109 b2 ev1 | omega))

theorem M424_53 {σ0 σ : rS} {D N : Nat → Nat} {F : hF} {A : hA} {d c s : Nat} {Q : wQ} (H : HS σ0 σ D N F A) {a2 a3 : Int} (w53 : Int → Int) (ew53 : A 53 = w53) (w65 : Int → Int) (ew65 : A 65 = w65) (h0 : inr (a2)) (h1 : inr (a3)) (h2 : 0 ≤ (a2) ∧ (a2) ≤ (a3) ∧ (a3) ≤ 16385) (h3 : BD ((w53))) (k : ∀ (z : Int) σ Fₚ Aₚ, HS σ0 σ D N Fₚ Aₚ → SF [] F Fₚ → SA [] A Aₚ → (inr (z)) → (0 ≤ (z) ∧ (z) ≤ 2 * ((a3) - (a2)) + 2) → ((z) = (1 + szF ((w53)) ((w65)) ((a2)) ((a3) - (a2) : Int).toNat + 7) / 8) → Q (some (I z)) σ c s) : Ew 424 (d + 0) 0 (rargs 0 [.ref (D 6), .ref (D 53), I a2, I a3]) [] σ c s Q := by
  refine Ew_of (pcₚ := 1) (fun _ => x_iconst rfl) ?_
  refine Ew_of (pcₚ := 3) (fun _ => x_istore rfl) ?_
  refine Ew_of (pcₚ := 4) (fun _ => x_iload_n rfl (rk_o (rfl) rfl rfl)) ?_
  refine Ew_of (pcₚ := 6) (fun _ => x_istore rfl) ?_
  have : (1 : Int) = 1 + szF ((w53)) ((w65)) ((a2)) ((a2) - (a2) : Int).toNat := by rw [szF_0 (by omega)]; rfl
  suffices hl6 : ∀ (m : Nat), ∀ (ls : rO) (σ : rS) (F_6 : hF) (A_6 : hA) (x6_4 : Int) (x6_5 : Int), rlook ls 0 = some (.ref (D 6)) → rlook ls 1 = some (.ref (D 53)) → rlook ls 3 = some (I (a3)) → rlook ls 4 = some (I (x6_4)) → rlook ls 5 = some (I (x6_5)) → HS σ0 σ D N F_6 A_6 → SF [] F F_6 → SA [] A A_6 → (inr (x6_4)) → (inr (x6_5)) → ((a2) ≤ (x6_5)) → ((x6_5) ≤ (a2) ∨ (x6_5) ≤ ((a3))) → (1 ≤ (x6_4) ∧ (x6_4) ≤ 1 + 11 * ((x6_5) - (a2))) → ((x6_4) = 1 + szF ((w53)) ((w65)) ((a2)) ((x6_5) - (a2) : Int).toNat) → (((a3)) - (x6_5)).toNat = m → Ew 424 (d + 0) 6 ls [] σ c s Q from
    hl6 _ _ σ _ _ (1) (a2) (rk_o (rk_o (rfl) rfl rfl) rfl rfl) (rk_o (rk_o (rfl) rfl rfl) rfl rfl) (rk_o (rk_o (rfl) rfl rfl) rfl rfl) (rk_o (rk_s) rfl rfl) (rk_s) H (SF_refl) (SA_refl)   (show inr (1) from q_135) (show inr (a2) from h0) (show (a2) ≤ (a2) from q_43) (show (a2) ≤ (a2) ∨ (a2) ≤ ((a3)) from q_156) (show 1 ≤ (1) ∧ (1) ≤ 1 + 11 * ((a2) - (a2)) from q_2110) (show (1) = 1 + szF ((w53)) ((w65)) ((a2)) ((a2) - (a2) : Int).toNat by assumption) rfl
  as_aux_lemma =>
  intro m
  induction m using Nat.strongRecOn with
  | _ m ih6 =>
    intro ls σ F_6 A_6 x6_4 x6_5 l6_0 l6_1 l6_3 l6_4 l6_5 H hS_6 hA_6   j6_0 j6_1 j6_2 j6_3 j6_4 j6_5 hm6
    have j6_s : (x6_4) = 1 + szF ((w53)) ((w65)) ((a2)) ((x6_5) - (a2) : Int).toNat := by assumption
    refine Ew_of (pcₚ := 8) (fun _ => x_iload rfl l6_5) ?_
    refine Ew_of (pcₚ := 9) (fun _ => x_iload_n rfl l6_3) ?_
    refine w_icmpge (t := 32) rfl rfl (show inr (x6_5) from j6_1) (show inr (a3) from h1) (fun b1 => ?_) (fun b1 => ?_)
    · refine Ew_of (pcₚ := 34) (fun _ => x_iload rfl l6_4) ?_
      refine Ew_of (pcₚ := 36) (fun _ => x_bipush (z := 7) rfl (by decide)) ?_
      refine w_iadd rfl ?_
      refine Ew_of (pcₚ := 39) (fun _ => x_bipush (z := 8) rfl (by decide)) ?_
      refine w_idiv rfl (show inr ((x6_4 + 7)) ∧ 0 ≤ (x6_4 + 7) by omega) (show inr (8) ∧ 0 < 8 from q_1054) ?_
      have : (((x6_4 + 7) / 8)) = (1 + szF ((w53)) ((w65)) ((a2)) ((a3) - (a2) : Int).toNat + 7) / 8 := by rw [show ((a3) : Int) = (x6_5) by omega, ← j6_s]
      exact w_ireturn rfl (k (((x6_4 + 7) / 8)) σ _ _ H (SF_trans (SF_refl) hS_6 (any_sub rfl)) (SA_trans (SA_refl) hA_6 (any_subA rfl)) (show inr (((x6_4 + 7) / 8)) from q_2112 j6_0 j6_4) (show 0 ≤ (((x6_4 + 7) / 8)) ∧ (((x6_4 + 7) / 8)) ≤ 2 * (a3 - a2) + 2 from q_2111 h2 j6_3 j6_4) (show (((x6_4 + 7) / 8)) = (1 + szF ((w53)) ((w65)) (a2) (a3 - a2 : Int).toNat + 7) / 8 by assumption))
    · obtain ⟨ql5, hql5⟩ : ∃ q : Int, q = (x6_5) := ⟨_, rfl⟩
      refine Ew_of (pcₚ := 14) (fun _ => x_iload rfl l6_4) ?_
      refine Ew_of (pcₚ := 15) (fun _ => x_aload_n rfl l6_1) ?_
      refine Ew_of (pcₚ := 16) (fun _ => x_aload_n rfl l6_0) ?_
      refine w_gT H (o := 6) (t := 65) rfl (H.perm 6 rfl) rfl rfl rfl rfl rfl rfl ?_
      refine Ew_of (pcₚ := 21) (fun _ => x_iload rfl l6_5) ?_
      refine w_lI H (o := 65) (n := 16385) rfl (H.perm 65 rfl) rfl rfl (H.fix 65 rfl rfl) (show 0 ≤ x6_5 ∧ x6_5 < ((16385 : Nat) : Int) from q_2113 b1 h2 j6_4) (by decide) (fun v2 ev2 qv2 => ?_)
      have qv2 : (0 : Int) ≤ v2 ∧ v2 ≤ 255 := qv2
      have ev2 : (w65) (x6_5) = v2 := (congrFun ((funext (hA_6 65 rfl)).trans (ew65)) (x6_5)).symm.trans ev2
      have he22 : ((w65)) ql5 = (v2) := by rw [hql5]; exact ev2
      have hbd := (h3) ((v2)) (by omega) (by omega)
      refine w_lI H (o := 53) (n := 256) rfl (H.perm 53 rfl) rfl rfl (H.fix 53 rfl rfl) (show 0 ≤ v2 ∧ v2 < ((256 : Nat) : Int) from q_1433 qv2) (by decide) (fun v3 ev3 qv3 => ?_)
      have qv3 : (0 : Int) ≤ v3 ∧ v3 ≤ 11 := qv3
      have ev3 : (w53) (v2) = v3 := (congrFun ((funext (hA_6 53 rfl)).trans (ew53)) (v2)).symm.trans ev3
      have hv23 : ((w53)) (((w65)) ql5) = (v3) := by rw [he22]; exact ev3
      refine w_iadd rfl ?_
      refine Ew_of (pcₚ := 26) (fun _ => x_istore rfl) ?_
      refine Ew_of (pcₚ := 29) (fun _ => x_iinc (len := 3) rfl (rk_o (l6_5) rfl rfl)) ?_
      refine Ew_of (pcₚ := 6) (fun _ => x_goto rfl rfl) ?_
      have : ((x6_4 + v3)) = 1 + szF ((w53)) ((w65)) ((a2)) (((x6_5 + 1)) - (a2) : Int).toNat := by rw [szF_s (n := ql5 - (a2)) (i := ql5) (by omega) (by omega) (by omega) hv23, hql5]; omega
      exact ih6 _ (msE hm6 q_16 (q_17 b1)) _ σ _ _ ((x6_4 + v3)) ((x6_5 + 1)) (rk_o (rk_o (l6_0) rfl rfl) rfl rfl) (rk_o (rk_o (l6_1) rfl rfl) rfl rfl) (rk_o (rk_o (l6_3) rfl rfl) rfl rfl) (rk_o (rk_s) rfl rfl) (rk_s) H (hS_6) (hA_6)   (show inr ((x6_4 + v3)) from q_2117 b1 h2 j6_4 qv3) (show inr ((x6_5 + 1)) from q_2116 b1 h2 j6_1) (show (a2) ≤ ((x6_5 + 1)) from q_2115 j6_4) (show ((x6_5 + 1)) ≤ (a2) ∨ ((x6_5 + 1)) ≤ ((a3)) from q_160 b1) (show 1 ≤ ((x6_4 + v3)) ∧ ((x6_4 + v3)) ≤ 1 + 11 * (((x6_5 + 1)) - (a2)) from q_2114 j6_4 qv3) (show ((x6_4 + v3)) = 1 + szF ((w53)) ((w65)) ((a2)) (((x6_5 + 1)) - (a2) : Int).toNat by assumption) rfl

theorem M425_53 {σ0 σ : rS} {D N : Nat → Nat} {F : hF} {A : hA} {d c s : Nat} {Q : wQ} (H : HS σ0 σ D N F A)  (u6_30 : Int) (eu6_30 : F 6 30 = u6_30) (w53 : Int → Int) (ew53 : A 53 = w53) (w65 : Int → Int) (ew65 : A 65 = w65) (h0 : BD ((w53))) (h1 : 1024 ≤ (u6_30)) (k : ∀ (z : Int) σ Fₚ Aₚ, HS σ0 σ D N Fₚ Aₚ → SF [] F Fₚ → SA [] A Aₚ → (inr (z)) → (0 ≤ (z) ∧ (z) ≤ 40000) → ((z) = STZ ((w53)) ((w65)) ((u6_30))) → Q (some (I z)) σ c s) : Ew 425 (d + 1) 0 (rargs 0 [.ref (D 6), .ref (D 53)]) [] σ c s Q := by
  have r1 : (0 : Int) ≤ u6_30 ∧ u6_30 ≤ 16385 := rngE (show (0 : Int) ≤ F 6 30 ∧ F 6 30 ≤ 16385 from H.frng 6 30) (show F 6 30 = u6_30 from (eu6_30))
  refine Ew_of (pcₚ := 1) (fun _ => x_aload_n rfl rfl) ?_
  refine w_gI H (o := 6) (w := u6_30) rfl (H.perm 6 rfl) rfl rfl rfl (fun _ => rfl) (eu6_30) ?_
  refine Ew_of (pcₚ := 5) (fun _ => x_iconst rfl) ?_
  refine w_iadd rfl ?_
  refine Ew_of (pcₚ := 7) (fun _ => x_iconst rfl) ?_
  refine w_idiv rfl (show inr ((u6_30 + 3)) ∧ 0 ≤ (u6_30 + 3) from q_2118 r1) (show inr (4) ∧ 0 < 4 from q_1074) ?_
  refine Ew_of (pcₚ := 9) (fun _ => x_istore_n rfl) ?_
  refine Ew_of (pcₚ := 11) (fun _ => x_bipush (z := 6) rfl (by decide)) ?_
  refine Ew_of (pcₚ := 12) (fun _ => x_aload_n rfl (rk_o (rfl) rfl rfl)) ?_
  refine Ew_of (pcₚ := 13) (fun _ => x_aload_n rfl (rk_o (rfl) rfl rfl)) ?_
  refine Ew_of (pcₚ := 14) (fun _ => x_iconst rfl) ?_
  refine Ew_of (pcₚ := 15) (fun _ => x_iload_n rfl rk_s) ?_
  refine w_inv H (o := 6) rfl rfl rfl (H.perm 6 rfl) rfl rfl (by rfl) (M424_53 H (w53) (ew53) (w65) (ew65) (show inr (0) from q_2) (show inr (((u6_30 + 3) / 4)) from q_2120 r1) (show 0 ≤ (0) ∧ (0) ≤ (((u6_30 + 3) / 4)) ∧ (((u6_30 + 3) / 4)) ≤ 16385 from q_2119 r1) (h0) (fun z6 σ F2 A3 H hS4 hA5 pz6_0 pz6_1 pz6_2 => ⟨rfl, ?_⟩))
  have e15 : z6 = z1F ((w53)) ((w65)) 0 ((((u6_30 + 3) / 4))) := pz6_2
  refine w_iadd rfl ?_
  refine Ew_of (pcₚ := 20) (fun _ => x_aload_n rfl (rk_o (rfl) rfl rfl)) ?_
  refine Ew_of (pcₚ := 21) (fun _ => x_aload_n rfl (rk_o (rfl) rfl rfl)) ?_
  refine Ew_of (pcₚ := 22) (fun _ => x_iload_n rfl rk_s) ?_
  refine Ew_of (pcₚ := 23) (fun _ => x_iconst rfl) ?_
  refine Ew_of (pcₚ := 24) (fun _ => x_iload_n rfl rk_s) ?_
  refine w_imul rfl ?_
  refine w_inv H (o := 6) rfl rfl rfl (H.perm 6 rfl) rfl rfl (by rfl) (M424_53 H (w53) ((funext (hA5 53 rfl)).trans (ew53)) (w65) ((funext (hA5 65 rfl)).trans (ew65)) (show inr (((u6_30 + 3) / 4)) from q_2120 r1) (show inr ((2 * ((u6_30 + 3) / 4))) from q_2122 r1) (show 0 ≤ (((u6_30 + 3) / 4)) ∧ (((u6_30 + 3) / 4)) ≤ ((2 * ((u6_30 + 3) / 4))) ∧ ((2 * ((u6_30 + 3) / 4))) ≤ 16385 from q_2121 r1) (h0) (fun z11 σ F7 A8 H hS9 hA10 pz11_0 pz11_1 pz11_2 => ⟨rfl, ?_⟩))
  have e25 : z11 = z1F ((w53)) ((w65)) ((((u6_30 + 3) / 4))) (2 * (((u6_30 + 3) / 4))) := pz11_2
  refine w_iadd rfl ?_
  refine Ew_of (pcₚ := 30) (fun _ => x_aload_n rfl (rk_o (rfl) rfl rfl)) ?_
  refine Ew_of (pcₚ := 31) (fun _ => x_aload_n rfl (rk_o (rfl) rfl rfl)) ?_
  refine Ew_of (pcₚ := 32) (fun _ => x_iconst rfl) ?_
  refine Ew_of (pcₚ := 33) (fun _ => x_iload_n rfl rk_s) ?_
  refine w_imul rfl ?_
  refine Ew_of (pcₚ := 35) (fun _ => x_iconst rfl) ?_
  refine Ew_of (pcₚ := 36) (fun _ => x_iload_n rfl rk_s) ?_
  refine w_imul rfl ?_
  refine w_inv H (o := 6) rfl rfl rfl (H.perm 6 rfl) rfl rfl (by rfl) (M424_53 H (w53) ((funext (hA10 53 rfl)).trans ((funext (hA5 53 rfl)).trans (ew53))) (w65) ((funext (hA10 65 rfl)).trans ((funext (hA5 65 rfl)).trans (ew65))) (show inr ((2 * ((u6_30 + 3) / 4))) from q_2122 r1) (show inr ((3 * ((u6_30 + 3) / 4))) from q_2124 r1) (show 0 ≤ ((2 * ((u6_30 + 3) / 4))) ∧ ((2 * ((u6_30 + 3) / 4))) ≤ ((3 * ((u6_30 + 3) / 4))) ∧ ((3 * ((u6_30 + 3) / 4))) ≤ 16385 from q_2123 r1) (h0) (fun z16 σ F12 A13 H hS14 hA15 pz16_0 pz16_1 pz16_2 => ⟨rfl, ?_⟩))
  have e37 : z16 = z1F ((w53)) ((w65)) (2 * (((u6_30 + 3) / 4))) (3 * (((u6_30 + 3) / 4))) := pz16_2
  refine w_iadd rfl ?_
  refine Ew_of (pcₚ := 42) (fun _ => x_aload_n rfl (rk_o (rfl) rfl rfl)) ?_
  refine Ew_of (pcₚ := 43) (fun _ => x_aload_n rfl (rk_o (rfl) rfl rfl)) ?_
  refine Ew_of (pcₚ := 44) (fun _ => x_iconst rfl) ?_
  refine Ew_of (pcₚ := 45) (fun _ => x_iload_n rfl rk_s) ?_
  refine w_imul rfl ?_
  refine Ew_of (pcₚ := 47) (fun _ => x_aload_n rfl (rk_o (rfl) rfl rfl)) ?_
  refine w_gI H (o := 6) (w := u6_30) rfl (H.perm 6 rfl) rfl rfl rfl (fun _ => rfl) ((((hS14 6 30 rfl).trans (hS9 6 30 rfl)).trans (hS4 6 30 rfl)).trans (eu6_30)) ?_
  refine w_inv H (o := 6) rfl rfl rfl (H.perm 6 rfl) rfl rfl (by rfl) (M424_53 H (w53) ((funext (hA15 53 rfl)).trans ((funext (hA10 53 rfl)).trans ((funext (hA5 53 rfl)).trans (ew53)))) (w65) ((funext (hA15 65 rfl)).trans ((funext (hA10 65 rfl)).trans ((funext (hA5 65 rfl)).trans (ew65)))) (show inr ((3 * ((u6_30 + 3) / 4))) from q_2124 r1) (show inr (u6_30) from q_2125 r1) (show 0 ≤ ((3 * ((u6_30 + 3) / 4))) ∧ ((3 * ((u6_30 + 3) / 4))) ≤ (u6_30) ∧ (u6_30) ≤ 16385 by omega) (h0) (fun z21 σ F17 A18 H hS19 hA20 pz21_0 pz21_1 pz21_2 => ⟨rfl, ?_⟩))
  have e50 : z21 = z1F ((w53)) ((w65)) (3 * (((u6_30 + 3) / 4))) ((u6_30)) := pz21_2
  refine w_iadd rfl ?_
  have : (((((6 + z6) + z11) + z16) + z21)) = STZ ((w53)) ((w65)) ((u6_30)) := by rw [STZ_4 (by omega)]; omega
  exact w_ireturn rfl (k (((((6 + z6) + z11) + z16) + z21)) σ _ _ H (SF_trans (SF_trans (SF_trans (SF_trans (SF_refl) hS4 (any_sub rfl)) hS9 (any_sub rfl)) hS14 (any_sub rfl)) hS19 (any_sub rfl)) (SA_trans (SA_trans (SA_trans (SA_trans (SA_refl) hA5 (any_subA rfl)) hA10 (any_subA rfl)) hA15 (any_subA rfl)) hA20 (any_subA rfl)) (show inr (((((6 + z6) + z11) + z16) + z21)) from q_2127 pz11_1 pz16_1 pz21_1 pz6_1 r1) (show 0 ≤ (((((6 + z6) + z11) + z16) + z21)) ∧ (((((6 + z6) + z11) + z16) + z21)) ≤ 40000 from q_2126 pz11_1 pz16_1 pz21_1 pz6_1 r1) (show (((((6 + z6) + z11) + z16) + z21)) = STZ ((w53)) ((w65)) ((u6_30)) by assumption))

theorem M426_53 {σ0 σ : rS} {D N : Nat → Nat} {F : hF} {A : hA} {d c s : Nat} {Q : wQ} (H : HS σ0 σ D N F A) {a2 : Int} (u6_30 : Int) (eu6_30 : F 6 30 = u6_30) (w53 : Int → Int) (ew53 : A 53 = w53) (w65 : Int → Int) (ew65 : A 65 = w65) (h0 : inr (a2)) (h1 : BD ((w53))) (h2 : -2 ≤ (a2) ∧ (a2) ≤ 20000) (k : ∀ (z : Int) σ Fₚ Aₚ, HS σ0 σ D N Fₚ Aₚ → SF [] F Fₚ → SA [] A Aₚ → (inr (z)) → ((a2) ≤ (z) ∧ (z) ≤ 70000) → ((z) = (a2) + STZ ((w53)) ((w65)) ((u6_30))) → Q (some (I z)) σ c s) : Ew 426 (d + 2) 0 (rargs 0 [.ref (D 6), .ref (D 53), I a2]) [] σ c s Q := by
  have r1 : (0 : Int) ≤ u6_30 ∧ u6_30 ≤ 16385 := rngE (show (0 : Int) ≤ F 6 30 ∧ F 6 30 ≤ 16385 from H.frng 6 30) (show F 6 30 = u6_30 from (eu6_30))
  refine Ew_of (pcₚ := 1) (fun _ => x_iload_n rfl rfl) ?_
  refine Ew_of (pcₚ := 2) (fun _ => x_aload_n rfl rfl) ?_
  refine w_gI H (o := 6) (w := u6_30) rfl (H.perm 6 rfl) rfl rfl rfl (fun _ => rfl) (eu6_30) ?_
  refine Ew_of (pcₚ := 8) (fun _ => x_sipush (z := 1024) rfl (by decide)) ?_
  refine w_icmpge (t := 24) rfl rfl (show inr (u6_30) from q_2125 r1) (show inr (1024) from q_2128) (fun b2 => ?_) (fun b2 => ?_)
  · refine Ew_of (pcₚ := 25) (fun _ => x_aload_n rfl rfl) ?_
    refine Ew_of (pcₚ := 26) (fun _ => x_aload_n rfl rfl) ?_
    refine w_inv H (o := 6) rfl rfl rfl (H.perm 6 rfl) rfl rfl (by rfl) (M425_53 H (u6_30) ((eu6_30)) (w53) (ew53) (w65) (ew65) (h1) (show 1024 ≤ (u6_30) from b2) (fun z7 σ F3 A4 H hS5 hA6 pz7_0 pz7_1 pz7_2 => ⟨rfl, ?_⟩))
    refine w_iadd rfl ?_
    have : ((a2 + z7)) = (a2) + STZ ((w53)) ((w65)) ((u6_30)) := by first | (have e : zMISS = z1F ((w53)) ((w65)) 0 ((u6_30)) := pzMISS_2; rw [STZ_1 (by omega)]; omega) | (have e := pz7_2; omega)
    exact w_ireturn rfl (k ((a2 + z7)) σ _ _ H (SF_trans (SF_refl) hS5 (any_sub rfl)) (SA_trans (SA_refl) hA6 (any_subA rfl)) (show inr ((a2 + z7)) from q_2130 h2 pz7_1) (show a2 ≤ ((a2 + z7)) ∧ ((a2 + z7)) ≤ 70000 from q_2129 h2 pz7_1) (show ((a2 + z7)) = a2 + STZ ((w53)) ((w65)) ((u6_30)) by assumption))
  · refine Ew_of (pcₚ := 12) (fun _ => x_aload_n rfl rfl) ?_
    refine Ew_of (pcₚ := 13) (fun _ => x_aload_n rfl rfl) ?_
    refine Ew_of (pcₚ := 14) (fun _ => x_iconst rfl) ?_
    refine Ew_of (pcₚ := 15) (fun _ => x_aload_n rfl rfl) ?_
    refine w_gI H (o := 6) (w := u6_30) rfl (H.perm 6 rfl) rfl rfl rfl (fun _ => rfl) (eu6_30) ?_
    refine w_inv H (o := 6) rfl rfl rfl (H.perm 6 rfl) rfl rfl (by rfl) (M424_53 H (w53) (ew53) (w65) (ew65) (show inr (0) from q_2) (show inr (u6_30) from q_2132 b2 r1) (show 0 ≤ (0) ∧ (0) ≤ (u6_30) ∧ (u6_30) ≤ 16385 from q_2131 r1) (h1) (fun z12 σ F8 A9 H hS10 hA11 pz12_0 pz12_1 pz12_2 => ⟨rfl, ?_⟩))
    refine Ew_of (pcₚ := 29) (fun _ => x_goto rfl rfl) ?_
    refine w_iadd rfl ?_
    have : ((a2 + z12)) = (a2) + STZ ((w53)) ((w65)) ((u6_30)) := by first | (have e : z12 = z1F ((w53)) ((w65)) 0 ((u6_30)) := pz12_2; rw [STZ_1 (by omega)]; omega) | (have e := pz7_2; omega)
    exact w_ireturn rfl (k ((a2 + z12)) σ _ _ H (SF_trans (SF_refl) hS10 (any_sub rfl)) (SA_trans (SA_refl) hA11 (any_subA rfl)) (show inr ((a2 + z12)) from q_2134 b2 h2 pz12_1) (show a2 ≤ ((a2 + z12)) ∧ ((a2 + z12)) ≤ 70000 from q_2133 b2 h2 pz12_1) (show ((a2 + z12)) = a2 + STZ ((w53)) ((w65)) ((u6_30)) by assumption))

theorem M424_82 {σ0 σ : rS} {D N : Nat → Nat} {F : hF} {A : hA} {d c s : Nat} {Q : wQ} (H : HS σ0 σ D N F A) {a2 a3 : Int} (w65 : Int → Int) (ew65 : A 65 = w65) (w82 : Int → Int) (ew82 : A 82 = w82) (h0 : inr (a2)) (h1 : inr (a3)) (h2 : 0 ≤ (a2) ∧ (a2) ≤ (a3) ∧ (a3) ≤ 16385) (h3 : BD ((w82))) (k : ∀ (z : Int) σ Fₚ Aₚ, HS σ0 σ D N Fₚ Aₚ → SF [] F Fₚ → SA [] A Aₚ → (inr (z)) → (0 ≤ (z) ∧ (z) ≤ 2 * ((a3) - (a2)) + 2) → ((z) = (1 + szF ((w82)) ((w65)) ((a2)) ((a3) - (a2) : Int).toNat + 7) / 8) → Q (some (I z)) σ c s) : Ew 424 (d + 0) 0 (rargs 0 [.ref (D 6), .ref (D 82), I a2, I a3]) [] σ c s Q := by
  refine Ew_of (pcₚ := 1) (fun _ => x_iconst rfl) ?_
  refine Ew_of (pcₚ := 3) (fun _ => x_istore rfl) ?_
  refine Ew_of (pcₚ := 4) (fun _ => x_iload_n rfl (rk_o (rfl) rfl rfl)) ?_
  refine Ew_of (pcₚ := 6) (fun _ => x_istore rfl) ?_
  have : (1 : Int) = 1 + szF ((w82)) ((w65)) ((a2)) ((a2) - (a2) : Int).toNat := by rw [szF_0 (by omega)]; rfl
  suffices hl6 : ∀ (m : Nat), ∀ (ls : rO) (σ : rS) (F_6 : hF) (A_6 : hA) (x6_4 : Int) (x6_5 : Int), rlook ls 0 = some (.ref (D 6)) → rlook ls 1 = some (.ref (D 82)) → rlook ls 3 = some (I (a3)) → rlook ls 4 = some (I (x6_4)) → rlook ls 5 = some (I (x6_5)) → HS σ0 σ D N F_6 A_6 → SF [] F F_6 → SA [] A A_6 → (inr (x6_4)) → (inr (x6_5)) → ((a2) ≤ (x6_5)) → ((x6_5) ≤ (a2) ∨ (x6_5) ≤ ((a3))) → (1 ≤ (x6_4) ∧ (x6_4) ≤ 1 + 11 * ((x6_5) - (a2))) → ((x6_4) = 1 + szF ((w82)) ((w65)) ((a2)) ((x6_5) - (a2) : Int).toNat) → (((a3)) - (x6_5)).toNat = m → Ew 424 (d + 0) 6 ls [] σ c s Q from
    hl6 _ _ σ _ _ (1) (a2) (rk_o (rk_o (rfl) rfl rfl) rfl rfl) (rk_o (rk_o (rfl) rfl rfl) rfl rfl) (rk_o (rk_o (rfl) rfl rfl) rfl rfl) (rk_o (rk_s) rfl rfl) (rk_s) H (SF_refl) (SA_refl)   (show inr (1) from q_135) (show inr (a2) from h0) (show (a2) ≤ (a2) from q_43) (show (a2) ≤ (a2) ∨ (a2) ≤ ((a3)) from q_156) (show 1 ≤ (1) ∧ (1) ≤ 1 + 11 * ((a2) - (a2)) from q_2110) (show (1) = 1 + szF ((w82)) ((w65)) ((a2)) ((a2) - (a2) : Int).toNat by assumption) rfl
  as_aux_lemma =>
  intro m
  induction m using Nat.strongRecOn with
  | _ m ih6 =>
    intro ls σ F_6 A_6 x6_4 x6_5 l6_0 l6_1 l6_3 l6_4 l6_5 H hS_6 hA_6   j6_0 j6_1 j6_2 j6_3 j6_4 j6_5 hm6
    have j6_s : (x6_4) = 1 + szF ((w82)) ((w65)) ((a2)) ((x6_5) - (a2) : Int).toNat := by assumption
    refine Ew_of (pcₚ := 8) (fun _ => x_iload rfl l6_5) ?_
    refine Ew_of (pcₚ := 9) (fun _ => x_iload_n rfl l6_3) ?_
    refine w_icmpge (t := 32) rfl rfl (show inr (x6_5) from j6_1) (show inr (a3) from h1) (fun b1 => ?_) (fun b1 => ?_)
    · refine Ew_of (pcₚ := 34) (fun _ => x_iload rfl l6_4) ?_
      refine Ew_of (pcₚ := 36) (fun _ => x_bipush (z := 7) rfl (by decide)) ?_
      refine w_iadd rfl ?_
      refine Ew_of (pcₚ := 39) (fun _ => x_bipush (z := 8) rfl (by decide)) ?_
      refine w_idiv rfl (show inr ((x6_4 + 7)) ∧ 0 ≤ (x6_4 + 7) by omega) (show inr (8) ∧ 0 < 8 from q_1054) ?_
      have : (((x6_4 + 7) / 8)) = (1 + szF ((w82)) ((w65)) ((a2)) ((a3) - (a2) : Int).toNat + 7) / 8 := by rw [show ((a3) : Int) = (x6_5) by omega, ← j6_s]
      exact w_ireturn rfl (k (((x6_4 + 7) / 8)) σ _ _ H (SF_trans (SF_refl) hS_6 (any_sub rfl)) (SA_trans (SA_refl) hA_6 (any_subA rfl)) (show inr (((x6_4 + 7) / 8)) from q_2112 j6_0 j6_4) (show 0 ≤ (((x6_4 + 7) / 8)) ∧ (((x6_4 + 7) / 8)) ≤ 2 * (a3 - a2) + 2 from q_2111 h2 j6_3 j6_4) (show (((x6_4 + 7) / 8)) = (1 + szF ((w82)) ((w65)) (a2) (a3 - a2 : Int).toNat + 7) / 8 by assumption))
    · obtain ⟨ql5, hql5⟩ : ∃ q : Int, q = (x6_5) := ⟨_, rfl⟩
      refine Ew_of (pcₚ := 14) (fun _ => x_iload rfl l6_4) ?_
      refine Ew_of (pcₚ := 15) (fun _ => x_aload_n rfl l6_1) ?_
      refine Ew_of (pcₚ := 16) (fun _ => x_aload_n rfl l6_0) ?_
      refine w_gT H (o := 6) (t := 65) rfl (H.perm 6 rfl) rfl rfl rfl rfl rfl rfl ?_
      refine Ew_of (pcₚ := 21) (fun _ => x_iload rfl l6_5) ?_
      refine w_lI H (o := 65) (n := 16385) rfl (H.perm 65 rfl) rfl rfl (H.fix 65 rfl rfl) (show 0 ≤ x6_5 ∧ x6_5 < ((16385 : Nat) : Int) from q_2113 b1 h2 j6_4) (by decide) (fun v2 ev2 qv2 => ?_)
      have qv2 : (0 : Int) ≤ v2 ∧ v2 ≤ 255 := qv2
      have ev2 : (w65) (x6_5) = v2 := (congrFun ((funext (hA_6 65 rfl)).trans (ew65)) (x6_5)).symm.trans ev2
      have he22 : ((w65)) ql5 = (v2) := by rw [hql5]; exact ev2
      have hbd := (h3) ((v2)) (by omega) (by omega)
      refine w_lI H (o := 82) (n := 256) rfl (H.perm 82 rfl) rfl rfl (H.fix 82 rfl rfl) (show 0 ≤ v2 ∧ v2 < ((256 : Nat) : Int) from q_1433 qv2) (by decide) (fun v3 ev3 qv3 => ?_)
      have qv3 : (-2147483648 : Int) ≤ v3 ∧ v3 ≤ 2147483647 := qv3
      have ev3 : (w82) (v2) = v3 := (congrFun ((funext (hA_6 82 rfl)).trans (ew82)) (v2)).symm.trans ev3
      have hv23 : ((w82)) (((w65)) ql5) = (v3) := by rw [he22]; exact ev3
      refine w_iadd rfl ?_
      refine Ew_of (pcₚ := 26) (fun _ => x_istore rfl) ?_
      refine Ew_of (pcₚ := 29) (fun _ => x_iinc (len := 3) rfl (rk_o (l6_5) rfl rfl)) ?_
      refine Ew_of (pcₚ := 6) (fun _ => x_goto rfl rfl) ?_
      have : ((x6_4 + v3)) = 1 + szF ((w82)) ((w65)) ((a2)) (((x6_5 + 1)) - (a2) : Int).toNat := by rw [szF_s (n := ql5 - (a2)) (i := ql5) (by omega) (by omega) (by omega) hv23, hql5]; omega
      exact ih6 _ (msE hm6 q_16 (q_17 b1)) _ σ _ _ ((x6_4 + v3)) ((x6_5 + 1)) (rk_o (rk_o (l6_0) rfl rfl) rfl rfl) (rk_o (rk_o (l6_1) rfl rfl) rfl rfl) (rk_o (rk_o (l6_3) rfl rfl) rfl rfl) (rk_o (rk_s) rfl rfl) (rk_s) H (hS_6) (hA_6)   (show inr ((x6_4 + v3)) by omega) (show inr ((x6_5 + 1)) from q_2116 b1 h2 j6_1) (show (a2) ≤ ((x6_5 + 1)) from q_2115 j6_4) (show ((x6_5 + 1)) ≤ (a2) ∨ ((x6_5 + 1)) ≤ ((a3)) from q_160 b1) (show 1 ≤ ((x6_4 + v3)) ∧ ((x6_4 + v3)) ≤ 1 + 11 * (((x6_5 + 1)) - (a2)) by omega) (show ((x6_4 + v3)) = 1 + szF ((w82)) ((w65)) ((a2)) (((x6_5 + 1)) - (a2) : Int).toNat by assumption) rfl

theorem M425_82 {σ0 σ : rS} {D N : Nat → Nat} {F : hF} {A : hA} {d c s : Nat} {Q : wQ} (H : HS σ0 σ D N F A)  (u6_30 : Int) (eu6_30 : F 6 30 = u6_30) (w65 : Int → Int) (ew65 : A 65 = w65) (w82 : Int → Int) (ew82 : A 82 = w82) (h0 : BD ((w82))) (h1 : 1024 ≤ (u6_30)) (k : ∀ (z : Int) σ Fₚ Aₚ, HS σ0 σ D N Fₚ Aₚ → SF [] F Fₚ → SA [] A Aₚ → (inr (z)) → (0 ≤ (z) ∧ (z) ≤ 40000) → ((z) = STZ ((w82)) ((w65)) ((u6_30))) → Q (some (I z)) σ c s) : Ew 425 (d + 1) 0 (rargs 0 [.ref (D 6), .ref (D 82)]) [] σ c s Q := by
  have r1 : (0 : Int) ≤ u6_30 ∧ u6_30 ≤ 16385 := rngE (show (0 : Int) ≤ F 6 30 ∧ F 6 30 ≤ 16385 from H.frng 6 30) (show F 6 30 = u6_30 from (eu6_30))
  refine Ew_of (pcₚ := 1) (fun _ => x_aload_n rfl rfl) ?_
  refine w_gI H (o := 6) (w := u6_30) rfl (H.perm 6 rfl) rfl rfl rfl (fun _ => rfl) (eu6_30) ?_
  refine Ew_of (pcₚ := 5) (fun _ => x_iconst rfl) ?_
  refine w_iadd rfl ?_
  refine Ew_of (pcₚ := 7) (fun _ => x_iconst rfl) ?_
  refine w_idiv rfl (show inr ((u6_30 + 3)) ∧ 0 ≤ (u6_30 + 3) from q_2118 r1) (show inr (4) ∧ 0 < 4 from q_1074) ?_
  refine Ew_of (pcₚ := 9) (fun _ => x_istore_n rfl) ?_
  refine Ew_of (pcₚ := 11) (fun _ => x_bipush (z := 6) rfl (by decide)) ?_
  refine Ew_of (pcₚ := 12) (fun _ => x_aload_n rfl (rk_o (rfl) rfl rfl)) ?_
  refine Ew_of (pcₚ := 13) (fun _ => x_aload_n rfl (rk_o (rfl) rfl rfl)) ?_
  refine Ew_of (pcₚ := 14) (fun _ => x_iconst rfl) ?_
  refine Ew_of (pcₚ := 15) (fun _ => x_iload_n rfl rk_s) ?_
  refine w_inv H (o := 6) rfl rfl rfl (H.perm 6 rfl) rfl rfl (by rfl) (M424_82 H (w65) (ew65) (w82) (ew82) (show inr (0) from q_2) (show inr (((u6_30 + 3) / 4)) from q_2120 r1) (show 0 ≤ (0) ∧ (0) ≤ (((u6_30 + 3) / 4)) ∧ (((u6_30 + 3) / 4)) ≤ 16385 from q_2119 r1) (h0) (fun z6 σ F2 A3 H hS4 hA5 pz6_0 pz6_1 pz6_2 => ⟨rfl, ?_⟩))
  have e15 : z6 = z1F ((w82)) ((w65)) 0 ((((u6_30 + 3) / 4))) := pz6_2
  refine w_iadd rfl ?_
  refine Ew_of (pcₚ := 20) (fun _ => x_aload_n rfl (rk_o (rfl) rfl rfl)) ?_
  refine Ew_of (pcₚ := 21) (fun _ => x_aload_n rfl (rk_o (rfl) rfl rfl)) ?_
  refine Ew_of (pcₚ := 22) (fun _ => x_iload_n rfl rk_s) ?_
  refine Ew_of (pcₚ := 23) (fun _ => x_iconst rfl) ?_
  refine Ew_of (pcₚ := 24) (fun _ => x_iload_n rfl rk_s) ?_
  refine w_imul rfl ?_
  refine w_inv H (o := 6) rfl rfl rfl (H.perm 6 rfl) rfl rfl (by rfl) (M424_82 H (w65) ((funext (hA5 65 rfl)).trans (ew65)) (w82) ((funext (hA5 82 rfl)).trans (ew82)) (show inr (((u6_30 + 3) / 4)) from q_2120 r1) (show inr ((2 * ((u6_30 + 3) / 4))) from q_2122 r1) (show 0 ≤ (((u6_30 + 3) / 4)) ∧ (((u6_30 + 3) / 4)) ≤ ((2 * ((u6_30 + 3) / 4))) ∧ ((2 * ((u6_30 + 3) / 4))) ≤ 16385 from q_2121 r1) (h0) (fun z11 σ F7 A8 H hS9 hA10 pz11_0 pz11_1 pz11_2 => ⟨rfl, ?_⟩))
  have e25 : z11 = z1F ((w82)) ((w65)) ((((u6_30 + 3) / 4))) (2 * (((u6_30 + 3) / 4))) := pz11_2
  refine w_iadd rfl ?_
  refine Ew_of (pcₚ := 30) (fun _ => x_aload_n rfl (rk_o (rfl) rfl rfl)) ?_
  refine Ew_of (pcₚ := 31) (fun _ => x_aload_n rfl (rk_o (rfl) rfl rfl)) ?_
  refine Ew_of (pcₚ := 32) (fun _ => x_iconst rfl) ?_
  refine Ew_of (pcₚ := 33) (fun _ => x_iload_n rfl rk_s) ?_
  refine w_imul rfl ?_
  refine Ew_of (pcₚ := 35) (fun _ => x_iconst rfl) ?_
  refine Ew_of (pcₚ := 36) (fun _ => x_iload_n rfl rk_s) ?_
  refine w_imul rfl ?_
  refine w_inv H (o := 6) rfl rfl rfl (H.perm 6 rfl) rfl rfl (by rfl) (M424_82 H (w65) ((funext (hA10 65 rfl)).trans ((funext (hA5 65 rfl)).trans (ew65))) (w82) ((funext (hA10 82 rfl)).trans ((funext (hA5 82 rfl)).trans (ew82))) (show inr ((2 * ((u6_30 + 3) / 4))) from q_2122 r1) (show inr ((3 * ((u6_30 + 3) / 4))) from q_2124 r1) (show 0 ≤ ((2 * ((u6_30 + 3) / 4))) ∧ ((2 * ((u6_30 + 3) / 4))) ≤ ((3 * ((u6_30 + 3) / 4))) ∧ ((3 * ((u6_30 + 3) / 4))) ≤ 16385 from q_2123 r1) (h0) (fun z16 σ F12 A13 H hS14 hA15 pz16_0 pz16_1 pz16_2 => ⟨rfl, ?_⟩))
  have e37 : z16 = z1F ((w82)) ((w65)) (2 * (((u6_30 + 3) / 4))) (3 * (((u6_30 + 3) / 4))) := pz16_2
  refine w_iadd rfl ?_
  refine Ew_of (pcₚ := 42) (fun _ => x_aload_n rfl (rk_o (rfl) rfl rfl)) ?_
  refine Ew_of (pcₚ := 43) (fun _ => x_aload_n rfl (rk_o (rfl) rfl rfl)) ?_
  refine Ew_of (pcₚ := 44) (fun _ => x_iconst rfl) ?_
  refine Ew_of (pcₚ := 45) (fun _ => x_iload_n rfl rk_s) ?_
  refine w_imul rfl ?_
  refine Ew_of (pcₚ := 47) (fun _ => x_aload_n rfl (rk_o (rfl) rfl rfl)) ?_
  refine w_gI H (o := 6) (w := u6_30) rfl (H.perm 6 rfl) rfl rfl rfl (fun _ => rfl) ((((hS14 6 30 rfl).trans (hS9 6 30 rfl)).trans (hS4 6 30 rfl)).trans (eu6_30)) ?_
  refine w_inv H (o := 6) rfl rfl rfl (H.perm 6 rfl) rfl rfl (by rfl) (M424_82 H (w65) ((funext (hA15 65 rfl)).trans ((funext (hA10 65 rfl)).trans ((funext (hA5 65 rfl)).trans (ew65)))) (w82) ((funext (hA15 82 rfl)).trans ((funext (hA10 82 rfl)).trans ((funext (hA5 82 rfl)).trans (ew82)))) (show inr ((3 * ((u6_30 + 3) / 4))) from q_2124 r1) (show inr (u6_30) from q_2125 r1) (show 0 ≤ ((3 * ((u6_30 + 3) / 4))) ∧ ((3 * ((u6_30 + 3) / 4))) ≤ (u6_30) ∧ (u6_30) ≤ 16385 by omega) (h0) (fun z21 σ F17 A18 H hS19 hA20 pz21_0 pz21_1 pz21_2 => ⟨rfl, ?_⟩))
  have e50 : z21 = z1F ((w82)) ((w65)) (3 * (((u6_30 + 3) / 4))) ((u6_30)) := pz21_2
  refine w_iadd rfl ?_
  have : (((((6 + z6) + z11) + z16) + z21)) = STZ ((w82)) ((w65)) ((u6_30)) := by rw [STZ_4 (by omega)]; omega
  exact w_ireturn rfl (k (((((6 + z6) + z11) + z16) + z21)) σ _ _ H (SF_trans (SF_trans (SF_trans (SF_trans (SF_refl) hS4 (any_sub rfl)) hS9 (any_sub rfl)) hS14 (any_sub rfl)) hS19 (any_sub rfl)) (SA_trans (SA_trans (SA_trans (SA_trans (SA_refl) hA5 (any_subA rfl)) hA10 (any_subA rfl)) hA15 (any_subA rfl)) hA20 (any_subA rfl)) (show inr (((((6 + z6) + z11) + z16) + z21)) from q_2127 pz11_1 pz16_1 pz21_1 pz6_1 r1) (show 0 ≤ (((((6 + z6) + z11) + z16) + z21)) ∧ (((((6 + z6) + z11) + z16) + z21)) ≤ 40000 from q_2126 pz11_1 pz16_1 pz21_1 pz6_1 r1) (show (((((6 + z6) + z11) + z16) + z21)) = STZ ((w82)) ((w65)) ((u6_30)) by assumption))

theorem M426_82 {σ0 σ : rS} {D N : Nat → Nat} {F : hF} {A : hA} {d c s : Nat} {Q : wQ} (H : HS σ0 σ D N F A) {a2 : Int} (u6_30 : Int) (eu6_30 : F 6 30 = u6_30) (w65 : Int → Int) (ew65 : A 65 = w65) (w82 : Int → Int) (ew82 : A 82 = w82) (h0 : inr (a2)) (h1 : BD ((w82))) (h2 : -2 ≤ (a2) ∧ (a2) ≤ 20000) (k : ∀ (z : Int) σ Fₚ Aₚ, HS σ0 σ D N Fₚ Aₚ → SF [] F Fₚ → SA [] A Aₚ → (inr (z)) → ((a2) ≤ (z) ∧ (z) ≤ 70000) → ((z) = (a2) + STZ ((w82)) ((w65)) ((u6_30))) → Q (some (I z)) σ c s) : Ew 426 (d + 2) 0 (rargs 0 [.ref (D 6), .ref (D 82), I a2]) [] σ c s Q := by
  have r1 : (0 : Int) ≤ u6_30 ∧ u6_30 ≤ 16385 := rngE (show (0 : Int) ≤ F 6 30 ∧ F 6 30 ≤ 16385 from H.frng 6 30) (show F 6 30 = u6_30 from (eu6_30))
  refine Ew_of (pcₚ := 1) (fun _ => x_iload_n rfl rfl) ?_
  refine Ew_of (pcₚ := 2) (fun _ => x_aload_n rfl rfl) ?_
  refine w_gI H (o := 6) (w := u6_30) rfl (H.perm 6 rfl) rfl rfl rfl (fun _ => rfl) (eu6_30) ?_
  refine Ew_of (pcₚ := 8) (fun _ => x_sipush (z := 1024) rfl (by decide)) ?_
  refine w_icmpge (t := 24) rfl rfl (show inr (u6_30) from q_2125 r1) (show inr (1024) from q_2128) (fun b2 => ?_) (fun b2 => ?_)
  · refine Ew_of (pcₚ := 25) (fun _ => x_aload_n rfl rfl) ?_
    refine Ew_of (pcₚ := 26) (fun _ => x_aload_n rfl rfl) ?_
    refine w_inv H (o := 6) rfl rfl rfl (H.perm 6 rfl) rfl rfl (by rfl) (M425_82 H (u6_30) ((eu6_30)) (w65) (ew65) (w82) (ew82) (h1) (show 1024 ≤ (u6_30) from b2) (fun z7 σ F3 A4 H hS5 hA6 pz7_0 pz7_1 pz7_2 => ⟨rfl, ?_⟩))
    refine w_iadd rfl ?_
    have : ((a2 + z7)) = (a2) + STZ ((w82)) ((w65)) ((u6_30)) := by first | (have e : zMISS = z1F ((w82)) ((w65)) 0 ((u6_30)) := pzMISS_2; rw [STZ_1 (by omega)]; omega) | (have e := pz7_2; omega)
    exact w_ireturn rfl (k ((a2 + z7)) σ _ _ H (SF_trans (SF_refl) hS5 (any_sub rfl)) (SA_trans (SA_refl) hA6 (any_subA rfl)) (show inr ((a2 + z7)) from q_2130 h2 pz7_1) (show a2 ≤ ((a2 + z7)) ∧ ((a2 + z7)) ≤ 70000 from q_2129 h2 pz7_1) (show ((a2 + z7)) = a2 + STZ ((w82)) ((w65)) ((u6_30)) by assumption))
  · refine Ew_of (pcₚ := 12) (fun _ => x_aload_n rfl rfl) ?_
    refine Ew_of (pcₚ := 13) (fun _ => x_aload_n rfl rfl) ?_
    refine Ew_of (pcₚ := 14) (fun _ => x_iconst rfl) ?_
    refine Ew_of (pcₚ := 15) (fun _ => x_aload_n rfl rfl) ?_
    refine w_gI H (o := 6) (w := u6_30) rfl (H.perm 6 rfl) rfl rfl rfl (fun _ => rfl) (eu6_30) ?_
    refine w_inv H (o := 6) rfl rfl rfl (H.perm 6 rfl) rfl rfl (by rfl) (M424_82 H (w65) (ew65) (w82) (ew82) (show inr (0) from q_2) (show inr (u6_30) from q_2132 b2 r1) (show 0 ≤ (0) ∧ (0) ≤ (u6_30) ∧ (u6_30) ≤ 16385 from q_2131 r1) (h1) (fun z12 σ F8 A9 H hS10 hA11 pz12_0 pz12_1 pz12_2 => ⟨rfl, ?_⟩))
    refine Ew_of (pcₚ := 29) (fun _ => x_goto rfl rfl) ?_
    refine w_iadd rfl ?_
    have : ((a2 + z12)) = (a2) + STZ ((w82)) ((w65)) ((u6_30)) := by first | (have e : z12 = z1F ((w82)) ((w65)) 0 ((u6_30)) := pz12_2; rw [STZ_1 (by omega)]; omega) | (have e := pz7_2; omega)
    exact w_ireturn rfl (k ((a2 + z12)) σ _ _ H (SF_trans (SF_refl) hS10 (any_sub rfl)) (SA_trans (SA_refl) hA11 (any_subA rfl)) (show inr ((a2 + z12)) from q_2134 b2 h2 pz12_1) (show a2 ≤ ((a2 + z12)) ∧ ((a2 + z12)) ≤ 70000 from q_2133 b2 h2 pz12_1) (show ((a2 + z12)) = a2 + STZ ((w82)) ((w65)) ((u6_30)) by assumption))

theorem M427 {σ0 σ : rS} {D N : Nat → Nat} {F : hF} {A : hA} {d c s : Nat} {Q : wQ} (H : HS σ0 σ D N F A) {a1 : Int} (h0 : inr (a1)) (k : ∀ (z : Int) σ Fₚ Aₚ, HS σ0 σ D N Fₚ Aₚ → SF [] F Fₚ → SA [] A Aₚ → (inr (z)) → (10 ≤ (z) ∧ (z) ≤ 18) → ((a1) < 2 ∧ (z) = 10 ∨ (a1) = 2 ∧ (z) = 14 ∨ 2 < (a1) ∧ (z) = 18) → Q (some (I z)) σ c s) : Ew 427 (d + 0) 0 (rargs 0 [I a1]) [] σ c s Q := by
  refine Ew_of (pcₚ := 1) (fun _ => x_iload_n rfl rfl) ?_
  refine Ew_of (pcₚ := 2) (fun _ => x_iconst rfl) ?_
  refine w_icmpge (t := 10) rfl rfl (show inr (a1) from h0) (show inr (2) from q_122) (fun b1 => ?_) (fun b1 => ?_)
  · refine Ew_of (pcₚ := 11) (fun _ => x_iload_n rfl rfl) ?_
    refine Ew_of (pcₚ := 12) (fun _ => x_iconst rfl) ?_
    refine w_icmpne (t := 20) rfl rfl (show inr (a1) from h0) (show inr (2) from q_122) (fun b2 => ?_) (fun b2 => ?_)
    · refine Ew_of (pcₚ := 22) (fun _ => x_bipush (z := 18) rfl (by decide)) ?_
      exact w_ireturn rfl (k (18) σ _ _ H (SF_refl) (SA_refl) (show inr (18) from q_601) (show 10 ≤ (18) ∧ (18) ≤ 18 by first | exact q_2135 | omega) (show a1 < 2 ∧ (18) = 10 ∨ a1 = 2 ∧ (18) = 14 ∨ 2 < a1 ∧ (18) = 18 by omega))
    · refine Ew_of (pcₚ := 17) (fun _ => x_bipush (z := 14) rfl (by decide)) ?_
      refine Ew_of (pcₚ := 22) (fun _ => x_goto rfl rfl) ?_
      exact w_ireturn rfl (k (14) σ _ _ H (SF_refl) (SA_refl) (show inr (14) from q_1607) (show 10 ≤ (14) ∧ (14) ≤ 18 by first | exact q_2137 | omega) (show a1 < 2 ∧ (14) = 10 ∨ a1 = 2 ∧ (14) = 14 ∨ 2 < a1 ∧ (14) = 18 by first | exact q_2136 b2 | omega))
  · refine Ew_of (pcₚ := 7) (fun _ => x_bipush (z := 10) rfl (by decide)) ?_
    refine Ew_of (pcₚ := 22) (fun _ => x_goto rfl rfl) ?_
    exact w_ireturn rfl (k (10) σ _ _ H (SF_refl) (SA_refl) (show inr (10) from q_746) (show 10 ≤ (10) ∧ (10) ≤ 18 by first | exact q_2139 | omega) (show a1 < 2 ∧ (10) = 10 ∨ a1 = 2 ∧ (10) = 14 ∨ 2 < a1 ∧ (10) = 18 by first | exact q_2138 b1 | omega))

theorem M428 {σ0 σ : rS} {D N : Nat → Nat} {F : hF} {A : hA} {d c s : Nat} {Q : wQ} (H : HS σ0 σ D N F A) {a1 : Int} (h0 : inr (a1)) (k : ∀ (z : Int) σ Fₚ Aₚ, HS σ0 σ D N Fₚ Aₚ → SF [] F Fₚ → SA [] A Aₚ → (inr (z)) → (3 ≤ (z) ∧ (z) ≤ 5) → ((a1) < 2 ∧ (z) = 3 ∨ (a1) = 2 ∧ (z) = 4 ∨ 2 < (a1) ∧ (z) = 5) → Q (some (I z)) σ c s) : Ew 428 (d + 0) 0 (rargs 0 [I a1]) [] σ c s Q := by
  refine Ew_of (pcₚ := 1) (fun _ => x_iload_n rfl rfl) ?_
  refine Ew_of (pcₚ := 2) (fun _ => x_iconst rfl) ?_
  refine w_icmpge (t := 9) rfl rfl (show inr (a1) from h0) (show inr (2) from q_122) (fun b1 => ?_) (fun b1 => ?_)
  · refine Ew_of (pcₚ := 10) (fun _ => x_iload_n rfl rfl) ?_
    refine Ew_of (pcₚ := 11) (fun _ => x_iconst rfl) ?_
    refine w_icmpne (t := 18) rfl rfl (show inr (a1) from h0) (show inr (2) from q_122) (fun b2 => ?_) (fun b2 => ?_)
    · refine Ew_of (pcₚ := 19) (fun _ => x_iconst rfl) ?_
      exact w_ireturn rfl (k (5) σ _ _ H (SF_refl) (SA_refl) (show inr (5) from q_727) (show 3 ≤ (5) ∧ (5) ≤ 5 by first | exact q_2140 | omega) (show a1 < 2 ∧ (5) = 3 ∨ a1 = 2 ∧ (5) = 4 ∨ 2 < a1 ∧ (5) = 5 by omega))
    · refine Ew_of (pcₚ := 15) (fun _ => x_iconst rfl) ?_
      refine Ew_of (pcₚ := 19) (fun _ => x_goto rfl rfl) ?_
      exact w_ireturn rfl (k (4) σ _ _ H (SF_refl) (SA_refl) (show inr (4) from q_216) (show 3 ≤ (4) ∧ (4) ≤ 5 by first | exact q_2142 | omega) (show a1 < 2 ∧ (4) = 3 ∨ a1 = 2 ∧ (4) = 4 ∨ 2 < a1 ∧ (4) = 5 by first | exact q_2141 b2 | omega))
  · refine Ew_of (pcₚ := 6) (fun _ => x_iconst rfl) ?_
    refine Ew_of (pcₚ := 19) (fun _ => x_goto rfl rfl) ?_
    exact w_ireturn rfl (k (3) σ _ _ H (SF_refl) (SA_refl) (show inr (3) from q_246) (show 3 ≤ (3) ∧ (3) ≤ 5 by first | exact q_2144 | omega) (show a1 < 2 ∧ (3) = 3 ∨ a1 = 2 ∧ (3) = 4 ∨ 2 < a1 ∧ (3) = 5 by first | exact q_2143 b1 | omega))

theorem M429 {σ0 σ : rS} {D N : Nat → Nat} {F : hF} {A : hA} {d c s : Nat} {Q : wQ} (H : HS σ0 σ D N F A) {a1 : Int} (u6_30 : Int) (eu6_30 : F 6 30 = u6_30) (h0 : inr (a1)) (k : ∀ (z : Int) σ Fₚ Aₚ, HS σ0 σ D N Fₚ Aₚ → SF [] F Fₚ → SA [] A Aₚ → (inr (z)) → (-1 ≤ (z) ∧ (z) ≤ 3) → ((z) = 0 ∧ (u6_30) < 1024 ∧ (a1) < 1024 ∨ (z) = -1 ∧ (u6_30) < 1024 ∧ 1024 ≤ (a1) ∨ (z) = 2 ∧ 1024 ≤ (u6_30) ∧ (u6_30) < 16384 ∧ (a1) < 16384 ∨ (z) = 3 ∧ 1024 ≤ (u6_30) ∧ (16384 ≤ (u6_30) ∨ 16384 ≤ (a1)) ∧ (a1) < 262144 ∨ (z) = -1 ∧ 1024 ≤ (u6_30) ∧ 262144 ≤ (a1)) → Q (some (I z)) σ c s) : Ew 429 (d + 1) 0 (rargs 0 [.ref (D 6), I a1]) [] σ c s Q := by
  have r1 : (0 : Int) ≤ u6_30 ∧ u6_30 ≤ 16385 := rngE (show (0 : Int) ≤ F 6 30 ∧ F 6 30 ≤ 16385 from H.frng 6 30) (show F 6 30 = u6_30 from (eu6_30))
  refine Ew_of (pcₚ := 1) (fun _ => x_aload_n rfl rfl) ?_
  refine w_gI H (o := 6) (w := u6_30) rfl (H.perm 6 rfl) rfl rfl rfl (fun _ => rfl) (eu6_30) ?_
  refine Ew_of (pcₚ := 7) (fun _ => x_sipush (z := 1024) rfl (by decide)) ?_
  refine w_icmpge (t := 23) rfl rfl (show inr (u6_30) from q_2125 r1) (show inr (1024) from q_2128) (fun b2 => ?_) (fun b2 => ?_)
  · refine Ew_of (pcₚ := 24) (fun _ => x_iconst rfl) ?_
    refine Ew_of (pcₚ := 25) (fun _ => x_istore_n rfl) ?_
    suffices hl25 : ∀ (m : Nat), ∀ (ls : rO) (σ : rS) (F_25 : hF) (A_25 : hA) (x25_2 : Int), rlook ls 0 = some (.ref (D 6)) → rlook ls 1 = some (I (a1)) → rlook ls 2 = some (I (x25_2)) → HS σ0 σ D N F_25 A_25 → SF [] F F_25 → SA [] A A_25 → (inr (x25_2)) → (1 ≤ (x25_2) ∧ (x25_2) ≤ 4) → (1024 ≤ (u6_30)) → ((x25_2) ≤ 2 ∨ 16384 ≤ (u6_30) ∨ 16384 ≤ (a1)) → ((x25_2) ≤ 3 ∨ 262144 ≤ (a1)) → (4 - (x25_2)).toNat = m → Ew 429 (d + 1) 25 ls [] σ c s Q from
      hl25 _ _ σ _ _ (1) (rk_o (rfl) rfl rfl) (rk_o (rfl) rfl rfl) (rk_s) H (SF_refl) (SA_refl)   (show inr (1) from q_135) (show 1 ≤ (1) ∧ (1) ≤ 4 from q_2147) (show 1024 ≤ (u6_30) from b2) (show (1) ≤ 2 ∨ 16384 ≤ (u6_30) ∨ 16384 ≤ (a1) from q_2146) (show (1) ≤ 3 ∨ 262144 ≤ (a1) from q_2145) rfl
    as_aux_lemma =>
    intro m
    induction m using Nat.strongRecOn with
    | _ m ih25 =>
      intro ls σ F_25 A_25 x25_2 l25_0 l25_1 l25_2 H hS_25 hA_25   j25_0 j25_1 j25_2 j25_3 j25_4 hm25
      refine Ew_of (pcₚ := 26) (fun _ => x_iload_n rfl l25_2) ?_
      refine Ew_of (pcₚ := 27) (fun _ => x_iconst rfl) ?_
      refine w_icmpge (t := 61) rfl rfl (show inr (x25_2) from j25_0) (show inr (4) from q_216) (fun b3 => ?_) (fun b3 => ?_)
      · refine Ew_of (pcₚ := 62) (fun _ => x_iconst rfl) ?_
        exact w_ireturn rfl (k ((-1)) σ _ _ H (SF_trans (SF_refl) hS_25 (any_sub rfl)) (SA_trans (SA_refl) hA_25 (any_subA rfl)) (show inr ((-1)) from q_63) (show -1 ≤ ((-1)) ∧ ((-1)) ≤ 3 by first | exact q_2148 | omega) (show ((-1)) = 0 ∧ (u6_30) < 1024 ∧ a1 < 1024 ∨ ((-1)) = -1 ∧ (u6_30) < 1024 ∧ 1024 ≤ a1 ∨ ((-1)) = 2 ∧ 1024 ≤ (u6_30) ∧ (u6_30) < 16384 ∧ a1 < 16384 ∨ ((-1)) = 3 ∧ 1024 ≤ (u6_30) ∧ (16384 ≤ (u6_30) ∨ 16384 ≤ a1) ∧ a1 < 262144 ∨ ((-1)) = -1 ∧ 1024 ≤ (u6_30) ∧ 262144 ≤ a1 by omega))
      · refine Ew_of (pcₚ := 31) (fun _ => x_aload_n rfl l25_0) ?_
        refine w_gI H (o := 6) (w := u6_30) rfl (H.perm 6 rfl) rfl rfl rfl (fun _ => rfl) ((hS_25 6 30 rfl).trans (eu6_30)) ?_
        refine Ew_of (pcₚ := 35) (fun _ => x_iconst rfl) ?_
        refine Ew_of (pcₚ := 36) (fun _ => x_iload_n rfl l25_2) ?_
        refine w_stat24 rfl rfl (by rfl) (M427 H (show inr (x25_2) from j25_0) (fun z8 σ F4 A5 H hS6 hA7 pz8_0 pz8_1 pz8_2 => ⟨rfl, ?_⟩))
        have : p2 ((z8)) ≤ p2 18 := p2_mono (by omega)
        have : p2 18 = 262144 := by decide
        have := p2_pos ((z8))
        have hpw1 : ((z8) = 10 → p2 ((z8)) = 1024) ∧ ((z8) = 14 → p2 ((z8)) = 16384) ∧ ((z8) = 18 → p2 ((z8)) = 262144) := ⟨fun q => by rw [q]; decide, fun q => by rw [q]; decide, fun q => by rw [q]; decide⟩
        refine w_ishl1 rfl (show 0 ≤ z8 ∧ z8 ≤ 31 from q_2149 pz8_1) ?_
        refine w_icmpge (t := 55) rfl rfl (show inr (u6_30) from q_2150 j25_2 r1) (show inr (p2 (z8)) by omega) (fun b10 => ?_) (fun b10 => ?_)
        · refine Ew_of (pcₚ := 58) (fun _ => x_iinc (len := 3) rfl (l25_2)) ?_
          refine Ew_of (pcₚ := 25) (fun _ => x_goto rfl rfl) ?_
          exact ih25 _ (msE hm25 q_612 (q_613 b3)) _ σ _ _ ((x25_2 + 1)) (rk_o (l25_0) rfl rfl) (rk_o (l25_1) rfl rfl) (rk_s) H (SF_trans (hS_25) hS6 (any_sub rfl)) (SA_trans (hA_25) hA7 (any_subA rfl))   (show inr ((x25_2 + 1)) from q_2152 b3 j25_1) (show 1 ≤ ((x25_2 + 1)) ∧ ((x25_2 + 1)) ≤ 4 from q_2151 b3 j25_1) (show 1024 ≤ (u6_30) from j25_2) (show ((x25_2 + 1)) ≤ 2 ∨ 16384 ≤ (u6_30) ∨ 16384 ≤ (a1) by omega) (show ((x25_2 + 1)) ≤ 3 ∨ 262144 ≤ (a1) by omega) rfl
        · refine Ew_of (pcₚ := 44) (fun _ => x_iload_n rfl l25_1) ?_
          refine Ew_of (pcₚ := 45) (fun _ => x_iconst rfl) ?_
          refine Ew_of (pcₚ := 46) (fun _ => x_iload_n rfl l25_2) ?_
          refine w_stat24 rfl rfl (by rfl) (M427 H (show inr (x25_2) from j25_0) (fun z15 σ F11 A12 H hS13 hA14 pz15_0 pz15_1 pz15_2 => ⟨rfl, ?_⟩))
          have : p2 ((z15)) ≤ p2 18 := p2_mono (by omega)
          have : p2 18 = 262144 := by decide
          have := p2_pos ((z15))
          have hpw2 : ((z15) = 10 → p2 ((z15)) = 1024) ∧ ((z15) = 14 → p2 ((z15)) = 16384) ∧ ((z15) = 18 → p2 ((z15)) = 262144) := ⟨fun q => by rw [q]; decide, fun q => by rw [q]; decide, fun q => by rw [q]; decide⟩
          refine w_ishl1 rfl (show 0 ≤ z15 ∧ z15 ≤ 31 from q_2149 pz15_1) ?_
          refine w_icmpge (t := 55) rfl rfl (show inr (a1) from h0) (show inr (p2 (z15)) by omega) (fun b17 => ?_) (fun b17 => ?_)
          · refine Ew_of (pcₚ := 58) (fun _ => x_iinc (len := 3) rfl (l25_2)) ?_
            refine Ew_of (pcₚ := 25) (fun _ => x_goto rfl rfl) ?_
            exact ih25 _ (msE hm25 q_612 (q_613 b3)) _ σ _ _ ((x25_2 + 1)) (rk_o (l25_0) rfl rfl) (rk_o (l25_1) rfl rfl) (rk_s) H (SF_trans (SF_trans (hS_25) hS6 (any_sub rfl)) hS13 (any_sub rfl)) (SA_trans (SA_trans (hA_25) hA7 (any_subA rfl)) hA14 (any_subA rfl))   (show inr ((x25_2 + 1)) from q_2152 b3 j25_1) (show 1 ≤ ((x25_2 + 1)) ∧ ((x25_2 + 1)) ≤ 4 from q_2151 b3 j25_1) (show 1024 ≤ (u6_30) from j25_2) (show ((x25_2 + 1)) ≤ 2 ∨ 16384 ≤ (u6_30) ∨ 16384 ≤ (a1) by omega) (show ((x25_2 + 1)) ≤ 3 ∨ 262144 ≤ (a1) by omega) rfl
          · refine Ew_of (pcₚ := 54) (fun _ => x_iload_n rfl l25_2) ?_
            exact w_ireturn rfl (k (x25_2) σ _ _ H (SF_trans (SF_trans (SF_trans (SF_refl) hS_25 (any_sub rfl)) hS6 (any_sub rfl)) hS13 (any_sub rfl)) (SA_trans (SA_trans (SA_trans (SA_refl) hA_25 (any_subA rfl)) hA7 (any_subA rfl)) hA14 (any_subA rfl)) (show inr (x25_2) from j25_0) (show -1 ≤ (x25_2) ∧ (x25_2) ≤ 3 from q_2153 b3 j25_1) (show (x25_2) = 0 ∧ (u6_30) < 1024 ∧ a1 < 1024 ∨ (x25_2) = -1 ∧ (u6_30) < 1024 ∧ 1024 ≤ a1 ∨ (x25_2) = 2 ∧ 1024 ≤ (u6_30) ∧ (u6_30) < 16384 ∧ a1 < 16384 ∨ (x25_2) = 3 ∧ 1024 ≤ (u6_30) ∧ (16384 ≤ (u6_30) ∨ 16384 ≤ a1) ∧ a1 < 262144 ∨ (x25_2) = -1 ∧ 1024 ≤ (u6_30) ∧ 262144 ≤ a1 by omega))
  · refine Ew_of (pcₚ := 11) (fun _ => x_iload_n rfl rfl) ?_
    refine Ew_of (pcₚ := 14) (fun _ => x_sipush (z := 1024) rfl (by decide)) ?_
    refine w_icmpge (t := 21) rfl rfl (show inr (a1) from h0) (show inr (1024) from q_2128) (fun b18 => ?_) (fun b18 => ?_)
    · refine Ew_of (pcₚ := 22) (fun _ => x_iconst rfl) ?_
      exact w_ireturn rfl (k ((-1)) σ _ _ H (SF_refl) (SA_refl) (show inr ((-1)) from q_63) (show -1 ≤ ((-1)) ∧ ((-1)) ≤ 3 by first | exact q_2148 | omega) (show ((-1)) = 0 ∧ (u6_30) < 1024 ∧ a1 < 1024 ∨ ((-1)) = -1 ∧ (u6_30) < 1024 ∧ 1024 ≤ a1 ∨ ((-1)) = 2 ∧ 1024 ≤ (u6_30) ∧ (u6_30) < 16384 ∧ a1 < 16384 ∨ ((-1)) = 3 ∧ 1024 ≤ (u6_30) ∧ (16384 ≤ (u6_30) ∨ 16384 ≤ a1) ∧ a1 < 262144 ∨ ((-1)) = -1 ∧ 1024 ≤ (u6_30) ∧ 262144 ≤ a1 by first | exact q_2154 b18 b2 | omega))
    · refine Ew_of (pcₚ := 18) (fun _ => x_iconst rfl) ?_
      refine Ew_of (pcₚ := 22) (fun _ => x_goto rfl rfl) ?_
      exact w_ireturn rfl (k (0) σ _ _ H (SF_refl) (SA_refl) (show inr (0) from q_2) (show -1 ≤ (0) ∧ (0) ≤ 3 by first | exact q_2156 | omega) (show (0) = 0 ∧ (u6_30) < 1024 ∧ a1 < 1024 ∨ (0) = -1 ∧ (u6_30) < 1024 ∧ 1024 ≤ a1 ∨ (0) = 2 ∧ 1024 ≤ (u6_30) ∧ (u6_30) < 16384 ∧ a1 < 16384 ∨ (0) = 3 ∧ 1024 ≤ (u6_30) ∧ (16384 ≤ (u6_30) ∨ 16384 ≤ a1) ∧ a1 < 262144 ∨ (0) = -1 ∧ 1024 ≤ (u6_30) ∧ 262144 ≤ a1 by first | exact q_2155 b18 b2 | omega))

theorem M432 {σ0 σ : rS} {D N : Nat → Nat} {F : hF} {A : hA} {d c s : Nat} {Q : wQ} (H : HS σ0 σ D N F A)  (u6_30 : Int) (eu6_30 : F 6 30 = u6_30) (w65 : Int → Int) (ew65 : A 65 = w65) (k : ∀ (z : Int) σ Fₚ Aₚ, HS σ0 σ D N Fₚ Aₚ → SF [] F Fₚ → SA [] A Aₚ → ((z) = 0 ∨ (z) = 1) → ((z) = 1 → 1 ≤ (u6_30)) → ((z) = 0 → (u6_30) ≤ 0 ∨ DIFF ((w65)) ((u6_30))) → ((z) = 1 → ALK ((w65)) ((u6_30))) → Q (some (I z)) σ c s) : Ew 432 (d + 0) 0 (rargs 0 [.ref (D 6)]) [] σ c s Q := by
  have r1 : (0 : Int) ≤ u6_30 ∧ u6_30 ≤ 16385 := rngE (show (0 : Int) ≤ F 6 30 ∧ F 6 30 ≤ 16385 from H.frng 6 30) (show F 6 30 = u6_30 from (eu6_30))
  refine Ew_of (pcₚ := 1) (fun _ => x_iconst rfl) ?_
  refine Ew_of (pcₚ := 2) (fun _ => x_istore_n rfl) ?_
  have : ∀ k, 0 ≤ k → k < 1 → ((w65)) k = ((w65)) 0 := fun k a b => by rw [show k = 0 by omega]
  suffices hl2 : ∀ (m : Nat), ∀ (ls : rO) (σ : rS) (F_2 : hF) (A_2 : hA) (x2_1 : Int), rlook ls 0 = some (.ref (D 6)) → rlook ls 1 = some (I (x2_1)) → HS σ0 σ D N F_2 A_2 → SF [] F F_2 → SA [] A A_2 → (inr (x2_1)) → (1 ≤ (x2_1)) → (∀ k, 0 ≤ k → k < (x2_1) → ((w65)) k = ((w65)) 0) → (0 ≤ 0 + ((u6_30) + 1 - (x2_1)) ∨ True) → ((u6_30) + 1 - (x2_1)).toNat = m → Ew 432 (d + 0) 2 ls [] σ c s Q from
    hl2 _ _ σ _ _ (1) (rk_o (rfl) rfl rfl) (rk_s) H (SF_refl) (SA_refl)   (show inr (1) from q_135) (show 1 ≤ (1) from q_1387) (show ∀ k, 0 ≤ k → k < (1) → ((w65)) k = ((w65)) 0 by assumption) (show 0 ≤ 0 + ((u6_30) + 1 - (1)) ∨ True from q_2157 r1) rfl
  as_aux_lemma =>
  intro m
  induction m using Nat.strongRecOn with
  | _ m ih2 =>
    intro ls σ F_2 A_2 x2_1 l2_0 l2_1 H hS_2 hA_2   j2_0 j2_1 j2_2 j2_3 hm2
    have j2_a : ∀ k, 0 ≤ k → k < (x2_1) → ((w65)) k = ((w65)) 0 := by assumption
    obtain ⟨ql1, hql1⟩ : ∃ q : Int, q = (x2_1) := ⟨_, rfl⟩
    refine Ew_of (pcₚ := 3) (fun _ => x_iload_n rfl l2_1) ?_
    refine Ew_of (pcₚ := 4) (fun _ => x_aload_n rfl l2_0) ?_
    refine w_gI H (o := 6) (w := u6_30) rfl (H.perm 6 rfl) rfl rfl rfl (fun _ => rfl) ((hS_2 6 30 rfl).trans (eu6_30)) ?_
    refine w_icmpge (t := 33) rfl rfl (show inr (x2_1) from j2_0) (show inr (u6_30) from q_2125 r1) (fun b2 => ?_) (fun b2 => ?_)
    · refine Ew_of (pcₚ := 34) (fun _ => x_aload_n rfl l2_0) ?_
      refine w_gI H (o := 6) (w := u6_30) rfl (H.perm 6 rfl) rfl rfl rfl (fun _ => rfl) ((hS_2 6 30 rfl).trans (eu6_30)) ?_
      refine w_ifle (t := 44) rfl rfl (show inr (u6_30) from q_2125 r1) (fun b3 => ?_) (fun b3 => ?_)
      · have : (0 : Int) = 0 → (u6_30) ≤ 0 ∨ DIFF ((w65)) ((u6_30)) := fun _ => .inl (by omega)
        refine Ew_of (pcₚ := 45) (fun _ => x_iconst rfl) ?_
        exact w_ireturn rfl (k (0) σ _ _ H (SF_trans (SF_refl) hS_2 (any_sub rfl)) (SA_trans (SA_refl) hA_2 (any_subA rfl)) (show (0) = 0 ∨ (0) = 1 by first | exact q_45 | omega) (show (0) = 1 → 1 ≤ (u6_30) by first | exact q_2158 r1 | omega) (show (0) = 0 → (u6_30) ≤ 0 ∨ DIFF ((w65)) ((u6_30)) by first | assumption | exact fun h => absurd rfl h | exact fun h => absurd h (by decide) | omega) (show (0) = 1 → ALK ((w65)) ((u6_30)) by first | assumption | exact fun h => absurd rfl h | exact fun h => absurd h (by decide) | omega))
      · have : (1 : Int) = 1 → ALK ((w65)) ((u6_30)) := fun _ => ⟨by omega, fun k a b => j2_a k a (by omega)⟩
        refine Ew_of (pcₚ := 41) (fun _ => x_iconst rfl) ?_
        refine Ew_of (pcₚ := 45) (fun _ => x_goto rfl rfl) ?_
        exact w_ireturn rfl (k (1) σ _ _ H (SF_trans (SF_refl) hS_2 (any_sub rfl)) (SA_trans (SA_refl) hA_2 (any_subA rfl)) (show (1) = 0 ∨ (1) = 1 by first | exact q_49 | omega) (show (1) = 1 → 1 ≤ (u6_30) by first | exact q_2159 b3 | omega) (show (1) = 0 → (u6_30) ≤ 0 ∨ DIFF ((w65)) ((u6_30)) by first | assumption | exact fun h => absurd rfl h | exact fun h => absurd h (by decide) | omega) (show (1) = 1 → ALK ((w65)) ((u6_30)) by first | assumption | exact fun h => absurd rfl h | exact fun h => absurd h (by decide) | omega))
    · refine Ew_of (pcₚ := 11) (fun _ => x_aload_n rfl l2_0) ?_
      refine w_gT H (o := 6) (t := 65) rfl (H.perm 6 rfl) rfl rfl rfl rfl rfl rfl ?_
      refine Ew_of (pcₚ := 15) (fun _ => x_iload_n rfl l2_1) ?_
      refine w_lI H (o := 65) (n := 16385) rfl (H.perm 65 rfl) rfl rfl (H.fix 65 rfl rfl) (show 0 ≤ x2_1 ∧ x2_1 < ((16385 : Nat) : Int) from q_2160 b2 j2_1 r1) (by decide) (fun v4 ev4 qv4 => ?_)
      have qv4 : (0 : Int) ≤ v4 ∧ v4 ≤ 255 := qv4
      have ev4 : (w65) (x2_1) = v4 := (congrFun ((funext (hA_2 65 rfl)).trans (ew65)) (x2_1)).symm.trans ev4
      refine Ew_of (pcₚ := 17) (fun _ => x_aload_n rfl l2_0) ?_
      refine w_gT H (o := 6) (t := 65) rfl (H.perm 6 rfl) rfl rfl rfl rfl rfl rfl ?_
      refine Ew_of (pcₚ := 21) (fun _ => x_iconst rfl) ?_
      refine w_lI H (o := 65) (n := 16385) rfl (H.perm 65 rfl) rfl rfl (H.fix 65 rfl rfl) (show 0 ≤ 0 ∧ 0 < ((16385 : Nat) : Int) from q_2161) (by decide) (fun v5 ev5 qv5 => ?_)
      have qv5 : (0 : Int) ≤ v5 ∧ v5 ≤ 255 := qv5
      have ev5 : (w65) (0) = v5 := (congrFun ((funext (hA_2 65 rfl)).trans (ew65)) (0)).symm.trans ev5
      have hd1 := ev4
      have hd0 := ev5
      refine w_icmpeq (t := 27) rfl rfl (show inr (v4) from q_299 qv4) (show inr (v5) from q_299 qv5) (fun b6 => ?_) (fun b6 => ?_)
      · refine Ew_of (pcₚ := 30) (fun _ => x_iinc (len := 3) rfl (l2_1)) ?_
        refine Ew_of (pcₚ := 2) (fun _ => x_goto rfl rfl) ?_
        have : ∀ k, 0 ≤ k → k < ((x2_1 + 1)) → ((w65)) k = ((w65)) 0 := fun k a b => by by_cases e : k = ql1; (rw [e, hql1, hd1, hd0]; omega); exact j2_a k a (by omega)
        exact ih2 _ (msE hm2 q_77 (q_2164 b2)) _ σ _ _ ((x2_1 + 1)) (rk_o (l2_0) rfl rfl) (rk_s) H (hS_2) (hA_2)   (show inr ((x2_1 + 1)) from q_2163 b2 j2_1 r1) (show 1 ≤ ((x2_1 + 1)) from q_888 j2_1) (show ∀ k, 0 ≤ k → k < ((x2_1 + 1)) → ((w65)) k = ((w65)) 0 by assumption) (show 0 ≤ 0 + ((u6_30) + 1 - ((x2_1 + 1))) ∨ True from q_2162 b2) rfl
      · have : (0 : Int) = 0 → (u6_30) ≤ 0 ∨ DIFF ((w65)) ((u6_30)) := fun _ => .inr ⟨(x2_1), by omega, by omega, by rw [hd1, hd0]; omega⟩
        refine Ew_of (pcₚ := 26) (fun _ => x_iconst rfl) ?_
        exact w_ireturn rfl (k (0) σ _ _ H (SF_trans (SF_refl) hS_2 (any_sub rfl)) (SA_trans (SA_refl) hA_2 (any_subA rfl)) (show (0) = 0 ∨ (0) = 1 by first | exact q_45 | omega) (show (0) = 1 → 1 ≤ (u6_30) by first | exact q_2158 r1 | omega) (show (0) = 0 → (u6_30) ≤ 0 ∨ DIFF ((w65)) ((u6_30)) by first | assumption | exact fun h => absurd rfl h | exact fun h => absurd h (by decide) | omega) (show (0) = 1 → ALK ((w65)) ((u6_30)) by first | assumption | exact fun h => absurd rfl h | exact fun h => absurd h (by decide) | omega))

theorem M433 {σ0 σ : rS} {D N : Nat → Nat} {F : hF} {A : hA} {d c s : Nat} {Q : wQ} (H : HS σ0 σ D N F A)  (u6_12 : Int) (eu6_12 : F 6 12 = u6_12) (u6_30 : Int) (eu6_30 : F 6 30 = u6_30) (w53 : Int → Int) (ew53 : A 53 = w53) (w65 : Int → Int) (ew65 : A 65 = w65) (k : ∀ (z : Int) σ Fₚ Aₚ, HS σ0 σ D N Fₚ Aₚ → SF [] F Fₚ → SA [] A Aₚ → ((z) = 0 ∨ (z) = 1) → ((z) = 1 → 1 ≤ (u6_12)) → ((z) = 1 → ∀ k, 0 ≤ k → k < (u6_30) → ((w53)) (((w65)) k) ≠ 0) → ((z) = 0 → NCD ((u6_12)) ((w53)) ((w65)) ((u6_30))) → Q (some (I z)) σ c s) : Ew 433 (d + 0) 0 (rargs 0 [.ref (D 6)]) [] σ c s Q := by
  have r1 : (0 : Int) ≤ u6_12 ∧ u6_12 ≤ 11 := rngE (show (0 : Int) ≤ F 6 12 ∧ F 6 12 ≤ 11 from H.frng 6 12) (show F 6 12 = u6_12 from (eu6_12))
  have r2 : (0 : Int) ≤ u6_30 ∧ u6_30 ≤ 16385 := rngE (show (0 : Int) ≤ F 6 30 ∧ F 6 30 ≤ 16385 from H.frng 6 30) (show F 6 30 = u6_30 from (eu6_30))
  refine Ew_of (pcₚ := 1) (fun _ => x_iconst rfl) ?_
  refine Ew_of (pcₚ := 2) (fun _ => x_istore_n rfl) ?_
  have : ∀ k, (0 : Int) ≤ k → k < 0 → ((w53)) (((w65)) k) ≠ 0 := fun k a b => absurd b (by omega)
  suffices hl2 : ∀ (m : Nat), ∀ (ls : rO) (σ : rS) (F_2 : hF) (A_2 : hA) (x2_1 : Int), rlook ls 0 = some (.ref (D 6)) → rlook ls 1 = some (I (x2_1)) → HS σ0 σ D N F_2 A_2 → SF [] F F_2 → SA [] A A_2 → (inr (x2_1)) → ((0) ≤ (x2_1)) → ((x2_1) ≤ (0) ∨ (x2_1) ≤ ((u6_30))) → (∀ k, 0 ≤ k → k < (x2_1) → ((w53)) (((w65)) k) ≠ 0) → (((u6_30)) - (x2_1)).toNat = m → Ew 433 (d + 0) 2 ls [] σ c s Q from
    hl2 _ _ σ _ _ (0) (rk_o (rfl) rfl rfl) (rk_s) H (SF_refl) (SA_refl)   (show inr (0) from q_2) (show (0) ≤ (0) from q_1) (show (0) ≤ (0) ∨ (0) ≤ ((u6_30)) from q_5) (show ∀ k, 0 ≤ k → k < (0) → ((w53)) (((w65)) k) ≠ 0 by assumption) rfl
  as_aux_lemma =>
  intro m
  induction m using Nat.strongRecOn with
  | _ m ih2 =>
    intro ls σ F_2 A_2 x2_1 l2_0 l2_1 H hS_2 hA_2   j2_0 j2_1 j2_2 j2_3 hm2
    refine Ew_of (pcₚ := 3) (fun _ => x_iload_n rfl l2_1) ?_
    refine Ew_of (pcₚ := 4) (fun _ => x_aload_n rfl l2_0) ?_
    refine w_gI H (o := 6) (w := u6_30) rfl (H.perm 6 rfl) rfl rfl rfl (fun _ => rfl) ((hS_2 6 30 rfl).trans (eu6_30)) ?_
    refine w_icmpge (t := 32) rfl rfl (show inr (x2_1) from j2_0) (show inr (u6_30) from q_2125 r2) (fun b3 => ?_) (fun b3 => ?_)
    · refine Ew_of (pcₚ := 33) (fun _ => x_aload_n rfl l2_0) ?_
      refine w_gI H (o := 6) (w := u6_12) rfl (H.perm 6 rfl) rfl rfl rfl (fun _ => rfl) ((hS_2 6 12 rfl).trans (eu6_12)) ?_
      refine w_ifle (t := 43) rfl rfl (show inr (u6_12) from q_1389 r1) (fun b4 => ?_) (fun b4 => ?_)
      · have : (0 : Int) = 0 → NCD ((u6_12)) ((w53)) ((w65)) ((u6_30)) := fun _ => .inl (by omega)
        refine Ew_of (pcₚ := 44) (fun _ => x_iconst rfl) ?_
        exact w_ireturn rfl (k (0) σ _ _ H (SF_trans (SF_refl) hS_2 (any_sub rfl)) (SA_trans (SA_refl) hA_2 (any_subA rfl)) (show (0) = 0 ∨ (0) = 1 by first | exact q_45 | omega) (show (0) = 1 → 1 ≤ (u6_12) by first | exact q_2165 r1 | omega) (show (0) = 1 → ∀ k, 0 ≤ k → k < (u6_30) → ((w53)) (((w65)) k) ≠ 0 by first | assumption | exact fun h => absurd rfl h | exact fun h => absurd h (by decide) | omega) (show (0) = 0 → NCD ((u6_12)) ((w53)) ((w65)) ((u6_30)) by first | assumption | exact fun h => absurd rfl h | exact fun h => absurd h (by decide) | omega))
      · refine Ew_of (pcₚ := 40) (fun _ => x_iconst rfl) ?_
        have : (1 : Int) = 1 → ∀ k, 0 ≤ k → k < (u6_30) → ((w53)) (((w65)) k) ≠ 0 := fun _ k a b => j2_3 k a (by omega)
        refine Ew_of (pcₚ := 44) (fun _ => x_goto rfl rfl) ?_
        exact w_ireturn rfl (k (1) σ _ _ H (SF_trans (SF_refl) hS_2 (any_sub rfl)) (SA_trans (SA_refl) hA_2 (any_subA rfl)) (show (1) = 0 ∨ (1) = 1 by first | exact q_49 | omega) (show (1) = 1 → 1 ≤ (u6_12) by first | exact q_2159 b4 | omega) (show (1) = 1 → ∀ k, 0 ≤ k → k < (u6_30) → ((w53)) (((w65)) k) ≠ 0 by first | assumption | exact fun h => absurd rfl h | exact fun h => absurd h (by decide) | omega) (show (1) = 0 → NCD ((u6_12)) ((w53)) ((w65)) ((u6_30)) by first | assumption | exact fun h => absurd rfl h | exact fun h => absurd h (by decide) | omega))
    · refine Ew_of (pcₚ := 11) (fun _ => x_aload_n rfl l2_0) ?_
      refine w_gT H (o := 6) (t := 53) rfl (H.perm 6 rfl) rfl rfl rfl rfl rfl rfl ?_
      refine Ew_of (pcₚ := 15) (fun _ => x_aload_n rfl l2_0) ?_
      refine w_gT H (o := 6) (t := 65) rfl (H.perm 6 rfl) rfl rfl rfl rfl rfl rfl ?_
      refine Ew_of (pcₚ := 19) (fun _ => x_iload_n rfl l2_1) ?_
      refine w_lI H (o := 65) (n := 16385) rfl (H.perm 65 rfl) rfl rfl (H.fix 65 rfl rfl) (show 0 ≤ x2_1 ∧ x2_1 < ((16385 : Nat) : Int) from q_2166 b3 j2_1 r2) (by decide) (fun v5 ev5 qv5 => ?_)
      have qv5 : (0 : Int) ≤ v5 ∧ v5 ≤ 255 := qv5
      have ev5 : (w65) (x2_1) = v5 := (congrFun ((funext (hA_2 65 rfl)).trans (ew65)) (x2_1)).symm.trans ev5
      have hq := ev5
      refine w_lI H (o := 53) (n := 256) rfl (H.perm 53 rfl) rfl rfl (H.fix 53 rfl rfl) (show 0 ≤ v5 ∧ v5 < ((256 : Nat) : Int) from q_1433 qv5) (by decide) (fun v6 ev6 qv6 => ?_)
      have qv6 : (0 : Int) ≤ v6 ∧ v6 ≤ 11 := qv6
      have ev6 : (w53) (v5) = v6 := (congrFun ((funext (hA_2 53 rfl)).trans (ew53)) (v5)).symm.trans ev6
      have hq2 := ev6
      rw [← hq] at hq2
      refine w_ifne (t := 26) rfl rfl (show inr (v6) from q_1389 qv6) (fun b7 => ?_) (fun b7 => ?_)
      · have : ∀ k, 0 ≤ k → k < (x2_1) + 1 → ((w53)) (((w65)) k) ≠ 0 := fun k a b => by by_cases e : k = (x2_1); rw [e, hq2]; omega; exact j2_3 k a (by omega)
        refine Ew_of (pcₚ := 29) (fun _ => x_iinc (len := 3) rfl (l2_1)) ?_
        refine Ew_of (pcₚ := 2) (fun _ => x_goto rfl rfl) ?_
        exact ih2 _ (msE hm2 q_16 (q_17 b3)) _ σ _ _ ((x2_1 + 1)) (rk_o (l2_0) rfl rfl) (rk_s) H (hS_2) (hA_2)   (show inr ((x2_1 + 1)) from q_2167 b3 j2_1 r2) (show (0) ≤ ((x2_1 + 1)) from q_14 j2_1) (show ((x2_1 + 1)) ≤ (0) ∨ ((x2_1 + 1)) ≤ ((u6_30)) from q_13 b3) (show ∀ k, 0 ≤ k → k < ((x2_1 + 1)) → ((w53)) (((w65)) k) ≠ 0 by assumption) rfl
      · have : (0 : Int) = 0 → NCD ((u6_12)) ((w53)) ((w65)) ((u6_30)) := fun _ => .inr ⟨(x2_1), by omega, by omega, by rw [hq2]; omega⟩
        refine Ew_of (pcₚ := 25) (fun _ => x_iconst rfl) ?_
        exact w_ireturn rfl (k (0) σ _ _ H (SF_trans (SF_refl) hS_2 (any_sub rfl)) (SA_trans (SA_refl) hA_2 (any_subA rfl)) (show (0) = 0 ∨ (0) = 1 by first | exact q_45 | omega) (show (0) = 1 → 1 ≤ (u6_12) by first | exact q_2165 r1 | omega) (show (0) = 1 → ∀ k, 0 ≤ k → k < (u6_30) → ((w53)) (((w65)) k) ≠ 0 by first | assumption | exact fun h => absurd rfl h | exact fun h => absurd h (by decide) | omega) (show (0) = 0 → NCD ((u6_12)) ((w53)) ((w65)) ((u6_30)) by first | assumption | exact fun h => absurd rfl h | exact fun h => absurd h (by decide) | omega))


end
section
/-! 50.ref -/
theorem M451 {σ0 σ : rS} {D N : Nat → Nat} {F : hF} {A : hA} {d c s : Nat} {Q : wQ} (H : HS σ0 σ D N F A) {a1 a2 : Int} (h0 : inrJ (a1)) (h1 : inr (a2)) (h2 : 0 ≤ (a2) ∧ (a2) ≤ 64) (k : ∀ (z : Int) σ Fₚ Aₚ, HS σ0 σ D N Fₚ Aₚ → SF [] F Fₚ → SA [] A Aₚ → (inrJ (z)) → ((z) = rtJ ((a1)) ((a2))) → Q (some (J z)) σ c s) : Ew 451 (d + 0) 0 (rargs 0 [J a1, I a2]) [] σ c s Q := by
  refine Ew_of (pcₚ := 1) (fun _ => x_lload_n rfl rfl) ?_
  refine Ew_of (pcₚ := 2) (fun _ => x_iload_n rfl rfl) ?_
  refine w_lshlE rfl ?_
  have g1 : inrJ (shlJ (a1) (a2)) := toJ_inr _
  refine Ew_of (pcₚ := 4) (fun _ => x_lload_n rfl rfl) ?_
  refine Ew_of (pcₚ := 6) (fun _ => x_bipush (z := 64) rfl (by decide)) ?_
  refine Ew_of (pcₚ := 7) (fun _ => x_iload_n rfl rfl) ?_
  refine w_isub rfl ?_
  refine w_lushrE rfl ?_
  have g2 : inrJ (usJ (a1) ((64 - a2))) := toJ_inr _
  refine w_lorE rfl ?_
  have g3 : inrJ (orJ ((shlJ (a1) (a2))) ((usJ (a1) ((64 - a2))))) := toJ_inr _
  have : ((orJ ((shlJ (a1) (a2))) ((usJ (a1) ((64 - a2)))))) = rtJ ((a1)) ((a2)) := rfl
  exact w_lreturn rfl (k ((orJ ((shlJ (a1) (a2))) ((usJ (a1) ((64 - a2)))))) σ _ _ H (SF_refl) (SA_refl) (show inrJ ((orJ ((shlJ (a1) (a2))) ((usJ (a1) ((64 - a2)))))) from g3) (show ((orJ ((shlJ (a1) (a2))) ((usJ (a1) ((64 - a2)))))) = rtJ (a1) (a2) by assumption))

theorem M452 {σ0 σ : rS} {D N : Nat → Nat} {F : hF} {A : hA} {d c s : Nat} {Q : wQ} (H : HS σ0 σ D N F A) {a1 a2 : Int} (w14 : Int → Int) (ew14 : A 14 = w14) (h0 : inr (a1)) (h1 : inr (a2)) (h2 : 0 ≤ (a1) ∧ 0 ≤ (a2) ∧ (a2) ≤ 8 ∧ (a1) + (a2) ≤ 65536) (k : ∀ (z : Int) σ Fₚ Aₚ, HS σ0 σ D N Fₚ Aₚ → SF [] F Fₚ → SA [] A Aₚ → (inrJ (z)) → ((z) = nmb ((w14)) ((a1)) ((a2)) ((a2) : Int).toNat) → Q (some (J z)) σ c s) : Ew 452 (d + 0) 0 (rargs 0 [.ref (D 6), I a1, I a2]) [] σ c s Q := by
  refine Ew_of (pcₚ := 1) (fun _ => x_lconst (z := 0) rfl (by decide)) ?_
  refine Ew_of (pcₚ := 2) (fun _ => x_lstore_n rfl) ?_
  refine Ew_of (pcₚ := 3) (fun _ => x_iload_n rfl (rk2_o (rfl) rfl rfl)) ?_
  refine Ew_of (pcₚ := 4) (fun _ => x_iconst rfl) ?_
  refine w_isub rfl ?_
  refine Ew_of (pcₚ := 7) (fun _ => x_istore rfl) ?_
  have : (0 : Int) = nmb ((w14)) ((a1)) ((a2)) ((a2) - 1 - ((a2) - 1) : Int).toNat := by rw [show ((a2) - 1 - ((a2) - 1) : Int).toNat = 0 by omega]; rfl
  suffices hl7 : ∀ (m : Nat), ∀ (ls : rO) (σ : rS) (F_7 : hF) (A_7 : hA) (x7_3 : Int) (x7_5 : Int), rlook ls 0 = some (.ref (D 6)) → rlook ls 1 = some (I (a1)) → rlook ls 3 = some (J (x7_3)) → rlook ls 5 = some (I (x7_5)) → HS σ0 σ D N F_7 A_7 → SF [] F F_7 → SA [] A A_7 → (inrJ (x7_3)) → (inr (x7_5)) → ((x7_5) ≤ ((a2 - 1))) → (((a2 - 1)) ≤ (x7_5) ∨ ((-1)) ≤ (x7_5)) → ((x7_3) = nmb ((w14)) ((a1)) ((a2)) ((a2) - 1 - (x7_5) : Int).toNat) → ((x7_5) - ((-1))).toNat = m → Ew 452 (d + 0) 7 ls [] σ c s Q from
    hl7 _ _ σ _ _ (0) ((a2 - 1)) (rk_o (rk2_o (rfl) rfl rfl) rfl rfl) (rk_o (rk2_o (rfl) rfl rfl) rfl rfl) (rk_o (rk2_s) rfl rfl) (rk_s) H (SF_refl) (SA_refl)   (show inrJ (0) from q_340) (show inr ((a2 - 1)) from q_444 h2) (show ((a2 - 1)) ≤ ((a2 - 1)) from q_419) (show ((a2 - 1)) ≤ ((a2 - 1)) ∨ ((-1)) ≤ ((a2 - 1)) from q_418) (show (0) = nmb ((w14)) ((a1)) ((a2)) ((a2) - 1 - ((a2 - 1)) : Int).toNat by assumption) rfl
  as_aux_lemma =>
  intro m
  induction m using Nat.strongRecOn with
  | _ m ih7 =>
    intro ls σ F_7 A_7 x7_3 x7_5 l7_0 l7_1 l7_3 l7_5 H hS_7 hA_7   j7_0 j7_1 j7_2 j7_3 j7_4 hm7
    have j7_q : (x7_3) = nmb ((w14)) ((a1)) ((a2)) ((a2) - 1 - (x7_5) : Int).toNat := by assumption
    refine Ew_of (pcₚ := 9) (fun _ => x_iload rfl l7_5) ?_
    refine w_iflt (t := 37) rfl rfl (show inr (x7_5) from j7_1) (fun b1 => ?_) (fun b1 => ?_)
    · refine Ew_of (pcₚ := 38) (fun _ => x_lload_n rfl l7_3) ?_
      have : (x7_3) = nmb ((w14)) ((a1)) ((a2)) ((a2) : Int).toNat := by have h := j7_q; rw [show (a2) - 1 - (x7_5) = (a2) by omega] at h; exact h
      exact w_lreturn rfl (k (x7_3) σ _ _ H (SF_trans (SF_refl) hS_7 (any_sub rfl)) (SA_trans (SA_refl) hA_7 (any_subA rfl)) (show inrJ (x7_3) from j7_0) (show (x7_3) = nmb ((w14)) (a1) (a2) (a2 : Int).toNat by assumption))
    · refine Ew_of (pcₚ := 13) (fun _ => x_lload_n rfl l7_3) ?_
      refine Ew_of (pcₚ := 15) (fun _ => x_bipush (z := 8) rfl (by decide)) ?_
      refine w_lshlE rfl ?_
      have g2 : inrJ (shlJ (x7_3) (8)) := toJ_inr _
      refine Ew_of (pcₚ := 17) (fun _ => x_aload_n rfl l7_0) ?_
      refine w_gT H (o := 6) (t := 1) rfl (H.perm 6 rfl) rfl rfl rfl rfl rfl rfl ?_
      refine w_gT H (o := 1) (t := 14) rfl (H.perm 1 rfl) rfl rfl rfl rfl rfl rfl ?_
      refine Ew_of (pcₚ := 24) (fun _ => x_iload_n rfl l7_1) ?_
      refine Ew_of (pcₚ := 26) (fun _ => x_iload rfl l7_5) ?_
      refine w_iadd rfl ?_
      refine w_lI H (o := 14) (n := 65536) rfl (H.perm 14 rfl) rfl rfl (H.fix 14 rfl rfl) (show 0 ≤ (a1 + x7_5) ∧ (a1 + x7_5) < ((65536 : Nat) : Int) from q_445 b1 h2 j7_2) (by decide) (fun v3 ev3 qv3 => ?_)
      have qv3 : (0 : Int) ≤ v3 ∧ v3 ≤ 255 := qv3
      have ev3 : (w14) ((a1 + x7_5)) = v3 := (congrFun ((funext (hA_7 14 rfl)).trans (ew14)) ((a1 + x7_5))).symm.trans ev3
      have hby := ev3
      refine w_i2l rfl (show inr (v3) from q_299 qv3) ?_
      refine w_lorE rfl ?_
      have g4 : inrJ (orJ ((shlJ (x7_3) (8))) (v3)) := toJ_inr _
      have hnf : (((orJ ((shlJ (x7_3) (8))) (v3))) : Int) = nmb ((w14)) ((a1)) ((a2)) ((a2) - 1 - ((x7_5) + (-1)) : Int).toNat := nmb_s (i := (x7_5)) (by omega) (by omega) (by omega) j7_q rfl (by rw [hby]; omega) rfl
      refine Ew_of (pcₚ := 31) (fun _ => x_lstore_n rfl) ?_
      refine Ew_of (pcₚ := 34) (fun _ => x_iinc (len := 3) rfl (rk2_o (l7_5) rfl rfl)) ?_
      refine Ew_of (pcₚ := 7) (fun _ => x_goto rfl rfl) ?_
      exact ih7 _ (msE hm7 q_432 (q_433 b1)) _ σ _ _ ((orJ ((shlJ (x7_3) (8))) (v3))) ((x7_5 + (-1))) (rk_o (rk2_o (l7_0) rfl rfl) rfl rfl) (rk_o (rk2_o (l7_1) rfl rfl) rfl rfl) (rk_o (rk2_s) rfl rfl) (rk_s) H (hS_7) (hA_7)   (show inrJ ((orJ ((shlJ (x7_3) (8))) (v3))) from g4) (show inr ((x7_5 + (-1))) from q_431 b1 j7_1) (show ((x7_5 + (-1))) ≤ ((a2 - 1)) from q_430 j7_2) (show ((a2 - 1)) ≤ ((x7_5 + (-1))) ∨ ((-1)) ≤ ((x7_5 + (-1))) from q_429 b1) (show ((orJ ((shlJ (x7_3) (8))) (v3))) = nmb ((w14)) ((a1)) ((a2)) ((a2) - 1 - ((x7_5 + (-1))) : Int).toNat by assumption) rfl

theorem M453 {σ0 σ : rS} {D N : Nat → Nat} {F : hF} {A : hA} {d c s : Nat} {Q : wQ} (H : HS σ0 σ D N F A)  (u1_1 : Int) (eu1_1 : F 1 1 = u1_1) (w14 : Int → Int) (ew14 : A 14 = w14) (k : ∀ (z : Int) σ Fₚ Aₚ, HS σ0 σ D N Fₚ Aₚ → SF [] F Fₚ → SA [86] A Aₚ → (inrJ (z)) → ((z) = WDS ((w14)) 0 ((u1_1)) 0) → Q (some (J z)) σ c s) : Ew 453 (d + 1) 0 (rargs 0 [.ref (D 6)]) [] σ c s Q := by
  have r1 : (0 : Int) ≤ u1_1 ∧ u1_1 ≤ 65536 := rngE (show (0 : Int) ≤ F 1 1 ∧ F 1 1 ≤ 65536 from H.frng 1 1) (show F 1 1 = u1_1 from (eu1_1))
  refine Ew_of (pcₚ := 3) (fun _ => x_ldc2 (z := -7046029288634856825) rfl (by decide)) ?_
  refine Ew_of (pcₚ := 4) (fun _ => x_lstore_n rfl) ?_
  refine Ew_of (pcₚ := 7) (fun _ => x_ldc2 (z := -4417276706812531889) rfl (by decide)) ?_
  refine Ew_of (pcₚ := 8) (fun _ => x_lstore_n rfl) ?_
  refine Ew_of (pcₚ := 11) (fun _ => x_ldc2 (z := 1609587929392839161) rfl (by decide)) ?_
  refine Ew_of (pcₚ := 13) (fun _ => x_lstore rfl) ?_
  refine Ew_of (pcₚ := 16) (fun _ => x_ldc2 (z := -8796714831421723037) rfl (by decide)) ?_
  refine Ew_of (pcₚ := 18) (fun _ => x_lstore rfl) ?_
  refine Ew_of (pcₚ := 21) (fun _ => x_ldc2 (z := 2870177450012600261) rfl (by decide)) ?_
  refine Ew_of (pcₚ := 23) (fun _ => x_lstore rfl) ?_
  refine Ew_of (pcₚ := 25) (fun _ => x_lload rfl rk2_s) ?_
  refine Ew_of (pcₚ := 27) (fun _ => x_lstore rfl) ?_
  refine Ew_of (pcₚ := 28) (fun _ => x_iconst rfl) ?_
  refine Ew_of (pcₚ := 30) (fun _ => x_istore rfl) ?_
  have hc231 : ∀ (ls : rO) (σ : rS) (F_c231 : hF) (A_c231 : hA) (xc231_11 : Int) (xc231_13 : Int), rlook ls 0 = some (.ref (D 6)) → rlook ls 1 = some (J ((-7046029288634856825))) → rlook ls 3 = some (J ((-4417276706812531889))) → rlook ls 5 = some (J (1609587929392839161)) → rlook ls 7 = some (J ((-8796714831421723037))) → rlook ls 9 = some (J (2870177450012600261)) → rlook ls 11 = some (J (xc231_11)) → rlook ls 13 = some (I (xc231_13)) → HS σ0 σ D N F_c231 A_c231 → SF [] F F_c231 → SA [86] A A_c231 → (inrJ (xc231_11)) → (inr (xc231_13)) → (0 ≤ (xc231_13) ∧ (xc231_13) ≤ (u1_1)) → (WS1 ((w14)) 0 ((u1_1)) 0 ((xc231_13)) ((xc231_11))) → Ew 453 (d + 1) 231 ls [] σ c s Q := by
   as_aux_lemma =>
    intro  ls σ F_c231 A_c231 xc231_11 xc231_13 lc231_0 lc231_1 lc231_3 lc231_5 lc231_7 lc231_9 lc231_11 lc231_13 H hS_c231 hA_c231   jc231_0 jc231_1 jc231_2 jc231_3
    have hc1 : WS1 ((w14)) 0 ((u1_1)) 0 ((xc231_13)) ((xc231_11)) := jc231_3
    refine Ew_of (pcₚ := 233) (fun _ => x_lload rfl lc231_11) ?_
    refine Ew_of (pcₚ := 234) (fun _ => x_aload_n rfl lc231_0) ?_
    refine w_gT H (o := 6) (t := 1) rfl (H.perm 6 rfl) rfl rfl rfl rfl rfl rfl ?_
    refine w_gI H (o := 1) (w := u1_1) rfl (H.perm 1 rfl) rfl rfl rfl (fun _ => rfl) ((hS_c231 1 1 rfl).trans (eu1_1)) ?_
    refine w_i2l rfl (show inr (u1_1) from q_286 r1) ?_
    refine w_laddE rfl ?_
    have g2 : inrJ (adJ (xc231_11) (u1_1)) := toJ_inr _
    refine Ew_of (pcₚ := 244) (fun _ => x_lstore rfl) ?_
    have hc1p := hc1.1
    have : WRI8 ((w14)) ((u1_1) - (u1_1) % 32) ((u1_1)) (adJ (WTI ((w14)) 0 ((u1_1)) 0) ((u1_1))) ((xc231_13)) (((adJ (xc231_11) (u1_1)))) := WRI8_i (by omega) (by rw [hc1.2]) (by omega)
    suffices hl244 : ∀ (m : Nat), ∀ (ls : rO) (σ : rS) (F_244 : hF) (A_244 : hA) (x244_11 : Int) (x244_13 : Int), rlook ls 0 = some (.ref (D 6)) → rlook ls 1 = some (J ((-7046029288634856825))) → rlook ls 3 = some (J ((-4417276706812531889))) → rlook ls 5 = some (J (1609587929392839161)) → rlook ls 7 = some (J ((-8796714831421723037))) → rlook ls 9 = some (J (2870177450012600261)) → rlook ls 11 = some (J (x244_11)) → rlook ls 13 = some (I (x244_13)) → HS σ0 σ D N F_244 A_244 → SF [] F_c231 F_244 → SA [] A_c231 A_244 → (inrJ (x244_11)) → (inr (x244_13)) → (0 ≤ (x244_13) ∧ (x244_13) ≤ (u1_1)) → (WRI8 ((w14)) ((u1_1) - (u1_1) % 32) ((u1_1)) (adJ (WTI ((w14)) 0 ((u1_1)) 0) ((u1_1))) ((x244_13)) ((x244_11))) → ((u1_1) - (x244_13)).toNat = m → Ew 453 (d + 1) 244 ls [] σ c s Q from
      hl244 _ _ σ _ _ ((adJ (xc231_11) (u1_1))) (xc231_13) (rk2_o (lc231_0) rfl rfl) (rk2_o (lc231_1) rfl rfl) (rk2_o (lc231_3) rfl rfl) (rk2_o (lc231_5) rfl rfl) (rk2_o (lc231_7) rfl rfl) (rk2_o (lc231_9) rfl rfl) (rk2_s) (rk2_o (lc231_13) rfl rfl) H (SF_refl) (SA_refl)   (show inrJ ((adJ (xc231_11) (u1_1))) from g2) (show inr (xc231_13) from jc231_1) (show 0 ≤ (xc231_13) ∧ (xc231_13) ≤ (u1_1) from jc231_2) (show WRI8 ((w14)) ((u1_1) - (u1_1) % 32) ((u1_1)) (adJ (WTI ((w14)) 0 ((u1_1)) 0) ((u1_1))) ((xc231_13)) (((adJ (xc231_11) (u1_1)))) by assumption) rfl
    as_aux_lemma =>
    intro m
    induction m using Nat.strongRecOn with
    | _ m ih244 =>
      intro ls σ F_244 A_244 x244_11 x244_13 l244_0 l244_1 l244_3 l244_5 l244_7 l244_9 l244_11 l244_13 H hS_244 hA_244   j244_0 j244_1 j244_2 j244_3 hm244
      have j244_q : WRI8 ((w14)) ((u1_1) - (u1_1) % 32) ((u1_1)) (adJ (WTI ((w14)) 0 ((u1_1)) 0) ((u1_1))) ((x244_13)) ((x244_11)) := j244_3
      refine Ew_of (pcₚ := 245) (fun _ => x_aload_n rfl l244_0) ?_
      refine w_gT H (o := 6) (t := 1) rfl (H.perm 6 rfl) rfl rfl rfl rfl rfl rfl ?_
      refine w_gI H (o := 1) (w := u1_1) rfl (H.perm 1 rfl) rfl rfl rfl (fun _ => rfl) (((hS_244 1 1 rfl).trans (hS_c231 1 1 rfl)).trans (eu1_1)) ?_
      refine Ew_of (pcₚ := 253) (fun _ => x_iload rfl l244_13) ?_
      refine w_isub rfl ?_
      refine Ew_of (pcₚ := 256) (fun _ => x_bipush (z := 8) rfl (by decide)) ?_
      refine w_icmplt (t := 297) rfl rfl (show inr ((u1_1 - x244_13)) from q_2180 j244_2 r1) (show inr (8) from q_141) (fun b3 => ?_) (fun b3 => ?_)
      · refine Ew_of (pcₚ := 298) (fun _ => x_aload_n rfl l244_0) ?_
        refine w_gT H (o := 6) (t := 1) rfl (H.perm 6 rfl) rfl rfl rfl rfl rfl rfl ?_
        refine w_gI H (o := 1) (w := u1_1) rfl (H.perm 1 rfl) rfl rfl rfl (fun _ => rfl) (((hS_244 1 1 rfl).trans (hS_c231 1 1 rfl)).trans (eu1_1)) ?_
        refine Ew_of (pcₚ := 306) (fun _ => x_iload rfl l244_13) ?_
        refine w_isub rfl ?_
        refine Ew_of (pcₚ := 308) (fun _ => x_iconst rfl) ?_
        refine w_icmplt (t := 338) rfl rfl (show inr ((u1_1 - x244_13)) from q_2181 b3 j244_2) (show inr (4) from q_216) (fun b4 => ?_) (fun b4 => ?_)
        · have : WRI1 ((w14)) ((u1_1) - (u1_1) % 32) ((u1_1)) (adJ (WTI ((w14)) 0 ((u1_1)) 0) ((u1_1))) ((x244_13)) ((x244_11)) := by first | exact WRI1_n j244_q (by omega) | exact WRI1_y j244_q (by omega) (w4_c n4_ r4_) (by omega)
          suffices hl338 : ∀ (m : Nat), ∀ (ls : rO) (σ : rS) (F_338 : hF) (A_338 : hA) (x338_11 : Int) (x338_13 : Int), rlook ls 0 = some (.ref (D 6)) → rlook ls 1 = some (J ((-7046029288634856825))) → rlook ls 3 = some (J ((-4417276706812531889))) → rlook ls 5 = some (J (1609587929392839161)) → rlook ls 9 = some (J (2870177450012600261)) → rlook ls 11 = some (J (x338_11)) → rlook ls 13 = some (I (x338_13)) → HS σ0 σ D N F_338 A_338 → SF [] F_244 F_338 → SA [] A_244 A_338 → (inrJ (x338_11)) → (inr (x338_13)) → (0 ≤ (x338_13) ∧ (x338_13) ≤ (u1_1)) → (WRI1 ((w14)) ((u1_1) - (u1_1) % 32) ((u1_1)) (adJ (WTI ((w14)) 0 ((u1_1)) 0) ((u1_1))) ((x338_13)) ((x338_11))) → ((u1_1) - (x338_13)).toNat = m → Ew 453 (d + 1) 338 ls [] σ c s Q from
            hl338 _ _ σ _ _ (x244_11) (x244_13) (l244_0) (l244_1) (l244_3) (l244_5) (l244_9) (l244_11) (l244_13) H (SF_refl) (SA_refl)   (show inrJ (x244_11) from j244_0) (show inr (x244_13) from j244_1) (show 0 ≤ (x244_13) ∧ (x244_13) ≤ (u1_1) from j244_2) (show WRI1 ((w14)) ((u1_1) - (u1_1) % 32) ((u1_1)) (adJ (WTI ((w14)) 0 ((u1_1)) 0) ((u1_1))) ((x244_13)) ((x244_11)) by assumption) rfl
          as_aux_lemma =>
          intro m
          induction m using Nat.strongRecOn with
          | _ m ih338 =>
            intro ls σ F_338 A_338 x338_11 x338_13 l338_0 l338_1 l338_3 l338_5 l338_9 l338_11 l338_13 H hS_338 hA_338   j338_0 j338_1 j338_2 j338_3 hm338
            have j338_q : WRI1 ((w14)) ((u1_1) - (u1_1) % 32) ((u1_1)) (adJ (WTI ((w14)) 0 ((u1_1)) 0) ((u1_1))) ((x338_13)) ((x338_11)) := j338_3
            refine Ew_of (pcₚ := 340) (fun _ => x_iload rfl l338_13) ?_
            refine Ew_of (pcₚ := 341) (fun _ => x_aload_n rfl l338_0) ?_
            refine w_gT H (o := 6) (t := 1) rfl (H.perm 6 rfl) rfl rfl rfl rfl rfl rfl ?_
            refine w_gI H (o := 1) (w := u1_1) rfl (H.perm 1 rfl) rfl rfl rfl (fun _ => rfl) ((((hS_338 1 1 rfl).trans (hS_244 1 1 rfl)).trans (hS_c231 1 1 rfl)).trans (eu1_1)) ?_
            refine w_icmpge (t := 382) rfl rfl (show inr (x338_13) from j338_1) (show inr (u1_1) from q_286 r1) (fun b5 => ?_) (fun b5 => ?_)
            · refine Ew_of (pcₚ := 384) (fun _ => x_lload rfl l338_11) ?_
              refine Ew_of (pcₚ := 386) (fun _ => x_lload rfl l338_11) ?_
              refine Ew_of (pcₚ := 388) (fun _ => x_bipush (z := 33) rfl (by decide)) ?_
              refine w_lushrE rfl ?_
              have g6 : inrJ (usJ (x338_11) (33)) := toJ_inr _
              refine w_lxorE rfl ?_
              have g7 : inrJ (xoJ (x338_11) ((usJ (x338_11) (33)))) := toJ_inr _
              refine Ew_of (pcₚ := 391) (fun _ => x_lload_n rfl l338_3) ?_
              refine w_lmulE rfl ?_
              have g8 : inrJ (muJ ((xoJ (x338_11) ((usJ (x338_11) (33))))) ((-4417276706812531889))) := toJ_inr _
              refine Ew_of (pcₚ := 394) (fun _ => x_lstore rfl) ?_
              refine Ew_of (pcₚ := 396) (fun _ => x_lload rfl rk2_s) ?_
              refine Ew_of (pcₚ := 398) (fun _ => x_lload rfl rk2_s) ?_
              refine Ew_of (pcₚ := 400) (fun _ => x_bipush (z := 29) rfl (by decide)) ?_
              refine w_lushrE rfl ?_
              have g9 : inrJ (usJ ((muJ ((xoJ (x338_11) ((usJ (x338_11) (33))))) ((-4417276706812531889)))) (29)) := toJ_inr _
              refine w_lxorE rfl ?_
              have g10 : inrJ (xoJ ((muJ ((xoJ (x338_11) ((usJ (x338_11) (33))))) ((-4417276706812531889)))) ((usJ ((muJ ((xoJ (x338_11) ((usJ (x338_11) (33))))) ((-4417276706812531889)))) (29)))) := toJ_inr _
              refine Ew_of (pcₚ := 404) (fun _ => x_lload rfl (rk2_o (l338_5) rfl rfl)) ?_
              refine w_lmulE rfl ?_
              have g11 : inrJ (muJ ((xoJ ((muJ ((xoJ (x338_11) ((usJ (x338_11) (33))))) ((-4417276706812531889)))) ((usJ ((muJ ((xoJ (x338_11) ((usJ (x338_11) (33))))) ((-4417276706812531889)))) (29))))) (1609587929392839161)) := toJ_inr _
              refine Ew_of (pcₚ := 407) (fun _ => x_lstore rfl) ?_
              refine Ew_of (pcₚ := 409) (fun _ => x_lload rfl rk2_s) ?_
              refine Ew_of (pcₚ := 411) (fun _ => x_lload rfl rk2_s) ?_
              refine Ew_of (pcₚ := 413) (fun _ => x_bipush (z := 32) rfl (by decide)) ?_
              refine w_lushrE rfl ?_
              have g12 : inrJ (usJ ((muJ ((xoJ ((muJ ((xoJ (x338_11) ((usJ (x338_11) (33))))) ((-4417276706812531889)))) ((usJ ((muJ ((xoJ (x338_11) ((usJ (x338_11) (33))))) ((-4417276706812531889)))) (29))))) (1609587929392839161))) (32)) := toJ_inr _
              refine w_lxorE rfl ?_
              have g13 : inrJ (xoJ ((muJ ((xoJ ((muJ ((xoJ (x338_11) ((usJ (x338_11) (33))))) ((-4417276706812531889)))) ((usJ ((muJ ((xoJ (x338_11) ((usJ (x338_11) (33))))) ((-4417276706812531889)))) (29))))) (1609587929392839161))) ((usJ ((muJ ((xoJ ((muJ ((xoJ (x338_11) ((usJ (x338_11) (33))))) ((-4417276706812531889)))) ((usJ ((muJ ((xoJ (x338_11) ((usJ (x338_11) (33))))) ((-4417276706812531889)))) (29))))) (1609587929392839161))) (32)))) := toJ_inr _
              have : ((xoJ ((muJ ((xoJ ((muJ ((xoJ (x338_11) ((usJ (x338_11) (33))))) ((-4417276706812531889)))) ((usJ ((muJ ((xoJ (x338_11) ((usJ (x338_11) (33))))) ((-4417276706812531889)))) (29))))) (1609587929392839161))) ((usJ ((muJ ((xoJ ((muJ ((xoJ (x338_11) ((usJ (x338_11) (33))))) ((-4417276706812531889)))) ((usJ ((muJ ((xoJ (x338_11) ((usJ (x338_11) (33))))) ((-4417276706812531889)))) (29))))) (1609587929392839161))) (32))))) = WDS ((w14)) 0 ((u1_1)) 0 := WDS_w (WRI1_e j338_q (by omega)) (by omega) (by omega)
              exact w_lreturn rfl (k ((xoJ ((muJ ((xoJ ((muJ ((xoJ (x338_11) ((usJ (x338_11) (33))))) ((-4417276706812531889)))) ((usJ ((muJ ((xoJ (x338_11) ((usJ (x338_11) (33))))) ((-4417276706812531889)))) (29))))) (1609587929392839161))) ((usJ ((muJ ((xoJ ((muJ ((xoJ (x338_11) ((usJ (x338_11) (33))))) ((-4417276706812531889)))) ((usJ ((muJ ((xoJ (x338_11) ((usJ (x338_11) (33))))) ((-4417276706812531889)))) (29))))) (1609587929392839161))) (32))))) σ _ _ H (SF_trans (SF_trans (SF_trans (SF_refl) hS_c231 (any_sub rfl)) hS_244 (any_sub rfl)) hS_338 (any_sub rfl)) (SA_trans (SA_trans (SA_trans (SA_refl) hA_c231 (any_subA rfl)) hA_244 (any_subA rfl)) hA_338 (any_subA rfl)) (show inrJ ((xoJ ((muJ ((xoJ ((muJ ((xoJ (x338_11) ((usJ (x338_11) (33))))) ((-4417276706812531889)))) ((usJ ((muJ ((xoJ (x338_11) ((usJ (x338_11) (33))))) ((-4417276706812531889)))) (29))))) (1609587929392839161))) ((usJ ((muJ ((xoJ ((muJ ((xoJ (x338_11) ((usJ (x338_11) (33))))) ((-4417276706812531889)))) ((usJ ((muJ ((xoJ (x338_11) ((usJ (x338_11) (33))))) ((-4417276706812531889)))) (29))))) (1609587929392839161))) (32))))) from g13) (show ((xoJ ((muJ ((xoJ ((muJ ((xoJ (x338_11) ((usJ (x338_11) (33))))) ((-4417276706812531889)))) ((usJ ((muJ ((xoJ (x338_11) ((usJ (x338_11) (33))))) ((-4417276706812531889)))) (29))))) (1609587929392839161))) ((usJ ((muJ ((xoJ ((muJ ((xoJ (x338_11) ((usJ (x338_11) (33))))) ((-4417276706812531889)))) ((usJ ((muJ ((xoJ (x338_11) ((usJ (x338_11) (33))))) ((-4417276706812531889)))) (29))))) (1609587929392839161))) (32))))) = WDS ((w14)) 0 ((u1_1)) 0 by assumption))
            · refine Ew_of (pcₚ := 352) (fun _ => x_lload rfl l338_11) ?_
              refine Ew_of (pcₚ := 353) (fun _ => x_aload_n rfl l338_0) ?_
              refine w_gT H (o := 6) (t := 1) rfl (H.perm 6 rfl) rfl rfl rfl rfl rfl rfl ?_
              refine w_gT H (o := 1) (t := 14) rfl (H.perm 1 rfl) rfl rfl rfl rfl rfl rfl ?_
              refine Ew_of (pcₚ := 361) (fun _ => x_iload rfl l338_13) ?_
              refine w_lI H (o := 14) (n := 65536) rfl (H.perm 14 rfl) rfl rfl (H.fix 14 rfl rfl) (show 0 ≤ x338_13 ∧ x338_13 < ((65536 : Nat) : Int) from q_2182 b5 j338_2 r1) (by decide) (fun v14 ev14 qv14 => ?_)
              have qv14 : (0 : Int) ≤ v14 ∧ v14 ≤ 255 := qv14
              have ev14 : (w14) (x338_13) = v14 := (congrFun ((funext (hA_338 14 rfl)).trans ((funext (hA_244 14 rfl)).trans ((funext (hA_c231 14 rfl)).trans (ew14)))) (x338_13)).symm.trans ev14
              have hby := ev14
              refine w_i2l rfl (show inr (v14) from q_299 qv14) ?_
              refine Ew_of (pcₚ := 365) (fun _ => x_lload rfl l338_9) ?_
              refine w_lmulE rfl ?_
              have g15 : inrJ (muJ (v14) (2870177450012600261)) := toJ_inr _
              refine w_lxorE rfl ?_
              have g16 : inrJ (xoJ (x338_11) ((muJ (v14) (2870177450012600261)))) := toJ_inr _
              refine Ew_of (pcₚ := 369) (fun _ => x_bipush (z := 11) rfl (by decide)) ?_
              refine w_stat24 rfl rfl (by rfl) (M451 H (show inrJ ((xoJ (x338_11) ((muJ (v14) (2870177450012600261))))) from g16) (show inr (11) from q_326) (show 0 ≤ (11) ∧ (11) ≤ 64 from q_824) (fun z21 σ F17 A18 H hS19 hA20 pz21_0 pz21_1 => ⟨rfl, ?_⟩))
              have r1_ := pz21_1
              refine Ew_of (pcₚ := 373) (fun _ => x_lload_n rfl l338_1) ?_
              refine w_lmulE rfl ?_
              have g22 : inrJ (muJ (z21) ((-7046029288634856825))) := toJ_inr _
              refine Ew_of (pcₚ := 376) (fun _ => x_lstore rfl) ?_
              refine Ew_of (pcₚ := 379) (fun _ => x_iinc (len := 3) rfl (rk2_o (l338_13) rfl rfl)) ?_
              refine Ew_of (pcₚ := 338) (fun _ => x_goto rfl rfl) ?_
              have : WRI1 ((w14)) ((u1_1) - (u1_1) % 32) ((u1_1)) (adJ (WTI ((w14)) 0 ((u1_1)) 0) ((u1_1))) (((x338_13 + 1))) (((muJ (z21) ((-7046029288634856825))))) := WRI1_s j338_q (by omega) (w1_r hby (by omega) r1_) (by omega)
              exact ih338 _ (msE hm338 q_16 (q_17 b5)) _ σ _ _ ((muJ (z21) ((-7046029288634856825)))) ((x338_13 + 1)) (rk_o (rk2_o (l338_0) rfl rfl) rfl rfl) (rk_o (rk2_o (l338_1) rfl rfl) rfl rfl) (rk_o (rk2_o (l338_3) rfl rfl) rfl rfl) (rk_o (rk2_o (l338_5) rfl rfl) rfl rfl) (rk_o (rk2_o (l338_9) rfl rfl) rfl rfl) (rk_o (rk2_s) rfl rfl) (rk_s) H (SF_trans (hS_338) hS19 (any_sub rfl)) (SA_trans (hA_338) hA20 (any_subA rfl))   (show inrJ ((muJ (z21) ((-7046029288634856825)))) from g22) (show inr ((x338_13 + 1)) from q_2183 b5 j338_2 r1) (show 0 ≤ ((x338_13 + 1)) ∧ ((x338_13 + 1)) ≤ (u1_1) from q_1395 b5 j338_2) (show WRI1 ((w14)) ((u1_1) - (u1_1) % 32) ((u1_1)) (adJ (WTI ((w14)) 0 ((u1_1)) 0) ((u1_1))) (((x338_13 + 1))) (((muJ (z21) ((-7046029288634856825))))) by assumption) rfl
        · refine Ew_of (pcₚ := 313) (fun _ => x_lload rfl l244_11) ?_
          refine Ew_of (pcₚ := 314) (fun _ => x_aload_n rfl l244_0) ?_
          refine Ew_of (pcₚ := 316) (fun _ => x_iload rfl l244_13) ?_
          refine Ew_of (pcₚ := 317) (fun _ => x_iconst rfl) ?_
          refine w_inv H (o := 6) rfl rfl rfl (H.perm 6 rfl) rfl rfl (by rfl) (M452 H (w14) ((funext (hA_244 14 rfl)).trans ((funext (hA_c231 14 rfl)).trans (ew14))) (show inr (x244_13) from j244_1) (show inr (4) from q_216) (show 0 ≤ (x244_13) ∧ 0 ≤ (4) ∧ (4) ≤ 8 ∧ (x244_13) + (4) ≤ 65536 from q_2184 b4 j244_2 r1) (fun z27 σ F23 A24 H hS25 hA26 pz27_0 pz27_1 => ⟨rfl, ?_⟩))
          have n4_ := nmb_4 pz27_1 pz27_0
          refine Ew_of (pcₚ := 321) (fun _ => x_lload_n rfl l244_1) ?_
          refine w_lmulE rfl ?_
          have g28 : inrJ (muJ (z27) ((-7046029288634856825))) := toJ_inr _
          refine w_lxorE rfl ?_
          have g29 : inrJ (xoJ (x244_11) ((muJ (z27) ((-7046029288634856825))))) := toJ_inr _
          refine Ew_of (pcₚ := 325) (fun _ => x_bipush (z := 23) rfl (by decide)) ?_
          refine w_stat24 rfl rfl (by rfl) (M451 H (show inrJ ((xoJ (x244_11) ((muJ (z27) ((-7046029288634856825)))))) from g29) (show inr (23) from q_826) (show 0 ≤ (23) ∧ (23) ≤ 64 from q_825) (fun z34 σ F30 A31 H hS32 hA33 pz34_0 pz34_1 => ⟨rfl, ?_⟩))
          have r4_ := pz34_1
          refine Ew_of (pcₚ := 329) (fun _ => x_lload_n rfl l244_3) ?_
          refine w_lmulE rfl ?_
          have g35 : inrJ (muJ (z34) ((-4417276706812531889))) := toJ_inr _
          refine Ew_of (pcₚ := 332) (fun _ => x_lload rfl l244_5) ?_
          refine w_laddE rfl ?_
          have g36 : inrJ (adJ ((muJ (z34) ((-4417276706812531889)))) (1609587929392839161)) := toJ_inr _
          refine Ew_of (pcₚ := 335) (fun _ => x_lstore rfl) ?_
          refine Ew_of (pcₚ := 338) (fun _ => x_iinc (len := 3) rfl (rk2_o (l244_13) rfl rfl)) ?_
          have : WRI1 ((w14)) ((u1_1) - (u1_1) % 32) ((u1_1)) (adJ (WTI ((w14)) 0 ((u1_1)) 0) ((u1_1))) (((x244_13 + 4))) (((adJ ((muJ (z34) ((-4417276706812531889)))) (1609587929392839161)))) := by first | exact WRI1_n j244_q (by omega) | exact WRI1_y j244_q (by omega) (w4_c n4_ r4_) (by omega)
          suffices hl338 : ∀ (m : Nat), ∀ (ls : rO) (σ : rS) (F_338 : hF) (A_338 : hA) (x338_11 : Int) (x338_13 : Int), rlook ls 0 = some (.ref (D 6)) → rlook ls 1 = some (J ((-7046029288634856825))) → rlook ls 3 = some (J ((-4417276706812531889))) → rlook ls 5 = some (J (1609587929392839161)) → rlook ls 9 = some (J (2870177450012600261)) → rlook ls 11 = some (J (x338_11)) → rlook ls 13 = some (I (x338_13)) → HS σ0 σ D N F_338 A_338 → SF [] F30 F_338 → SA [] A31 A_338 → (inrJ (x338_11)) → (inr (x338_13)) → (0 ≤ (x338_13) ∧ (x338_13) ≤ (u1_1)) → (WRI1 ((w14)) ((u1_1) - (u1_1) % 32) ((u1_1)) (adJ (WTI ((w14)) 0 ((u1_1)) 0) ((u1_1))) ((x338_13)) ((x338_11))) → ((u1_1) - (x338_13)).toNat = m → Ew 453 (d + 1) 338 ls [] σ c s Q from
            hl338 _ _ σ _ _ ((adJ ((muJ (z34) ((-4417276706812531889)))) (1609587929392839161))) ((x244_13 + 4)) (rk_o (rk2_o (l244_0) rfl rfl) rfl rfl) (rk_o (rk2_o (l244_1) rfl rfl) rfl rfl) (rk_o (rk2_o (l244_3) rfl rfl) rfl rfl) (rk_o (rk2_o (l244_5) rfl rfl) rfl rfl) (rk_o (rk2_o (l244_9) rfl rfl) rfl rfl) (rk_o (rk2_s) rfl rfl) (rk_s) H (SF_refl) (SA_refl)   (show inrJ ((adJ ((muJ (z34) ((-4417276706812531889)))) (1609587929392839161))) from g36) (show inr ((x244_13 + 4)) from q_2186 b4 j244_2 r1) (show 0 ≤ ((x244_13 + 4)) ∧ ((x244_13 + 4)) ≤ (u1_1) from q_2185 b4 j244_2) (show WRI1 ((w14)) ((u1_1) - (u1_1) % 32) ((u1_1)) (adJ (WTI ((w14)) 0 ((u1_1)) 0) ((u1_1))) (((x244_13 + 4))) (((adJ ((muJ (z34) ((-4417276706812531889)))) (1609587929392839161)))) by assumption) rfl
          as_aux_lemma =>
          intro m
          induction m using Nat.strongRecOn with
          | _ m ih338 =>
            intro ls σ F_338 A_338 x338_11 x338_13 l338_0 l338_1 l338_3 l338_5 l338_9 l338_11 l338_13 H hS_338 hA_338   j338_0 j338_1 j338_2 j338_3 hm338
            have j338_q : WRI1 ((w14)) ((u1_1) - (u1_1) % 32) ((u1_1)) (adJ (WTI ((w14)) 0 ((u1_1)) 0) ((u1_1))) ((x338_13)) ((x338_11)) := j338_3
            refine Ew_of (pcₚ := 340) (fun _ => x_iload rfl l338_13) ?_
            refine Ew_of (pcₚ := 341) (fun _ => x_aload_n rfl l338_0) ?_
            refine w_gT H (o := 6) (t := 1) rfl (H.perm 6 rfl) rfl rfl rfl rfl rfl rfl ?_
            refine w_gI H (o := 1) (w := u1_1) rfl (H.perm 1 rfl) rfl rfl rfl (fun _ => rfl) ((((((hS_338 1 1 rfl).trans (hS32 1 1 rfl)).trans (hS25 1 1 rfl)).trans (hS_244 1 1 rfl)).trans (hS_c231 1 1 rfl)).trans (eu1_1)) ?_
            refine w_icmpge (t := 382) rfl rfl (show inr (x338_13) from j338_1) (show inr (u1_1) from q_286 r1) (fun b37 => ?_) (fun b37 => ?_)
            · refine Ew_of (pcₚ := 384) (fun _ => x_lload rfl l338_11) ?_
              refine Ew_of (pcₚ := 386) (fun _ => x_lload rfl l338_11) ?_
              refine Ew_of (pcₚ := 388) (fun _ => x_bipush (z := 33) rfl (by decide)) ?_
              refine w_lushrE rfl ?_
              have g38 : inrJ (usJ (x338_11) (33)) := toJ_inr _
              refine w_lxorE rfl ?_
              have g39 : inrJ (xoJ (x338_11) ((usJ (x338_11) (33)))) := toJ_inr _
              refine Ew_of (pcₚ := 391) (fun _ => x_lload_n rfl l338_3) ?_
              refine w_lmulE rfl ?_
              have g40 : inrJ (muJ ((xoJ (x338_11) ((usJ (x338_11) (33))))) ((-4417276706812531889))) := toJ_inr _
              refine Ew_of (pcₚ := 394) (fun _ => x_lstore rfl) ?_
              refine Ew_of (pcₚ := 396) (fun _ => x_lload rfl rk2_s) ?_
              refine Ew_of (pcₚ := 398) (fun _ => x_lload rfl rk2_s) ?_
              refine Ew_of (pcₚ := 400) (fun _ => x_bipush (z := 29) rfl (by decide)) ?_
              refine w_lushrE rfl ?_
              have g41 : inrJ (usJ ((muJ ((xoJ (x338_11) ((usJ (x338_11) (33))))) ((-4417276706812531889)))) (29)) := toJ_inr _
              refine w_lxorE rfl ?_
              have g42 : inrJ (xoJ ((muJ ((xoJ (x338_11) ((usJ (x338_11) (33))))) ((-4417276706812531889)))) ((usJ ((muJ ((xoJ (x338_11) ((usJ (x338_11) (33))))) ((-4417276706812531889)))) (29)))) := toJ_inr _
              refine Ew_of (pcₚ := 404) (fun _ => x_lload rfl (rk2_o (l338_5) rfl rfl)) ?_
              refine w_lmulE rfl ?_
              have g43 : inrJ (muJ ((xoJ ((muJ ((xoJ (x338_11) ((usJ (x338_11) (33))))) ((-4417276706812531889)))) ((usJ ((muJ ((xoJ (x338_11) ((usJ (x338_11) (33))))) ((-4417276706812531889)))) (29))))) (1609587929392839161)) := toJ_inr _
              refine Ew_of (pcₚ := 407) (fun _ => x_lstore rfl) ?_
              refine Ew_of (pcₚ := 409) (fun _ => x_lload rfl rk2_s) ?_
              refine Ew_of (pcₚ := 411) (fun _ => x_lload rfl rk2_s) ?_
              refine Ew_of (pcₚ := 413) (fun _ => x_bipush (z := 32) rfl (by decide)) ?_
              refine w_lushrE rfl ?_
              have g44 : inrJ (usJ ((muJ ((xoJ ((muJ ((xoJ (x338_11) ((usJ (x338_11) (33))))) ((-4417276706812531889)))) ((usJ ((muJ ((xoJ (x338_11) ((usJ (x338_11) (33))))) ((-4417276706812531889)))) (29))))) (1609587929392839161))) (32)) := toJ_inr _
              refine w_lxorE rfl ?_
              have g45 : inrJ (xoJ ((muJ ((xoJ ((muJ ((xoJ (x338_11) ((usJ (x338_11) (33))))) ((-4417276706812531889)))) ((usJ ((muJ ((xoJ (x338_11) ((usJ (x338_11) (33))))) ((-4417276706812531889)))) (29))))) (1609587929392839161))) ((usJ ((muJ ((xoJ ((muJ ((xoJ (x338_11) ((usJ (x338_11) (33))))) ((-4417276706812531889)))) ((usJ ((muJ ((xoJ (x338_11) ((usJ (x338_11) (33))))) ((-4417276706812531889)))) (29))))) (1609587929392839161))) (32)))) := toJ_inr _
              have : ((xoJ ((muJ ((xoJ ((muJ ((xoJ (x338_11) ((usJ (x338_11) (33))))) ((-4417276706812531889)))) ((usJ ((muJ ((xoJ (x338_11) ((usJ (x338_11) (33))))) ((-4417276706812531889)))) (29))))) (1609587929392839161))) ((usJ ((muJ ((xoJ ((muJ ((xoJ (x338_11) ((usJ (x338_11) (33))))) ((-4417276706812531889)))) ((usJ ((muJ ((xoJ (x338_11) ((usJ (x338_11) (33))))) ((-4417276706812531889)))) (29))))) (1609587929392839161))) (32))))) = WDS ((w14)) 0 ((u1_1)) 0 := WDS_w (WRI1_e j338_q (by omega)) (by omega) (by omega)
              exact w_lreturn rfl (k ((xoJ ((muJ ((xoJ ((muJ ((xoJ (x338_11) ((usJ (x338_11) (33))))) ((-4417276706812531889)))) ((usJ ((muJ ((xoJ (x338_11) ((usJ (x338_11) (33))))) ((-4417276706812531889)))) (29))))) (1609587929392839161))) ((usJ ((muJ ((xoJ ((muJ ((xoJ (x338_11) ((usJ (x338_11) (33))))) ((-4417276706812531889)))) ((usJ ((muJ ((xoJ (x338_11) ((usJ (x338_11) (33))))) ((-4417276706812531889)))) (29))))) (1609587929392839161))) (32))))) σ _ _ H (SF_trans (SF_trans (SF_trans (SF_trans (SF_trans (SF_refl) hS_c231 (any_sub rfl)) hS_244 (any_sub rfl)) hS25 (any_sub rfl)) hS32 (any_sub rfl)) hS_338 (any_sub rfl)) (SA_trans (SA_trans (SA_trans (SA_trans (SA_trans (SA_refl) hA_c231 (any_subA rfl)) hA_244 (any_subA rfl)) hA26 (any_subA rfl)) hA33 (any_subA rfl)) hA_338 (any_subA rfl)) (show inrJ ((xoJ ((muJ ((xoJ ((muJ ((xoJ (x338_11) ((usJ (x338_11) (33))))) ((-4417276706812531889)))) ((usJ ((muJ ((xoJ (x338_11) ((usJ (x338_11) (33))))) ((-4417276706812531889)))) (29))))) (1609587929392839161))) ((usJ ((muJ ((xoJ ((muJ ((xoJ (x338_11) ((usJ (x338_11) (33))))) ((-4417276706812531889)))) ((usJ ((muJ ((xoJ (x338_11) ((usJ (x338_11) (33))))) ((-4417276706812531889)))) (29))))) (1609587929392839161))) (32))))) from g45) (show ((xoJ ((muJ ((xoJ ((muJ ((xoJ (x338_11) ((usJ (x338_11) (33))))) ((-4417276706812531889)))) ((usJ ((muJ ((xoJ (x338_11) ((usJ (x338_11) (33))))) ((-4417276706812531889)))) (29))))) (1609587929392839161))) ((usJ ((muJ ((xoJ ((muJ ((xoJ (x338_11) ((usJ (x338_11) (33))))) ((-4417276706812531889)))) ((usJ ((muJ ((xoJ (x338_11) ((usJ (x338_11) (33))))) ((-4417276706812531889)))) (29))))) (1609587929392839161))) (32))))) = WDS ((w14)) 0 ((u1_1)) 0 by assumption))
            · refine Ew_of (pcₚ := 352) (fun _ => x_lload rfl l338_11) ?_
              refine Ew_of (pcₚ := 353) (fun _ => x_aload_n rfl l338_0) ?_
              refine w_gT H (o := 6) (t := 1) rfl (H.perm 6 rfl) rfl rfl rfl rfl rfl rfl ?_
              refine w_gT H (o := 1) (t := 14) rfl (H.perm 1 rfl) rfl rfl rfl rfl rfl rfl ?_
              refine Ew_of (pcₚ := 361) (fun _ => x_iload rfl l338_13) ?_
              refine w_lI H (o := 14) (n := 65536) rfl (H.perm 14 rfl) rfl rfl (H.fix 14 rfl rfl) (show 0 ≤ x338_13 ∧ x338_13 < ((65536 : Nat) : Int) from q_2182 b37 j338_2 r1) (by decide) (fun v46 ev46 qv46 => ?_)
              have qv46 : (0 : Int) ≤ v46 ∧ v46 ≤ 255 := qv46
              have ev46 : (w14) (x338_13) = v46 := (congrFun ((funext (hA_338 14 rfl)).trans ((funext (hA33 14 rfl)).trans ((funext (hA26 14 rfl)).trans ((funext (hA_244 14 rfl)).trans ((funext (hA_c231 14 rfl)).trans (ew14)))))) (x338_13)).symm.trans ev46
              have hby := ev46
              refine w_i2l rfl (show inr (v46) from q_299 qv46) ?_
              refine Ew_of (pcₚ := 365) (fun _ => x_lload rfl l338_9) ?_
              refine w_lmulE rfl ?_
              have g47 : inrJ (muJ (v46) (2870177450012600261)) := toJ_inr _
              refine w_lxorE rfl ?_
              have g48 : inrJ (xoJ (x338_11) ((muJ (v46) (2870177450012600261)))) := toJ_inr _
              refine Ew_of (pcₚ := 369) (fun _ => x_bipush (z := 11) rfl (by decide)) ?_
              refine w_stat24 rfl rfl (by rfl) (M451 H (show inrJ ((xoJ (x338_11) ((muJ (v46) (2870177450012600261))))) from g48) (show inr (11) from q_326) (show 0 ≤ (11) ∧ (11) ≤ 64 from q_824) (fun z53 σ F49 A50 H hS51 hA52 pz53_0 pz53_1 => ⟨rfl, ?_⟩))
              have r1_ := pz53_1
              refine Ew_of (pcₚ := 373) (fun _ => x_lload_n rfl l338_1) ?_
              refine w_lmulE rfl ?_
              have g54 : inrJ (muJ (z53) ((-7046029288634856825))) := toJ_inr _
              refine Ew_of (pcₚ := 376) (fun _ => x_lstore rfl) ?_
              refine Ew_of (pcₚ := 379) (fun _ => x_iinc (len := 3) rfl (rk2_o (l338_13) rfl rfl)) ?_
              refine Ew_of (pcₚ := 338) (fun _ => x_goto rfl rfl) ?_
              have : WRI1 ((w14)) ((u1_1) - (u1_1) % 32) ((u1_1)) (adJ (WTI ((w14)) 0 ((u1_1)) 0) ((u1_1))) (((x338_13 + 1))) (((muJ (z53) ((-7046029288634856825))))) := WRI1_s j338_q (by omega) (w1_r hby (by omega) r1_) (by omega)
              exact ih338 _ (msE hm338 q_16 (q_17 b37)) _ σ _ _ ((muJ (z53) ((-7046029288634856825)))) ((x338_13 + 1)) (rk_o (rk2_o (l338_0) rfl rfl) rfl rfl) (rk_o (rk2_o (l338_1) rfl rfl) rfl rfl) (rk_o (rk2_o (l338_3) rfl rfl) rfl rfl) (rk_o (rk2_o (l338_5) rfl rfl) rfl rfl) (rk_o (rk2_o (l338_9) rfl rfl) rfl rfl) (rk_o (rk2_s) rfl rfl) (rk_s) H (SF_trans (hS_338) hS51 (any_sub rfl)) (SA_trans (hA_338) hA52 (any_subA rfl))   (show inrJ ((muJ (z53) ((-7046029288634856825)))) from g54) (show inr ((x338_13 + 1)) from q_2183 b37 j338_2 r1) (show 0 ≤ ((x338_13 + 1)) ∧ ((x338_13 + 1)) ≤ (u1_1) from q_1395 b37 j338_2) (show WRI1 ((w14)) ((u1_1) - (u1_1) % 32) ((u1_1)) (adJ (WTI ((w14)) 0 ((u1_1)) 0) ((u1_1))) (((x338_13 + 1))) (((muJ (z53) ((-7046029288634856825))))) by assumption) rfl
      · refine Ew_of (pcₚ := 261) (fun _ => x_lload rfl l244_11) ?_
        refine Ew_of (pcₚ := 262) (fun _ => x_aload_n rfl l244_0) ?_
        refine Ew_of (pcₚ := 264) (fun _ => x_iload rfl l244_13) ?_
        refine Ew_of (pcₚ := 266) (fun _ => x_bipush (z := 8) rfl (by decide)) ?_
        refine w_inv H (o := 6) rfl rfl rfl (H.perm 6 rfl) rfl rfl (by rfl) (M452 H (w14) ((funext (hA_244 14 rfl)).trans ((funext (hA_c231 14 rfl)).trans (ew14))) (show inr (x244_13) from j244_1) (show inr (8) from q_141) (show 0 ≤ (x244_13) ∧ 0 ≤ (8) ∧ (8) ≤ 8 ∧ (x244_13) + (8) ≤ 65536 from q_2187 b3 j244_2 r1) (fun z59 σ F55 A56 H hS57 hA58 pz59_0 pz59_1 => ⟨rfl, ?_⟩))
        have m8_ := nmb_8 pz59_1 pz59_0
        refine Ew_of (pcₚ := 270) (fun _ => x_lload_n rfl l244_3) ?_
        refine w_lmulE rfl ?_
        have g60 : inrJ (muJ (z59) ((-4417276706812531889))) := toJ_inr _
        refine Ew_of (pcₚ := 273) (fun _ => x_bipush (z := 31) rfl (by decide)) ?_
        refine w_stat24 rfl rfl (by rfl) (M451 H (show inrJ ((muJ (z59) ((-4417276706812531889)))) from g60) (show inr (31) from q_323) (show 0 ≤ (31) ∧ (31) ≤ 64 from q_322) (fun z65 σ F61 A62 H hS63 hA64 pz65_0 pz65_1 => ⟨rfl, ?_⟩))
        have ra_ := pz65_1
        refine Ew_of (pcₚ := 277) (fun _ => x_lload_n rfl l244_1) ?_
        refine w_lmulE rfl ?_
        have g66 : inrJ (muJ (z65) ((-7046029288634856825))) := toJ_inr _
        refine w_lxorE rfl ?_
        have g67 : inrJ (xoJ (x244_11) ((muJ (z65) ((-7046029288634856825))))) := toJ_inr _
        refine Ew_of (pcₚ := 281) (fun _ => x_bipush (z := 27) rfl (by decide)) ?_
        refine w_stat24 rfl rfl (by rfl) (M451 H (show inrJ ((xoJ (x244_11) ((muJ (z65) ((-7046029288634856825)))))) from g67) (show inr (27) from q_831) (show 0 ≤ (27) ∧ (27) ≤ 64 from q_830) (fun z72 σ F68 A69 H hS70 hA71 pz72_0 pz72_1 => ⟨rfl, ?_⟩))
        have rb_ := pz72_1
        refine Ew_of (pcₚ := 285) (fun _ => x_lload_n rfl l244_1) ?_
        refine w_lmulE rfl ?_
        have g73 : inrJ (muJ (z72) ((-7046029288634856825))) := toJ_inr _
        refine Ew_of (pcₚ := 288) (fun _ => x_lload rfl l244_7) ?_
        refine w_laddE rfl ?_
        have g74 : inrJ (adJ ((muJ (z72) ((-7046029288634856825)))) ((-8796714831421723037))) := toJ_inr _
        refine Ew_of (pcₚ := 291) (fun _ => x_lstore rfl) ?_
        refine Ew_of (pcₚ := 294) (fun _ => x_iinc (len := 3) rfl (rk2_o (l244_13) rfl rfl)) ?_
        refine Ew_of (pcₚ := 244) (fun _ => x_goto rfl rfl) ?_
        have : WRI8 ((w14)) ((u1_1) - (u1_1) % 32) ((u1_1)) (adJ (WTI ((w14)) 0 ((u1_1)) 0) ((u1_1))) (((x244_13 + 8))) (((adJ ((muJ (z72) ((-7046029288634856825)))) ((-8796714831421723037))))) := WRI8_s j244_q (by omega) (w8_r m8_ ra_ rb_) (by omega)
        exact ih244 _ (msE hm244 q_1504 (q_1505 b3)) _ σ _ _ ((adJ ((muJ (z72) ((-7046029288634856825)))) ((-8796714831421723037)))) ((x244_13 + 8)) (rk_o (rk2_o (l244_0) rfl rfl) rfl rfl) (rk_o (rk2_o (l244_1) rfl rfl) rfl rfl) (rk_o (rk2_o (l244_3) rfl rfl) rfl rfl) (rk_o (rk2_o (l244_5) rfl rfl) rfl rfl) (rk_o (rk2_o (l244_7) rfl rfl) rfl rfl) (rk_o (rk2_o (l244_9) rfl rfl) rfl rfl) (rk_o (rk2_s) rfl rfl) (rk_s) H (SF_trans (SF_trans (SF_trans (hS_244) hS57 (any_sub rfl)) hS63 (any_sub rfl)) hS70 (any_sub rfl)) (SA_trans (SA_trans (SA_trans (hA_244) hA58 (any_subA rfl)) hA64 (any_subA rfl)) hA71 (any_subA rfl))   (show inrJ ((adJ ((muJ (z72) ((-7046029288634856825)))) ((-8796714831421723037)))) from g74) (show inr ((x244_13 + 8)) from q_2189 b3 j244_2 r1) (show 0 ≤ ((x244_13 + 8)) ∧ ((x244_13 + 8)) ≤ (u1_1) from q_2188 b3 j244_2) (show WRI8 ((w14)) ((u1_1) - (u1_1) % 32) ((u1_1)) (adJ (WTI ((w14)) 0 ((u1_1)) 0) ((u1_1))) (((x244_13 + 8))) (((adJ ((muJ (z72) ((-7046029288634856825)))) ((-8796714831421723037))))) by assumption) rfl
  refine Ew_of (pcₚ := 31) (fun _ => x_aload_n rfl (rk_o (rk2_o (rk2_o (rk2_o (rk2_o (rk2_o (rk2_o (rfl) rfl rfl) rfl rfl) rfl rfl) rfl rfl) rfl rfl) rfl rfl) rfl rfl)) ?_
  refine w_gT H (o := 6) (t := 1) rfl (H.perm 6 rfl) rfl rfl rfl rfl rfl rfl ?_
  refine w_gI H (o := 1) (w := u1_1) rfl (H.perm 1 rfl) rfl rfl rfl (fun _ => rfl) (eu1_1) ?_
  refine Ew_of (pcₚ := 39) (fun _ => x_bipush (z := 32) rfl (by decide)) ?_
  refine w_icmplt (t := 231) rfl rfl (show inr (u1_1) from q_286 r1) (show inr (32) from q_655) (fun b75 => ?_) (fun b75 => ?_)
  · have : WS1 ((w14)) 0 ((u1_1)) 0 ((0)) ((2870177450012600261)) := by first | exact WS1_n (by omega) (by omega) (by omega) (by decide +kernel) | (obtain ⟨v0, v1, v2, v3, x0, x1, x2, x3, q0, q1, q2, q3, q4, q5, q6, q7, q8, q9⟩ := j193_q; exact WS1_a (by omega) (by omega) q0 q1 q2 q3 q4 q5 q6 q7 q8 (q9.trans (itl_0 (by omega))))
    exact hc231  _ σ _ _ (2870177450012600261) (0) (rk_o (rk2_o (rk2_o (rk2_o (rk2_o (rk2_o (rk2_o (rfl) rfl rfl) rfl rfl) rfl rfl) rfl rfl) rfl rfl) rfl rfl) rfl rfl) (rk_o (rk2_o (rk2_o (rk2_o (rk2_o (rk2_o (rk2_s) rfl rfl) rfl rfl) rfl rfl) rfl rfl) rfl rfl) rfl rfl) (rk_o (rk2_o (rk2_o (rk2_o (rk2_o (rk2_s) rfl rfl) rfl rfl) rfl rfl) rfl rfl) rfl rfl) (rk_o (rk2_o (rk2_o (rk2_o (rk2_s) rfl rfl) rfl rfl) rfl rfl) rfl rfl) (rk_o (rk2_o (rk2_o (rk2_s) rfl rfl) rfl rfl) rfl rfl) (rk_o (rk2_o (rk2_s) rfl rfl) rfl rfl) (rk_o (rk2_s) rfl rfl) (rk_s) H (SF_refl) (SA_refl)   (show inrJ (2870177450012600261) from q_1506) (show inr (0) from q_2) (show 0 ≤ (0) ∧ (0) ≤ (u1_1) from q_1172 r1) (show WS1 ((w14)) 0 ((u1_1)) 0 ((0)) ((2870177450012600261)) by assumption)
  · refine Ew_of (pcₚ := 43) (fun _ => x_aload_n rfl (rk_o (rk2_o (rk2_o (rk2_o (rk2_o (rk2_o (rk2_o (rfl) rfl rfl) rfl rfl) rfl rfl) rfl rfl) rfl rfl) rfl rfl) rfl rfl)) ?_
    refine w_gT H (o := 6) (t := 86) rfl (H.perm 6 rfl) rfl rfl rfl rfl rfl rfl ?_
    refine Ew_of (pcₚ := 47) (fun _ => x_iconst rfl) ?_
    refine Ew_of (pcₚ := 48) (fun _ => x_lload_n rfl (rk_o (rk2_o (rk2_o (rk2_o (rk2_o (rk2_o (rk2_s) rfl rfl) rfl rfl) rfl rfl) rfl rfl) rfl rfl) rfl rfl)) ?_
    refine Ew_of (pcₚ := 49) (fun _ => x_lload_n rfl (rk_o (rk2_o (rk2_o (rk2_o (rk2_o (rk2_s) rfl rfl) rfl rfl) rfl rfl) rfl rfl) rfl rfl)) ?_
    refine w_laddE rfl ?_
    have g76 : inrJ (adJ ((-7046029288634856825)) ((-4417276706812531889))) := toJ_inr _
    refine w_sJ H (o := 86) (n := 4) rfl (H.perm 86 rfl) rfl rfl (H.fix 86 rfl rfl) (show 0 ≤ 0 ∧ 0 < ((4 : Nat) : Int) from q_589) (by decide) (show (-9223372036854775808 : Int) ≤ (adJ ((-7046029288634856825)) ((-4417276706812531889))) ∧ (adJ ((-7046029288634856825)) ((-4417276706812531889))) ≤ 9223372036854775807 by omega) (fun σ H => ?_)
    refine Ew_of (pcₚ := 52) (fun _ => x_aload_n rfl (rk_o (rk2_o (rk2_o (rk2_o (rk2_o (rk2_o (rk2_o (rfl) rfl rfl) rfl rfl) rfl rfl) rfl rfl) rfl rfl) rfl rfl) rfl rfl)) ?_
    refine w_gT H (o := 6) (t := 86) rfl (H.perm 6 rfl) rfl rfl rfl rfl rfl rfl ?_
    refine Ew_of (pcₚ := 56) (fun _ => x_iconst rfl) ?_
    refine Ew_of (pcₚ := 57) (fun _ => x_lload_n rfl (rk_o (rk2_o (rk2_o (rk2_o (rk2_o (rk2_s) rfl rfl) rfl rfl) rfl rfl) rfl rfl) rfl rfl)) ?_
    refine w_sJ H (o := 86) (n := 4) rfl (H.perm 86 rfl) rfl rfl (H.fix 86 rfl rfl) (show 0 ≤ 1 ∧ 1 < ((4 : Nat) : Int) from q_591) (by decide) (show (-9223372036854775808 : Int) ≤ (-4417276706812531889) ∧ (-4417276706812531889) ≤ 9223372036854775807 from q_1507) (fun σ H => ?_)
    refine Ew_of (pcₚ := 59) (fun _ => x_aload_n rfl (rk_o (rk2_o (rk2_o (rk2_o (rk2_o (rk2_o (rk2_o (rfl) rfl rfl) rfl rfl) rfl rfl) rfl rfl) rfl rfl) rfl rfl) rfl rfl)) ?_
    refine w_gT H (o := 6) (t := 86) rfl (H.perm 6 rfl) rfl rfl rfl rfl rfl rfl ?_
    refine Ew_of (pcₚ := 63) (fun _ => x_iconst rfl) ?_
    refine Ew_of (pcₚ := 64) (fun _ => x_lconst (z := 0) rfl (by decide)) ?_
    refine w_sJ H (o := 86) (n := 4) rfl (H.perm 86 rfl) rfl rfl (H.fix 86 rfl rfl) (show 0 ≤ 2 ∧ 2 < ((4 : Nat) : Int) from q_593) (by decide) (show (-9223372036854775808 : Int) ≤ 0 ∧ 0 ≤ 9223372036854775807 from q_592) (fun σ H => ?_)
    refine Ew_of (pcₚ := 66) (fun _ => x_aload_n rfl (rk_o (rk2_o (rk2_o (rk2_o (rk2_o (rk2_o (rk2_o (rfl) rfl rfl) rfl rfl) rfl rfl) rfl rfl) rfl rfl) rfl rfl) rfl rfl)) ?_
    refine w_gT H (o := 6) (t := 86) rfl (H.perm 6 rfl) rfl rfl rfl rfl rfl rfl ?_
    refine Ew_of (pcₚ := 70) (fun _ => x_iconst rfl) ?_
    refine Ew_of (pcₚ := 71) (fun _ => x_lconst (z := 0) rfl (by decide)) ?_
    refine Ew_of (pcₚ := 72) (fun _ => x_lload_n rfl (rk_o (rk2_o (rk2_o (rk2_o (rk2_o (rk2_o (rk2_s) rfl rfl) rfl rfl) rfl rfl) rfl rfl) rfl rfl) rfl rfl)) ?_
    refine w_lsubE rfl ?_
    have g77 : inrJ (sbJ (0) ((-7046029288634856825))) := toJ_inr _
    refine w_sJ H (o := 86) (n := 4) rfl (H.perm 86 rfl) rfl rfl (H.fix 86 rfl rfl) (show 0 ≤ 3 ∧ 3 < ((4 : Nat) : Int) from q_594) (by decide) (show (-9223372036854775808 : Int) ≤ (sbJ (0) ((-7046029288634856825))) ∧ (sbJ (0) ((-7046029288634856825))) ≤ 9223372036854775807 by omega) (fun σ H => ?_)
    have : LWA ((w14)) 0 ((u1_1)) (0) (0) ((upd1 (upd1 (upd1 (upd1 (A 86) (0) ((adJ ((-7046029288634856825)) ((-4417276706812531889))))) (1) ((-4417276706812531889))) (2) (0)) (3) ((sbJ (0) ((-7046029288634856825)))))) := LWA_i rfl (by decide +kernel) (by decide +kernel) (by decide +kernel) (by decide +kernel)
    suffices hl74 : ∀ (m : Nat), ∀ (ls : rO) (σ : rS) (F_74 : hF) (A_74 : hA) (x74_13 : Int), rlook ls 0 = some (.ref (D 6)) → rlook ls 1 = some (J ((-7046029288634856825))) → rlook ls 3 = some (J ((-4417276706812531889))) → rlook ls 5 = some (J (1609587929392839161)) → rlook ls 7 = some (J ((-8796714831421723037))) → rlook ls 9 = some (J (2870177450012600261)) → rlook ls 13 = some (I (x74_13)) → HS σ0 σ D N F_74 A_74 → SF [] F F_74 → SA [86] (updA (updA (updA (updA A 86 (0) ((adJ ((-7046029288634856825)) ((-4417276706812531889))))) 86 (1) ((-4417276706812531889))) 86 (2) (0)) 86 (3) ((sbJ (0) ((-7046029288634856825))))) A_74 → ∀ w74_86 : Int → Int, A_74 86 = w74_86 → (inr (x74_13)) → (0 ≤ (x74_13) ∧ (x74_13) ≤ (u1_1)) → ((x74_13) % 32 = 0) → (LWA ((w14)) 0 ((u1_1)) ((x74_13)) (0) ((w74_86))) → ((u1_1) - (x74_13)).toNat = m → Ew 453 (d + 1) 74 ls [] σ c s Q from
      hl74 _ _ σ _ _ (0) (rk_o (rk2_o (rk2_o (rk2_o (rk2_o (rk2_o (rk2_o (rfl) rfl rfl) rfl rfl) rfl rfl) rfl rfl) rfl rfl) rfl rfl) rfl rfl) (rk_o (rk2_o (rk2_o (rk2_o (rk2_o (rk2_o (rk2_s) rfl rfl) rfl rfl) rfl rfl) rfl rfl) rfl rfl) rfl rfl) (rk_o (rk2_o (rk2_o (rk2_o (rk2_o (rk2_s) rfl rfl) rfl rfl) rfl rfl) rfl rfl) rfl rfl) (rk_o (rk2_o (rk2_o (rk2_o (rk2_s) rfl rfl) rfl rfl) rfl rfl) rfl rfl) (rk_o (rk2_o (rk2_o (rk2_s) rfl rfl) rfl rfl) rfl rfl) (rk_o (rk2_o (rk2_s) rfl rfl) rfl rfl) (rk_s) H (SF_refl) (SA_refl)  (upd1 (upd1 (upd1 (upd1 (A 86) (0) ((adJ ((-7046029288634856825)) ((-4417276706812531889))))) (1) ((-4417276706812531889))) (2) (0)) (3) ((sbJ (0) ((-7046029288634856825))))) (rfl) (show inr (0) from q_2) (show 0 ≤ (0) ∧ (0) ≤ (u1_1) from q_1172 r1) (show (0) % 32 = 0 by omega) (show LWA ((w14)) 0 ((u1_1)) ((0)) (0) ((upd1 (upd1 (upd1 (upd1 (A 86) (0) ((adJ ((-7046029288634856825)) ((-4417276706812531889))))) (1) ((-4417276706812531889))) (2) (0)) (3) ((sbJ (0) ((-7046029288634856825)))))) by assumption) rfl
    as_aux_lemma =>
    intro m
    induction m using Nat.strongRecOn with
    | _ m ih74 =>
      intro ls σ F_74 A_74 x74_13 l74_0 l74_1 l74_3 l74_5 l74_7 l74_9 l74_13 H hS_74 hA_74  w74_86 ew74_86 j74_0 j74_1 j74_2 j74_3 hm74
      have j74_q : LWA ((w14)) 0 ((u1_1)) ((x74_13)) (0) ((w74_86)) := j74_3
      refine Ew_of (pcₚ := 75) (fun _ => x_aload_n rfl l74_0) ?_
      refine w_gT H (o := 6) (t := 1) rfl (H.perm 6 rfl) rfl rfl rfl rfl rfl rfl ?_
      refine w_gI H (o := 1) (w := u1_1) rfl (H.perm 1 rfl) rfl rfl rfl (fun _ => rfl) ((hS_74 1 1 rfl).trans (eu1_1)) ?_
      refine Ew_of (pcₚ := 83) (fun _ => x_iload rfl l74_13) ?_
      refine w_isub rfl ?_
      refine Ew_of (pcₚ := 86) (fun _ => x_bipush (z := 32) rfl (by decide)) ?_
      refine w_icmplt (t := 142) rfl rfl (show inr ((u1_1 - x74_13)) from q_2180 j74_1 r1) (show inr (32) from q_655) (fun b78 => ?_) (fun b78 => ?_)
      · refine Ew_of (pcₚ := 143) (fun _ => x_aload_n rfl l74_0) ?_
        refine w_gT H (o := 6) (t := 86) rfl (H.perm 6 rfl) rfl rfl rfl rfl rfl rfl ?_
        refine Ew_of (pcₚ := 147) (fun _ => x_iconst rfl) ?_
        refine w_lJ H (o := 86) (n := 4) rfl (H.perm 86 rfl) rfl rfl (H.fix 86 rfl rfl) (show 0 ≤ 0 ∧ 0 < ((4 : Nat) : Int) from q_589) (by decide) (fun v79 ev79 qv79 => ?_)
        have qv79 : (-9223372036854775808 : Int) ≤ v79 ∧ v79 ≤ 9223372036854775807 := qv79
        have ev79 : (w74_86) (0) = v79 := (congrFun (ew74_86) (0)).symm.trans ev79
        have a0_ := ev79
        refine Ew_of (pcₚ := 149) (fun _ => x_iconst rfl) ?_
        refine w_stat24 rfl rfl (by rfl) (M451 H (show inrJ (v79) by omega) (show inr (1) from q_135) (show 0 ≤ (1) ∧ (1) ≤ 64 from q_800) (fun z84 σ F80 A81 H hS82 hA83 pz84_0 pz84_1 => ⟨rfl, ?_⟩))
        have b0_ := pz84_1
        refine Ew_of (pcₚ := 153) (fun _ => x_aload_n rfl l74_0) ?_
        refine w_gT H (o := 6) (t := 86) rfl (H.perm 6 rfl) rfl rfl rfl rfl rfl rfl ?_
        refine Ew_of (pcₚ := 157) (fun _ => x_iconst rfl) ?_
        refine w_lJ H (o := 86) (n := 4) rfl (H.perm 86 rfl) rfl rfl (H.fix 86 rfl rfl) (show 0 ≤ 1 ∧ 1 < ((4 : Nat) : Int) from q_591) (by decide) (fun v85 ev85 qv85 => ?_)
        have qv85 : (-9223372036854775808 : Int) ≤ v85 ∧ v85 ≤ 9223372036854775807 := qv85
        have ev85 : (w74_86) (1) = v85 := (congrFun ((funext (hA83 86 rfl)).trans (ew74_86)) (1)).symm.trans ev85
        have a1_ := ev85
        refine Ew_of (pcₚ := 160) (fun _ => x_bipush (z := 7) rfl (by decide)) ?_
        refine w_stat24 rfl rfl (by rfl) (M451 H (show inrJ (v85) by omega) (show inr (7) from q_597) (show 0 ≤ (7) ∧ (7) ≤ 64 from q_801) (fun z90 σ F86 A87 H hS88 hA89 pz90_0 pz90_1 => ⟨rfl, ?_⟩))
        have b1_ := pz90_1
        refine w_laddE rfl ?_
        have g91 : inrJ (adJ (z84) (z90)) := toJ_inr _
        refine Ew_of (pcₚ := 165) (fun _ => x_aload_n rfl l74_0) ?_
        refine w_gT H (o := 6) (t := 86) rfl (H.perm 6 rfl) rfl rfl rfl rfl rfl rfl ?_
        refine Ew_of (pcₚ := 169) (fun _ => x_iconst rfl) ?_
        refine w_lJ H (o := 86) (n := 4) rfl (H.perm 86 rfl) rfl rfl (H.fix 86 rfl rfl) (show 0 ≤ 2 ∧ 2 < ((4 : Nat) : Int) from q_593) (by decide) (fun v92 ev92 qv92 => ?_)
        have qv92 : (-9223372036854775808 : Int) ≤ v92 ∧ v92 ≤ 9223372036854775807 := qv92
        have ev92 : (w74_86) (2) = v92 := (congrFun ((funext (hA89 86 rfl)).trans ((funext (hA83 86 rfl)).trans (ew74_86))) (2)).symm.trans ev92
        have a2_ := ev92
        refine Ew_of (pcₚ := 172) (fun _ => x_bipush (z := 12) rfl (by decide)) ?_
        refine w_stat24 rfl rfl (by rfl) (M451 H (show inrJ (v92) by omega) (show inr (12) from q_599) (show 0 ≤ (12) ∧ (12) ≤ 64 from q_802) (fun z97 σ F93 A94 H hS95 hA96 pz97_0 pz97_1 => ⟨rfl, ?_⟩))
        have b2_ := pz97_1
        refine w_laddE rfl ?_
        have g98 : inrJ (adJ ((adJ (z84) (z90))) (z97)) := toJ_inr _
        refine Ew_of (pcₚ := 177) (fun _ => x_aload_n rfl l74_0) ?_
        refine w_gT H (o := 6) (t := 86) rfl (H.perm 6 rfl) rfl rfl rfl rfl rfl rfl ?_
        refine Ew_of (pcₚ := 181) (fun _ => x_iconst rfl) ?_
        refine w_lJ H (o := 86) (n := 4) rfl (H.perm 86 rfl) rfl rfl (H.fix 86 rfl rfl) (show 0 ≤ 3 ∧ 3 < ((4 : Nat) : Int) from q_594) (by decide) (fun v99 ev99 qv99 => ?_)
        have qv99 : (-9223372036854775808 : Int) ≤ v99 ∧ v99 ≤ 9223372036854775807 := qv99
        have ev99 : (w74_86) (3) = v99 := (congrFun ((funext (hA96 86 rfl)).trans ((funext (hA89 86 rfl)).trans ((funext (hA83 86 rfl)).trans (ew74_86)))) (3)).symm.trans ev99
        have a3_ := ev99
        refine Ew_of (pcₚ := 184) (fun _ => x_bipush (z := 18) rfl (by decide)) ?_
        refine w_stat24 rfl rfl (by rfl) (M451 H (show inrJ (v99) by omega) (show inr (18) from q_601) (show 0 ≤ (18) ∧ (18) ≤ 64 from q_803) (fun z104 σ F100 A101 H hS102 hA103 pz104_0 pz104_1 => ⟨rfl, ?_⟩))
        have b3_ := pz104_1
        refine w_laddE rfl ?_
        have g105 : inrJ (adJ ((adJ ((adJ (z84) (z90))) (z97))) (z104)) := toJ_inr _
        refine Ew_of (pcₚ := 190) (fun _ => x_lstore rfl) ?_
        refine Ew_of (pcₚ := 191) (fun _ => x_iconst rfl) ?_
        refine Ew_of (pcₚ := 193) (fun _ => x_istore rfl) ?_
        have : ∃ v0 v1 v2 v3 xr0 xr1 xr2 xr3, LWA ((w14)) 0 ((u1_1)) ((x74_13)) 0 ((w74_86)) ∧ ((w74_86)) 0 = v0 ∧ ((w74_86)) 1 = v1 ∧ ((w74_86)) 2 = v2 ∧ ((w74_86)) 3 = v3 ∧ xr0 = rtJ v0 1 ∧ xr1 = rtJ v1 7 ∧ xr2 = rtJ v2 12 ∧ xr3 = rtJ v3 18 ∧ itl (fun l p => wj l (((w74_86)) p)) 1 0 4 (adJ (adJ (adJ xr0 xr1) xr2) xr3) = itl (fun l p => wj l (((w74_86)) p)) 1 (0) (4 - 0 : Int).toNat (((adJ ((adJ ((adJ (z84) (z90))) (z97))) (z104)))) := ⟨_, _, _, _, _, _, _, _, j74_q, a0_, a1_, a2_, a3_, b0_, b1_, b2_, b3_, by rw [show ((4 : Int) - 0).toNat = 4 from rfl]⟩
        suffices hl193 : ∀ (m : Nat), ∀ (ls : rO) (σ : rS) (F_193 : hF) (A_193 : hA) (x193_11 : Int) (x193_14 : Int), rlook ls 0 = some (.ref (D 6)) → rlook ls 1 = some (J ((-7046029288634856825))) → rlook ls 3 = some (J ((-4417276706812531889))) → rlook ls 5 = some (J (1609587929392839161)) → rlook ls 7 = some (J ((-8796714831421723037))) → rlook ls 9 = some (J (2870177450012600261)) → rlook ls 11 = some (J (x193_11)) → rlook ls 13 = some (I (x74_13)) → rlook ls 14 = some (I (x193_14)) → HS σ0 σ D N F_193 A_193 → SF [] F100 F_193 → SA [] A101 A_193 → (inrJ (x193_11)) → (inr (x193_14)) → ((0) ≤ (x193_14)) → ((x193_14) ≤ (0) ∨ (x193_14) ≤ (4)) → (∃ v0 v1 v2 v3 xr0 xr1 xr2 xr3, LWA ((w14)) 0 ((u1_1)) ((x74_13)) 0 ((w74_86)) ∧ ((w74_86)) 0 = v0 ∧ ((w74_86)) 1 = v1 ∧ ((w74_86)) 2 = v2 ∧ ((w74_86)) 3 = v3 ∧ xr0 = rtJ v0 1 ∧ xr1 = rtJ v1 7 ∧ xr2 = rtJ v2 12 ∧ xr3 = rtJ v3 18 ∧ itl (fun l p => wj l (((w74_86)) p)) 1 0 4 (adJ (adJ (adJ xr0 xr1) xr2) xr3) = itl (fun l p => wj l (((w74_86)) p)) 1 ((x193_14)) (4 - (x193_14) : Int).toNat ((x193_11))) → ((4) - (x193_14)).toNat = m → Ew 453 (d + 1) 193 ls [] σ c s Q from
          hl193 _ _ σ _ _ ((adJ ((adJ ((adJ (z84) (z90))) (z97))) (z104))) (0) (rk_o (rk2_o (l74_0) rfl rfl) rfl rfl) (rk_o (rk2_o (l74_1) rfl rfl) rfl rfl) (rk_o (rk2_o (l74_3) rfl rfl) rfl rfl) (rk_o (rk2_o (l74_5) rfl rfl) rfl rfl) (rk_o (rk2_o (l74_7) rfl rfl) rfl rfl) (rk_o (rk2_o (l74_9) rfl rfl) rfl rfl) (rk_o (rk2_s) rfl rfl) (rk_o (rk2_o (l74_13) rfl rfl) rfl rfl) (rk_s) H (SF_refl) (SA_refl)   (show inrJ ((adJ ((adJ ((adJ (z84) (z90))) (z97))) (z104))) from g105) (show inr (0) from q_2) (show (0) ≤ (0) from q_1) (show (0) ≤ (0) ∨ (0) ≤ (4) from q_603) (show ∃ v0 v1 v2 v3 xr0 xr1 xr2 xr3, LWA ((w14)) 0 ((u1_1)) ((x74_13)) 0 ((w74_86)) ∧ ((w74_86)) 0 = v0 ∧ ((w74_86)) 1 = v1 ∧ ((w74_86)) 2 = v2 ∧ ((w74_86)) 3 = v3 ∧ xr0 = rtJ v0 1 ∧ xr1 = rtJ v1 7 ∧ xr2 = rtJ v2 12 ∧ xr3 = rtJ v3 18 ∧ itl (fun l p => wj l (((w74_86)) p)) 1 0 4 (adJ (adJ (adJ xr0 xr1) xr2) xr3) = itl (fun l p => wj l (((w74_86)) p)) 1 ((0)) (4 - (0) : Int).toNat (((adJ ((adJ ((adJ (z84) (z90))) (z97))) (z104)))) by assumption) rfl
        as_aux_lemma =>
        intro m
        induction m using Nat.strongRecOn with
        | _ m ih193 =>
          intro ls σ F_193 A_193 x193_11 x193_14 l193_0 l193_1 l193_3 l193_5 l193_7 l193_9 l193_11 l193_13 l193_14 H hS_193 hA_193   j193_0 j193_1 j193_2 j193_3 j193_4 hm193
          have j193_q : ∃ v0 v1 v2 v3 xr0 xr1 xr2 xr3, LWA ((w14)) 0 ((u1_1)) ((x74_13)) 0 ((w74_86)) ∧ ((w74_86)) 0 = v0 ∧ ((w74_86)) 1 = v1 ∧ ((w74_86)) 2 = v2 ∧ ((w74_86)) 3 = v3 ∧ xr0 = rtJ v0 1 ∧ xr1 = rtJ v1 7 ∧ xr2 = rtJ v2 12 ∧ xr3 = rtJ v3 18 ∧ itl (fun l p => wj l (((w74_86)) p)) 1 0 4 (adJ (adJ (adJ xr0 xr1) xr2) xr3) = itl (fun l p => wj l (((w74_86)) p)) 1 ((x193_14)) (4 - (x193_14) : Int).toNat ((x193_11)) := by assumption
          refine Ew_of (pcₚ := 195) (fun _ => x_iload rfl l193_14) ?_
          refine Ew_of (pcₚ := 196) (fun _ => x_iconst rfl) ?_
          refine w_icmpge (t := 231) rfl rfl (show inr (x193_14) from j193_1) (show inr (4) from q_216) (fun b106 => ?_) (fun b106 => ?_)
          · have : WS1 ((w14)) 0 ((u1_1)) 0 ((x74_13)) ((x193_11)) := by first | exact WS1_n (by omega) (by omega) (by omega) (by decide +kernel) | (obtain ⟨v0, v1, v2, v3, x0, x1, x2, x3, q0, q1, q2, q3, q4, q5, q6, q7, q8, q9⟩ := j193_q; exact WS1_a (by omega) (by omega) q0 q1 q2 q3 q4 q5 q6 q7 q8 (q9.trans (itl_0 (by omega))))
            exact hc231  _ σ _ _ (x193_11) (x74_13) (l193_0) (l193_1) (l193_3) (l193_5) (l193_7) (l193_9) (l193_11) (l193_13) H (SF_trans (SF_trans (SF_trans (SF_trans (SF_trans (SF_trans (SF_refl) hS_74 (any_sub rfl)) hS82 (any_sub rfl)) hS88 (any_sub rfl)) hS95 (any_sub rfl)) hS102 (any_sub rfl)) hS_193 (any_sub rfl)) (SA_trans (SA_trans (SA_trans (SA_trans (SA_trans (SA_trans (SA_upd (SA_upd (SA_upd (SA_upd (SA_refl) rfl) rfl) rfl) rfl) hA_74 (any_subA rfl)) hA83 (any_subA rfl)) hA89 (any_subA rfl)) hA96 (any_subA rfl)) hA103 (any_subA rfl)) hA_193 (any_subA rfl))   (show inrJ (x193_11) from j193_0) (show inr (x74_13) from j74_0) (show 0 ≤ (x74_13) ∧ (x74_13) ≤ (u1_1) from j74_1) (show WS1 ((w14)) 0 ((u1_1)) 0 ((x74_13)) ((x193_11)) by assumption)
          · refine Ew_of (pcₚ := 201) (fun _ => x_lload rfl l193_11) ?_
            refine Ew_of (pcₚ := 202) (fun _ => x_aload_n rfl l193_0) ?_
            refine w_gT H (o := 6) (t := 86) rfl (H.perm 6 rfl) rfl rfl rfl rfl rfl rfl ?_
            refine Ew_of (pcₚ := 207) (fun _ => x_iload rfl l193_14) ?_
            refine w_lJ H (o := 86) (n := 4) rfl (H.perm 86 rfl) rfl rfl (H.fix 86 rfl rfl) (show 0 ≤ x193_14 ∧ x193_14 < ((4 : Nat) : Int) from q_605 b106 j193_2) (by decide) (fun v107 ev107 qv107 => ?_)
            have qv107 : (-9223372036854775808 : Int) ≤ v107 ∧ v107 ≤ 9223372036854775807 := qv107
            have ev107 : (w74_86) (x193_14) = v107 := (congrFun ((funext (hA_193 86 rfl)).trans ((funext (hA103 86 rfl)).trans ((funext (hA96 86 rfl)).trans ((funext (hA89 86 rfl)).trans ((funext (hA83 86 rfl)).trans (ew74_86)))))) (x193_14)).symm.trans ev107
            have hlw := ev107
            refine Ew_of (pcₚ := 209) (fun _ => x_lload_n rfl l193_3) ?_
            refine w_lmulE rfl ?_
            have g108 : inrJ (muJ (v107) ((-4417276706812531889))) := toJ_inr _
            refine Ew_of (pcₚ := 212) (fun _ => x_bipush (z := 31) rfl (by decide)) ?_
            refine w_stat24 rfl rfl (by rfl) (M451 H (show inrJ ((muJ (v107) ((-4417276706812531889)))) from g108) (show inr (31) from q_323) (show 0 ≤ (31) ∧ (31) ≤ 64 from q_322) (fun z113 σ F109 A110 H hS111 hA112 pz113_0 pz113_1 => ⟨rfl, ?_⟩))
            have rj_ := pz113_1
            refine Ew_of (pcₚ := 216) (fun _ => x_lload_n rfl l193_1) ?_
            refine w_lmulE rfl ?_
            have g114 : inrJ (muJ (z113) ((-7046029288634856825))) := toJ_inr _
            refine w_lxorE rfl ?_
            have g115 : inrJ (xoJ (x193_11) ((muJ (z113) ((-7046029288634856825))))) := toJ_inr _
            refine Ew_of (pcₚ := 219) (fun _ => x_lload_n rfl l193_1) ?_
            refine w_lmulE rfl ?_
            have g116 : inrJ (muJ ((xoJ (x193_11) ((muJ (z113) ((-7046029288634856825)))))) ((-7046029288634856825))) := toJ_inr _
            refine Ew_of (pcₚ := 222) (fun _ => x_lload rfl l193_7) ?_
            refine w_laddE rfl ?_
            have g117 : inrJ (adJ ((muJ ((xoJ (x193_11) ((muJ (z113) ((-7046029288634856825)))))) ((-7046029288634856825)))) ((-8796714831421723037))) := toJ_inr _
            refine Ew_of (pcₚ := 225) (fun _ => x_lstore rfl) ?_
            refine Ew_of (pcₚ := 228) (fun _ => x_iinc (len := 3) rfl (rk2_o (l193_14) rfl rfl)) ?_
            refine Ew_of (pcₚ := 193) (fun _ => x_goto rfl rfl) ?_
            have : ∃ v0 v1 v2 v3 xr0 xr1 xr2 xr3, LWA ((w14)) 0 ((u1_1)) ((x74_13)) 0 ((w74_86)) ∧ ((w74_86)) 0 = v0 ∧ ((w74_86)) 1 = v1 ∧ ((w74_86)) 2 = v2 ∧ ((w74_86)) 3 = v3 ∧ xr0 = rtJ v0 1 ∧ xr1 = rtJ v1 7 ∧ xr2 = rtJ v2 12 ∧ xr3 = rtJ v3 18 ∧ itl (fun l p => wj l (((w74_86)) p)) 1 0 4 (adJ (adJ (adJ xr0 xr1) xr2) xr3) = itl (fun l p => wj l (((w74_86)) p)) 1 (((x193_14 + 1))) (4 - ((x193_14 + 1)) : Int).toNat (((adJ ((muJ ((xoJ (x193_11) ((muJ (z113) ((-7046029288634856825)))))) ((-7046029288634856825)))) ((-8796714831421723037))))) := by obtain ⟨v0, v1, v2, v3, x0, x1, x2, x3, q0, q1, q2, q3, q4, q5, q6, q7, q8, q9⟩ := j193_q; exact ⟨v0, v1, v2, v3, x0, x1, x2, x3, q0, q1, q2, q3, q4, q5, q6, q7, q8, q9.trans (itl_s (by omega) (by rw [wj_r rj_, hlw]) (by omega))⟩
            exact ih193 _ (msE hm193 q_612 (q_613 b106)) _ σ _ _ ((adJ ((muJ ((xoJ (x193_11) ((muJ (z113) ((-7046029288634856825)))))) ((-7046029288634856825)))) ((-8796714831421723037)))) ((x193_14 + 1)) (rk_o (rk2_o (l193_0) rfl rfl) rfl rfl) (rk_o (rk2_o (l193_1) rfl rfl) rfl rfl) (rk_o (rk2_o (l193_3) rfl rfl) rfl rfl) (rk_o (rk2_o (l193_5) rfl rfl) rfl rfl) (rk_o (rk2_o (l193_7) rfl rfl) rfl rfl) (rk_o (rk2_o (l193_9) rfl rfl) rfl rfl) (rk_o (rk2_s) rfl rfl) (rk_o (rk2_o (l193_13) rfl rfl) rfl rfl) (rk_s) H (SF_trans (hS_193) hS111 (any_sub rfl)) (SA_trans (hA_193) hA112 (any_subA rfl))   (show inrJ ((adJ ((muJ ((xoJ (x193_11) ((muJ (z113) ((-7046029288634856825)))))) ((-7046029288634856825)))) ((-8796714831421723037)))) from g117) (show inr ((x193_14 + 1)) from q_610 b106 j193_2) (show (0) ≤ ((x193_14 + 1)) from q_14 j193_2) (show ((x193_14 + 1)) ≤ (0) ∨ ((x193_14 + 1)) ≤ (4) from q_609 b106) (show ∃ v0 v1 v2 v3 xr0 xr1 xr2 xr3, LWA ((w14)) 0 ((u1_1)) ((x74_13)) 0 ((w74_86)) ∧ ((w74_86)) 0 = v0 ∧ ((w74_86)) 1 = v1 ∧ ((w74_86)) 2 = v2 ∧ ((w74_86)) 3 = v3 ∧ xr0 = rtJ v0 1 ∧ xr1 = rtJ v1 7 ∧ xr2 = rtJ v2 12 ∧ xr3 = rtJ v3 18 ∧ itl (fun l p => wj l (((w74_86)) p)) 1 0 4 (adJ (adJ (adJ xr0 xr1) xr2) xr3) = itl (fun l p => wj l (((w74_86)) p)) 1 (((x193_14 + 1))) (4 - ((x193_14 + 1)) : Int).toNat (((adJ ((muJ ((xoJ (x193_11) ((muJ (z113) ((-7046029288634856825)))))) ((-7046029288634856825)))) ((-8796714831421723037))))) by assumption) rfl
      · refine Ew_of (pcₚ := 90) (fun _ => x_iconst rfl) ?_
        refine Ew_of (pcₚ := 92) (fun _ => x_istore rfl) ?_
        have : LWA ((w14)) 0 ((u1_1)) ((x74_13) - 8 * 0) (0) ((w74_86)) := by rw [show (x74_13) - 8 * 0 = (x74_13) by omega]; exact j74_q
        suffices hl92 : ∀ (m : Nat), ∀ (ls : rO) (σ : rS) (F_92 : hF) (A_92 : hA) (x92_13 : Int) (x92_14 : Int), rlook ls 0 = some (.ref (D 6)) → rlook ls 1 = some (J ((-7046029288634856825))) → rlook ls 3 = some (J ((-4417276706812531889))) → rlook ls 5 = some (J (1609587929392839161)) → rlook ls 7 = some (J ((-8796714831421723037))) → rlook ls 9 = some (J (2870177450012600261)) → rlook ls 13 = some (I (x92_13)) → rlook ls 14 = some (I (x92_14)) → HS σ0 σ D N F_92 A_92 → SF [] F_74 F_92 → SA [86] A_74 A_92 → ∀ w92_86 : Int → Int, A_92 86 = w92_86 → (inr (x92_13)) → (inr (x92_14)) → ((0) ≤ (x92_14)) → ((x92_14) ≤ (0) ∨ (x92_14) ≤ (4)) → ((x92_13) = (x74_13) + 8 * (x92_14)) → (LWA ((w14)) 0 ((u1_1)) ((x92_13) - 8 * (x92_14)) ((x92_14)) ((w92_86))) → ((4) - (x92_14)).toNat = m → Ew 453 (d + 1) 92 ls [] σ c s Q from
          hl92 _ _ σ _ _ (x74_13) (0) (rk_o (l74_0) rfl rfl) (rk_o (l74_1) rfl rfl) (rk_o (l74_3) rfl rfl) (rk_o (l74_5) rfl rfl) (rk_o (l74_7) rfl rfl) (rk_o (l74_9) rfl rfl) (rk_o (l74_13) rfl rfl) (rk_s) H (SF_refl) (SA_refl)  (w74_86) (ew74_86) (show inr (x74_13) from j74_0) (show inr (0) from q_2) (show (0) ≤ (0) from q_1) (show (0) ≤ (0) ∨ (0) ≤ (4) from q_603) (show (x74_13) = (x74_13) + 8 * (0) from q_2190) (show LWA ((w14)) 0 ((u1_1)) ((x74_13) - 8 * (0)) ((0)) ((w74_86)) by assumption) rfl
        as_aux_lemma =>
        intro m
        induction m using Nat.strongRecOn with
        | _ m ih92 =>
          intro ls σ F_92 A_92 x92_13 x92_14 l92_0 l92_1 l92_3 l92_5 l92_7 l92_9 l92_13 l92_14 H hS_92 hA_92  w92_86 ew92_86 j92_0 j92_1 j92_2 j92_3 j92_4 j92_5 hm92
          have j92_q : LWA ((w14)) 0 ((u1_1)) ((x92_13) - 8 * (x92_14)) ((x92_14)) ((w92_86)) := j92_5
          refine Ew_of (pcₚ := 94) (fun _ => x_iload rfl l92_14) ?_
          refine Ew_of (pcₚ := 95) (fun _ => x_iconst rfl) ?_
          refine w_icmpge (t := 139) rfl rfl (show inr (x92_14) from j92_1) (show inr (4) from q_216) (fun b118 => ?_) (fun b118 => ?_)
          · refine Ew_of (pcₚ := 74) (fun _ => x_goto rfl rfl) ?_
            have : LWA ((w14)) 0 ((u1_1)) ((x92_13)) (0) ((w92_86)) := LWA_e j92_q (by omega) (by omega)
            exact ih74 _ (msE hm74 (q_2191 b118 j92_4) (q_795 b78)) _ σ _ _ (x92_13) (l92_0) (l92_1) (l92_3) (l92_5) (l92_7) (l92_9) (l92_13) H (SF_trans (hS_74) hS_92 (any_sub rfl)) (SA_trans (hA_74) hA_92 (any_subA rfl))  (w92_86) (ew92_86) (show inr (x92_13) from j92_0) (show 0 ≤ (x92_13) ∧ (x92_13) ≤ (u1_1) by omega) (show (x92_13) % 32 = 0 by omega) (show LWA ((w14)) 0 ((u1_1)) ((x92_13)) (0) ((w92_86)) by assumption) rfl
          · refine Ew_of (pcₚ := 99) (fun _ => x_aload_n rfl l92_0) ?_
            refine w_gT H (o := 6) (t := 86) rfl (H.perm 6 rfl) rfl rfl rfl rfl rfl rfl ?_
            refine Ew_of (pcₚ := 104) (fun _ => x_iload rfl l92_14) ?_
            refine Ew_of (pcₚ := 105) (fun _ => x_aload_n rfl l92_0) ?_
            refine w_gT H (o := 6) (t := 86) rfl (H.perm 6 rfl) rfl rfl rfl rfl rfl rfl ?_
            refine Ew_of (pcₚ := 110) (fun _ => x_iload rfl l92_14) ?_
            refine w_lJ H (o := 86) (n := 4) rfl (H.perm 86 rfl) rfl rfl (H.fix 86 rfl rfl) (show 0 ≤ x92_14 ∧ x92_14 < ((4 : Nat) : Int) from q_605 b118 j92_2) (by decide) (fun v119 ev119 qv119 => ?_)
            have qv119 : (-9223372036854775808 : Int) ≤ v119 ∧ v119 ≤ 9223372036854775807 := qv119
            have ev119 : (w92_86) (x92_14) = v119 := (congrFun (ew92_86) (x92_14)).symm.trans ev119
            have hlv := ev119
            refine Ew_of (pcₚ := 112) (fun _ => x_aload_n rfl l92_0) ?_
            refine Ew_of (pcₚ := 114) (fun _ => x_iload rfl l92_13) ?_
            refine Ew_of (pcₚ := 116) (fun _ => x_bipush (z := 8) rfl (by decide)) ?_
            refine w_inv H (o := 6) rfl rfl rfl (H.perm 6 rfl) rfl rfl (by rfl) (M452 H (w14) ((funext (hA_92 14 rfl)).trans ((funext (hA_74 14 rfl)).trans (ew14))) (show inr (x92_13) from j92_0) (show inr (8) from q_141) (show 0 ≤ (x92_13) ∧ 0 ≤ (8) ∧ (8) ≤ 8 ∧ (x92_13) + (8) ≤ 65536 from q_2192 b118 b78 j74_1 j92_2 j92_4 r1) (fun z124 σ F120 A121 H hS122 hA123 pz124_0 pz124_1 => ⟨rfl, ?_⟩))
            have n8_ := nmb_8 pz124_1 pz124_0
            refine Ew_of (pcₚ := 120) (fun _ => x_lload_n rfl l92_3) ?_
            refine w_lmulE rfl ?_
            have g125 : inrJ (muJ (z124) ((-4417276706812531889))) := toJ_inr _
            refine w_laddE rfl ?_
            have g126 : inrJ (adJ (v119) ((muJ (z124) ((-4417276706812531889))))) := toJ_inr _
            refine Ew_of (pcₚ := 124) (fun _ => x_bipush (z := 31) rfl (by decide)) ?_
            refine w_stat24 rfl rfl (by rfl) (M451 H (show inrJ ((adJ (v119) ((muJ (z124) ((-4417276706812531889)))))) from g126) (show inr (31) from q_323) (show 0 ≤ (31) ∧ (31) ≤ 64 from q_322) (fun z131 σ F127 A128 H hS129 hA130 pz131_0 pz131_1 => ⟨rfl, ?_⟩))
            have r8_ := pz131_1
            refine Ew_of (pcₚ := 128) (fun _ => x_lload_n rfl l92_1) ?_
            refine w_lmulE rfl ?_
            have g132 : inrJ (muJ (z131) ((-7046029288634856825))) := toJ_inr _
            have hwl := (wl_c n8_ r8_).trans (congrArg (fun q => wl q _) hlv.symm)
            refine w_sJ H (o := 86) (n := 4) rfl (H.perm 86 rfl) rfl rfl (H.fix 86 rfl rfl) (show 0 ≤ x92_14 ∧ x92_14 < ((4 : Nat) : Int) from q_605 b118 j92_2) (by decide) (show (-9223372036854775808 : Int) ≤ (muJ (z131) ((-7046029288634856825))) ∧ (muJ (z131) ((-7046029288634856825))) ≤ 9223372036854775807 by omega) (fun σ H => ?_)
            refine Ew_of (pcₚ := 133) (fun _ => x_iinc (len := 3) rfl (l92_13)) ?_
            refine Ew_of (pcₚ := 136) (fun _ => x_iinc (len := 3) rfl (rk_o (l92_14) rfl rfl)) ?_
            refine Ew_of (pcₚ := 92) (fun _ => x_goto rfl rfl) ?_
            have : LWA ((w14)) 0 ((u1_1)) (((x92_13 + 8)) - 8 * ((x92_14 + 1))) (((x92_14 + 1))) ((upd1 (w92_86) (x92_14) ((muJ (z131) ((-7046029288634856825)))))) := LWA_m (LWA_s j92_q (k2 := ((x92_14 + 1))) (by omega) (by omega) (by omega) (by omega) hwl) (by omega)
            exact ih92 _ (msE hm92 q_612 (q_613 b118)) _ σ _ _ ((x92_13 + 8)) ((x92_14 + 1)) (rk_o (rk_o (l92_0) rfl rfl) rfl rfl) (rk_o (rk_o (l92_1) rfl rfl) rfl rfl) (rk_o (rk_o (l92_3) rfl rfl) rfl rfl) (rk_o (rk_o (l92_5) rfl rfl) rfl rfl) (rk_o (rk_o (l92_7) rfl rfl) rfl rfl) (rk_o (rk_o (l92_9) rfl rfl) rfl rfl) (rk_o (rk_s) rfl rfl) (rk_s) H (SF_trans (SF_trans (hS_92) hS122 (any_sub rfl)) hS129 (any_sub rfl)) (SA_upd (SA_trans (SA_trans (hA_92) hA123 (any_subA rfl)) hA130 (any_subA rfl)) rfl)  (upd1 (w92_86) (x92_14) ((muJ (z131) ((-7046029288634856825))))) (congrArg (fun q => upd1 q (x92_14) ((muJ (z131) ((-7046029288634856825))))) ((funext (hA130 86 rfl)).trans ((funext (hA123 86 rfl)).trans (ew92_86)))) (show inr ((x92_13 + 8)) from q_2194 b118 b78 j92_0 j92_4 r1) (show inr ((x92_14 + 1)) from q_610 b118 j92_2) (show (0) ≤ ((x92_14 + 1)) from q_14 j92_2) (show ((x92_14 + 1)) ≤ (0) ∨ ((x92_14 + 1)) ≤ (4) from q_609 b118) (show ((x92_13 + 8)) = (x74_13) + 8 * ((x92_14 + 1)) from q_2193 j92_4) (show LWA ((w14)) 0 ((u1_1)) (((x92_13 + 8)) - 8 * ((x92_14 + 1))) (((x92_14 + 1))) ((upd1 (w92_86) (x92_14) ((muJ (z131) ((-7046029288634856825)))))) by assumption) rfl


end
