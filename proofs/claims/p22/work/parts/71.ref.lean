/-- Writer.byStates -/
theorem M423 {σ0 σ : rS} {D N : Nat → Nat} {F : hF} {A : hA} {d c s : Nat} {Q : wQ} (H : HS σ0 σ D N F A) {a1 : Int} (u6_53 : Int) (eu6_53 : F 6 53 = u6_53) (w78 : Int → Int) (ew78 : A 78 = w78) (w84 : Int → Int) (ew84 : A 84 = w84) (h0 : inr (a1)) (h1 : 5 ≤ (a1) ∧ (a1) ≤ 6) (h2 : 2 ≤ (u6_53) ∧ (u6_53) ≤ 255) (h3 : ∀ i, (0 : Int) ≤ i → i < 64 → 0 ≤ ((w78)) i) (h4 : su (fun i => ((w78)) i) 64 = (u6_53)) (h5 : 2 ≤ su (fun i => pos1 (((w78)) i)) 64) (h6 : CW ((w78)) ((w84)) ((u6_53)) 11) (h7 : CZ ((w78)) 11) (k : ∀ (z : Int) σ Fₚ Aₚ, HS σ0 σ D N Fₚ Aₚ → SF [(6, 35)] F Fₚ → SA [69, 71, 72, 73, 74, 75, 76, 77] A Aₚ → ∀ y6_35 : Int, Fₚ 6 35 = y6_35 → (inr (z)) → (1 ≤ (z) ∧ (z) ≤ 256) → (0 ≤ (y6_35) ∧ (y6_35) ≤ 2047) → Q (some (I z)) σ c s) : Ew 423 (d + 2) 0 (rargs 0 [.ref (D 6), I a1]) [] σ c s Q := by
  have r1 : (-1 : Int) ≤ u6_53 ∧ u6_53 ≤ 255 := rngE (show (-1 : Int) ≤ F 6 53 ∧ F 6 53 ≤ 255 from H.frng 6 53) (show F 6 53 = u6_53 from (eu6_53))
  have hp5 := p2_5 (o := (a1)) (by omega)
  have hcz : CZ ((w78)) 11 := h7
  have hcw : CW ((w78)) ((w84)) ((u6_53)) 11 := h6
  have hcp := CZ_pos hcz (by omega) (by omega)
  refine Ew_of (pcₚ := 1) (fun _ => x_aload_n rfl rfl) ?_
  refine w_inv H (o := 6) rfl rfl rfl (H.perm 6 rfl) rfl rfl (by rfl) (M391 H  (fun σ F2 A3 H hS4 hA5 y7 ey8 pz6_0 => ⟨rfl, ?_⟩))
  have r9 : (0 : Int) ≤ y7 ∧ y7 ≤ 100000000 := rngE (show (0 : Int) ≤ F2 6 35 ∧ F2 6 35 ≤ 100000000 from H.frng 6 35) (show F2 6 35 = y7 from (ey8))
  refine Ew_of (pcₚ := 5) (fun _ => x_aload_n rfl rfl) ?_
  refine Ew_of (pcₚ := 6) (fun _ => x_iconst rfl) ?_
  refine Ew_of (pcₚ := 8) (fun _ => x_bipush (z := 8) rfl (by decide)) ?_
  refine w_inv H (o := 6) rfl rfl rfl (H.perm 6 rfl) rfl rfl (by rfl) (M389 H (y7) ((ey8)) (show inr (0) from q_20) (show inr (8) from q_96) (show 0 ≤ (8) ∧ (8) ≤ 31 from q_2192) (show 0 ≤ (y7) ∧ (y7) ≤ 90000000 from q_2191 pz6_0 r9) (fun σ F10 A11 H hS12 hA13 y15 ey16 pz14_0 => ⟨rfl, ?_⟩))
  have r17 : (0 : Int) ≤ y15 ∧ y15 ≤ 100000000 := rngE (show (0 : Int) ≤ F10 6 35 ∧ F10 6 35 ≤ 100000000 from H.frng 6 35) (show F10 6 35 = y15 from (ey16))
  refine Ew_of (pcₚ := 12) (fun _ => x_aload_n rfl rfl) ?_
  refine Ew_of (pcₚ := 13) (fun _ => x_aload_n rfl rfl) ?_
  refine w_gI H (o := 6) (w := u6_53) rfl (H.perm 6 rfl) rfl rfl rfl (fun _ => rfl) (((hS12 6 53 rfl).trans (hS4 6 53 rfl)).trans (eu6_53)) ?_
  refine Ew_of (pcₚ := 17) (fun _ => x_iload_n rfl rfl) ?_
  refine w_inv H (o := 6) rfl rfl rfl (H.perm 6 rfl) rfl rfl (by rfl) (M411 H (w78) ((funext (hA13 78 rfl)).trans ((funext (hA5 78 rfl)).trans (ew78))) (show inr (u6_53) from q_2195 r1) (show inr (a1) from h0) (show 1 ≤ (u6_53) ∧ (u6_53) ≤ 8001 from q_2194 h2 r1) (show 5 ≤ (a1) ∧ (a1) ≤ 9 from q_2193 h1) (show ∀ i, (0 : Int) ≤ i → i < 64 → 0 ≤ ((w78)) i from h3) (show su (fun i => ((w78)) i) 64 = (u6_53) by omega) (show su (fun i => pos1 (((w78)) i)) 64 ≤ p2 ((a1)) by omega) (fun σ F18 A19 H hS20 hA21 wq23 ewq24 pz22_0 pz22_1 => ⟨rfl, ?_⟩))
  have hdv := pz22_0
  have hsh : SH ((wq23)) 0 64 ((a1)) 11 := SH_div (by omega) hdv (by omega) hcz
  refine Ew_of (pcₚ := 21) (fun _ => x_aload_n rfl rfl) ?_
  refine Ew_of (pcₚ := 22) (fun _ => x_aload_n rfl rfl) ?_
  refine w_gT H (o := 6) (t := 75) rfl (H.perm 6 rfl) rfl rfl rfl rfl rfl rfl ?_
  refine Ew_of (pcₚ := 26) (fun _ => x_iconst rfl) ?_
  refine Ew_of (pcₚ := 27) (fun _ => x_iload_n rfl rfl) ?_
  refine w_inv H (o := 6) rfl rfl rfl (H.perm 6 rfl) rfl rfl (by rfl) (M412_75 H (y15) (((hS20 6 35 rfl).trans (ey16))) (wq23) (ewq24) (11) (show inr (0) from q_20) (show inr (a1) from h0) (show SH ((wq23)) (0) 64 (a1) (11) from hsh) (show 0 ≤ (0) ∧ (0) + 64 ≤ 64 from q_2198) (show 0 ≤ (y15) ∧ (y15) ≤ 1000000 from q_2197 pz14_0 pz6_0 r17) (show 0 ≤ (11) from q_2196) (fun σ F25 A26 H hS27 hA28 y30 ey31 pz29_0 => ⟨rfl, ?_⟩))
  have r32 : (0 : Int) ≤ y30 ∧ y30 ≤ 100000000 := rngE (show (0 : Int) ≤ F25 6 35 ∧ F25 6 35 ≤ 100000000 from H.frng 6 35) (show F25 6 35 = y30 from (ey31))
  refine Ew_of (pcₚ := 31) (fun _ => x_aload_n rfl rfl) ?_
  refine Ew_of (pcₚ := 32) (fun _ => x_aload_n rfl rfl) ?_
  refine w_gT H (o := 6) (t := 75) rfl (H.perm 6 rfl) rfl rfl rfl rfl rfl rfl ?_
  refine Ew_of (pcₚ := 36) (fun _ => x_iconst rfl) ?_
  refine Ew_of (pcₚ := 38) (fun _ => x_bipush (z := 64) rfl (by decide)) ?_
  refine Ew_of (pcₚ := 39) (fun _ => x_iload_n rfl rfl) ?_
  refine Ew_of (pcₚ := 42) (fun _ => x_sipush (z := 1536) rfl (by decide)) ?_
  refine w_inv H (o := 6) rfl rfl rfl (H.perm 6 rfl) rfl rfl (by rfl) (M407_75 H (A 71) ((funext (hA28 71 rfl)).trans ((funext (hA21 71 rfl)).trans ((funext (hA13 71 rfl)).trans (funext (hA5 71 rfl))))) (A 72) ((funext (hA28 72 rfl)).trans ((funext (hA21 72 rfl)).trans ((funext (hA13 72 rfl)).trans (funext (hA5 72 rfl))))) (A 73) ((funext (hA28 73 rfl)).trans ((funext (hA21 73 rfl)).trans ((funext (hA13 73 rfl)).trans (funext (hA5 73 rfl))))) (wq23) ((funext (hA28 75 rfl)).trans (ewq24)) (11) (show inr (0) from q_20) (show inr (64) from q_51) (show inr (a1) from h0) (show inr (1536) from q_2200) (show SH ((wq23)) (0) (64) (a1) (11) from hsh) (show 0 ≤ (0) ∧ 1 ≤ (64) ∧ (64) ≤ 64 ∧ (0) + (64) ≤ 64 from q_2199) (show 0 ≤ (1536) ∧ (1536) + p2 ((a1)) ≤ 2048 by omega) (fun σ F33 A34 H hS35 hA36 wq38 ewq39 wq40 ewq41 wq42 ewq43 pz37_0 pz37_1 pz37_2 pz37_3 pz37_4 => ⟨rfl, ?_⟩))
  have hti := pz37_1
  refine Ew_of (pcₚ := 46) (fun _ => x_aload_n rfl rfl) ?_
  refine Ew_of (pcₚ := 49) (fun _ => x_sipush (z := 1536) rfl (by decide)) ?_
  refine Ew_of (pcₚ := 50) (fun _ => x_iload_n rfl rfl) ?_
  refine Ew_of (pcₚ := 51) (fun _ => x_aload_n rfl rfl) ?_
  refine w_gT H (o := 6) (t := 84) rfl (H.perm 6 rfl) rfl rfl rfl rfl rfl rfl ?_
  refine Ew_of (pcₚ := 55) (fun _ => x_aload_n rfl rfl) ?_
  refine w_gI H (o := 6) (w := u6_53) rfl (H.perm 6 rfl) rfl rfl rfl (fun _ => rfl) ((((((hS35 6 53 rfl).trans (hS27 6 53 rfl)).trans (hS20 6 53 rfl)).trans (hS12 6 53 rfl)).trans (hS4 6 53 rfl)).trans (eu6_53)) ?_
  refine Ew_of (pcₚ := 59) (fun _ => x_iconst rfl) ?_
  refine w_isub rfl ?_
  refine w_lI H (o := 84) (n := 257) rfl (H.perm 84 rfl) rfl rfl (H.fix 84 rfl rfl) (show 0 ≤ (u6_53 - 1) ∧ (u6_53 - 1) < ((257 : Nat) : Int) from q_2201 h2 r1) (by decide) (fun v44 ev44 qv44 => ?_)
  have qv44 : (-2147483648 : Int) ≤ v44 ∧ v44 ≤ 2147483647 := qv44
  have ev44 : (w84) ((u6_53 - 1)) = v44 := (congrFun ((funext (hA36 84 rfl)).trans ((funext (hA28 84 rfl)).trans ((funext (hA21 84 rfl)).trans ((funext (hA13 84 rfl)).trans ((funext (hA5 84 rfl)).trans (ew84)))))) ((u6_53 - 1))).symm.trans ev44
  have hw61 := hcw ((u6_53) - 1) (by omega) (by omega)
  rw [ev44] at hw61
  have hd61 := DVI_m hdv (s := (v44)) (by omega) (by omega) hw61.2.2
  have : 1 ≤ mass ((sh ((wq23)) 0) ((v44))) := by show 1 ≤ mass (((wq23)) (0 + (v44))); rw [Int.zero_add]; exact hd61.1
  have : (1 : Int) = 1 → mass ((sh ((wq23)) 0) ((v44))) < p2 ((a1)) := fun _ => by have := mass_lt hdv (p := p2 ((a1))) (by omega) (by omega) (s := (v44)) (by omega) (by omega); show mass (((wq23)) (0 + (v44))) < _; rw [Int.zero_add]; exact this
  refine Ew_of (pcₚ := 62) (fun _ => x_iconst rfl) ?_
  refine w_inv H (o := 6) rfl rfl rfl (H.perm 6 rfl) rfl rfl (by rfl) (M408 H (wq38) (ewq39) (wq40) (ewq41) (wq42) (ewq43) (sh ((wq23)) 0) (show inr (1536) from q_2200) (show inr (a1) from h0) (show inr (v44) from q_22 qv44) (show inr (1) from q_23) (show (1) = 0 ∨ (1) = 1 from q_5) (show LD (sh ((wq23)) 0) 64 ((a1)) (sh ((wq38)) ((1536))) (sh ((wq40)) ((1536))) (sh ((wq42)) ((1536))) from pz37_0) (show 5 ≤ (a1) ∧ (a1) ≤ 9 from q_2193 h1) (show 0 ≤ (1536) ∧ (1536) + p2 ((a1)) ≤ 2048 by omega) (show 0 ≤ (v44) ∧ (v44) < 64 by omega) (show 1 ≤ mass ((sh ((wq23)) 0) (v44)) by assumption) (show (1) = 1 → mass ((sh ((wq23)) 0) (v44)) < p2 ((a1)) by assumption) (fun z49 σ F45 A46 H hS47 hA48 pz49_0 pz49_1 pz49_2 => ⟨rfl, ?_⟩))
  refine Ew_of (pcₚ := 66) (fun _ => x_istore_n rfl) ?_
  refine Ew_of (pcₚ := 67) (fun _ => x_aload_n rfl (rk_o (rfl) rfl rfl)) ?_
  refine Ew_of (pcₚ := 70) (fun _ => x_sipush (z := 1536) rfl (by decide)) ?_
  refine Ew_of (pcₚ := 71) (fun _ => x_iload_n rfl (rk_o (rfl) rfl rfl)) ?_
  refine Ew_of (pcₚ := 72) (fun _ => x_aload_n rfl (rk_o (rfl) rfl rfl)) ?_
  refine w_gT H (o := 6) (t := 84) rfl (H.perm 6 rfl) rfl rfl rfl rfl rfl rfl ?_
  refine Ew_of (pcₚ := 76) (fun _ => x_aload_n rfl (rk_o (rfl) rfl rfl)) ?_
  refine w_gI H (o := 6) (w := u6_53) rfl (H.perm 6 rfl) rfl rfl rfl (fun _ => rfl) (((((((hS47 6 53 rfl).trans (hS35 6 53 rfl)).trans (hS27 6 53 rfl)).trans (hS20 6 53 rfl)).trans (hS12 6 53 rfl)).trans (hS4 6 53 rfl)).trans (eu6_53)) ?_
  refine Ew_of (pcₚ := 80) (fun _ => x_iconst rfl) ?_
  refine w_isub rfl ?_
  refine w_lI H (o := 84) (n := 257) rfl (H.perm 84 rfl) rfl rfl (H.fix 84 rfl rfl) (show 0 ≤ (u6_53 - 2) ∧ (u6_53 - 2) < ((257 : Nat) : Int) from q_2202 h2 r1) (by decide) (fun v50 ev50 qv50 => ?_)
  have qv50 : (-2147483648 : Int) ≤ v50 ∧ v50 ≤ 2147483647 := qv50
  have ev50 : (w84) ((u6_53 - 2)) = v50 := (congrFun ((funext (hA48 84 rfl)).trans ((funext (hA36 84 rfl)).trans ((funext (hA28 84 rfl)).trans ((funext (hA21 84 rfl)).trans ((funext (hA13 84 rfl)).trans ((funext (hA5 84 rfl)).trans (ew84))))))) ((u6_53 - 2))).symm.trans ev50
  have hw82 := hcw ((u6_53) - 2) (by omega) (by omega)
  rw [ev50] at hw82
  have hd82 := DVI_m hdv (s := (v50)) (by omega) (by omega) hw82.2.2
  have : 1 ≤ mass ((sh ((wq23)) 0) ((v50))) := by show 1 ≤ mass (((wq23)) (0 + (v50))); rw [Int.zero_add]; exact hd82.1
  have : (1 : Int) = 1 → mass ((sh ((wq23)) 0) ((v50))) < p2 ((a1)) := fun _ => by have := mass_lt hdv (p := p2 ((a1))) (by omega) (by omega) (s := (v50)) (by omega) (by omega); show mass (((wq23)) (0 + (v50))) < _; rw [Int.zero_add]; exact this
  refine Ew_of (pcₚ := 83) (fun _ => x_iconst rfl) ?_
  refine w_inv H (o := 6) rfl rfl rfl (H.perm 6 rfl) rfl rfl (by rfl) (M408 H (wq38) ((funext (hA48 71 rfl)).trans (ewq39)) (wq40) ((funext (hA48 72 rfl)).trans (ewq41)) (wq42) ((funext (hA48 73 rfl)).trans (ewq43)) (sh ((wq23)) 0) (show inr (1536) from q_2200) (show inr (a1) from h0) (show inr (v50) from q_22 qv50) (show inr (1) from q_23) (show (1) = 0 ∨ (1) = 1 from q_5) (show LD (sh ((wq23)) 0) 64 ((a1)) (sh ((wq38)) ((1536))) (sh ((wq40)) ((1536))) (sh ((wq42)) ((1536))) from pz37_0) (show 5 ≤ (a1) ∧ (a1) ≤ 9 from q_2193 h1) (show 0 ≤ (1536) ∧ (1536) + p2 ((a1)) ≤ 2048 by omega) (show 0 ≤ (v50) ∧ (v50) < 64 by omega) (show 1 ≤ mass ((sh ((wq23)) 0) (v50)) by assumption) (show (1) = 1 → mass ((sh ((wq23)) 0) (v50)) < p2 ((a1)) by assumption) (fun z55 σ F51 A52 H hS53 hA54 pz55_0 pz55_1 pz55_2 => ⟨rfl, ?_⟩))
  refine Ew_of (pcₚ := 87) (fun _ => x_istore_n rfl) ?_
  refine Ew_of (pcₚ := 88) (fun _ => x_aload_n rfl (rk_o (rk_o (rfl) rfl rfl) rfl rfl)) ?_
  refine w_gI H (o := 6) (w := u6_53) rfl (H.perm 6 rfl) rfl rfl rfl (fun _ => rfl) ((((((((hS53 6 53 rfl).trans (hS47 6 53 rfl)).trans (hS35 6 53 rfl)).trans (hS27 6 53 rfl)).trans (hS20 6 53 rfl)).trans (hS12 6 53 rfl)).trans (hS4 6 53 rfl)).trans (eu6_53)) ?_
  refine Ew_of (pcₚ := 92) (fun _ => x_iconst rfl) ?_
  refine w_isub rfl ?_
  refine Ew_of (pcₚ := 95) (fun _ => x_istore rfl) ?_
  suffices hl95 : ∀ (m : Nat), ∀ (ls : rO) (σ : rS) (F_95 : hF) (A_95 : hA) (x95_2 : Int) (x95_3 : Int) (x95_4 : Int), rlook ls 0 = some (.ref (D 6)) → rlook ls 1 = some (I (a1)) → rlook ls 2 = some (I (x95_2)) → rlook ls 3 = some (I (x95_3)) → rlook ls 4 = some (I (x95_4)) → HS σ0 σ D N F_95 A_95 → SF [(6, 35)] F51 F_95 → SA [69] A52 A_95 → ∀ y95_6_35 : Int, F_95 6 35 = y95_6_35 → (inr (x95_2)) → (inr (x95_3)) → (inr (x95_4)) → (-1 ≤ (x95_4) ∧ (x95_4) ≤ (u6_53) - 3) → (0 ≤ (x95_2) ∧ (x95_2) < p2 ((a1))) → (0 ≤ (x95_3) ∧ (x95_3) < p2 ((a1))) → ((y30) ≤ (y95_6_35) ∧ (y95_6_35) ≤ (y30) + 6 * ((u6_53) - 3 - (x95_4))) → ((x95_4) + 1).toNat = m → Ew 423 (d + 2) 95 ls [] σ c s Q from
    hl95 _ _ σ _ _ (z49) (z55) ((u6_53 - 3)) (rk_o (rk_o (rk_o (rfl) rfl rfl) rfl rfl) rfl rfl) (rk_o (rk_o (rk_o (rfl) rfl rfl) rfl rfl) rfl rfl) (rk_o (rk_o (rk_s) rfl rfl) rfl rfl) (rk_o (rk_s) rfl rfl) (rk_s) H (SF_refl) (SA_refl) (y30) (((((hS53 6 35 rfl).trans (hS47 6 35 rfl)).trans (hS35 6 35 rfl)).trans (ey31)))  (show inr (z49) from pz49_0) (show inr (z55) from pz55_0) (show inr ((u6_53 - 3)) from q_2205 r1) (show -1 ≤ ((u6_53 - 3)) ∧ ((u6_53 - 3)) ≤ (u6_53) - 3 from q_2204 h2) (show 0 ≤ (z49) ∧ (z49) < p2 ((a1)) from pz49_1) (show 0 ≤ (z55) ∧ (z55) < p2 ((a1)) from pz55_1) (show (y30) ≤ (y30) ∧ (y30) ≤ (y30) + 6 * ((u6_53) - 3 - ((u6_53 - 3))) from q_2203) rfl
  as_aux_lemma =>
  intro m
  induction m using Nat.strongRecOn with
  | _ m ih95 =>
    intro ls σ F_95 A_95 x95_2 x95_3 x95_4 l95_0 l95_1 l95_2 l95_3 l95_4 H hS_95 hA_95 y95_6_35 ey95_6_35  j95_0 j95_1 j95_2 j95_3 j95_4 j95_5 j95_6 hm95
    have r56 : (0 : Int) ≤ y95_6_35 ∧ y95_6_35 ≤ 100000000 := rngE (show (0 : Int) ≤ F_95 6 35 ∧ F_95 6 35 ≤ 100000000 from H.frng 6 35) (show F_95 6 35 = y95_6_35 from (ey95_6_35))
    refine Ew_of (pcₚ := 97) (fun _ => x_iload rfl l95_4) ?_
    refine w_iflt (t := 157) rfl rfl (show inr (x95_4) from j95_2) (fun b57 => ?_) (fun b57 => ?_)
    · refine Ew_of (pcₚ := 158) (fun _ => x_aload_n rfl l95_0) ?_
      refine Ew_of (pcₚ := 159) (fun _ => x_iload_n rfl l95_2) ?_
      refine Ew_of (pcₚ := 160) (fun _ => x_iload_n rfl l95_1) ?_
      refine w_inv H (o := 6) rfl rfl rfl (H.perm 6 rfl) rfl rfl (by rfl) (M389 H (y95_6_35) ((ey95_6_35)) (show inr (x95_2) from j95_0) (show inr (a1) from h0) (show 0 ≤ (a1) ∧ (a1) ≤ 31 from q_2207 h1) (show 0 ≤ (y95_6_35) ∧ (y95_6_35) ≤ 90000000 from q_2206 j95_3 j95_6 pz14_0 pz29_0 pz6_0 r1 r56) (fun σ F58 A59 H hS60 hA61 y63 ey64 pz62_0 => ⟨rfl, ?_⟩))
      have r65 : (0 : Int) ≤ y63 ∧ y63 ≤ 100000000 := rngE (show (0 : Int) ≤ F58 6 35 ∧ F58 6 35 ≤ 100000000 from H.frng 6 35) (show F58 6 35 = y63 from (ey64))
      refine Ew_of (pcₚ := 164) (fun _ => x_aload_n rfl l95_0) ?_
      refine Ew_of (pcₚ := 165) (fun _ => x_iload_n rfl l95_3) ?_
      refine Ew_of (pcₚ := 166) (fun _ => x_iload_n rfl l95_1) ?_
      refine w_inv H (o := 6) rfl rfl rfl (H.perm 6 rfl) rfl rfl (by rfl) (M389 H (y63) ((ey64)) (show inr (x95_3) from j95_1) (show inr (a1) from h0) (show 0 ≤ (a1) ∧ (a1) ≤ 31 from q_2207 h1) (show 0 ≤ (y63) ∧ (y63) ≤ 90000000 by omega) (fun σ F66 A67 H hS68 hA69 y71 ey72 pz70_0 => ⟨rfl, ?_⟩))
      have r73 : (0 : Int) ≤ y71 ∧ y71 ≤ 100000000 := rngE (show (0 : Int) ≤ F66 6 35 ∧ F66 6 35 ≤ 100000000 from H.frng 6 35) (show F66 6 35 = y71 from (ey72))
      refine Ew_of (pcₚ := 170) (fun _ => x_aload_n rfl l95_0) ?_
      refine Ew_of (pcₚ := 171) (fun _ => x_iconst rfl) ?_
      refine Ew_of (pcₚ := 172) (fun _ => x_iconst rfl) ?_
      refine w_inv H (o := 6) rfl rfl rfl (H.perm 6 rfl) rfl rfl (by rfl) (M389 H (y71) ((ey72)) (show inr (1) from q_23) (show inr (1) from q_23) (show 0 ≤ (1) ∧ (1) ≤ 31 from q_1911) (show 0 ≤ (y71) ∧ (y71) ≤ 90000000 by omega) (fun σ F74 A75 H hS76 hA77 y79 ey80 pz78_0 => ⟨rfl, ?_⟩))
      have r81 : (0 : Int) ≤ y79 ∧ y79 ≤ 100000000 := rngE (show (0 : Int) ≤ F74 6 35 ∧ F74 6 35 ≤ 100000000 from H.frng 6 35) (show F74 6 35 = y79 from (ey80))
      refine Ew_of (pcₚ := 176) (fun _ => x_aload_n rfl l95_0) ?_
      refine w_inv H (o := 6) rfl rfl rfl (H.perm 6 rfl) rfl rfl (by rfl) (M390 H (y79) ((ey80)) (show 0 ≤ (y79) ∧ (y79) ≤ 99000000 by omega) (fun σ F82 A83 H hS84 hA85 y87 ey88 pz86_0 => ⟨rfl, ?_⟩))
      have r89 : (0 : Int) ≤ y87 ∧ y87 ≤ 100000000 := rngE (show (0 : Int) ≤ F82 6 35 ∧ F82 6 35 ≤ 100000000 from H.frng 6 35) (show F82 6 35 = y87 from (ey88))
      refine Ew_of (pcₚ := 180) (fun _ => x_aload_n rfl l95_0) ?_
      refine w_gT H (o := 6) (t := 69) rfl (H.perm 6 rfl) rfl rfl rfl rfl rfl rfl ?_
      refine Ew_of (pcₚ := 184) (fun _ => x_iconst rfl) ?_
      refine Ew_of (pcₚ := 185) (fun _ => x_aload_n rfl l95_0) ?_
      refine w_gI H (o := 6) (w := y87) rfl (H.perm 6 rfl) rfl rfl rfl (fun _ => rfl) (ey88) ?_
      refine Ew_of (pcₚ := 190) (fun _ => x_bipush (z := 8) rfl (by decide)) ?_
      refine w_idiv rfl (show inr (y87) ∧ 0 ≤ y87 from q_1695 r89) (show inr (8) ∧ 0 < 8 from q_810) ?_
      refine Ew_of (pcₚ := 192) (fun _ => x_iconst rfl) ?_
      refine w_isub rfl ?_
      refine w_sI H (o := 69) (n := 24000) rfl (H.perm 69 rfl) rfl rfl (H.fix 69 rfl rfl) (show 0 ≤ 0 ∧ 0 < ((24000 : Nat) : Int) from q_2208) (by decide) (show (0 : Int) ≤ ((y87 / 8) - 1) ∧ ((y87 / 8) - 1) ≤ 255 by omega) (fun σ H => ?_)
      refine Ew_of (pcₚ := 195) (fun _ => x_aload_n rfl l95_0) ?_
      refine w_gI H (o := 6) (w := y87) rfl (H.perm 6 rfl) rfl rfl rfl (fun _ => rfl) (ey88) ?_
      refine Ew_of (pcₚ := 200) (fun _ => x_bipush (z := 8) rfl (by decide)) ?_
      refine w_idiv rfl (show inr (y87) ∧ 0 ≤ y87 from q_1695 r89) (show inr (8) ∧ 0 < 8 from q_810) ?_
      exact w_ireturn rfl (k ((y87 / 8)) σ _ _ H (SF_trans (SF_trans (SF_trans (SF_trans (SF_trans (SF_trans (SF_trans (SF_trans (SF_trans (SF_trans (SF_trans (SF_trans (SF_refl) hS4 (any_sub rfl)) hS12 (any_sub rfl)) hS20 (any_sub rfl)) hS27 (any_sub rfl)) hS35 (any_sub rfl)) hS47 (any_sub rfl)) hS53 (any_sub rfl)) hS_95 (any_sub rfl)) hS60 (any_sub rfl)) hS68 (any_sub rfl)) hS76 (any_sub rfl)) hS84 (any_sub rfl)) (SA_upd (SA_trans (SA_trans (SA_trans (SA_trans (SA_trans (SA_trans (SA_trans (SA_trans (SA_trans (SA_trans (SA_trans (SA_trans (SA_refl) hA5 (any_subA rfl)) hA13 (any_subA rfl)) hA21 (any_subA rfl)) hA28 (any_subA rfl)) hA36 (any_subA rfl)) hA48 (any_subA rfl)) hA54 (any_subA rfl)) hA_95 (any_subA rfl)) hA61 (any_subA rfl)) hA69 (any_subA rfl)) hA77 (any_subA rfl)) hA85 (any_subA rfl)) rfl) (y87) ((ey88)) (show inr ((y87 / 8)) from q_2209 r89) (show 1 ≤ ((y87 / 8)) ∧ ((y87 / 8)) ≤ 256 by omega) (show 0 ≤ (y87) ∧ (y87) ≤ 2047 by omega))
    · refine Ew_of (pcₚ := 101) (fun _ => x_aload_n rfl l95_0) ?_
      refine Ew_of (pcₚ := 104) (fun _ => x_sipush (z := 1536) rfl (by decide)) ?_
      refine Ew_of (pcₚ := 105) (fun _ => x_iload_n rfl l95_1) ?_
      refine Ew_of (pcₚ := 106) (fun _ => x_aload_n rfl l95_0) ?_
      refine w_gT H (o := 6) (t := 84) rfl (H.perm 6 rfl) rfl rfl rfl rfl rfl rfl ?_
      refine Ew_of (pcₚ := 111) (fun _ => x_iload rfl l95_4) ?_
      refine w_lI H (o := 84) (n := 257) rfl (H.perm 84 rfl) rfl rfl (H.fix 84 rfl rfl) (show 0 ≤ x95_4 ∧ x95_4 < ((257 : Nat) : Int) from q_2210 b57 j95_6 r1) (by decide) (fun v90 ev90 qv90 => ?_)
      have qv90 : (-2147483648 : Int) ≤ v90 ∧ v90 ≤ 2147483647 := qv90
      have ev90 : (w84) (x95_4) = v90 := (congrFun ((funext (hA_95 84 rfl)).trans ((funext (hA54 84 rfl)).trans ((funext (hA48 84 rfl)).trans ((funext (hA36 84 rfl)).trans ((funext (hA28 84 rfl)).trans ((funext (hA21 84 rfl)).trans ((funext (hA13 84 rfl)).trans ((funext (hA5 84 rfl)).trans (ew84))))))))) (x95_4)).symm.trans ev90
      have hw112 := hcw ((x95_4)) (by omega) (by omega)
      rw [ev90] at hw112
      have hd112 := DVI_m hdv (s := (v90)) (by omega) (by omega) hw112.2.2
      have : 1 ≤ mass ((sh ((wq23)) 0) ((v90))) := by show 1 ≤ mass (((wq23)) (0 + (v90))); rw [Int.zero_add]; exact hd112.1
      have : 1 ≤ mass ((sh ((wq23)) 0) ((v90))) ∧ mass ((sh ((wq23)) 0) ((v90))) ≤ p2 ((a1)) := ⟨by assumption, by have := mass_lt hdv (p := p2 ((a1))) (by omega) (by omega) (s := (v90)) (by omega) (by omega); show mass (((wq23)) (0 + (v90))) ≤ _; rw [Int.zero_add]; omega⟩
      refine Ew_of (pcₚ := 113) (fun _ => x_iload_n rfl l95_2) ?_
      refine w_inv H (o := 6) rfl rfl rfl (H.perm 6 rfl) rfl rfl (by rfl) (M409 H (wq38) ((funext (hA_95 71 rfl)).trans ((funext (hA54 71 rfl)).trans ((funext (hA48 71 rfl)).trans (ewq39)))) (wq40) ((funext (hA_95 72 rfl)).trans ((funext (hA54 72 rfl)).trans ((funext (hA48 72 rfl)).trans (ewq41)))) (wq42) ((funext (hA_95 73 rfl)).trans ((funext (hA54 73 rfl)).trans ((funext (hA48 73 rfl)).trans (ewq43)))) (sh ((wq23)) 0) (show inr (1536) from q_2200) (show inr (a1) from h0) (show inr (v90) from q_22 qv90) (show inr (x95_2) from j95_0) (show LD (sh ((wq23)) 0) 64 ((a1)) (sh ((wq38)) ((1536))) (sh ((wq40)) ((1536))) (sh ((wq42)) ((1536))) from pz37_0) (show 5 ≤ (a1) ∧ (a1) ≤ 9 from q_2193 h1) (show 0 ≤ (1536) ∧ (1536) + p2 ((a1)) ≤ 2048 by omega) (show 0 ≤ (v90) ∧ (v90) < 64 by omega) (show 1 ≤ mass ((sh ((wq23)) 0) (v90)) ∧ mass ((sh ((wq23)) 0) (v90)) ≤ p2 ((a1)) by assumption) (show 0 ≤ (x95_2) ∧ (x95_2) < p2 ((a1)) from j95_4) (fun z95 σ F91 A92 H hS93 hA94 pz95_0 pz95_1 pz95_2 => ⟨rfl, ?_⟩))
      refine Ew_of (pcₚ := 118) (fun _ => x_istore rfl) ?_
      have htk := hti ((z95)) (by omega) (by omega)
      refine Ew_of (pcₚ := 119) (fun _ => x_aload_n rfl (rk_o (l95_0) rfl rfl)) ?_
      refine Ew_of (pcₚ := 120) (fun _ => x_iload_n rfl (rk_o (l95_2) rfl rfl)) ?_
      refine Ew_of (pcₚ := 121) (fun _ => x_aload_n rfl (rk_o (l95_0) rfl rfl)) ?_
      refine w_gT H (o := 6) (t := 73) rfl (H.perm 6 rfl) rfl rfl rfl rfl rfl rfl ?_
      refine Ew_of (pcₚ := 127) (fun _ => x_sipush (z := 1536) rfl (by decide)) ?_
      refine Ew_of (pcₚ := 129) (fun _ => x_iload rfl rk_s) ?_
      refine w_iadd rfl ?_
      refine w_lI H (o := 73) (n := 2048) rfl (H.perm 73 rfl) rfl rfl (H.fix 73 rfl rfl) (show 0 ≤ (1536 + z95) ∧ (1536 + z95) < ((2048 : Nat) : Int) by omega) (by decide) (fun v96 ev96 qv96 => ?_)
      have qv96 : (0 : Int) ≤ v96 ∧ v96 ≤ 511 := qv96
      have ev96 : (wq42) ((1536 + z95)) = v96 := (congrFun ((funext (hA94 73 rfl)).trans ((funext (hA_95 73 rfl)).trans ((funext (hA54 73 rfl)).trans ((funext (hA48 73 rfl)).trans (ewq43))))) ((1536 + z95))).symm.trans ev96
      refine w_isub rfl ?_
      refine Ew_of (pcₚ := 133) (fun _ => x_aload_n rfl (rk_o (l95_0) rfl rfl)) ?_
      refine w_gT H (o := 6) (t := 72) rfl (H.perm 6 rfl) rfl rfl rfl rfl rfl rfl ?_
      refine Ew_of (pcₚ := 139) (fun _ => x_sipush (z := 1536) rfl (by decide)) ?_
      refine Ew_of (pcₚ := 141) (fun _ => x_iload rfl rk_s) ?_
      refine w_iadd rfl ?_
      refine w_lI H (o := 72) (n := 2048) rfl (H.perm 72 rfl) rfl rfl (H.fix 72 rfl rfl) (show 0 ≤ (1536 + z95) ∧ (1536 + z95) < ((2048 : Nat) : Int) by omega) (by decide) (fun v97 ev97 qv97 => ?_)
      have qv97 : (0 : Int) ≤ v97 ∧ v97 ≤ 9 := qv97
      have ev97 : (wq40) ((1536 + z95)) = v97 := (congrFun ((funext (hA94 72 rfl)).trans ((funext (hA_95 72 rfl)).trans ((funext (hA54 72 rfl)).trans ((funext (hA48 72 rfl)).trans (ewq41))))) ((1536 + z95))).symm.trans ev97
      refine w_inv H (o := 6) rfl rfl rfl (H.perm 6 rfl) rfl rfl (by rfl) (M389 H (y95_6_35) (((hS93 6 35 rfl).trans (ey95_6_35))) (show inr ((x95_2 - v96)) from q_2212 j95_0 j95_4 qv96) (show inr (v97) from q_1479 qv97) (show 0 ≤ (v97) ∧ (v97) ≤ 31 from q_1478 qv97) (show 0 ≤ (y95_6_35) ∧ (y95_6_35) ≤ 90000000 from q_2211 b57 j95_6 pz14_0 pz29_0 pz6_0 r1 r56) (fun σ F98 A99 H hS100 hA101 y103 ey104 pz102_0 => ⟨rfl, ?_⟩))
      have r105 : (0 : Int) ≤ y103 ∧ y103 ≤ 100000000 := rngE (show (0 : Int) ≤ F98 6 35 ∧ F98 6 35 ≤ 100000000 from H.frng 6 35) (show F98 6 35 = y103 from (ey104))
      refine Ew_of (pcₚ := 147) (fun _ => x_iload_n rfl (rk_o (l95_3) rfl rfl)) ?_
      refine Ew_of (pcₚ := 148) (fun _ => x_istore_n rfl) ?_
      refine Ew_of (pcₚ := 150) (fun _ => x_iload rfl (rk_o (rk_s) rfl rfl)) ?_
      refine Ew_of (pcₚ := 151) (fun _ => x_istore_n rfl) ?_
      refine Ew_of (pcₚ := 154) (fun _ => x_iinc (len := 3) rfl (rk_o (rk_o (rk_o (l95_4) rfl rfl) rfl rfl) rfl rfl)) ?_
      refine Ew_of (pcₚ := 95) (fun _ => x_goto rfl rfl) ?_
      exact ih95 _ (msE hm95 q_1726 (q_1727 b57)) _ σ _ _ (x95_3) (z95) ((x95_4 + (-1))) (rk_o (rk_o (rk_o (rk_o (l95_0) rfl rfl) rfl rfl) rfl rfl) rfl rfl) (rk_o (rk_o (rk_o (rk_o (l95_1) rfl rfl) rfl rfl) rfl rfl) rfl rfl) (rk_o (rk_o (rk_s) rfl rfl) rfl rfl) (rk_o (rk_s) rfl rfl) (rk_s) H (SF_trans (SF_trans (hS_95) hS93 (any_sub rfl)) hS100 (any_sub rfl)) (SA_trans (SA_trans (hA_95) hA94 (any_subA rfl)) hA101 (any_subA rfl)) (y103) ((ey104))  (show inr (x95_3) from j95_1) (show inr (z95) from pz95_0) (show inr ((x95_4 + (-1))) from q_175 b57 j95_2) (show -1 ≤ ((x95_4 + (-1))) ∧ ((x95_4 + (-1))) ≤ (u6_53) - 3 from q_2213 b57 j95_6) (show 0 ≤ (x95_3) ∧ (x95_3) < p2 ((a1)) from j95_5) (show 0 ≤ (z95) ∧ (z95) < p2 ((a1)) from pz95_1) (show (y30) ≤ (y103) ∧ (y103) ≤ (y30) + 6 * ((u6_53) - 3 - ((x95_4 + (-1)))) by omega) rfl
