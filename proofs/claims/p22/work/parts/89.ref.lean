/-- Writer.sayStream -/
theorem M443 {σ0 σ : rS} {D N : Nat → Nat} {F : hF} {A : hA} {d c s : Nat} {Q : wQ} (H : HS σ0 σ D N F A)  (u6_28 : Int) (eu6_28 : F 6 28 = u6_28) (u6_37 : Int) (eu6_37 : F 6 37 = u6_37) (w54 : Int → Int) (ew54 : A 54 = w54) (w55 : Int → Int) (ew55 : A 55 = w55) (w66 : Int → Int) (ew66 : A 66 = w66) (w67 : Int → Int) (ew67 : A 67 = w67) (h0 : 1 ≤ (u6_28)) (h1 : WO ((w54)) ((w55))) (h2 : TBL ((w54)) ((w55)) (sh ((w66)) (8001 * 0)) 0 ((u6_28))) (h3 : TBL ((w54)) ((w55)) (sh ((w66)) (8001 * 1)) 1 ((u6_28))) (h4 : TBL ((w54)) ((w55)) (sh ((w66)) (8001 * 2)) 2 ((u6_28))) (h5 : 0 ≤ (u6_37) ∧ (u6_37) ≤ 80000000) (h6 : 17 * (u6_28) + su (mo3 ((w67))) ((u6_28) : Int).toNat ≤ 180224) (k : ∀ σ Fₚ Aₚ, HS σ0 σ D N Fₚ Aₚ → SF [(6, 35), (6, 37)] F Fₚ → SA [69, 70, 71, 72, 73, 74] A Aₚ → ∀ y6_37 : Int, Fₚ 6 37 = y6_37 → ((u6_37) ≤ (y6_37) ∧ (y6_37) ≤ (u6_37) + 24000) → Q none σ c s) : Ew 443 (d + 3) 0 (rargs 0 [.ref (D 6)]) [] σ c s Q := by
  have r1 : (0 : Int) ≤ u6_28 ∧ u6_28 ≤ 8001 := rngE (show (0 : Int) ≤ F 6 28 ∧ F 6 28 ≤ 8001 from H.frng 6 28) (show F 6 28 = u6_28 from (eu6_28))
  have r2 : (0 : Int) ≤ u6_37 ∧ u6_37 ≤ 100000000 := rngE (show (0 : Int) ≤ F 6 37 ∧ F 6 37 ≤ 100000000 from H.frng 6 37) (show F 6 37 = u6_37 from (eu6_37))
  have htb0 : TBL ((w54)) ((w55)) (sh ((w66)) (8001 * 0)) 0 ((u6_28)) := h2
  have htb1 : TBL ((w54)) ((w55)) (sh ((w66)) (8001 * 1)) 1 ((u6_28)) := h3
  have htb2 : TBL ((w54)) ((w55)) (sh ((w66)) (8001 * 2)) 2 ((u6_28)) := h4
  have hBs : ∀ i, (0 : Int) ≤ (w66) i ∧ (w66) i ≤ 63 := fun i => by have h1 : (0 : Int) ≤ A 66 i ∧ A 66 i ≤ 63 := H.arng 66 i; rw [show A 66 = w66 from ew66] at h1; exact h1
  have hBm : ∀ i, (0 : Int) ≤ (w67) i ∧ (w67) i ≤ 31 := fun i => by have h1 : (0 : Int) ≤ A 67 i ∧ A 67 i ≤ 31 := H.arng 67 i; rw [show A 67 = w67 from ew67] at h1; exact h1
  have : 0 ≤ ((w55)) 0 ∧ 0 ≤ ((w55)) 1 ∧ 0 ≤ ((w55)) 2 := ⟨htb0.1, htb1.1, htb2.1⟩
  have h0o0 : 0 ≤ ((w55)) 0 := htb0.1
  have h0o1 : 0 ≤ ((w55)) 1 := htb1.1
  have h0o2 : 0 ≤ ((w55)) 2 := htb2.1
  have hr0 : ∀ j, 0 ≤ (sh ((w66)) (8001 * 0)) j ∧ (sh ((w66)) (8001 * 0)) j < 64 := fun j => by have := hBs (8001 * 0 + j); show 0 ≤ ((w66)) (8001 * 0 + j) ∧ ((w66)) (8001 * 0 + j) < 64; omega
  have hr1 : ∀ j, 0 ≤ (sh ((w66)) (8001 * 1)) j ∧ (sh ((w66)) (8001 * 1)) j < 64 := fun j => by have := hBs (8001 * 1 + j); show 0 ≤ ((w66)) (8001 * 1 + j) ∧ ((w66)) (8001 * 1 + j) < 64; omega
  have hr2 : ∀ j, 0 ≤ (sh ((w66)) (8001 * 2)) j ∧ (sh ((w66)) (8001 * 2)) j < 64 := fun j => by have := hBs (8001 * 2 + j); show 0 ≤ ((w66)) (8001 * 2 + j) ∧ ((w66)) (8001 * 2 + j) < 64; omega
  have : 1 ≤ ((w55)) (0) → (sh ((w54)) (64 * 0)) ((sh ((w66)) (8001 * 0)) ((u6_28) - 1)) ≠ 0 := fun q => by obtain ⟨s, c, x, y⟩ := htb0.2.2 q; exact COST_nz ⟨s.1, s.2.1⟩ y (by omega) _ (by omega) (by omega)
  have : 1 ≤ ((w55)) (1) → (sh ((w54)) (64 * 1)) ((sh ((w66)) (8001 * 1)) ((u6_28) - 1)) ≠ 0 := fun q => by obtain ⟨s, c, x, y⟩ := htb1.2.2 q; exact COST_nz ⟨s.1, s.2.1⟩ y (by omega) _ (by omega) (by omega)
  have : 1 ≤ ((w55)) (2) → (sh ((w54)) (64 * 2)) ((sh ((w66)) (8001 * 2)) ((u6_28) - 1)) ≠ 0 := fun q => by obtain ⟨s, c, x, y⟩ := htb2.2.2 q; exact COST_nz ⟨s.1, s.2.1⟩ y (by omega) _ (by omega) (by omega)
  refine Ew_of (pcₚ := 1) (fun _ => x_aload_n rfl rfl) ?_
  refine w_inv H (o := 6) rfl rfl rfl (H.perm 6 rfl) rfl rfl (by rfl) (M391 H  (fun σ F3 A4 H hS5 hA6 y8 ey9 pz7_0 => ⟨rfl, ?_⟩))
  have r10 : (0 : Int) ≤ y8 ∧ y8 ≤ 100000000 := rngE (show (0 : Int) ≤ F3 6 35 ∧ F3 6 35 ≤ 100000000 from H.frng 6 35) (show F3 6 35 = y8 from (ey9))
  refine Ew_of (pcₚ := 5) (fun _ => x_aload_n rfl rfl) ?_
  refine Ew_of (pcₚ := 6) (fun _ => x_iconst rfl) ?_
  refine w_inv H (o := 6) rfl rfl rfl (H.perm 6 rfl) rfl rfl (by rfl) (M442 H (u6_28) (((hS5 6 28 rfl).trans (eu6_28))) (w54) ((funext (hA6 54 rfl)).trans (ew54)) (w55) ((funext (hA6 55 rfl)).trans (ew55)) (w66) ((funext (hA6 66 rfl)).trans (ew66)) (A 71) (funext (hA6 71 rfl)) (A 72) (funext (hA6 72 rfl)) (A 73) (funext (hA6 73 rfl)) (show inr (0) from q_20) (show 0 ≤ (0) ∧ (0) ≤ 2 from q_2305) (show 1 ≤ (u6_28) from h0) (show 0 ≤ ((w55)) ((0)) from h0o0) (show WO ((w54)) ((w55)) from h1) (show 1 ≤ ((w55)) ((0)) → (sh ((w54)) (64 * (0))) ((sh ((w66)) (8001 * (0))) ((u6_28) - 1)) ≠ 0 by assumption) (fun z15 σ F11 A12 H hS13 hA14 wq16 ewq17 wq18 ewq19 wq20 ewq21 pz15_0 pz15_1 pz15_2 pz15_3 pz15_4 pz15_5 pz15_6 => ⟨rfl, ?_⟩))
  refine Ew_of (pcₚ := 10) (fun _ => x_istore_n rfl) ?_
  refine Ew_of (pcₚ := 11) (fun _ => x_aload_n rfl (rk_o (rfl) rfl rfl)) ?_
  refine Ew_of (pcₚ := 12) (fun _ => x_iconst rfl) ?_
  refine w_inv H (o := 6) rfl rfl rfl (H.perm 6 rfl) rfl rfl (by rfl) (M442 H (u6_28) ((((hS13 6 28 rfl).trans (hS5 6 28 rfl)).trans (eu6_28))) (w54) ((funext (hA14 54 rfl)).trans ((funext (hA6 54 rfl)).trans (ew54))) (w55) ((funext (hA14 55 rfl)).trans ((funext (hA6 55 rfl)).trans (ew55))) (w66) ((funext (hA14 66 rfl)).trans ((funext (hA6 66 rfl)).trans (ew66))) (wq16) (ewq17) (wq18) (ewq19) (wq20) (ewq21) (show inr (1) from q_23) (show 0 ≤ (1) ∧ (1) ≤ 2 from q_2307) (show 1 ≤ (u6_28) from h0) (show 0 ≤ ((w55)) ((1)) from h0o1) (show WO ((w54)) ((w55)) from h1) (show 1 ≤ ((w55)) ((1)) → (sh ((w54)) (64 * (1))) ((sh ((w66)) (8001 * (1))) ((u6_28) - 1)) ≠ 0 by assumption) (fun z26 σ F22 A23 H hS24 hA25 wq27 ewq28 wq29 ewq30 wq31 ewq32 pz26_0 pz26_1 pz26_2 pz26_3 pz26_4 pz26_5 pz26_6 => ⟨rfl, ?_⟩))
  refine Ew_of (pcₚ := 16) (fun _ => x_istore_n rfl) ?_
  refine Ew_of (pcₚ := 17) (fun _ => x_aload_n rfl (rk_o (rk_o (rfl) rfl rfl) rfl rfl)) ?_
  refine Ew_of (pcₚ := 18) (fun _ => x_iconst rfl) ?_
  refine w_inv H (o := 6) rfl rfl rfl (H.perm 6 rfl) rfl rfl (by rfl) (M442 H (u6_28) (((((hS24 6 28 rfl).trans (hS13 6 28 rfl)).trans (hS5 6 28 rfl)).trans (eu6_28))) (w54) ((funext (hA25 54 rfl)).trans ((funext (hA14 54 rfl)).trans ((funext (hA6 54 rfl)).trans (ew54)))) (w55) ((funext (hA25 55 rfl)).trans ((funext (hA14 55 rfl)).trans ((funext (hA6 55 rfl)).trans (ew55)))) (w66) ((funext (hA25 66 rfl)).trans ((funext (hA14 66 rfl)).trans ((funext (hA6 66 rfl)).trans (ew66)))) (wq27) (ewq28) (wq29) (ewq30) (wq31) (ewq32) (show inr (2) from q_55) (show 0 ≤ (2) ∧ (2) ≤ 2 from q_2306) (show 1 ≤ (u6_28) from h0) (show 0 ≤ ((w55)) ((2)) from h0o2) (show WO ((w54)) ((w55)) from h1) (show 1 ≤ ((w55)) ((2)) → (sh ((w54)) (64 * (2))) ((sh ((w66)) (8001 * (2))) ((u6_28) - 1)) ≠ 0 by assumption) (fun z37 σ F33 A34 H hS35 hA36 wq38 ewq39 wq40 ewq41 wq42 ewq43 pz37_0 pz37_1 pz37_2 pz37_3 pz37_4 pz37_5 pz37_6 => ⟨rfl, ?_⟩))
  refine Ew_of (pcₚ := 22) (fun _ => x_istore_n rfl) ?_
  refine Ew_of (pcₚ := 23) (fun _ => x_aload_n rfl (rk_o (rk_o (rk_o (rfl) rfl rfl) rfl rfl) rfl rfl)) ?_
  refine Ew_of (pcₚ := 24) (fun _ => x_aload_n rfl (rk_o (rk_o (rk_o (rfl) rfl rfl) rfl rfl) rfl rfl)) ?_
  refine w_gI H (o := 6) (w := u6_28) rfl (H.perm 6 rfl) rfl rfl rfl (fun _ => rfl) (((((hS35 6 28 rfl).trans (hS24 6 28 rfl)).trans (hS13 6 28 rfl)).trans (hS5 6 28 rfl)).trans (eu6_28)) ?_
  refine Ew_of (pcₚ := 28) (fun _ => x_iconst rfl) ?_
  refine w_isub rfl ?_
  refine w_inv H (o := 6) rfl rfl rfl (H.perm 6 rfl) rfl rfl (by rfl) (M440 H (y8) (((((hS35 6 35 rfl).trans (hS24 6 35 rfl)).trans (hS13 6 35 rfl)).trans (ey9))) (w67) ((funext (hA36 67 rfl)).trans ((funext (hA25 67 rfl)).trans ((funext (hA14 67 rfl)).trans ((funext (hA6 67 rfl)).trans (ew67))))) (show inr ((u6_28 - 1)) from q_2364 r1) (show 0 ≤ ((u6_28 - 1)) ∧ ((u6_28 - 1)) ≤ 8000 from q_2363 h0 r1) (show 0 ≤ (y8) ∧ (y8) ≤ 70000000 from q_2362 pz7_0 r10) (fun σ F44 A45 H hS46 hA47 y49 ey50 pz48_0 => ⟨rfl, ?_⟩))
  have r51 : (0 : Int) ≤ y49 ∧ y49 ≤ 100000000 := rngE (show (0 : Int) ≤ F44 6 35 ∧ F44 6 35 ≤ 100000000 from H.frng 6 35) (show F44 6 35 = y49 from (ey50))
  refine Ew_of (pcₚ := 33) (fun _ => x_aload_n rfl (rk_o (rk_o (rk_o (rfl) rfl rfl) rfl rfl) rfl rfl)) ?_
  refine w_gI H (o := 6) (w := u6_28) rfl (H.perm 6 rfl) rfl rfl rfl (fun _ => rfl) ((((((hS46 6 28 rfl).trans (hS35 6 28 rfl)).trans (hS24 6 28 rfl)).trans (hS13 6 28 rfl)).trans (hS5 6 28 rfl)).trans (eu6_28)) ?_
  refine Ew_of (pcₚ := 37) (fun _ => x_iconst rfl) ?_
  refine w_isub rfl ?_
  refine Ew_of (pcₚ := 40) (fun _ => x_istore rfl) ?_
  have hbm0 := hBm (8001 * 0 + ((u6_28) - 1))
  have hbm1 := hBm (8001 * 1 + ((u6_28) - 1))
  have hbm2 := hBm (8001 * 2 + ((u6_28) - 1))
  have hsq : su (mo3 ((w67))) ((u6_28) : Int).toNat = su (mo3 ((w67))) ((u6_28) - 1 + 1 : Int).toNat := by rw [show ((u6_28) - 1 + 1 : Int) = (u6_28) by omega]
  have hsl : su (mo3 ((w67))) (((u6_28 - 2)) + 1 : Int).toNat = su (mo3 ((w67))) ((u6_28) - 1 : Int).toNat := by rw [show ((u6_28 - 2)) + 1 = (u6_28) - 1 by omega]
  have hsm := su_s (f := mo3 ((w67))) (i := (u6_28) - 1) (by omega)
  have hm3 : mo3 ((w67)) ((u6_28) - 1) = ((w67)) (8001 * 0 + ((u6_28) - 1)) + ((w67)) (8001 * 2 + ((u6_28) - 1)) + ((w67)) (8001 * 1 + ((u6_28) - 1)) := rfl
  have hs0 : STI ((w54)) ((w55)) ((wq38)) ((wq40)) ((wq42)) (sh ((w66)) (8001 * 0)) 0 ((u6_28)) (0) ((z15)) (0) := STI_0 htb0 pz15_2 pz15_3 (fun k a b => ⟨(pz37_4 k (by omega)).trans (pz26_4 k (by omega)), (pz37_5 k (by omega)).trans (pz26_5 k (by omega)), (pz37_6 k (by omega)).trans (pz26_6 k (by omega))⟩)
  have hs1 : STI ((w54)) ((w55)) ((wq38)) ((wq40)) ((wq42)) (sh ((w66)) (8001 * 1)) 1 ((u6_28)) (0) ((z26)) (0) := STI_0 htb1 pz26_2 pz26_3 (fun k a b => ⟨pz37_4 k (by omega), pz37_5 k (by omega), pz37_6 k (by omega)⟩)
  have hs2 : STI ((w54)) ((w55)) ((wq38)) ((wq40)) ((wq42)) (sh ((w66)) (8001 * 2)) 2 ((u6_28)) (0) ((z37)) (0) := STI_0 htb2 pz37_2 pz37_3 (fun k a b => ⟨rfl, rfl, rfl⟩)
  have : SSI ((w54)) ((w55)) ((wq38)) ((wq40)) ((wq42)) ((w66)) ((w67)) ((u6_28)) (((u6_28 - 2))) ((z15)) ((z26)) ((z37)) ((y49)) := ⟨0, 0, 0, by rw [show (u6_28) - 2 - (((u6_28 - 2))) = 0 by omega]; exact hs0, by rw [show (u6_28) - 2 - (((u6_28 - 2))) = 0 by omega]; exact hs1, by rw [show (u6_28) - 2 - (((u6_28 - 2))) = 0 by omega]; exact hs2, by omega⟩
  suffices hl40 : ∀ (m : Nat), ∀ (ls : rO) (σ : rS) (F_40 : hF) (A_40 : hA) (x40_1 : Int) (x40_2 : Int) (x40_3 : Int) (x40_4 : Int), rlook ls 0 = some (.ref (D 6)) → rlook ls 1 = some (I (x40_1)) → rlook ls 2 = some (I (x40_2)) → rlook ls 3 = some (I (x40_3)) → rlook ls 4 = some (I (x40_4)) → HS σ0 σ D N F_40 A_40 → SF [(6, 35)] F44 F_40 → SA [69] A45 A_40 → ∀ y40_6_35 : Int, F_40 6 35 = y40_6_35 → (inr (x40_1)) → (inr (x40_2)) → (inr (x40_3)) → (inr (x40_4)) → (-1 ≤ (x40_4) ∧ (x40_4) ≤ (u6_28) - 2) → (0 ≤ (y40_6_35) ∧ (y40_6_35) ≤ 200 * ((u6_28) - (x40_4))) → (SSI ((w54)) ((w55)) ((wq38)) ((wq40)) ((wq42)) ((w66)) ((w67)) ((u6_28)) ((x40_4)) ((x40_1)) ((x40_2)) ((x40_3)) ((y40_6_35))) → ((x40_4) + 1).toNat = m → Ew 443 (d + 3) 40 ls [] σ c s Q from
    hl40 _ _ σ _ _ (z15) (z26) (z37) ((u6_28 - 2)) (rk_o (rk_o (rk_o (rk_o (rfl) rfl rfl) rfl rfl) rfl rfl) rfl rfl) (rk_o (rk_o (rk_o (rk_s) rfl rfl) rfl rfl) rfl rfl) (rk_o (rk_o (rk_s) rfl rfl) rfl rfl) (rk_o (rk_s) rfl rfl) (rk_s) H (SF_refl) (SA_refl) (y49) ((ey50))  (show inr (z15) from pz15_0) (show inr (z26) from pz26_0) (show inr (z37) from pz37_0) (show inr ((u6_28 - 2)) from q_2120 r1) (show -1 ≤ ((u6_28 - 2)) ∧ ((u6_28 - 2)) ≤ (u6_28) - 2 from q_2119 h0) (show 0 ≤ (y49) ∧ (y49) ≤ 200 * ((u6_28) - ((u6_28 - 2))) by omega) (show SSI ((w54)) ((w55)) ((wq38)) ((wq40)) ((wq42)) ((w66)) ((w67)) ((u6_28)) (((u6_28 - 2))) ((z15)) ((z26)) ((z37)) ((y49)) by assumption) rfl
  as_aux_lemma =>
  intro m
  induction m using Nat.strongRecOn with
  | _ m ih40 =>
    intro ls σ F_40 A_40 x40_1 x40_2 x40_3 x40_4 l40_0 l40_1 l40_2 l40_3 l40_4 H hS_40 hA_40 y40_6_35 ey40_6_35  j40_0 j40_1 j40_2 j40_3 j40_4 j40_5 j40_6 hm40
    have r52 : (0 : Int) ≤ y40_6_35 ∧ y40_6_35 ≤ 100000000 := rngE (show (0 : Int) ≤ F_40 6 35 ∧ F_40 6 35 ≤ 100000000 from H.frng 6 35) (show F_40 6 35 = y40_6_35 from (ey40_6_35))
    have j40_s : SSI ((w54)) ((w55)) ((wq38)) ((wq40)) ((wq42)) ((w66)) ((w67)) ((u6_28)) ((x40_4)) ((x40_1)) ((x40_2)) ((x40_3)) ((y40_6_35)) := j40_6
    have hBp : ∀ i, (0 : Int) ≤ (wq40) i ∧ (wq40) i ≤ 9 := fun i => by have h1 : (0 : Int) ≤ A_40 72 i ∧ A_40 72 i ≤ 9 := H.arng 72 i; rw [show A_40 72 = wq40 from (funext (hA_40 72 rfl)).trans ((funext (hA47 72 rfl)).trans (ewq41))] at h1; exact h1
    refine Ew_of (pcₚ := 42) (fun _ => x_iload rfl l40_4) ?_
    refine w_iflt (t := 84) rfl rfl (show inr (x40_4) from j40_3) (fun b53 => ?_) (fun b53 => ?_)
    · obtain ⟨x0, x1, x2, q0, q1, q2, qb⟩ := j40_s
      have hz0 : su (mo3 ((w67))) ((x40_4) + 1 : Int).toNat = 0 := by rw [show (x40_4) + 1 = 0 by omega]; rfl
      have hk0 : kO 0 = 6 := by decide
      have hk1 : kO 1 = 5 := by decide
      have hk2 : kO 2 = 6 := by decide
      have he0 := STI_end q0 htb0 (by omega) (by omega) (by rw [hk0]; omega)
      have he1 := STI_end q1 htb1 (by omega) (by omega) (by rw [hk1]; omega)
      have he2 := STI_end q2 htb2 (by omega) (by omega) (by rw [hk2]; omega)
      rw [hk0] at he0
      rw [hk1] at he1
      rw [hk2] at he2
      refine Ew_of (pcₚ := 85) (fun _ => x_aload_n rfl l40_0) ?_
      refine Ew_of (pcₚ := 86) (fun _ => x_iload_n rfl l40_3) ?_
      refine Ew_of (pcₚ := 87) (fun _ => x_aload_n rfl l40_0) ?_
      refine w_gT H (o := 6) (t := 55) rfl (H.perm 6 rfl) rfl rfl rfl rfl rfl rfl ?_
      refine Ew_of (pcₚ := 91) (fun _ => x_iconst rfl) ?_
      refine w_lI H (o := 55) (n := 3) rfl (H.perm 55 rfl) rfl rfl (H.fix 55 rfl rfl) (show 0 ≤ 2 ∧ 2 < ((3 : Nat) : Int) from q_1332) (by decide) (fun v54 ev54 qv54 => ?_)
      have qv54 : (-1 : Int) ≤ v54 ∧ v54 ≤ 9 := qv54
      have ev54 : (w55) (2) = v54 := (congrFun ((funext (hA_40 55 rfl)).trans ((funext (hA47 55 rfl)).trans ((funext (hA36 55 rfl)).trans ((funext (hA25 55 rfl)).trans ((funext (hA14 55 rfl)).trans ((funext (hA6 55 rfl)).trans (ew55))))))) (2)).symm.trans ev54
      refine w_inv H (o := 6) rfl rfl rfl (H.perm 6 rfl) rfl rfl (by rfl) (M389 H (y40_6_35) ((ey40_6_35)) (show inr (x40_3) from j40_2) (show inr (v54) from q_1086 qv54) (show 0 ≤ (v54) ∧ (v54) ≤ 31 from q_2365 ev54 h0o2 qv54) (show 0 ≤ (y40_6_35) ∧ (y40_6_35) ≤ 90000000 by omega) (fun σ F55 A56 H hS57 hA58 y60 ey61 pz59_0 => ⟨rfl, ?_⟩))
      have r62 : (0 : Int) ≤ y60 ∧ y60 ≤ 100000000 := rngE (show (0 : Int) ≤ F55 6 35 ∧ F55 6 35 ≤ 100000000 from H.frng 6 35) (show F55 6 35 = y60 from (ey61))
      refine Ew_of (pcₚ := 96) (fun _ => x_aload_n rfl l40_0) ?_
      refine Ew_of (pcₚ := 97) (fun _ => x_iload_n rfl l40_2) ?_
      refine Ew_of (pcₚ := 98) (fun _ => x_aload_n rfl l40_0) ?_
      refine w_gT H (o := 6) (t := 55) rfl (H.perm 6 rfl) rfl rfl rfl rfl rfl rfl ?_
      refine Ew_of (pcₚ := 102) (fun _ => x_iconst rfl) ?_
      refine w_lI H (o := 55) (n := 3) rfl (H.perm 55 rfl) rfl rfl (H.fix 55 rfl rfl) (show 0 ≤ 1 ∧ 1 < ((3 : Nat) : Int) from q_1331) (by decide) (fun v63 ev63 qv63 => ?_)
      have qv63 : (-1 : Int) ≤ v63 ∧ v63 ≤ 9 := qv63
      have ev63 : (w55) (1) = v63 := (congrFun ((funext (hA58 55 rfl)).trans ((funext (hA_40 55 rfl)).trans ((funext (hA47 55 rfl)).trans ((funext (hA36 55 rfl)).trans ((funext (hA25 55 rfl)).trans ((funext (hA14 55 rfl)).trans ((funext (hA6 55 rfl)).trans (ew55)))))))) (1)).symm.trans ev63
      refine w_inv H (o := 6) rfl rfl rfl (H.perm 6 rfl) rfl rfl (by rfl) (M389 H (y60) ((ey61)) (show inr (x40_2) from j40_1) (show inr (v63) from q_1086 qv63) (show 0 ≤ (v63) ∧ (v63) ≤ 31 from q_2365 ev63 h0o1 qv63) (show 0 ≤ (y60) ∧ (y60) ≤ 90000000 by omega) (fun σ F64 A65 H hS66 hA67 y69 ey70 pz68_0 => ⟨rfl, ?_⟩))
      have r71 : (0 : Int) ≤ y69 ∧ y69 ≤ 100000000 := rngE (show (0 : Int) ≤ F64 6 35 ∧ F64 6 35 ≤ 100000000 from H.frng 6 35) (show F64 6 35 = y69 from (ey70))
      refine Ew_of (pcₚ := 107) (fun _ => x_aload_n rfl l40_0) ?_
      refine Ew_of (pcₚ := 108) (fun _ => x_iload_n rfl l40_1) ?_
      refine Ew_of (pcₚ := 109) (fun _ => x_aload_n rfl l40_0) ?_
      refine w_gT H (o := 6) (t := 55) rfl (H.perm 6 rfl) rfl rfl rfl rfl rfl rfl ?_
      refine Ew_of (pcₚ := 113) (fun _ => x_iconst rfl) ?_
      refine w_lI H (o := 55) (n := 3) rfl (H.perm 55 rfl) rfl rfl (H.fix 55 rfl rfl) (show 0 ≤ 0 ∧ 0 < ((3 : Nat) : Int) from q_1333) (by decide) (fun v72 ev72 qv72 => ?_)
      have qv72 : (-1 : Int) ≤ v72 ∧ v72 ≤ 9 := qv72
      have ev72 : (w55) (0) = v72 := (congrFun ((funext (hA67 55 rfl)).trans ((funext (hA58 55 rfl)).trans ((funext (hA_40 55 rfl)).trans ((funext (hA47 55 rfl)).trans ((funext (hA36 55 rfl)).trans ((funext (hA25 55 rfl)).trans ((funext (hA14 55 rfl)).trans ((funext (hA6 55 rfl)).trans (ew55))))))))) (0)).symm.trans ev72
      refine w_inv H (o := 6) rfl rfl rfl (H.perm 6 rfl) rfl rfl (by rfl) (M389 H (y69) ((ey70)) (show inr (x40_1) from j40_0) (show inr (v72) from q_1086 qv72) (show 0 ≤ (v72) ∧ (v72) ≤ 31 from q_2365 ev72 h0o0 qv72) (show 0 ≤ (y69) ∧ (y69) ≤ 90000000 by omega) (fun σ F73 A74 H hS75 hA76 y78 ey79 pz77_0 => ⟨rfl, ?_⟩))
      have r80 : (0 : Int) ≤ y78 ∧ y78 ≤ 100000000 := rngE (show (0 : Int) ≤ F73 6 35 ∧ F73 6 35 ≤ 100000000 from H.frng 6 35) (show F73 6 35 = y78 from (ey79))
      refine Ew_of (pcₚ := 118) (fun _ => x_aload_n rfl l40_0) ?_
      refine Ew_of (pcₚ := 119) (fun _ => x_iconst rfl) ?_
      refine Ew_of (pcₚ := 120) (fun _ => x_iconst rfl) ?_
      refine w_inv H (o := 6) rfl rfl rfl (H.perm 6 rfl) rfl rfl (by rfl) (M389 H (y78) ((ey79)) (show inr (1) from q_23) (show inr (1) from q_23) (show 0 ≤ (1) ∧ (1) ≤ 31 from q_1911) (show 0 ≤ (y78) ∧ (y78) ≤ 90000000 by omega) (fun σ F81 A82 H hS83 hA84 y86 ey87 pz85_0 => ⟨rfl, ?_⟩))
      have r88 : (0 : Int) ≤ y86 ∧ y86 ≤ 100000000 := rngE (show (0 : Int) ≤ F81 6 35 ∧ F81 6 35 ≤ 100000000 from H.frng 6 35) (show F81 6 35 = y86 from (ey87))
      refine Ew_of (pcₚ := 124) (fun _ => x_aload_n rfl l40_0) ?_
      refine w_inv H (o := 6) rfl rfl rfl (H.perm 6 rfl) rfl rfl (by rfl) (M390 H (y86) ((ey87)) (show 0 ≤ (y86) ∧ (y86) ≤ 99000000 by omega) (fun σ F89 A90 H hS91 hA92 y94 ey95 pz93_0 => ⟨rfl, ?_⟩))
      have r96 : (0 : Int) ≤ y94 ∧ y94 ≤ 100000000 := rngE (show (0 : Int) ≤ F89 6 35 ∧ F89 6 35 ≤ 100000000 from H.frng 6 35) (show F89 6 35 = y94 from (ey95))
      refine Ew_of (pcₚ := 128) (fun _ => x_aload_n rfl l40_0) ?_
      refine w_inv H (o := 6) rfl rfl rfl (H.perm 6 rfl) rfl rfl (by rfl) (M394 H (y94) ((ey95)) (u6_37) (((((((((((((hS91 6 37 rfl).trans (hS83 6 37 rfl)).trans (hS75 6 37 rfl)).trans (hS66 6 37 rfl)).trans (hS57 6 37 rfl)).trans (hS_40 6 37 rfl)).trans (hS46 6 37 rfl)).trans (hS35 6 37 rfl)).trans (hS24 6 37 rfl)).trans (hS13 6 37 rfl)).trans (hS5 6 37 rfl)).trans (eu6_37))) (show 0 ≤ (y94) ∧ (y94) ≤ 192000 by omega) (show 0 ≤ (u6_37) ∧ (u6_37) ≤ 90000000 from q_1874 h5 r2) (fun σ F97 A98 H hS99 hA100 y102 ey103 pz101_0 => ⟨rfl, ?_⟩))
      have r104 : (0 : Int) ≤ y102 ∧ y102 ≤ 100000000 := rngE (show (0 : Int) ≤ F97 6 37 ∧ F97 6 37 ≤ 100000000 from H.frng 6 37) (show F97 6 37 = y102 from (ey103))
      exact w_ret rfl (k σ _ _ H (SF_trans (SF_trans (SF_trans (SF_trans (SF_trans (SF_trans (SF_trans (SF_trans (SF_trans (SF_trans (SF_trans (SF_trans (SF_refl) hS5 (any_sub rfl)) hS13 (any_sub rfl)) hS24 (any_sub rfl)) hS35 (any_sub rfl)) hS46 (any_sub rfl)) hS_40 (any_sub rfl)) hS57 (any_sub rfl)) hS66 (any_sub rfl)) hS75 (any_sub rfl)) hS83 (any_sub rfl)) hS91 (any_sub rfl)) hS99 (any_sub rfl)) (SA_trans (SA_trans (SA_trans (SA_trans (SA_trans (SA_trans (SA_trans (SA_trans (SA_trans (SA_trans (SA_trans (SA_trans (SA_refl) hA6 (any_subA rfl)) hA14 (any_subA rfl)) hA25 (any_subA rfl)) hA36 (any_subA rfl)) hA47 (any_subA rfl)) hA_40 (any_subA rfl)) hA58 (any_subA rfl)) hA67 (any_subA rfl)) hA76 (any_subA rfl)) hA84 (any_subA rfl)) hA92 (any_subA rfl)) hA100 (any_subA rfl)) (y102) ((ey103)) (show (u6_37) ≤ (y102) ∧ (y102) ≤ (u6_37) + 24000 by omega))
    · obtain ⟨x0, x1, x2, q0, q1, q2, qb⟩ := j40_s
      have : 1 ≤ ((w55)) (1) → 5 ≤ ((w55)) (1) ∧ LD (sh ((w54)) (64 * 1)) 64 (((w55)) (1)) (sh ((wq38)) (512 * 1)) (sh ((wq40)) (512 * 1)) (sh ((wq42)) (512 * 1)) ∧ 1 ≤ mass ((sh ((w54)) (64 * 1)) ((sh ((w66)) (8001 * 1)) ((x40_4)))) ∧ mass ((sh ((w54)) (64 * 1)) ((sh ((w66)) (8001 * 1)) ((x40_4)))) ≤ p2 (((w55)) (1)) ∧ 0 ≤ (x40_2) ∧ (x40_2) < p2 (((w55)) (1)) := STI_pre q1 htb1 (by omega) (by omega) (by omega) hr1
      have : 1 ≤ ((w55)) (2) → 5 ≤ ((w55)) (2) ∧ LD (sh ((w54)) (64 * 2)) 64 (((w55)) (2)) (sh ((wq38)) (512 * 2)) (sh ((wq40)) (512 * 2)) (sh ((wq42)) (512 * 2)) ∧ 1 ≤ mass ((sh ((w54)) (64 * 2)) ((sh ((w66)) (8001 * 2)) ((x40_4)))) ∧ mass ((sh ((w54)) (64 * 2)) ((sh ((w66)) (8001 * 2)) ((x40_4)))) ≤ p2 (((w55)) (2)) ∧ 0 ≤ (x40_3) ∧ (x40_3) < p2 (((w55)) (2)) := STI_pre q2 htb2 (by omega) (by omega) (by omega) hr2
      have : 1 ≤ ((w55)) (0) → 5 ≤ ((w55)) (0) ∧ LD (sh ((w54)) (64 * 0)) 64 (((w55)) (0)) (sh ((wq38)) (512 * 0)) (sh ((wq40)) (512 * 0)) (sh ((wq42)) (512 * 0)) ∧ 1 ≤ mass ((sh ((w54)) (64 * 0)) ((sh ((w66)) (8001 * 0)) ((x40_4)))) ∧ mass ((sh ((w54)) (64 * 0)) ((sh ((w66)) (8001 * 0)) ((x40_4)))) ≤ p2 (((w55)) (0)) ∧ 0 ≤ (x40_1) ∧ (x40_1) < p2 (((w55)) (0)) := STI_pre q0 htb0 (by omega) (by omega) (by omega) hr0
      refine Ew_of (pcₚ := 46) (fun _ => x_aload_n rfl l40_0) ?_
      refine Ew_of (pcₚ := 47) (fun _ => x_iconst rfl) ?_
      refine Ew_of (pcₚ := 49) (fun _ => x_iload rfl l40_4) ?_
      refine Ew_of (pcₚ := 50) (fun _ => x_iload_n rfl l40_2) ?_
      refine w_inv H (o := 6) rfl rfl rfl (H.perm 6 rfl) rfl rfl (by rfl) (M441 H (y40_6_35) ((ey40_6_35)) (w55) ((funext (hA_40 55 rfl)).trans ((funext (hA47 55 rfl)).trans ((funext (hA36 55 rfl)).trans ((funext (hA25 55 rfl)).trans ((funext (hA14 55 rfl)).trans ((funext (hA6 55 rfl)).trans (ew55))))))) (w66) ((funext (hA_40 66 rfl)).trans ((funext (hA47 66 rfl)).trans ((funext (hA36 66 rfl)).trans ((funext (hA25 66 rfl)).trans ((funext (hA14 66 rfl)).trans ((funext (hA6 66 rfl)).trans (ew66))))))) (wq38) ((funext (hA_40 71 rfl)).trans ((funext (hA47 71 rfl)).trans (ewq39))) (wq40) ((funext (hA_40 72 rfl)).trans ((funext (hA47 72 rfl)).trans (ewq41))) (wq42) ((funext (hA_40 73 rfl)).trans ((funext (hA47 73 rfl)).trans (ewq43))) (sh ((w54)) (64 * 1)) (show inr (1) from q_23) (show inr (x40_4) from j40_3) (show inr (x40_2) from j40_1) (show 0 ≤ (1) ∧ (1) ≤ 2 from q_2307) (show 0 ≤ (x40_4) ∧ (x40_4) ≤ 8000 from q_2366 b53 j40_4 j40_5 r1) (show 0 ≤ (y40_6_35) ∧ (y40_6_35) ≤ 70000000 by omega) (show 0 ≤ ((w55)) ((1)) from h0o1) (show 1 ≤ ((w55)) ((1)) → 5 ≤ ((w55)) ((1)) ∧ LD (sh ((w54)) (64 * 1)) 64 (((w55)) ((1))) (sh ((wq38)) (512 * (1))) (sh ((wq40)) (512 * (1))) (sh ((wq42)) (512 * (1))) ∧ 1 ≤ mass ((sh ((w54)) (64 * 1)) ((sh ((w66)) (8001 * (1))) ((x40_4)))) ∧ mass ((sh ((w54)) (64 * 1)) ((sh ((w66)) (8001 * (1))) ((x40_4)))) ≤ p2 (((w55)) ((1))) ∧ 0 ≤ (x40_2) ∧ (x40_2) < p2 (((w55)) ((1))) by assumption) (fun z109 σ F105 A106 H hS107 hA108 y110 ey111 pz109_0 pz109_1 pz109_2 pz109_3 => ⟨rfl, ?_⟩))
      have r112 : (0 : Int) ≤ y110 ∧ y110 ≤ 100000000 := rngE (show (0 : Int) ≤ F105 6 35 ∧ F105 6 35 ≤ 100000000 from H.frng 6 35) (show F105 6 35 = y110 from (ey111))
      have hz1 := hBp (512 * 1 + (z109))
      have hze1 : (sh ((wq40)) (512 * 1)) ((z109)) = ((wq40)) (512 * 1 + (z109)) := rfl
      refine Ew_of (pcₚ := 54) (fun _ => x_istore_n rfl) ?_
      refine Ew_of (pcₚ := 55) (fun _ => x_aload_n rfl (rk_o (l40_0) rfl rfl)) ?_
      refine Ew_of (pcₚ := 56) (fun _ => x_iconst rfl) ?_
      refine Ew_of (pcₚ := 58) (fun _ => x_iload rfl (rk_o (l40_4) rfl rfl)) ?_
      refine Ew_of (pcₚ := 59) (fun _ => x_iload_n rfl (rk_o (l40_3) rfl rfl)) ?_
      refine w_inv H (o := 6) rfl rfl rfl (H.perm 6 rfl) rfl rfl (by rfl) (M441 H (y110) ((ey111)) (w55) ((funext (hA108 55 rfl)).trans ((funext (hA_40 55 rfl)).trans ((funext (hA47 55 rfl)).trans ((funext (hA36 55 rfl)).trans ((funext (hA25 55 rfl)).trans ((funext (hA14 55 rfl)).trans ((funext (hA6 55 rfl)).trans (ew55)))))))) (w66) ((funext (hA108 66 rfl)).trans ((funext (hA_40 66 rfl)).trans ((funext (hA47 66 rfl)).trans ((funext (hA36 66 rfl)).trans ((funext (hA25 66 rfl)).trans ((funext (hA14 66 rfl)).trans ((funext (hA6 66 rfl)).trans (ew66)))))))) (wq38) ((funext (hA108 71 rfl)).trans ((funext (hA_40 71 rfl)).trans ((funext (hA47 71 rfl)).trans (ewq39)))) (wq40) ((funext (hA108 72 rfl)).trans ((funext (hA_40 72 rfl)).trans ((funext (hA47 72 rfl)).trans (ewq41)))) (wq42) ((funext (hA108 73 rfl)).trans ((funext (hA_40 73 rfl)).trans ((funext (hA47 73 rfl)).trans (ewq43)))) (sh ((w54)) (64 * 2)) (show inr (2) from q_55) (show inr (x40_4) from j40_3) (show inr (x40_3) from j40_2) (show 0 ≤ (2) ∧ (2) ≤ 2 from q_2306) (show 0 ≤ (x40_4) ∧ (x40_4) ≤ 8000 from q_2366 b53 j40_4 j40_5 r1) (show 0 ≤ (y110) ∧ (y110) ≤ 70000000 by omega) (show 0 ≤ ((w55)) ((2)) from h0o2) (show 1 ≤ ((w55)) ((2)) → 5 ≤ ((w55)) ((2)) ∧ LD (sh ((w54)) (64 * 2)) 64 (((w55)) ((2))) (sh ((wq38)) (512 * (2))) (sh ((wq40)) (512 * (2))) (sh ((wq42)) (512 * (2))) ∧ 1 ≤ mass ((sh ((w54)) (64 * 2)) ((sh ((w66)) (8001 * (2))) ((x40_4)))) ∧ mass ((sh ((w54)) (64 * 2)) ((sh ((w66)) (8001 * (2))) ((x40_4)))) ≤ p2 (((w55)) ((2))) ∧ 0 ≤ (x40_3) ∧ (x40_3) < p2 (((w55)) ((2))) by assumption) (fun z117 σ F113 A114 H hS115 hA116 y118 ey119 pz117_0 pz117_1 pz117_2 pz117_3 => ⟨rfl, ?_⟩))
      have r120 : (0 : Int) ≤ y118 ∧ y118 ≤ 100000000 := rngE (show (0 : Int) ≤ F113 6 35 ∧ F113 6 35 ≤ 100000000 from H.frng 6 35) (show F113 6 35 = y118 from (ey119))
      have hz2 := hBp (512 * 2 + (z117))
      have hze2 : (sh ((wq40)) (512 * 2)) ((z117)) = ((wq40)) (512 * 2 + (z117)) := rfl
      refine Ew_of (pcₚ := 63) (fun _ => x_istore_n rfl) ?_
      refine Ew_of (pcₚ := 64) (fun _ => x_aload_n rfl (rk_o (rk_o (l40_0) rfl rfl) rfl rfl)) ?_
      refine Ew_of (pcₚ := 65) (fun _ => x_iconst rfl) ?_
      refine Ew_of (pcₚ := 67) (fun _ => x_iload rfl (rk_o (rk_o (l40_4) rfl rfl) rfl rfl)) ?_
      refine Ew_of (pcₚ := 68) (fun _ => x_iload_n rfl (rk_o (rk_o (l40_1) rfl rfl) rfl rfl)) ?_
      refine w_inv H (o := 6) rfl rfl rfl (H.perm 6 rfl) rfl rfl (by rfl) (M441 H (y118) ((ey119)) (w55) ((funext (hA116 55 rfl)).trans ((funext (hA108 55 rfl)).trans ((funext (hA_40 55 rfl)).trans ((funext (hA47 55 rfl)).trans ((funext (hA36 55 rfl)).trans ((funext (hA25 55 rfl)).trans ((funext (hA14 55 rfl)).trans ((funext (hA6 55 rfl)).trans (ew55))))))))) (w66) ((funext (hA116 66 rfl)).trans ((funext (hA108 66 rfl)).trans ((funext (hA_40 66 rfl)).trans ((funext (hA47 66 rfl)).trans ((funext (hA36 66 rfl)).trans ((funext (hA25 66 rfl)).trans ((funext (hA14 66 rfl)).trans ((funext (hA6 66 rfl)).trans (ew66))))))))) (wq38) ((funext (hA116 71 rfl)).trans ((funext (hA108 71 rfl)).trans ((funext (hA_40 71 rfl)).trans ((funext (hA47 71 rfl)).trans (ewq39))))) (wq40) ((funext (hA116 72 rfl)).trans ((funext (hA108 72 rfl)).trans ((funext (hA_40 72 rfl)).trans ((funext (hA47 72 rfl)).trans (ewq41))))) (wq42) ((funext (hA116 73 rfl)).trans ((funext (hA108 73 rfl)).trans ((funext (hA_40 73 rfl)).trans ((funext (hA47 73 rfl)).trans (ewq43))))) (sh ((w54)) (64 * 0)) (show inr (0) from q_20) (show inr (x40_4) from j40_3) (show inr (x40_1) from j40_0) (show 0 ≤ (0) ∧ (0) ≤ 2 from q_2305) (show 0 ≤ (x40_4) ∧ (x40_4) ≤ 8000 from q_2366 b53 j40_4 j40_5 r1) (show 0 ≤ (y118) ∧ (y118) ≤ 70000000 by omega) (show 0 ≤ ((w55)) ((0)) from h0o0) (show 1 ≤ ((w55)) ((0)) → 5 ≤ ((w55)) ((0)) ∧ LD (sh ((w54)) (64 * 0)) 64 (((w55)) ((0))) (sh ((wq38)) (512 * (0))) (sh ((wq40)) (512 * (0))) (sh ((wq42)) (512 * (0))) ∧ 1 ≤ mass ((sh ((w54)) (64 * 0)) ((sh ((w66)) (8001 * (0))) ((x40_4)))) ∧ mass ((sh ((w54)) (64 * 0)) ((sh ((w66)) (8001 * (0))) ((x40_4)))) ≤ p2 (((w55)) ((0))) ∧ 0 ≤ (x40_1) ∧ (x40_1) < p2 (((w55)) ((0))) by assumption) (fun z125 σ F121 A122 H hS123 hA124 y126 ey127 pz125_0 pz125_1 pz125_2 pz125_3 => ⟨rfl, ?_⟩))
      have r128 : (0 : Int) ≤ y126 ∧ y126 ≤ 100000000 := rngE (show (0 : Int) ≤ F121 6 35 ∧ F121 6 35 ≤ 100000000 from H.frng 6 35) (show F121 6 35 = y126 from (ey127))
      have hz0 := hBp (512 * 0 + (z125))
      have hze0 : (sh ((wq40)) (512 * 0)) ((z125)) = ((wq40)) (512 * 0 + (z125)) := rfl
      refine Ew_of (pcₚ := 72) (fun _ => x_istore_n rfl) ?_
      refine Ew_of (pcₚ := 73) (fun _ => x_aload_n rfl (rk_o (rk_o (rk_o (l40_0) rfl rfl) rfl rfl) rfl rfl)) ?_
      refine Ew_of (pcₚ := 75) (fun _ => x_iload rfl (rk_o (rk_o (rk_o (l40_4) rfl rfl) rfl rfl) rfl rfl)) ?_
      refine w_inv H (o := 6) rfl rfl rfl (H.perm 6 rfl) rfl rfl (by rfl) (M440 H (y126) ((ey127)) (w67) ((funext (hA124 67 rfl)).trans ((funext (hA116 67 rfl)).trans ((funext (hA108 67 rfl)).trans ((funext (hA_40 67 rfl)).trans ((funext (hA47 67 rfl)).trans ((funext (hA36 67 rfl)).trans ((funext (hA25 67 rfl)).trans ((funext (hA14 67 rfl)).trans ((funext (hA6 67 rfl)).trans (ew67)))))))))) (show inr (x40_4) from j40_3) (show 0 ≤ (x40_4) ∧ (x40_4) ≤ 8000 from q_2366 b53 j40_4 j40_5 r1) (show 0 ≤ (y126) ∧ (y126) ≤ 70000000 by omega) (fun σ F129 A130 H hS131 hA132 y134 ey135 pz133_0 => ⟨rfl, ?_⟩))
      have r136 : (0 : Int) ≤ y134 ∧ y134 ≤ 100000000 := rngE (show (0 : Int) ≤ F129 6 35 ∧ F129 6 35 ≤ 100000000 from H.frng 6 35) (show F129 6 35 = y134 from (ey135))
      have hbm0 := hBm (8001 * 0 + (x40_4))
      have hbm1 := hBm (8001 * 1 + (x40_4))
      have hbm2 := hBm (8001 * 2 + (x40_4))
      have hsm := su_s (f := mo3 ((w67))) (i := (x40_4)) (by omega)
      have hm3 : mo3 ((w67)) ((x40_4)) = ((w67)) (8001 * 0 + (x40_4)) + ((w67)) (8001 * 2 + (x40_4)) + ((w67)) (8001 * 1 + (x40_4)) := rfl
      have : SSI ((w54)) ((w55)) ((wq38)) ((wq40)) ((wq42)) ((w66)) ((w67)) ((u6_28)) ((x40_4) + (-1)) ((z125)) ((z109)) ((z117)) ((y134)) := ⟨_, _, _, STI_s q0 (by omega) (by omega) pz125_2 pz125_3 (by omega), STI_s q1 (by omega) (by omega) pz109_2 pz109_3 (by omega), STI_s q2 (by omega) (by omega) pz117_2 pz117_3 (by omega), by rw [show (x40_4) + (-1) + 1 = (x40_4) by omega]; omega⟩
      refine Ew_of (pcₚ := 81) (fun _ => x_iinc (len := 3) rfl (rk_o (rk_o (rk_o (l40_4) rfl rfl) rfl rfl) rfl rfl)) ?_
      refine Ew_of (pcₚ := 40) (fun _ => x_goto rfl rfl) ?_
      exact ih40 _ (msE hm40 q_1726 (q_1727 b53)) _ σ _ _ (z125) (z109) (z117) ((x40_4 + (-1))) (rk_o (rk_o (rk_o (rk_o (l40_0) rfl rfl) rfl rfl) rfl rfl) rfl rfl) (rk_o (rk_s) rfl rfl) (rk_o (rk_o (rk_o (rk_s) rfl rfl) rfl rfl) rfl rfl) (rk_o (rk_o (rk_s) rfl rfl) rfl rfl) (rk_s) H (SF_trans (SF_trans (SF_trans (SF_trans (hS_40) hS107 (any_sub rfl)) hS115 (any_sub rfl)) hS123 (any_sub rfl)) hS131 (any_sub rfl)) (SA_trans (SA_trans (SA_trans (SA_trans (hA_40) hA108 (any_subA rfl)) hA116 (any_subA rfl)) hA124 (any_subA rfl)) hA132 (any_subA rfl)) (y134) ((ey135))  (show inr (z125) from pz125_0) (show inr (z109) from pz109_0) (show inr (z117) from pz117_0) (show inr ((x40_4 + (-1))) from q_175 b53 j40_3) (show -1 ≤ ((x40_4 + (-1))) ∧ ((x40_4 + (-1))) ≤ (u6_28) - 2 from q_2367 b53 j40_4 j40_5) (show 0 ≤ (y134) ∧ (y134) ≤ 200 * ((u6_28) - ((x40_4 + (-1)))) by omega) (show SSI ((w54)) ((w55)) ((wq38)) ((wq40)) ((wq42)) ((w66)) ((w67)) ((u6_28)) (((x40_4 + (-1)))) ((z125)) ((z109)) ((z117)) ((y134)) by assumption) rfl
