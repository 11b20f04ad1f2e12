/-- Writer.shareCost -/
theorem M415 {σ0 σ : rS} {D N : Nat → Nat} {F : hF} {A : hA} {d c s : Nat} {Q : wQ} (H : HS σ0 σ D N F A) {a1 a2 : Int} (u6_28 : Int) (eu6_28 : F 6 28 = u6_28) (w66 : Int → Int) (ew66 : A 66 = w66) (w78 : Int → Int) (ew78 : A 78 = w78) (lst : Int) (h0 : inr (a1)) (h1 : inr (a2)) (h2 : 0 ≤ (a1) ∧ (a1) ≤ 2) (h3 : 5 ≤ (a2) ∧ (a2) ≤ 9) (h4 : 1 ≤ (u6_28)) (h5 : ∀ i, (0 : Int) ≤ i → i < 64 → 0 ≤ ((w78)) i) (h6 : su (fun i => ((w78)) i) 64 = (u6_28)) (h7 : su (fun i => pos1 (((w78)) i)) 64 ≤ p2 ((a2))) (h8 : ∀ j, 0 ≤ j → j < (u6_28) → 1 ≤ ((w78)) (((w66)) (8001 * (a1) + j))) (h9 : ∀ i, lst < i → i < 64 → 0 ≤ i → ((w78)) i = 0) (h10 : 0 ≤ lst ∧ lst ≤ 63) (k : ∀ (z : Int) σ F' A', HS σ0 σ D N F' A' → SF [(6, 35)] F F' → SA [69, 71, 72, 73, 74, 75, 76, 77] A A' → ∀ y6_35 : Int, F' 6 35 = y6_35 → ∀ v75 : Int → Int, A' 75 = v75 → (inr (z)) → (0 ≤ (z) ∧ (z) ≤ 80000) → (DVI ((w78)) ((v75)) 64) → (su (fun i => mass (((v75)) i)) 64 = p2 ((a2))) → (0 ≤ (y6_35) ∧ (y6_35) ≤ 11 + 12 * (lst + 1)) → (COST (sh ((v75)) 0) ((a2)) (sh ((w66)) (8001 * (a1))) ((u6_28)) ((z) - (y6_35))) → Q (some (I z)) σ c s) : Ew 415 (d + 3) 0 (rargs 0 [.ref (D 6), I a1, I a2]) [] σ c s Q := by
  have r1 : (0 : Int) ≤ u6_28 ∧ u6_28 ≤ 8001 := by have h1 : (0 : Int) ≤ F 6 28 ∧ F 6 28 ≤ 8001 := H.frng 6 28; rw [show F 6 28 = u6_28 from (eu6_28)] at h1; exact h1
  have hcm : ∀ j, 0 ≤ j → j < (u6_28) → 1 ≤ ((w78)) (((w66)) (8001 * (a1) + j)) := by assumption
  have hlz : ∀ i, lst < i → i < 64 → 0 ≤ i → ((w78)) i = 0 := by assumption
  refine Ew_of (pc' := 1) (fun _ => x_aload_n rfl rfl) ?_
  refine Ew_of (pc' := 2) (fun _ => x_aload_n rfl rfl) ?_
  refine w_gI H (o := 6) (w := u6_28) rfl (H.perm 6 rfl) rfl rfl rfl (fun _ => rfl) (eu6_28) ?_
  refine Ew_of (pc' := 6) (fun _ => x_iload_n rfl rfl) ?_
  refine w_inv H (o := 6) rfl rfl rfl (H.perm 6 rfl) rfl rfl (by rfl) (M411 H (w78) (ew78) (show inr (u6_28) by omega) (show inr (a2) by omega) (show 1 ≤ (u6_28) ∧ (u6_28) ≤ 8001 by omega) (show 5 ≤ (a2) ∧ (a2) ≤ 9 by omega) (show ∀ i, (0 : Int) ≤ i → i < 64 → 0 ≤ ((w78)) i by assumption) (show su (fun i => ((w78)) i) 64 = (u6_28) by omega) (show su (fun i => pos1 (((w78)) i)) 64 ≤ p2 ((a2)) by omega) (fun σ F2 A3 H hS4 hA5 wq7 ewq8 pz6_0 pz6_1 => ⟨rfl, ?_⟩))
  have hdv : DVI ((w78)) ((wq7)) 64 := by assumption
  have hsm : su (fun i => mass (((wq7)) i)) 64 = p2 ((a2)) := by assumption
  have hsh : SH ((wq7)) 0 64 ((a2)) lst := SH_div (by omega) hdv hsm hlz
  refine Ew_of (pc' := 10) (fun _ => x_aload_n rfl rfl) ?_
  have r9 : (0 : Int) ≤ F 6 35 ∧ F 6 35 ≤ 100000000 := by have h1 : (0 : Int) ≤ F2 6 35 ∧ F2 6 35 ≤ 100000000 := H.frng 6 35; rw [show F2 6 35 = F 6 35 from (hS4 6 35 rfl)] at h1; exact h1
  refine w_inv H (o := 6) rfl rfl rfl (H.perm 6 rfl) rfl rfl (by rfl) (M391 H (F 6 35) ((hS4 6 35 rfl)) (A 69) (funext (hA5 69 rfl))  (fun σ F10 A11 H hS12 hA13 y15 ey16 wq17 ewq18 pz14_0 pz14_1 => ⟨rfl, ?_⟩))
  have r19 : (0 : Int) ≤ y15 ∧ y15 ≤ 100000000 := by have h1 : (0 : Int) ≤ F10 6 35 ∧ F10 6 35 ≤ 100000000 := H.frng 6 35; rw [show F10 6 35 = y15 from (ey16)] at h1; exact h1
  refine Ew_of (pc' := 14) (fun _ => x_aload_n rfl rfl) ?_
  refine Ew_of (pc' := 15) (fun _ => x_aload_n rfl rfl) ?_
  refine w_gT H (o := 6) (t := 75) rfl (H.perm 6 rfl) rfl rfl rfl rfl rfl rfl ?_
  refine Ew_of (pc' := 19) (fun _ => x_iconst rfl) ?_
  refine Ew_of (pc' := 20) (fun _ => x_iload_n rfl rfl) ?_
  refine w_inv H (o := 6) rfl rfl rfl (H.perm 6 rfl) rfl rfl (by rfl) (M412_75 H (y15) ((ey16)) (wq17) (ewq18) (wq7) ((funext (hA13 75 rfl)).trans (ewq8)) (lst) (show inr (0) by omega) (show inr (a2) by omega) (show SH ((wq7)) (0) 64 (a2) (lst) by assumption) (show 0 ≤ (0) ∧ (0) + 64 ≤ 64 by omega) (show 0 ≤ (y15) ∧ (y15) ≤ 1000000 by omega) (show 0 ≤ (lst) by omega) (fun σ F20 A21 H hS22 hA23 y25 ey26 wq27 ewq28 pz24_0 pz24_1 pz24_2 => ⟨rfl, ?_⟩))
  have r29 : (0 : Int) ≤ y25 ∧ y25 ≤ 100000000 := by have h1 : (0 : Int) ≤ F20 6 35 ∧ F20 6 35 ≤ 100000000 := H.frng 6 35; rw [show F20 6 35 = y25 from (ey26)] at h1; exact h1
  refine Ew_of (pc' := 24) (fun _ => x_aload_n rfl rfl) ?_
  refine w_gI H (o := 6) (w := y25) rfl (H.perm 6 rfl) rfl rfl rfl (fun _ => rfl) (ey26) ?_
  refine Ew_of (pc' := 28) (fun _ => x_aload_n rfl rfl) ?_
  refine Ew_of (pc' := 29) (fun _ => x_iload_n rfl rfl) ?_
  refine Ew_of (pc' := 30) (fun _ => x_aload_n rfl rfl) ?_
  refine w_gT H (o := 6) (t := 75) rfl (H.perm 6 rfl) rfl rfl rfl rfl rfl rfl ?_
  refine Ew_of (pc' := 34) (fun _ => x_iconst rfl) ?_
  refine Ew_of (pc' := 35) (fun _ => x_iload_n rfl rfl) ?_
  have hBs : ∀ i, (0 : Int) ≤ (w66) i ∧ (w66) i ≤ 63 := fun i => by have h1 : (0 : Int) ≤ A21 66 i ∧ A21 66 i ≤ 63 := H.arng 66 i; rw [show A21 66 = w66 from (funext (hA23 66 rfl)).trans ((funext (hA13 66 rfl)).trans ((funext (hA5 66 rfl)).trans (ew66)))] at h1; exact h1
  have hnz : ∀ j, (0 : Int) ≤ j → j < (u6_28) → (sh ((wq7)) 0) ((sh ((w66)) (8001 * (a1))) j) ≠ 0 := fun j a b => by have h1 := hcm j a b; have h2 := hBs (8001 * (a1) + j); have h3 := hdv _ h2.1 (by omega); show ((wq7)) (0 + ((w66)) (8001 * (a1) + j)) ≠ 0; rw [Int.zero_add]; omega
  refine w_inv H (o := 6) rfl rfl rfl (H.perm 6 rfl) rfl rfl (by rfl) (M410_75 H (u6_28) (((((hS22 6 28 rfl).trans (hS12 6 28 rfl)).trans (hS4 6 28 rfl)).trans (eu6_28))) (w66) ((funext (hA23 66 rfl)).trans ((funext (hA13 66 rfl)).trans ((funext (hA5 66 rfl)).trans (ew66)))) (wq7) ((funext (hA23 75 rfl)).trans ((funext (hA13 75 rfl)).trans (ewq8))) (lst) (show inr (a1) by omega) (show inr (0) by omega) (show inr (a2) by omega) (show 0 ≤ (a1) ∧ (a1) ≤ 2 by omega) (show SH ((wq7)) (0) 64 (a2) (lst) by assumption) (show 0 ≤ (0) ∧ (0) + 64 ≤ 64 by omega) (show 1 ≤ (u6_28) by omega) (fun z34 σ F30 A31 H hS32 hA33 pz34_0 pz34_1 pz34_2 pz34_3 => ⟨rfl, ?_⟩))
  have hr := pz34_3 hnz
  have hco := pz34_2 hr
  have hmx : (a2) * (u6_28) ≤ 9 * 8001 := Int.mul_le_mul (by omega) (by omega) (by omega) (by omega)
  refine w_iadd rfl ?_
  have : COST (sh ((wq7)) 0) ((a2)) (sh ((w66)) (8001 * (a1))) ((u6_28)) (((y25 + z34)) - (y25)) := by rw [(show ∀ a b : Int, a + b - a = b from fun a b => by omega)]; exact hco
  exact w_ireturn rfl (k ((y25 + z34)) σ _ _ H (SF_trans (SF_trans (SF_trans (SF_trans (SF_refl) hS4 (any_sub rfl)) hS12 (any_sub rfl)) hS22 (any_sub rfl)) hS32 (any_sub rfl)) (SA_trans (SA_trans (SA_trans (SA_trans (SA_refl) hA5 (any_subA rfl)) hA13 (any_subA rfl)) hA23 (any_subA rfl)) hA33 (any_subA rfl)) (y25) (((hS32 6 35 rfl).trans (ey26))) (wq7) ((funext (hA33 75 rfl)).trans ((funext (hA23 75 rfl)).trans ((funext (hA13 75 rfl)).trans (ewq8)))) (show inr ((y25 + z34)) by omega) (show 0 ≤ ((y25 + z34)) ∧ ((y25 + z34)) ≤ 80000 by omega) (show DVI ((w78)) ((wq7)) 64 by assumption) (show su (fun i => mass (((wq7)) i)) 64 = p2 (a2) by omega) (show 0 ≤ (y25) ∧ (y25) ≤ 11 + 12 * (lst + 1) by omega) (show COST (sh ((wq7)) 0) (a2) (sh ((w66)) (8001 * a1)) ((u6_28)) (((y25 + z34)) - (y25)) by assumption))
