/-- Writer.shareCost -/
theorem M415 {σ0 σ : rS} {D N : Nat → Nat} {F : hF} {A : hA} {d c s : Nat} {Q : wQ} (H : HS σ0 σ D N F A) {a1 a2 : Int} (u6_28 : Int) (eu6_28 : F 6 28 = u6_28) (w66 : Int → Int) (ew66 : A 66 = w66) (w78 : Int → Int) (ew78 : A 78 = w78) (lst : Int) (h0 : inr (a1)) (h1 : inr (a2)) (h2 : 0 ≤ (a1) ∧ (a1) ≤ 2) (h3 : 5 ≤ (a2) ∧ (a2) ≤ 9) (h4 : 1 ≤ (u6_28)) (h5 : ∀ i, (0 : Int) ≤ i → i < 64 → 0 ≤ ((w78)) i) (h6 : su (fun i => ((w78)) i) 64 = (u6_28)) (h7 : su (fun i => pos1 (((w78)) i)) 64 ≤ p2 ((a2))) (h8 : ∀ j, 0 ≤ j → j < (u6_28) → 1 ≤ ((w78)) (((w66)) (8001 * (a1) + j))) (h9 : ∀ i, lst < i → i < 64 → 0 ≤ i → ((w78)) i = 0) (h10 : 0 ≤ lst ∧ lst ≤ 63) (k : ∀ (z : Int) σ Fₚ Aₚ, HS σ0 σ D N Fₚ Aₚ → SF [(6, 35)] F Fₚ → SA [69, 71, 72, 73, 74, 75, 76, 77] A Aₚ → ∀ y6_35 : Int, Fₚ 6 35 = y6_35 → ∀ v75 : Int → Int, Aₚ 75 = v75 → (inr (z)) → (0 ≤ (z) ∧ (z) ≤ 80000) → (DVI ((w78)) ((v75)) 64) → (su (fun i => mass (((v75)) i)) 64 = p2 ((a2))) → (0 ≤ (y6_35) ∧ (y6_35) ≤ 11 + 12 * (lst + 1)) → (COST (sh ((v75)) 0) ((a2)) (sh ((w66)) (8001 * (a1))) ((u6_28)) ((z) - (y6_35))) → Q (some (I z)) σ c s) : Ew 415 (d + 3) 0 (rargs 0 [.ref (D 6), I a1, I a2]) [] σ c s Q := by
  have r1 : (0 : Int) ≤ u6_28 ∧ u6_28 ≤ 8001 := rngE (show (0 : Int) ≤ F 6 28 ∧ F 6 28 ≤ 8001 from H.frng 6 28) (show F 6 28 = u6_28 from (eu6_28))
  have hcm : ∀ j, 0 ≤ j → j < (u6_28) → 1 ≤ ((w78)) (((w66)) (8001 * (a1) + j)) := h8
  have hlz : ∀ i, lst < i → i < 64 → 0 ≤ i → ((w78)) i = 0 := h9
  refine Ew_of (pcₚ := 1) (fun _ => x_aload_n rfl rfl) ?_
  refine Ew_of (pcₚ := 2) (fun _ => x_aload_n rfl rfl) ?_
  refine w_gI H (o := 6) (w := u6_28) rfl (H.perm 6 rfl) rfl rfl rfl (fun _ => rfl) (eu6_28) ?_
  refine Ew_of (pcₚ := 6) (fun _ => x_iload_n rfl rfl) ?_
  refine w_inv H (o := 6) rfl rfl rfl (H.perm 6 rfl) rfl rfl (by rfl) (M411 H (w78) (ew78) (show inr (u6_28) from q_1788 r1) (show inr (a2) from h1) (show 1 ≤ (u6_28) ∧ (u6_28) ≤ 8001 from q_2313 h4 r1) (show 5 ≤ (a2) ∧ (a2) ≤ 9 from h3) (show ∀ i, (0 : Int) ≤ i → i < 64 → 0 ≤ ((w78)) i from h5) (show su (fun i => ((w78)) i) 64 = (u6_28) by omega) (show su (fun i => pos1 (((w78)) i)) 64 ≤ p2 ((a2)) by omega) (fun σ F2 A3 H hS4 hA5 wq7 ewq8 pz6_0 pz6_1 => ⟨rfl, ?_⟩))
  have hdv : DVI ((w78)) ((wq7)) 64 := pz6_0
  have hsm : su (fun i => mass (((wq7)) i)) 64 = p2 ((a2)) := by assumption
  have hsh : SH ((wq7)) 0 64 ((a2)) lst := SH_div (by omega) hdv hsm hlz
  refine Ew_of (pcₚ := 10) (fun _ => x_aload_n rfl rfl) ?_
  refine w_inv H (o := 6) rfl rfl rfl (H.perm 6 rfl) rfl rfl (by rfl) (M391 H  (fun σ F9 A10 H hS11 hA12 y14 ey15 pz13_0 => ⟨rfl, ?_⟩))
  have r16 : (0 : Int) ≤ y14 ∧ y14 ≤ 100000000 := rngE (show (0 : Int) ≤ F9 6 35 ∧ F9 6 35 ≤ 100000000 from H.frng 6 35) (show F9 6 35 = y14 from (ey15))
  refine Ew_of (pcₚ := 14) (fun _ => x_aload_n rfl rfl) ?_
  refine Ew_of (pcₚ := 15) (fun _ => x_aload_n rfl rfl) ?_
  refine w_gT H (o := 6) (t := 75) rfl (H.perm 6 rfl) rfl rfl rfl rfl rfl rfl ?_
  refine Ew_of (pcₚ := 19) (fun _ => x_iconst rfl) ?_
  refine Ew_of (pcₚ := 20) (fun _ => x_iload_n rfl rfl) ?_
  refine w_inv H (o := 6) rfl rfl rfl (H.perm 6 rfl) rfl rfl (by rfl) (M412_75 H (y14) ((ey15)) (wq7) ((funext (hA12 75 rfl)).trans (ewq8)) (lst) (show inr (0) from q_20) (show inr (a2) from h1) (show SH ((wq7)) (0) 64 (a2) (lst) from hsh) (show 0 ≤ (0) ∧ (0) + 64 ≤ 64 from q_2198) (show 0 ≤ (y14) ∧ (y14) ≤ 1000000 from q_2262 pz13_0 r16) (show 0 ≤ (lst) from q_2314 h10) (fun σ F17 A18 H hS19 hA20 y22 ey23 pz21_0 => ⟨rfl, ?_⟩))
  have r24 : (0 : Int) ≤ y22 ∧ y22 ≤ 100000000 := rngE (show (0 : Int) ≤ F17 6 35 ∧ F17 6 35 ≤ 100000000 from H.frng 6 35) (show F17 6 35 = y22 from (ey23))
  refine Ew_of (pcₚ := 24) (fun _ => x_aload_n rfl rfl) ?_
  refine w_gI H (o := 6) (w := y22) rfl (H.perm 6 rfl) rfl rfl rfl (fun _ => rfl) (ey23) ?_
  refine Ew_of (pcₚ := 28) (fun _ => x_aload_n rfl rfl) ?_
  refine Ew_of (pcₚ := 29) (fun _ => x_iload_n rfl rfl) ?_
  refine Ew_of (pcₚ := 30) (fun _ => x_aload_n rfl rfl) ?_
  refine w_gT H (o := 6) (t := 75) rfl (H.perm 6 rfl) rfl rfl rfl rfl rfl rfl ?_
  refine Ew_of (pcₚ := 34) (fun _ => x_iconst rfl) ?_
  refine Ew_of (pcₚ := 35) (fun _ => x_iload_n rfl rfl) ?_
  have hBs : ∀ i, (0 : Int) ≤ (w66) i ∧ (w66) i ≤ 63 := fun i => by have h1 : (0 : Int) ≤ A18 66 i ∧ A18 66 i ≤ 63 := H.arng 66 i; rw [show A18 66 = w66 from (funext (hA20 66 rfl)).trans ((funext (hA12 66 rfl)).trans ((funext (hA5 66 rfl)).trans (ew66)))] at h1; exact h1
  have hnz : ∀ j, (0 : Int) ≤ j → j < (u6_28) → (sh ((wq7)) 0) ((sh ((w66)) (8001 * (a1))) j) ≠ 0 := fun j a b => by have h1 := hcm j a b; have h2 := hBs (8001 * (a1) + j); have h3 := hdv _ h2.1 (by omega); show ((wq7)) (0 + ((w66)) (8001 * (a1) + j)) ≠ 0; rw [Int.zero_add]; omega
  refine w_inv H (o := 6) rfl rfl rfl (H.perm 6 rfl) rfl rfl (by rfl) (M410_75 H (u6_28) (((((hS19 6 28 rfl).trans (hS11 6 28 rfl)).trans (hS4 6 28 rfl)).trans (eu6_28))) (w66) ((funext (hA20 66 rfl)).trans ((funext (hA12 66 rfl)).trans ((funext (hA5 66 rfl)).trans (ew66)))) (wq7) ((funext (hA20 75 rfl)).trans ((funext (hA12 75 rfl)).trans (ewq8))) (lst) (show inr (a1) from h0) (show inr (0) from q_20) (show inr (a2) from h1) (show 0 ≤ (a1) ∧ (a1) ≤ 2 from h2) (show SH ((wq7)) (0) 64 (a2) (lst) from hsh) (show 0 ≤ (0) ∧ (0) + 64 ≤ 64 from q_2198) (show 1 ≤ (u6_28) from h4) (fun z29 σ F25 A26 H hS27 hA28 pz29_0 pz29_1 pz29_2 pz29_3 => ⟨rfl, ?_⟩))
  have hr := pz29_3 hnz
  have hco := pz29_2 hr
  have hmx : (a2) * (u6_28) ≤ 9 * 8001 := Int.mul_le_mul (by omega) (by omega) (by omega) (by omega)
  refine w_iadd rfl ?_
  have : COST (sh ((wq7)) 0) ((a2)) (sh ((w66)) (8001 * (a1))) ((u6_28)) (((y22 + z29)) - (y22)) := by rw [(show ∀ a b : Int, a + b - a = b from fun a b => by omega)]; exact hco
  exact w_ireturn rfl (k ((y22 + z29)) σ _ _ H (SF_trans (SF_trans (SF_trans (SF_trans (SF_refl) hS4 (any_sub rfl)) hS11 (any_sub rfl)) hS19 (any_sub rfl)) hS27 (any_sub rfl)) (SA_trans (SA_trans (SA_trans (SA_trans (SA_refl) hA5 (any_subA rfl)) hA12 (any_subA rfl)) hA20 (any_subA rfl)) hA28 (any_subA rfl)) (y22) (((hS27 6 35 rfl).trans (ey23))) (wq7) ((funext (hA28 75 rfl)).trans ((funext (hA20 75 rfl)).trans ((funext (hA12 75 rfl)).trans (ewq8)))) (show inr ((y22 + z29)) from q_2316 hmx pz29_0 pz29_1 pz29_2 r24) (show 0 ≤ ((y22 + z29)) ∧ ((y22 + z29)) ≤ 80000 by omega) (show DVI ((w78)) ((wq7)) 64 from hdv) (show su (fun i => mass (((wq7)) i)) 64 = p2 (a2) by omega) (show 0 ≤ (y22) ∧ (y22) ≤ 11 + 12 * (lst + 1) from q_2315 pz13_0 pz21_0 r24) (show COST (sh ((wq7)) 0) (a2) (sh ((w66)) (8001 * a1)) ((u6_28)) (((y22 + z29)) - (y22)) by assumption))
