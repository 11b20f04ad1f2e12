/-- Writer.putMore -/
theorem M439 {σ0 σ : rS} {D N : Nat → Nat} {F : hF} {A : hA} {d c s : Nat} {Q : wQ} (H : HS σ0 σ D N F A) {a1 a2 : Int} (u6_35 : Int) (eu6_35 : F 6 35 = u6_35) (w67 : Int → Int) (ew67 : A 67 = w67) (h0 : inr (a1)) (h1 : inr (a2)) (h2 : 0 ≤ (a1) ∧ (a1) ≤ 2) (h3 : 0 ≤ (a2) ∧ (a2) ≤ 8000) (h4 : 0 ≤ (u6_35) ∧ (u6_35) ≤ 80000000) (k : ∀ σ F' A', HS σ0 σ D N F' A' → SF [(6, 35)] F F' → SA [69] A A' → ∀ y6_35 : Int, F' 6 35 = y6_35 → ((y6_35) = (u6_35) + ((w67)) (8001 * (a1) + (a2))) → Q none σ c s) : Ew 439 (d + 1) 0 (rargs 0 [.ref (D 6), I a1, I a2]) [] σ c s Q := by
  have r1 : (0 : Int) ≤ u6_35 ∧ u6_35 ≤ 100000000 := by have h1 : (0 : Int) ≤ F 6 35 ∧ F 6 35 ≤ 100000000 := H.frng 6 35; rw [show F 6 35 = u6_35 from (eu6_35)] at h1; exact h1
  refine Ew_of (pc' := 1) (fun _ => x_aload_n rfl rfl) ?_
  refine Ew_of (pc' := 2) (fun _ => x_aload_n rfl rfl) ?_
  refine w_gT H (o := 6) (t := 68) rfl (H.perm 6 rfl) rfl rfl rfl rfl rfl rfl ?_
  refine Ew_of (pc' := 8) (fun _ => x_sipush (z := 8001) rfl (by decide)) ?_
  refine Ew_of (pc' := 9) (fun _ => x_iload_n rfl rfl) ?_
  refine w_imul rfl ?_
  refine Ew_of (pc' := 11) (fun _ => x_iload_n rfl rfl) ?_
  refine w_iadd rfl ?_
  refine w_lI H (o := 68) (n := 24003) rfl (H.perm 68 rfl) rfl rfl (H.fix 68 rfl rfl) (show 0 ≤ ((8001 * a1) + a2) ∧ ((8001 * a1) + a2) < ((24003 : Nat) : Int) by omega) (by decide) (fun v2 ev2 qv2 => ?_)
  have qv2 : (-2147483648 : Int) ≤ v2 ∧ v2 ≤ 2147483647 := qv2
  have ev2 : (A 68) (((8001 * a1) + a2)) = v2 := (congrFun (rfl : A 68 = A 68) (((8001 * a1) + a2))).symm.trans ev2
  refine Ew_of (pc' := 14) (fun _ => x_aload_n rfl rfl) ?_
  refine w_gT H (o := 6) (t := 67) rfl (H.perm 6 rfl) rfl rfl rfl rfl rfl rfl ?_
  refine Ew_of (pc' := 20) (fun _ => x_sipush (z := 8001) rfl (by decide)) ?_
  refine Ew_of (pc' := 21) (fun _ => x_iload_n rfl rfl) ?_
  refine w_imul rfl ?_
  refine Ew_of (pc' := 23) (fun _ => x_iload_n rfl rfl) ?_
  refine w_iadd rfl ?_
  refine w_lI H (o := 67) (n := 24003) rfl (H.perm 67 rfl) rfl rfl (H.fix 67 rfl rfl) (show 0 ≤ ((8001 * a1) + a2) ∧ ((8001 * a1) + a2) < ((24003 : Nat) : Int) by omega) (by decide) (fun v3 ev3 qv3 => ?_)
  have qv3 : (0 : Int) ≤ v3 ∧ v3 ≤ 31 := qv3
  have ev3 : (w67) (((8001 * a1) + a2)) = v3 := (congrFun (ew67) (((8001 * a1) + a2))).symm.trans ev3
  have hmb := ev3
  refine w_inv H (o := 6) rfl rfl rfl (H.perm 6 rfl) rfl rfl (by rfl) (M389 H (u6_35) ((eu6_35)) (A 69) (rfl) (show inr (v2) by omega) (show inr (v3) by omega) (show 0 ≤ (v3) ∧ (v3) ≤ 31 by omega) (show 0 ≤ (u6_35) ∧ (u6_35) ≤ 90000000 by omega) (fun σ F4 A5 H hS6 hA7 y9 ey10 wq11 ewq12 pz8_0 pz8_1 => ⟨rfl, ?_⟩))
  have r13 : (0 : Int) ≤ y9 ∧ y9 ≤ 100000000 := by have h1 : (0 : Int) ≤ F4 6 35 ∧ F4 6 35 ≤ 100000000 := H.frng 6 35; rw [show F4 6 35 = y9 from (ey10)] at h1; exact h1
  exact w_ret rfl (k σ _ _ H (SF_trans (SF_refl) hS6 (any_sub rfl)) (SA_trans (SA_refl) hA7 (any_subA rfl)) (y9) ((ey10)) (show (y9) = (u6_35) + ((w67)) (8001 * a1 + a2) by omega))
/-- Writer.putAllMore -/
theorem M440 {σ0 σ : rS} {D N : Nat → Nat} {F : hF} {A : hA} {d c s : Nat} {Q : wQ} (H : HS σ0 σ D N F A) {a1 : Int} (u6_35 : Int) (eu6_35 : F 6 35 = u6_35) (w67 : Int → Int) (ew67 : A 67 = w67) (h0 : inr (a1)) (h1 : 0 ≤ (a1) ∧ (a1) ≤ 8000) (h2 : 0 ≤ (u6_35) ∧ (u6_35) ≤ 70000000) (k : ∀ σ F' A', HS σ0 σ D N F' A' → SF [(6, 35)] F F' → SA [69] A A' → ∀ y6_35 : Int, F' 6 35 = y6_35 → ((y6_35) = (u6_35) + ((w67)) (8001 * 0 + (a1)) + ((w67)) (8001 * 2 + (a1)) + ((w67)) (8001 * 1 + (a1))) → Q none σ c s) : Ew 440 (d + 2) 0 (rargs 0 [.ref (D 6), I a1]) [] σ c s Q := by
  have r1 : (0 : Int) ≤ u6_35 ∧ u6_35 ≤ 100000000 := by have h1 : (0 : Int) ≤ F 6 35 ∧ F 6 35 ≤ 100000000 := H.frng 6 35; rw [show F 6 35 = u6_35 from (eu6_35)] at h1; exact h1
  have hB : ∀ i, (0 : Int) ≤ (w67) i ∧ (w67) i ≤ 31 := fun i => by have h1 : (0 : Int) ≤ A 67 i ∧ A 67 i ≤ 31 := H.arng 67 i; rw [show A 67 = w67 from ew67] at h1; exact h1
  have hb0 := hB (8001 * 0 + (a1))
  have hb1 := hB (8001 * 1 + (a1))
  have hb2 := hB (8001 * 2 + (a1))
  refine Ew_of (pc' := 1) (fun _ => x_aload_n rfl rfl) ?_
  refine Ew_of (pc' := 2) (fun _ => x_iconst rfl) ?_
  refine Ew_of (pc' := 3) (fun _ => x_iload_n rfl rfl) ?_
  refine w_inv H (o := 6) rfl rfl rfl (H.perm 6 rfl) rfl rfl (by rfl) (M439 H (u6_35) ((eu6_35)) (w67) (ew67) (show inr (0) by omega) (show inr (a1) by omega) (show 0 ≤ (0) ∧ (0) ≤ 2 by omega) (show 0 ≤ (a1) ∧ (a1) ≤ 8000 by omega) (show 0 ≤ (u6_35) ∧ (u6_35) ≤ 80000000 by omega) (fun σ F2 A3 H hS4 hA5 y7 ey8 pz6_0 => ⟨rfl, ?_⟩))
  have r9 : (0 : Int) ≤ y7 ∧ y7 ≤ 100000000 := by have h1 : (0 : Int) ≤ F2 6 35 ∧ F2 6 35 ≤ 100000000 := H.frng 6 35; rw [show F2 6 35 = y7 from (ey8)] at h1; exact h1
  refine Ew_of (pc' := 7) (fun _ => x_aload_n rfl rfl) ?_
  refine Ew_of (pc' := 8) (fun _ => x_iconst rfl) ?_
  refine Ew_of (pc' := 9) (fun _ => x_iload_n rfl rfl) ?_
  refine w_inv H (o := 6) rfl rfl rfl (H.perm 6 rfl) rfl rfl (by rfl) (M439 H (y7) ((ey8)) (w67) ((funext (hA5 67 rfl)).trans (ew67)) (show inr (2) by omega) (show inr (a1) by omega) (show 0 ≤ (2) ∧ (2) ≤ 2 by omega) (show 0 ≤ (a1) ∧ (a1) ≤ 8000 by omega) (show 0 ≤ (y7) ∧ (y7) ≤ 80000000 by omega) (fun σ F10 A11 H hS12 hA13 y15 ey16 pz14_0 => ⟨rfl, ?_⟩))
  have r17 : (0 : Int) ≤ y15 ∧ y15 ≤ 100000000 := by have h1 : (0 : Int) ≤ F10 6 35 ∧ F10 6 35 ≤ 100000000 := H.frng 6 35; rw [show F10 6 35 = y15 from (ey16)] at h1; exact h1
  refine Ew_of (pc' := 13) (fun _ => x_aload_n rfl rfl) ?_
  refine Ew_of (pc' := 14) (fun _ => x_iconst rfl) ?_
  refine Ew_of (pc' := 15) (fun _ => x_iload_n rfl rfl) ?_
  refine w_inv H (o := 6) rfl rfl rfl (H.perm 6 rfl) rfl rfl (by rfl) (M439 H (y15) ((ey16)) (w67) ((funext (hA13 67 rfl)).trans ((funext (hA5 67 rfl)).trans (ew67))) (show inr (1) by omega) (show inr (a1) by omega) (show 0 ≤ (1) ∧ (1) ≤ 2 by omega) (show 0 ≤ (a1) ∧ (a1) ≤ 8000 by omega) (show 0 ≤ (y15) ∧ (y15) ≤ 80000000 by omega) (fun σ F18 A19 H hS20 hA21 y23 ey24 pz22_0 => ⟨rfl, ?_⟩))
  have r25 : (0 : Int) ≤ y23 ∧ y23 ≤ 100000000 := by have h1 : (0 : Int) ≤ F18 6 35 ∧ F18 6 35 ≤ 100000000 := H.frng 6 35; rw [show F18 6 35 = y23 from (ey24)] at h1; exact h1
  exact w_ret rfl (k σ _ _ H (SF_trans (SF_trans (SF_trans (SF_refl) hS4 (any_sub rfl)) hS12 (any_sub rfl)) hS20 (any_sub rfl)) (SA_trans (SA_trans (SA_trans (SA_refl) hA5 (any_subA rfl)) hA13 (any_subA rfl)) hA21 (any_subA rfl)) (y23) ((ey24)) (show (y23) = (u6_35) + ((w67)) (8001 * 0 + a1) + ((w67)) (8001 * 2 + a1) + ((w67)) (8001 * 1 + a1) by omega))
