/-- Writer.putMore -/
theorem M439f {σ0 σ : rS} {D N : Nat → Nat} {F : hF} {A : hA} {d c s : Nat} {Q : wQ} (H : HS σ0 σ D N F A) {a1 a2 : Int} (u6_35 : Int) (eu6_35 : F 6 35 = u6_35) (w67 : Int → Int) (ew67 : A 67 = w67) (w68 : Int → Int) (ew68 : A 68 = w68) (w69 : Int → Int) (ew69 : A 69 = w69) (h0 : inr (a1)) (h1 : inr (a2)) (h2 : 0 ≤ (a1) ∧ (a1) ≤ 2) (h3 : 0 ≤ (a2) ∧ (a2) ≤ 8000) (h4 : 0 ≤ (u6_35) ∧ (u6_35) ≤ 80000000) (k : ∀ σ F' A', HS σ0 σ D N F' A' → SF [(6, 35)] F F' → SA [69] A A' → ∀ y6_35 : Int, F' 6 35 = y6_35 → ∀ v69 : Int → Int, A' 69 = v69 → ((y6_35) = (u6_35) + ((w67)) (8001 * (a1) + (a2))) → (IMP ((u6_35) + 40 ≤ 192000) (MDA ((w69)) ((u6_35)) ((v69)) ((y6_35)) (btw (((w68)) (8001 * (a1) + (a2))) (((w67)) (8001 * (a1) + (a2)))))) → Q none σ c s) : Ew 439 (d + 1) 0 (rargs 0 [.ref (D 6), I a1, I a2]) [] σ c s Q := by
  have r1 : (0 : Int) ≤ u6_35 ∧ u6_35 ≤ 100000000 := by have h1 : (0 : Int) ≤ F 6 35 ∧ F 6 35 ≤ 100000000 := H.frng 6 35; rw [show F 6 35 = u6_35 from (eu6_35)] at h1; exact h1
  refine Ew_of (pc' := 1) (fun _ => x_aload_n rfl rfl) ?_
  refine Ew_of (pc' := 2) (fun _ => x_aload_n rfl rfl) ?_
  refine w_gT H (o := 6) (t := 68) rfl (H.perm 6 rfl) rfl rfl rfl rfl rfl rfl ?_
  refine Ew_of (pc' := 8) (fun _ => x_sipush (z := 8001) rfl (by decide)) ?_
  refine Ew_of (pc' := 9) (fun _ => x_iload_n rfl rfl) ?_
  refine w_imul rfl ?_
  refine Ew_of (pc' := 11) (fun _ => x_iload_n rfl rfl) ?_
  refine w_iadd rfl ?_
  refine w_lI H (o := 68) (n := 24003) rfl (H.perm 68 rfl) rfl rfl (H.fix 68 rfl rfl) (show 0 ≤ ((8001 * a1) + a2) ∧ ((8001 * a1) + a2) < ((24003 : Nat) : Int) by omega) (by decide) (fun v2 ev2 qv2 => ?_)
  have qv2 : (-2147483648 : Int) ≤ v2 ∧ v2 ≤ 2147483647 := qv2
  have ev2 : (w68) (((8001 * a1) + a2)) = v2 := (congrFun (ew68) (((8001 * a1) + a2))).symm.trans ev2
  refine Ew_of (pc' := 14) (fun _ => x_aload_n rfl rfl) ?_
  refine w_gT H (o := 6) (t := 67) rfl (H.perm 6 rfl) rfl rfl rfl rfl rfl rfl ?_
  refine Ew_of (pc' := 20) (fun _ => x_sipush (z := 8001) rfl (by decide)) ?_
  refine Ew_of (pc' := 21) (fun _ => x_iload_n rfl rfl) ?_
  refine w_imul rfl ?_
  refine Ew_of (pc' := 23) (fun _ => x_iload_n rfl rfl) ?_
  refine w_iadd rfl ?_
  refine w_lI H (o := 67) (n := 24003) rfl (H.perm 67 rfl) rfl rfl (H.fix 67 rfl rfl) (show 0 ≤ ((8001 * a1) + a2) ∧ ((8001 * a1) + a2) < ((24003 : Nat) : Int) by omega) (by decide) (fun v3 ev3 qv3 => ?_)
  have qv3 : (0 : Int) ≤ v3 ∧ v3 ≤ 31 := qv3
  have ev3 : (w67) (((8001 * a1) + a2)) = v3 := (congrFun (ew67) (((8001 * a1) + a2))).symm.trans ev3
  have hmb := ev3
  have hmo2 := ev2
  have hmb2 := ev3
  refine w_inv H (o := 6) rfl rfl rfl (H.perm 6 rfl) rfl rfl (by rfl) (M389 H (u6_35) ((eu6_35)) (w69) (ew69) (show inr (v2) by omega) (show inr (v3) by omega) (show 0 ≤ (v3) ∧ (v3) ≤ 31 by omega) (show 0 ≤ (u6_35) ∧ (u6_35) ≤ 90000000 by omega) (fun σ F4 A5 H hS6 hA7 y9 ey10 wq11 ewq12 pz8_0 pz8_1 => ⟨rfl, ?_⟩))
  have r13 : (0 : Int) ≤ y9 ∧ y9 ≤ 100000000 := by have h1 : (0 : Int) ≤ F4 6 35 ∧ F4 6 35 ≤ 100000000 := H.frng 6 35; rw [show F4 6 35 = y9 from (ey10)] at h1; exact h1
  have : IMP ((u6_35) + 40 ≤ 192000) (MDA ((w69)) ((u6_35)) ((wq11)) ((y9)) (btw (((w68)) (8001 * (a1) + (a2))) (((w67)) (8001 * (a1) + (a2))))) := fun q => by rw [hmo2, hmb2]; exact pz8_1 (by omega)
  exact w_ret rfl (k σ _ _ H (SF_trans (SF_refl) hS6 (any_sub rfl)) (SA_trans (SA_refl) hA7 (any_subA rfl)) (y9) ((ey10)) (wq11) (ewq12) (show (y9) = (u6_35) + ((w67)) (8001 * a1 + a2) by omega) (show IMP ((u6_35) + 40 ≤ 192000) (MDA ((w69)) ((u6_35)) ((wq11)) ((y9)) (btw (((w68)) (8001 * a1 + a2)) (((w67)) (8001 * a1 + a2)))) by assumption))
/-- Writer.putAllMore -/
theorem M440f {σ0 σ : rS} {D N : Nat → Nat} {F : hF} {A : hA} {d c s : Nat} {Q : wQ} (H : HS σ0 σ D N F A) {a1 : Int} (u6_35 : Int) (eu6_35 : F 6 35 = u6_35) (w67 : Int → Int) (ew67 : A 67 = w67) (w68 : Int → Int) (ew68 : A 68 = w68) (w69 : Int → Int) (ew69 : A 69 = w69) (h0 : inr (a1)) (h1 : 0 ≤ (a1) ∧ (a1) ≤ 8000) (h2 : 0 ≤ (u6_35) ∧ (u6_35) ≤ 70000000) (k : ∀ σ F' A', HS σ0 σ D N F' A' → SF [(6, 35)] F F' → SA [69] A A' → ∀ y6_35 : Int, F' 6 35 = y6_35 → ∀ v69 : Int → Int, A' 69 = v69 → ((y6_35) = (u6_35) + ((w67)) (8001 * 0 + (a1)) + ((w67)) (8001 * 2 + (a1)) + ((w67)) (8001 * 1 + (a1))) → (IMP ((u6_35) + 130 ≤ 192000) (MDA ((w69)) ((u6_35)) ((v69)) ((y6_35)) (XR ((w68)) ((w67)) ((a1))))) → Q none σ c s) : Ew 440 (d + 2) 0 (rargs 0 [.ref (D 6), I a1]) [] σ c s Q := by
  have r1 : (0 : Int) ≤ u6_35 ∧ u6_35 ≤ 100000000 := by have h1 : (0 : Int) ≤ F 6 35 ∧ F 6 35 ≤ 100000000 := H.frng 6 35; rw [show F 6 35 = u6_35 from (eu6_35)] at h1; exact h1
  have hB : ∀ i, (0 : Int) ≤ (w67) i ∧ (w67) i ≤ 31 := fun i => by have h1 : (0 : Int) ≤ A 67 i ∧ A 67 i ≤ 31 := H.arng 67 i; rw [show A 67 = w67 from ew67] at h1; exact h1
  have hb0 := hB (8001 * 0 + (a1))
  have hb1 := hB (8001 * 1 + (a1))
  have hb2 := hB (8001 * 2 + (a1))
  refine Ew_of (pc' := 1) (fun _ => x_aload_n rfl rfl) ?_
  refine Ew_of (pc' := 2) (fun _ => x_iconst rfl) ?_
  refine Ew_of (pc' := 3) (fun _ => x_iload_n rfl rfl) ?_
  refine w_inv H (o := 6) rfl rfl rfl (H.perm 6 rfl) rfl rfl (by rfl) (M439f H (u6_35) ((eu6_35)) (w67) (ew67) (w68) (ew68) (w69) (ew69) (show inr (0) by omega) (show inr (a1) by omega) (show 0 ≤ (0) ∧ (0) ≤ 2 by omega) (show 0 ≤ (a1) ∧ (a1) ≤ 8000 by omega) (show 0 ≤ (u6_35) ∧ (u6_35) ≤ 80000000 by omega) (fun σ F2 A3 H hS4 hA5 y7 ey8 wq9 ewq10 pz6_0 pz6_1 => ⟨rfl, ?_⟩))
  have r11 : (0 : Int) ≤ y7 ∧ y7 ≤ 100000000 := by have h1 : (0 : Int) ≤ F2 6 35 ∧ F2 6 35 ≤ 100000000 := H.frng 6 35; rw [show F2 6 35 = y7 from (ey8)] at h1; exact h1
  refine Ew_of (pc' := 7) (fun _ => x_aload_n rfl rfl) ?_
  refine Ew_of (pc' := 8) (fun _ => x_iconst rfl) ?_
  refine Ew_of (pc' := 9) (fun _ => x_iload_n rfl rfl) ?_
  refine w_inv H (o := 6) rfl rfl rfl (H.perm 6 rfl) rfl rfl (by rfl) (M439f H (y7) ((ey8)) (w67) ((funext (hA5 67 rfl)).trans (ew67)) (w68) ((funext (hA5 68 rfl)).trans (ew68)) (wq9) (ewq10) (show inr (2) by omega) (show inr (a1) by omega) (show 0 ≤ (2) ∧ (2) ≤ 2 by omega) (show 0 ≤ (a1) ∧ (a1) ≤ 8000 by omega) (show 0 ≤ (y7) ∧ (y7) ≤ 80000000 by omega) (fun σ F12 A13 H hS14 hA15 y17 ey18 wq19 ewq20 pz16_0 pz16_1 => ⟨rfl, ?_⟩))
  have r21 : (0 : Int) ≤ y17 ∧ y17 ≤ 100000000 := by have h1 : (0 : Int) ≤ F12 6 35 ∧ F12 6 35 ≤ 100000000 := H.frng 6 35; rw [show F12 6 35 = y17 from (ey18)] at h1; exact h1
  refine Ew_of (pc' := 13) (fun _ => x_aload_n rfl rfl) ?_
  refine Ew_of (pc' := 14) (fun _ => x_iconst rfl) ?_
  refine Ew_of (pc' := 15) (fun _ => x_iload_n rfl rfl) ?_
  refine w_inv H (o := 6) rfl rfl rfl (H.perm 6 rfl) rfl rfl (by rfl) (M439f H (y17) ((ey18)) (w67) ((funext (hA15 67 rfl)).trans ((funext (hA5 67 rfl)).trans (ew67))) (w68) ((funext (hA15 68 rfl)).trans ((funext (hA5 68 rfl)).trans (ew68))) (wq19) (ewq20) (show inr (1) by omega) (show inr (a1) by omega) (show 0 ≤ (1) ∧ (1) ≤ 2 by omega) (show 0 ≤ (a1) ∧ (a1) ≤ 8000 by omega) (show 0 ≤ (y17) ∧ (y17) ≤ 80000000 by omega) (fun σ F22 A23 H hS24 hA25 y27 ey28 wq29 ewq30 pz26_0 pz26_1 => ⟨rfl, ?_⟩))
  have r31 : (0 : Int) ≤ y27 ∧ y27 ≤ 100000000 := by have h1 : (0 : Int) ≤ F22 6 35 ∧ F22 6 35 ≤ 100000000 := H.frng 6 35; rw [show F22 6 35 = y27 from (ey28)] at h1; exact h1
  have : IMP ((u6_35) + 130 ≤ 192000) (MDA ((w69)) ((u6_35)) ((wq29)) ((y27)) (XR ((w68)) ((w67)) ((a1)))) := fun q => MDA_t (pz6_1 (by omega)) (MDA_t (pz16_1 (by omega)) (pz26_1 (by omega)))
  exact w_ret rfl (k σ _ _ H (SF_trans (SF_trans (SF_trans (SF_refl) hS4 (any_sub rfl)) hS14 (any_sub rfl)) hS24 (any_sub rfl)) (SA_trans (SA_trans (SA_trans (SA_refl) hA5 (any_subA rfl)) hA15 (any_subA rfl)) hA25 (any_subA rfl)) (y27) ((ey28)) (wq29) (ewq30) (show (y27) = (u6_35) + ((w67)) (8001 * 0 + a1) + ((w67)) (8001 * 2 + a1) + ((w67)) (8001 * 1 + a1) by omega) (show IMP ((u6_35) + 130 ≤ 192000) (MDA ((w69)) ((u6_35)) ((wq29)) ((y27)) (XR ((w68)) ((w67)) (a1))) by assumption))
/-- Writer.putState -/
theorem M441f {σ0 σ : rS} {D N : Nat → Nat} {F : hF} {A : hA} {d c s : Nat} {Q : wQ} (H : HS σ0 σ D N F A) {a1 a2 a3 : Int} (u6_35 : Int) (eu6_35 : F 6 35 = u6_35) (w55 : Int → Int) (ew55 : A 55 = w55) (w66 : Int → Int) (ew66 : A 66 = w66) (w69 : Int → Int) (ew69 : A 69 = w69) (w71 : Int → Int) (ew71 : A 71 = w71) (w72 : Int → Int) (ew72 : A 72 = w72) (w73 : Int → Int) (ew73 : A 73 = w73) (PP_ : Int → Int) (h0 : inr (a1)) (h1 : inr (a2)) (h2 : inr (a3)) (h3 : 0 ≤ (a1) ∧ (a1) ≤ 2) (h4 : 0 ≤ (a2) ∧ (a2) ≤ 8000) (h5 : 0 ≤ (u6_35) ∧ (u6_35) ≤ 70000000) (h6 : 0 ≤ ((w55)) ((a1))) (h7 : 1 ≤ ((w55)) ((a1)) → 5 ≤ ((w55)) ((a1)) ∧ LD PP_ 64 (((w55)) ((a1))) (sh ((w71)) (512 * (a1))) (sh ((w72)) (512 * (a1))) (sh ((w73)) (512 * (a1))) ∧ 1 ≤ mass (PP_ ((sh ((w66)) (8001 * (a1))) ((a2)))) ∧ mass (PP_ ((sh ((w66)) (8001 * (a1))) ((a2)))) ≤ p2 (((w55)) ((a1))) ∧ 0 ≤ (a3) ∧ (a3) < p2 (((w55)) ((a1)))) (k : ∀ (z : Int) σ F' A', HS σ0 σ D N F' A' → SF [(6, 35)] F F' → SA [69] A A' → ∀ y6_35 : Int, F' 6 35 = y6_35 → ∀ v69 : Int → Int, A' 69 = v69 → (inr (z)) → (0 ≤ (z) ∧ (z) ≤ 511) → (((w55)) ((a1)) ≤ 0 → (z) = 0 ∧ (y6_35) = (u6_35)) → (1 ≤ ((w55)) ((a1)) → LEAD (sh ((w71)) (512 * (a1))) (sh ((w72)) (512 * (a1))) (sh ((w73)) (512 * (a1))) (((w55)) ((a1))) ((sh ((w66)) (8001 * (a1))) ((a2))) ((a3)) ((z)) ∧ (y6_35) = (u6_35) + (sh ((w72)) (512 * (a1))) ((z))) → ((z) = (nxS (btS (((w55)) ((a1))) PP_) ((sh ((w66)) (8001 * (a1))) ((a2))) ((a3))).1) → (IMP ((u6_35) + 40 ≤ 192000) (MDA ((w69)) ((u6_35)) ((v69)) ((y6_35)) ((nxS (btS (((w55)) ((a1))) PP_) ((sh ((w66)) (8001 * (a1))) ((a2))) ((a3))).2))) → Q (some (I z)) σ c s) : Ew 441 (d + 1) 0 (rargs 0 [.ref (D 6), I a1, I a2, I a3]) [] σ c s Q := by
  have r1 : (0 : Int) ≤ u6_35 ∧ u6_35 ≤ 100000000 := by have h1 : (0 : Int) ≤ F 6 35 ∧ F 6 35 ≤ 100000000 := H.frng 6 35; rw [show F 6 35 = u6_35 from (eu6_35)] at h1; exact h1
  have h0r : 0 ≤ ((w55)) ((a1)) := by assumption
  have hpp : 1 ≤ ((w55)) ((a1)) → 5 ≤ ((w55)) ((a1)) ∧ LD PP_ 64 (((w55)) ((a1))) (sh ((w71)) (512 * (a1))) (sh ((w72)) (512 * (a1))) (sh ((w73)) (512 * (a1))) ∧ 1 ≤ mass (PP_ ((sh ((w66)) (8001 * (a1))) ((a2)))) ∧ mass (PP_ ((sh ((w66)) (8001 * (a1))) ((a2)))) ≤ p2 (((w55)) ((a1))) ∧ 0 ≤ (a3) ∧ (a3) < p2 (((w55)) ((a1))) := by assumption
  refine Ew_of (pc' := 1) (fun _ => x_aload_n rfl rfl) ?_
  refine w_gT H (o := 6) (t := 55) rfl (H.perm 6 rfl) rfl rfl rfl rfl rfl rfl ?_
  refine Ew_of (pc' := 5) (fun _ => x_iload_n rfl rfl) ?_
  refine w_lI H (o := 55) (n := 3) rfl (H.perm 55 rfl) rfl rfl (H.fix 55 rfl rfl) (show 0 ≤ a1 ∧ a1 < ((3 : Nat) : Int) by omega) (by decide) (fun v2 ev2 qv2 => ?_)
  have qv2 : (-1 : Int) ≤ v2 ∧ v2 ≤ 9 := qv2
  have ev2 : (w55) (a1) = v2 := (congrFun (ew55) (a1)).symm.trans ev2
  have ho := ev2
  rw [ho] at h0r hpp
  refine w_ifne (t := 11) rfl rfl (show inr (v2) by omega) (fun b3 => ?_) (fun b3 => ?_)
  · refine Ew_of (pc' := 12) (fun _ => x_aload_n rfl rfl) ?_
    have hq := hpp (by omega)
    obtain ⟨q5, qld, qm1, qm2, qa, qb⟩ := hq
    refine Ew_of (pc' := 15) (fun _ => x_sipush (z := 512) rfl (by decide)) ?_
    refine Ew_of (pc' := 16) (fun _ => x_iload_n rfl rfl) ?_
    refine w_imul rfl ?_
    refine Ew_of (pc' := 18) (fun _ => x_aload_n rfl rfl) ?_
    refine w_gT H (o := 6) (t := 55) rfl (H.perm 6 rfl) rfl rfl rfl rfl rfl rfl ?_
    refine Ew_of (pc' := 22) (fun _ => x_iload_n rfl rfl) ?_
    refine w_lI H (o := 55) (n := 3) rfl (H.perm 55 rfl) rfl rfl (H.fix 55 rfl rfl) (show 0 ≤ a1 ∧ a1 < ((3 : Nat) : Int) by omega) (by decide) (fun v4 ev4 qv4 => ?_)
    have qv4 : (-1 : Int) ≤ v4 ∧ v4 ≤ 9 := qv4
    have ev4 : (w55) (a1) = v4 := (congrFun (ew55) (a1)).symm.trans ev4
    refine Ew_of (pc' := 24) (fun _ => x_aload_n rfl rfl) ?_
    refine w_gT H (o := 6) (t := 66) rfl (H.perm 6 rfl) rfl rfl rfl rfl rfl rfl ?_
    refine Ew_of (pc' := 30) (fun _ => x_sipush (z := 8001) rfl (by decide)) ?_
    refine Ew_of (pc' := 31) (fun _ => x_iload_n rfl rfl) ?_
    refine w_imul rfl ?_
    refine Ew_of (pc' := 33) (fun _ => x_iload_n rfl rfl) ?_
    refine w_iadd rfl ?_
    refine w_lI H (o := 66) (n := 24003) rfl (H.perm 66 rfl) rfl rfl (H.fix 66 rfl rfl) (show 0 ≤ ((8001 * a1) + a2) ∧ ((8001 * a1) + a2) < ((24003 : Nat) : Int) by omega) (by decide) (fun v5 ev5 qv5 => ?_)
    have qv5 : (0 : Int) ≤ v5 ∧ v5 ≤ 63 := qv5
    have ev5 : (w66) (((8001 * a1) + a2)) = v5 := (congrFun (ew66) (((8001 * a1) + a2))).symm.trans ev5
    refine Ew_of (pc' := 36) (fun _ => x_iload_n rfl rfl) ?_
    have ho4 := ev4
    have h24 := ho.symm.trans ho4
    rw [h24] at qld qm2 qb
    have hp9 := p2_le9 (o := (v4)) (by omega)
    have hrw : (sh ((w66)) (8001 * (a1))) ((a2)) = (v5) := ev5
    rw [hrw] at qm1 qm2
    have : 1 ≤ mass (PP_ ((v5))) ∧ mass (PP_ ((v5))) ≤ p2 ((v4)) := ⟨qm1, qm2⟩
    refine w_inv H (o := 6) rfl rfl rfl (H.perm 6 rfl) rfl rfl (by rfl) (M409 H (w71) (ew71) (w72) (ew72) (w73) (ew73) (PP_) (show inr ((512 * a1)) by omega) (show inr (v4) by omega) (show inr (v5) by omega) (show inr (a3) by omega) (show LD (PP_) 64 ((v4)) (sh ((w71)) (((512 * a1)))) (sh ((w72)) (((512 * a1)))) (sh ((w73)) (((512 * a1)))) by assumption) (show 5 ≤ (v4) ∧ (v4) ≤ 9 by omega) (show 0 ≤ ((512 * a1)) ∧ ((512 * a1)) + p2 ((v4)) ≤ 2048 by omega) (show 0 ≤ (v5) ∧ (v5) < 64 by omega) (show 1 ≤ mass ((PP_) (v5)) ∧ mass ((PP_) (v5)) ≤ p2 ((v4)) by assumption) (show 0 ≤ (a3) ∧ (a3) < p2 ((v4)) by omega) (fun z10 σ F6 A7 H hS8 hA9 pz10_0 pz10_1 pz10_2 => ⟨rfl, ?_⟩))
    refine Ew_of (pc' := 41) (fun _ => x_istore rfl) ?_
    have hld := pz10_2
    obtain ⟨ql4, hql4⟩ : ∃ q : Int, q = (z10) := ⟨_, rfl⟩
    have hdv7 := LD_dv (st := (a3)) qld (k := (z10)) (by omega) (by omega)
    refine Ew_of (pc' := 42) (fun _ => x_aload_n rfl (rk_o (rfl) rfl rfl)) ?_
    refine Ew_of (pc' := 43) (fun _ => x_iload_n rfl (rk_o (rfl) rfl rfl)) ?_
    refine Ew_of (pc' := 44) (fun _ => x_aload_n rfl (rk_o (rfl) rfl rfl)) ?_
    refine w_gT H (o := 6) (t := 73) rfl (H.perm 6 rfl) rfl rfl rfl rfl rfl rfl ?_
    refine Ew_of (pc' := 50) (fun _ => x_sipush (z := 512) rfl (by decide)) ?_
    refine Ew_of (pc' := 51) (fun _ => x_iload_n rfl (rk_o (rfl) rfl rfl)) ?_
    refine w_imul rfl ?_
    refine Ew_of (pc' := 54) (fun _ => x_iload rfl rk_s) ?_
    refine w_iadd rfl ?_
    refine w_lI H (o := 73) (n := 2048) rfl (H.perm 73 rfl) rfl rfl (H.fix 73 rfl rfl) (show 0 ≤ ((512 * a1) + z10) ∧ ((512 * a1) + z10) < ((2048 : Nat) : Int) by omega) (by decide) (fun v11 ev11 qv11 => ?_)
    have qv11 : (0 : Int) ≤ v11 ∧ v11 ≤ 511 := qv11
    have ev11 : (w73) (((512 * a1) + z10)) = v11 := (congrFun ((funext (hA9 73 rfl)).trans (ew73)) (((512 * a1) + z10))).symm.trans ev11
    have hba7 := ev11
    refine w_isub rfl ?_
    refine Ew_of (pc' := 58) (fun _ => x_aload_n rfl (rk_o (rfl) rfl rfl)) ?_
    refine w_gT H (o := 6) (t := 72) rfl (H.perm 6 rfl) rfl rfl rfl rfl rfl rfl ?_
    refine Ew_of (pc' := 64) (fun _ => x_sipush (z := 512) rfl (by decide)) ?_
    refine Ew_of (pc' := 65) (fun _ => x_iload_n rfl (rk_o (rfl) rfl rfl)) ?_
    refine w_imul rfl ?_
    refine Ew_of (pc' := 68) (fun _ => x_iload rfl rk_s) ?_
    refine w_iadd rfl ?_
    refine w_lI H (o := 72) (n := 2048) rfl (H.perm 72 rfl) rfl rfl (H.fix 72 rfl rfl) (show 0 ≤ ((512 * a1) + z10) ∧ ((512 * a1) + z10) < ((2048 : Nat) : Int) by omega) (by decide) (fun v12 ev12 qv12 => ?_)
    have qv12 : (0 : Int) ≤ v12 ∧ v12 ≤ 9 := qv12
    have ev12 : (w72) (((512 * a1) + z10)) = v12 := (congrFun ((funext (hA9 72 rfl)).trans (ew72)) (((512 * a1) + z10))).symm.trans ev12
    have hbi := ev12
    have hbi7 : (sh ((w72)) (512 * (a1))) ((z10)) = (v12) := ev12
    have hbc7 : btw (((a3 - v11))) ((v12)) = btw ((a3)) ((v12)) := btw_congr (by rw [← hbi7, ← hba7]; exact hdv7)
    have hn7 : nxS (btS (((w55)) ((a1))) PP_) ((sh ((w66)) (8001 * (a1))) ((a2))) ((a3)) = ((z10), btw ((a3)) ((v12))) := nxS_y (o := ((w55)) ((a1))) (by rw [btS_1 (by rw [ho]; omega), ho]; omega) (tbX_bt (by rw [ho4]; omega) (by rw [ho4]; exact qld)) (by rw [ho4, hrw]; exact hld) hbi7
    refine w_inv H (o := 6) rfl rfl rfl (H.perm 6 rfl) rfl rfl (by rfl) (M389 H (u6_35) (((hS8 6 35 rfl).trans (eu6_35))) (w69) ((funext (hA9 69 rfl)).trans (ew69)) (show inr ((a3 - v11)) by omega) (show inr (v12) by omega) (show 0 ≤ (v12) ∧ (v12) ≤ 31 by omega) (show 0 ≤ (u6_35) ∧ (u6_35) ≤ 90000000 by omega) (fun σ F13 A14 H hS15 hA16 y18 ey19 wq20 ewq21 pz17_0 pz17_1 => ⟨rfl, ?_⟩))
    have r22 : (0 : Int) ≤ y18 ∧ y18 ≤ 100000000 := by have h1 : (0 : Int) ≤ F13 6 35 ∧ F13 6 35 ≤ 100000000 := H.frng 6 35; rw [show F13 6 35 = y18 from (ey19)] at h1; exact h1
    have : ((w55)) ((a1)) ≤ 0 → (z10) = 0 ∧ (y18) = (u6_35) := fun q => absurd q (by rw [ho]; omega)
    have : 1 ≤ ((w55)) ((a1)) → LEAD (sh ((w71)) (512 * (a1))) (sh ((w72)) (512 * (a1))) (sh ((w73)) (512 * (a1))) (((w55)) ((a1))) ((sh ((w66)) (8001 * (a1))) ((a2))) ((a3)) ((z10)) ∧ (y18) = (u6_35) + (sh ((w72)) (512 * (a1))) ((z10)) := fun _ => ⟨by rw [ho4, hrw]; exact hld, by have e : (sh ((w72)) (512 * (a1))) ((z10)) = ((w72)) (512 * (a1) + (z10)) := rfl; omega⟩
    have hp73 := pz17_1
    rw [hbc7] at hp73
    have : (z10) = (nxS (btS (((w55)) ((a1))) PP_) ((sh ((w66)) (8001 * (a1))) ((a2))) ((a3))).1 := by rw [hn7]
    have : IMP ((u6_35) + 40 ≤ 192000) (MDA ((w69)) ((u6_35)) ((wq20)) ((y18)) ((nxS (btS (((w55)) ((a1))) PP_) ((sh ((w66)) (8001 * (a1))) ((a2))) ((a3))).2)) := fun q => by rw [hn7]; exact hp73 (by omega)
    refine Ew_of (pc' := 75) (fun _ => x_iload rfl rk_s) ?_
    exact w_ireturn rfl (k (z10) σ _ _ H (SF_trans (SF_trans (SF_refl) hS8 (any_sub rfl)) hS15 (any_sub rfl)) (SA_trans (SA_trans (SA_refl) hA9 (any_subA rfl)) hA16 (any_subA rfl)) (y18) ((ey19)) (wq20) (ewq21) (show inr (z10) by omega) (show 0 ≤ (z10) ∧ (z10) ≤ 511 by omega) (show ((w55)) (a1) ≤ 0 → (z10) = 0 ∧ (y18) = (u6_35) by assumption) (show 1 ≤ ((w55)) (a1) → LEAD (sh ((w71)) (512 * a1)) (sh ((w72)) (512 * a1)) (sh ((w73)) (512 * a1)) (((w55)) (a1)) ((sh ((w66)) (8001 * a1)) (a2)) (a3) ((z10)) ∧ (y18) = (u6_35) + (sh ((w72)) (512 * a1)) ((z10)) by assumption) (show (z10) = (nxS (btS (((w55)) (a1)) PP_) ((sh ((w66)) (8001 * a1)) (a2)) (a3)).1 by assumption) (show IMP ((u6_35) + 40 ≤ 192000) (MDA ((w69)) ((u6_35)) ((wq20)) ((y18)) ((nxS (btS (((w55)) (a1)) PP_) ((sh ((w66)) (8001 * a1)) (a2)) (a3)).2)) by assumption))
  · have : ((w55)) ((a1)) ≤ 0 → (0 : Int) = 0 ∧ (u6_35) = (u6_35) := fun _ => ⟨rfl, rfl⟩
    have : 1 ≤ ((w55)) ((a1)) → LEAD (sh ((w71)) (512 * (a1))) (sh ((w72)) (512 * (a1))) (sh ((w73)) (512 * (a1))) (((w55)) ((a1))) ((sh ((w66)) (8001 * (a1))) ((a2))) ((a3)) 0 ∧ (u6_35) = (u6_35) + (sh ((w72)) (512 * (a1))) 0 := fun q => absurd q (by rw [ho]; omega)
    have hn0 : nxS (btS (((w55)) ((a1))) PP_) ((sh ((w66)) (8001 * (a1))) ((a2))) ((a3)) = (0, []) := nxS_0 (by rw [btS_1 (by rw [ho]; omega), ho]; omega)
    have : (0 : Int) = (nxS (btS (((w55)) ((a1))) PP_) ((sh ((w66)) (8001 * (a1))) ((a2))) ((a3))).1 := by rw [hn0]
    have : IMP ((u6_35) + 40 ≤ 192000) (MDA ((w69)) ((u6_35)) ((w69)) ((u6_35)) ((nxS (btS (((w55)) ((a1))) PP_) ((sh ((w66)) (8001 * (a1))) ((a2))) ((a3))).2)) := fun _ => by rw [hn0]; exact MDA_0
    refine Ew_of (pc' := 10) (fun _ => x_iconst rfl) ?_
    exact w_ireturn rfl (k (0) σ _ _ H (SF_refl) (SA_refl) (u6_35) ((eu6_35)) (w69) (ew69) (show inr (0) by omega) (show 0 ≤ (0) ∧ (0) ≤ 511 by omega) (show ((w55)) (a1) ≤ 0 → (0) = 0 ∧ (u6_35) = (u6_35) by assumption) (show 1 ≤ ((w55)) (a1) → LEAD (sh ((w71)) (512 * a1)) (sh ((w72)) (512 * a1)) (sh ((w73)) (512 * a1)) (((w55)) (a1)) ((sh ((w66)) (8001 * a1)) (a2)) (a3) ((0)) ∧ (u6_35) = (u6_35) + (sh ((w72)) (512 * a1)) ((0)) by assumption) (show (0) = (nxS (btS (((w55)) (a1)) PP_) ((sh ((w66)) (8001 * a1)) (a2)) (a3)).1 by assumption) (show IMP ((u6_35) + 40 ≤ 192000) (MDA ((w69)) ((u6_35)) ((w69)) ((u6_35)) ((nxS (btS (((w55)) (a1)) PP_) ((sh ((w66)) (8001 * a1)) (a2)) (a3)).2)) by assumption))
/-- Writer.lastState -/
theorem M442f {σ0 σ : rS} {D N : Nat → Nat} {F : hF} {A : hA} {d c s : Nat} {Q : wQ} (H : HS σ0 σ D N F A) {a1 : Int} (u6_28 : Int) (eu6_28 : F 6 28 = u6_28) (w54 : Int → Int) (ew54 : A 54 = w54) (w55 : Int → Int) (ew55 : A 55 = w55) (w66 : Int → Int) (ew66 : A 66 = w66) (w71 : Int → Int) (ew71 : A 71 = w71) (w72 : Int → Int) (ew72 : A 72 = w72) (w73 : Int → Int) (ew73 : A 73 = w73) (h0 : inr (a1)) (h1 : 0 ≤ (a1) ∧ (a1) ≤ 2) (h2 : 1 ≤ (u6_28)) (h3 : 0 ≤ ((w55)) ((a1))) (h4 : WO ((w54)) ((w55))) (h5 : 1 ≤ ((w55)) ((a1)) → (sh ((w54)) (64 * (a1))) ((sh ((w66)) (8001 * (a1))) ((u6_28) - 1)) ≠ 0) (k : ∀ (z : Int) σ F' A', HS σ0 σ D N F' A' → SF [] F F' → SA [71, 72, 73, 74] A A' → ∀ v71 : Int → Int, A' 71 = v71 → ∀ v72 : Int → Int, A' 72 = v72 → ∀ v73 : Int → Int, A' 73 = v73 → (inr (z)) → (0 ≤ (z) ∧ (z) ≤ 511) → (((w55)) ((a1)) ≤ 0 → (z) = 0) → (1 ≤ ((w55)) ((a1)) → LD (sh ((w54)) (64 * (a1))) 64 (((w55)) ((a1))) (sh ((v71)) (512 * (a1))) (sh ((v72)) (512 * (a1))) (sh ((v73)) (512 * (a1))) ∧ LOW (sh ((v71)) (512 * (a1))) (sh ((v72)) (512 * (a1))) (((w55)) ((a1))) ((sh ((w66)) (8001 * (a1))) ((u6_28) - 1)) 0 ((z))) → (FRM ((w71)) ((v71)) (512 * (a1)) (512 * (a1) + 512)) → (FRM ((w72)) ((v72)) (512 * (a1)) (512 * (a1) + 512)) → (FRM ((w73)) ((v73)) (512 * (a1)) (512 * (a1) + 512)) → ((z) = slS (btS (((w55)) ((a1))) (sh ((w54)) (64 * (a1)))) (sh ((w66)) (8001 * (a1))) ((u6_28))) → Q (some (I z)) σ c s) : Ew 442 (d + 2) 0 (rargs 0 [.ref (D 6), I a1]) [] σ c s Q := by
  have r1 : (0 : Int) ≤ u6_28 ∧ u6_28 ≤ 8001 := by have h1 : (0 : Int) ≤ F 6 28 ∧ F 6 28 ≤ 8001 := H.frng 6 28; rw [show F 6 28 = u6_28 from (eu6_28)] at h1; exact h1
  have h0r : 0 ≤ ((w55)) ((a1)) := by assumption
  have hwo : WO ((w54)) ((w55)) := by assumption
  have hwt := hwo ((a1)) (by omega) (by omega)
  have hlz : 1 ≤ ((w55)) ((a1)) → (sh ((w54)) (64 * (a1))) ((sh ((w66)) (8001 * (a1))) ((u6_28) - 1)) ≠ 0 := by assumption
  refine Ew_of (pc' := 1) (fun _ => x_aload_n rfl rfl) ?_
  refine w_gT H (o := 6) (t := 55) rfl (H.perm 6 rfl) rfl rfl rfl rfl rfl rfl ?_
  refine Ew_of (pc' := 5) (fun _ => x_iload_n rfl rfl) ?_
  refine w_lI H (o := 55) (n := 3) rfl (H.perm 55 rfl) rfl rfl (H.fix 55 rfl rfl) (show 0 ≤ a1 ∧ a1 < ((3 : Nat) : Int) by omega) (by decide) (fun v2 ev2 qv2 => ?_)
  have qv2 : (-1 : Int) ≤ v2 ∧ v2 ≤ 9 := qv2
  have ev2 : (w55) (a1) = v2 := (congrFun (ew55) (a1)).symm.trans ev2
  have ho := ev2
  refine w_ifne (t := 11) rfl rfl (show inr (v2) by omega) (fun b3 => ?_) (fun b3 => ?_)
  · refine Ew_of (pc' := 12) (fun _ => x_aload_n rfl rfl) ?_
    refine Ew_of (pc' := 13) (fun _ => x_aload_n rfl rfl) ?_
    refine w_gT H (o := 6) (t := 54) rfl (H.perm 6 rfl) rfl rfl rfl rfl rfl rfl ?_
    refine Ew_of (pc' := 18) (fun _ => x_bipush (z := 64) rfl (by decide)) ?_
    refine Ew_of (pc' := 19) (fun _ => x_iload_n rfl rfl) ?_
    refine w_imul rfl ?_
    refine Ew_of (pc' := 22) (fun _ => x_bipush (z := 64) rfl (by decide)) ?_
    refine Ew_of (pc' := 23) (fun _ => x_aload_n rfl rfl) ?_
    refine w_gT H (o := 6) (t := 55) rfl (H.perm 6 rfl) rfl rfl rfl rfl rfl rfl ?_
    refine Ew_of (pc' := 27) (fun _ => x_iload_n rfl rfl) ?_
    refine w_lI H (o := 55) (n := 3) rfl (H.perm 55 rfl) rfl rfl (H.fix 55 rfl rfl) (show 0 ≤ a1 ∧ a1 < ((3 : Nat) : Int) by omega) (by decide) (fun v4 ev4 qv4 => ?_)
    have qv4 : (-1 : Int) ≤ v4 ∧ v4 ≤ 9 := qv4
    have ev4 : (w55) (a1) = v4 := (congrFun (ew55) (a1)).symm.trans ev4
    refine Ew_of (pc' := 31) (fun _ => x_sipush (z := 512) rfl (by decide)) ?_
    refine Ew_of (pc' := 32) (fun _ => x_iload_n rfl rfl) ?_
    refine w_imul rfl ?_
    have ho3 := ev4
    have hps : SH ((w54)) (64 * (a1)) 64 ((v4)) (lastOf ((a1))) := by rcases hwt with q | q; omega; (have q2 : SH ((w54)) (64 * (a1)) 64 (((w55)) ((a1))) (lastOf ((a1))) := q; rw [ho3] at q2; exact q2)
    have hp9 := p2_le9 (o := (v4)) (by omega)
    have h59 : 5 ≤ (v4) ∧ (v4) ≤ 9 := ⟨hps.1, hps.2.1⟩
    have fr0 : True := trivial
    refine w_inv H (o := 6) rfl rfl rfl (H.perm 6 rfl) rfl rfl (by rfl) (M407_54 H (w54) (ew54) (w71) (ew71) (w72) (ew72) (w73) (ew73) (lastOf ((a1))) (show inr ((64 * a1)) by omega) (show inr (64) by omega) (show inr (v4) by omega) (show inr ((512 * a1)) by omega) (show SH ((w54)) ((64 * a1)) (64) (v4) (lastOf ((a1))) by assumption) (show 0 ≤ ((64 * a1)) ∧ 1 ≤ (64) ∧ (64) ≤ 64 ∧ ((64 * a1)) + (64) ≤ 192 by omega) (show 0 ≤ ((512 * a1)) ∧ ((512 * a1)) + p2 ((v4)) ≤ 2048 by omega) (fun σ F5 A6 H hS7 hA8 wq10 ewq11 wq12 ewq13 wq14 ewq15 pz9_0 pz9_1 pz9_2 pz9_3 pz9_4 => ⟨rfl, ?_⟩))
    have hld := pz9_0
    have : FRM ((w71)) ((wq10)) (512 * (a1)) (512 * (a1) + 512) := fun k h => pz9_2 k (by omega)
    have : FRM ((w72)) ((wq12)) (512 * (a1)) (512 * (a1) + 512) := fun k h => pz9_3 k (by omega)
    have : FRM ((w73)) ((wq14)) (512 * (a1)) (512 * (a1) + 512) := fun k h => pz9_4 k (by omega)
    refine Ew_of (pc' := 37) (fun _ => x_aload_n rfl rfl) ?_
    refine Ew_of (pc' := 40) (fun _ => x_sipush (z := 512) rfl (by decide)) ?_
    refine Ew_of (pc' := 41) (fun _ => x_iload_n rfl rfl) ?_
    refine w_imul rfl ?_
    refine Ew_of (pc' := 43) (fun _ => x_aload_n rfl rfl) ?_
    refine w_gT H (o := 6) (t := 55) rfl (H.perm 6 rfl) rfl rfl rfl rfl rfl rfl ?_
    refine Ew_of (pc' := 47) (fun _ => x_iload_n rfl rfl) ?_
    refine w_lI H (o := 55) (n := 3) rfl (H.perm 55 rfl) rfl rfl (H.fix 55 rfl rfl) (show 0 ≤ a1 ∧ a1 < ((3 : Nat) : Int) by omega) (by decide) (fun v16 ev16 qv16 => ?_)
    have qv16 : (-1 : Int) ≤ v16 ∧ v16 ≤ 9 := qv16
    have ev16 : (w55) (a1) = v16 := (congrFun ((funext (hA8 55 rfl)).trans (ew55)) (a1)).symm.trans ev16
    refine Ew_of (pc' := 49) (fun _ => x_aload_n rfl rfl) ?_
    refine w_gT H (o := 6) (t := 66) rfl (H.perm 6 rfl) rfl rfl rfl rfl rfl rfl ?_
    refine Ew_of (pc' := 55) (fun _ => x_sipush (z := 8001) rfl (by decide)) ?_
    refine Ew_of (pc' := 56) (fun _ => x_iload_n rfl rfl) ?_
    refine w_imul rfl ?_
    refine Ew_of (pc' := 58) (fun _ => x_aload_n rfl rfl) ?_
    refine w_gI H (o := 6) (w := u6_28) rfl (H.perm 6 rfl) rfl rfl rfl (fun _ => rfl) ((hS7 6 28 rfl).trans (eu6_28)) ?_
    refine w_iadd rfl ?_
    refine Ew_of (pc' := 63) (fun _ => x_iconst rfl) ?_
    refine w_isub rfl ?_
    refine w_lI H (o := 66) (n := 24003) rfl (H.perm 66 rfl) rfl rfl (H.fix 66 rfl rfl) (show 0 ≤ (((8001 * a1) + u6_28) - 1) ∧ (((8001 * a1) + u6_28) - 1) < ((24003 : Nat) : Int) by omega) (by decide) (fun v17 ev17 qv17 => ?_)
    have qv17 : (0 : Int) ≤ v17 ∧ v17 ≤ 63 := qv17
    have ev17 : (w66) ((((8001 * a1) + u6_28) - 1)) = v17 := (congrFun ((funext (hA8 66 rfl)).trans (ew66)) ((((8001 * a1) + u6_28) - 1))).symm.trans ev17
    refine Ew_of (pc' := 66) (fun _ => x_iconst rfl) ?_
    have ho6 := ev16
    have h36 := ho3.symm.trans ho6
    rw [h36] at hld hp9 h59 hps
    have hsy : (sh ((w66)) (8001 * (a1))) ((u6_28) - 1) = (v17) := by show ((w66)) (8001 * (a1) + ((u6_28) - 1)) = (v17); rw [show 8001 * (a1) + ((u6_28) - 1) = 8001 * (a1) + (u6_28) - 1 by omega]; exact ev17
    have hnl := hlz (by rw [ho6]; omega)
    rw [hsy] at hnl
    have hle := SH_le ((v17)) hps (by omega) (by omega)
    have hme := mass_eq ((sh ((w54)) (64 * (a1))) ((v17)))
    have hee : (sh ((w54)) (64 * (a1))) ((v17)) = ((w54)) (64 * (a1) + (v17)) := rfl
    have : 1 ≤ mass ((sh ((w54)) (64 * (a1))) ((v17))) := by omega
    have : (0 : Int) = 1 → mass ((sh ((w54)) (64 * (a1))) ((v17))) < p2 ((v16)) := fun q => absurd q (by decide)
    refine w_inv H (o := 6) rfl rfl rfl (H.perm 6 rfl) rfl rfl (by rfl) (M408 H (wq10) (ewq11) (wq12) (ewq13) (wq14) (ewq15) (sh ((w54)) (64 * (a1))) (show inr ((512 * a1)) by omega) (show inr (v16) by omega) (show inr (v17) by omega) (show inr (0) by omega) (show (0) = 0 ∨ (0) = 1 by omega) (show LD (sh ((w54)) (64 * (a1))) 64 ((v16)) (sh ((wq10)) (((512 * a1)))) (sh ((wq12)) (((512 * a1)))) (sh ((wq14)) (((512 * a1)))) by assumption) (show 5 ≤ (v16) ∧ (v16) ≤ 9 by omega) (show 0 ≤ ((512 * a1)) ∧ ((512 * a1)) + p2 ((v16)) ≤ 2048 by omega) (show 0 ≤ (v17) ∧ (v17) < 64 by omega) (show 1 ≤ mass ((sh ((w54)) (64 * (a1))) (v17)) by assumption) (show (0) = 1 → mass ((sh ((w54)) (64 * (a1))) (v17)) < p2 ((v16)) by assumption) (fun z22 σ F18 A19 H hS20 hA21 pz22_0 pz22_1 pz22_2 => ⟨rfl, ?_⟩))
    have hlo := pz22_2
    have : ((w55)) ((a1)) ≤ 0 → (z22) = 0 := fun q => absurd q (by rw [ho6]; omega)
    have : 1 ≤ ((w55)) ((a1)) → LD (sh ((w54)) (64 * (a1))) 64 (((w55)) ((a1))) (sh ((wq10)) (512 * (a1))) (sh ((wq12)) (512 * (a1))) (sh ((wq14)) (512 * (a1))) ∧ LOW (sh ((wq10)) (512 * (a1))) (sh ((wq12)) (512 * (a1))) (((w55)) ((a1))) ((sh ((w66)) (8001 * (a1))) ((u6_28) - 1)) 0 ((z22)) := fun _ => by rw [ho6, hsy]; exact ⟨hld, hlo⟩
    have : (z22) = slS (btS (((w55)) ((a1))) (sh ((w54)) (64 * (a1)))) (sh ((w66)) (8001 * (a1))) ((u6_28)) := (slS_y (o := ((w55)) ((a1))) (by rw [btS_1 (by rw [ho6]; omega), ho6]; omega) (tbX_bt (by rw [ho6]; omega) (by rw [ho6]; exact hld)) (by rw [ho6, hsy]; exact hlo)).symm
    exact w_ireturn rfl (k (z22) σ _ _ H (SF_trans (SF_trans (SF_refl) hS7 (any_sub rfl)) hS20 (any_sub rfl)) (SA_trans (SA_trans (SA_refl) hA8 (any_subA rfl)) hA21 (any_subA rfl)) (wq10) ((funext (hA21 71 rfl)).trans (ewq11)) (wq12) ((funext (hA21 72 rfl)).trans (ewq13)) (wq14) ((funext (hA21 73 rfl)).trans (ewq15)) (show inr (z22) by omega) (show 0 ≤ (z22) ∧ (z22) ≤ 511 by omega) (show ((w55)) (a1) ≤ 0 → (z22) = 0 by assumption) (show 1 ≤ ((w55)) (a1) → LD (sh ((w54)) (64 * a1)) 64 (((w55)) (a1)) (sh ((wq10)) (512 * a1)) (sh ((wq12)) (512 * a1)) (sh ((wq14)) (512 * a1)) ∧ LOW (sh ((wq10)) (512 * a1)) (sh ((wq12)) (512 * a1)) (((w55)) (a1)) ((sh ((w66)) (8001 * a1)) ((u6_28) - 1)) 0 ((z22)) by assumption) (show FRM ((w71)) ((wq10)) (512 * a1) (512 * a1 + 512) by assumption) (show FRM ((w72)) ((wq12)) (512 * a1) (512 * a1 + 512) by assumption) (show FRM ((w73)) ((wq14)) (512 * a1) (512 * a1 + 512) by assumption) (show (z22) = slS (btS (((w55)) (a1)) (sh ((w54)) (64 * a1))) (sh ((w66)) (8001 * a1)) ((u6_28)) by assumption))
  · have : ((w55)) ((a1)) ≤ 0 → (0 : Int) = 0 := fun _ => rfl
    have : 1 ≤ ((w55)) ((a1)) → LD (sh ((w54)) (64 * (a1))) 64 (((w55)) ((a1))) (sh ((w71)) (512 * (a1))) (sh ((w72)) (512 * (a1))) (sh ((w73)) (512 * (a1))) ∧ LOW (sh ((w71)) (512 * (a1))) (sh ((w72)) (512 * (a1))) (((w55)) ((a1))) ((sh ((w66)) (8001 * (a1))) ((u6_28) - 1)) 0 ((0 : Int)) := fun q => absurd q (by rw [ho]; omega)
    have : FRM ((w71)) ((w71)) (512 * (a1)) (512 * (a1) + 512) := fun _ _ => rfl
    have : FRM ((w72)) ((w72)) (512 * (a1)) (512 * (a1) + 512) := fun _ _ => rfl
    have : FRM ((w73)) ((w73)) (512 * (a1)) (512 * (a1) + 512) := fun _ _ => rfl
    have : (0 : Int) = slS (btS (((w55)) ((a1))) (sh ((w54)) (64 * (a1)))) (sh ((w66)) (8001 * (a1))) ((u6_28)) := (slS_0 (by rw [btS_1 (by rw [ho]; omega), ho]; omega)).symm
    refine Ew_of (pc' := 10) (fun _ => x_iconst rfl) ?_
    exact w_ireturn rfl (k (0) σ _ _ H (SF_refl) (SA_refl) (w71) (ew71) (w72) (ew72) (w73) (ew73) (show inr (0) by omega) (show 0 ≤ (0) ∧ (0) ≤ 511 by omega) (show ((w55)) (a1) ≤ 0 → (0) = 0 by assumption) (show 1 ≤ ((w55)) (a1) → LD (sh ((w54)) (64 * a1)) 64 (((w55)) (a1)) (sh ((w71)) (512 * a1)) (sh ((w72)) (512 * a1)) (sh ((w73)) (512 * a1)) ∧ LOW (sh ((w71)) (512 * a1)) (sh ((w72)) (512 * a1)) (((w55)) (a1)) ((sh ((w66)) (8001 * a1)) ((u6_28) - 1)) 0 ((0)) by assumption) (show FRM ((w71)) ((w71)) (512 * a1) (512 * a1 + 512) by assumption) (show FRM ((w72)) ((w72)) (512 * a1) (512 * a1 + 512) by assumption) (show FRM ((w73)) ((w73)) (512 * a1) (512 * a1 + 512) by assumption) (show (0) = slS (btS (((w55)) (a1)) (sh ((w54)) (64 * a1))) (sh ((w66)) (8001 * a1)) ((u6_28)) by assumption))
