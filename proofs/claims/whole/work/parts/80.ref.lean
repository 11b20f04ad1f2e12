/-- Writer.putState -/
theorem M441 {σ0 σ : rS} {D N : Nat → Nat} {F : hF} {A : hA} {d c s : Nat} {Q : wQ} (H : HS σ0 σ D N F A) {a1 a2 a3 : Int} (u6_35 : Int) (eu6_35 : F 6 35 = u6_35) (w55 : Int → Int) (ew55 : A 55 = w55) (w66 : Int → Int) (ew66 : A 66 = w66) (w71 : Int → Int) (ew71 : A 71 = w71) (w72 : Int → Int) (ew72 : A 72 = w72) (w73 : Int → Int) (ew73 : A 73 = w73) (PP_ : Int → Int) (h0 : inr (a1)) (h1 : inr (a2)) (h2 : inr (a3)) (h3 : 0 ≤ (a1) ∧ (a1) ≤ 2) (h4 : 0 ≤ (a2) ∧ (a2) ≤ 8000) (h5 : 0 ≤ (u6_35) ∧ (u6_35) ≤ 70000000) (h6 : 0 ≤ ((w55)) ((a1))) (h7 : 1 ≤ ((w55)) ((a1)) → 5 ≤ ((w55)) ((a1)) ∧ LD PP_ 64 (((w55)) ((a1))) (sh ((w71)) (512 * (a1))) (sh ((w72)) (512 * (a1))) (sh ((w73)) (512 * (a1))) ∧ 1 ≤ mass (PP_ ((sh ((w66)) (8001 * (a1))) ((a2)))) ∧ mass (PP_ ((sh ((w66)) (8001 * (a1))) ((a2)))) ≤ p2 (((w55)) ((a1))) ∧ 0 ≤ (a3) ∧ (a3) < p2 (((w55)) ((a1)))) (k : ∀ (z : Int) σ F' A', HS σ0 σ D N F' A' → SF [(6, 35)] F F' → SA [69] A A' → ∀ y6_35 : Int, F' 6 35 = y6_35 → (inr (z)) → (0 ≤ (z) ∧ (z) ≤ 511) → (((w55)) ((a1)) ≤ 0 → (z) = 0 ∧ (y6_35) = (u6_35)) → (1 ≤ ((w55)) ((a1)) → LEAD (sh ((w71)) (512 * (a1))) (sh ((w72)) (512 * (a1))) (sh ((w73)) (512 * (a1))) (((w55)) ((a1))) ((sh ((w66)) (8001 * (a1))) ((a2))) ((a3)) ((z)) ∧ (y6_35) = (u6_35) + (sh ((w72)) (512 * (a1))) ((z))) → Q (some (I z)) σ c s) : Ew 441 (d + 1) 0 (rargs 0 [.ref (D 6), I a1, I a2, I a3]) [] σ c s Q := by
  have r1 : (0 : Int) ≤ u6_35 ∧ u6_35 ≤ 100000000 := by have h1 : (0 : Int) ≤ F 6 35 ∧ F 6 35 ≤ 100000000 := H.frng 6 35; rw [show F 6 35 = u6_35 from (eu6_35)] at h1; exact h1
  have h0r : 0 ≤ ((w55)) ((a1)) := by assumption
  have hpp : 1 ≤ ((w55)) ((a1)) → 5 ≤ ((w55)) ((a1)) ∧ LD PP_ 64 (((w55)) ((a1))) (sh ((w71)) (512 * (a1))) (sh ((w72)) (512 * (a1))) (sh ((w73)) (512 * (a1))) ∧ 1 ≤ mass (PP_ ((sh ((w66)) (8001 * (a1))) ((a2)))) ∧ mass (PP_ ((sh ((w66)) (8001 * (a1))) ((a2)))) ≤ p2 (((w55)) ((a1))) ∧ 0 ≤ (a3) ∧ (a3) < p2 (((w55)) ((a1))) := by assumption
  refine Ew_of (pc' := 1) (fun _ => x_aload_n rfl rfl) ?_
  refine w_gT H (o := 6) (t := 55) rfl (H.perm 6 rfl) rfl rfl rfl rfl rfl rfl ?_
  refine Ew_of (pc' := 5) (fun _ => x_iload_n rfl rfl) ?_
  refine w_lI H (o := 55) (n := 3) rfl (H.perm 55 rfl) rfl rfl (H.fix 55 rfl rfl) (show 0 ≤ a1 ∧ a1 < ((3 : Nat) : Int) by omega) (by decide) (fun v2 ev2 qv2 => ?_)
  have qv2 : (-1 : Int) ≤ v2 ∧ v2 ≤ 9 := qv2
  have ev2 : (w55) (a1) = v2 := (congrFun (ew55) (a1)).symm.trans ev2
  have ho := ev2
  rw [ho] at h0r hpp
  refine w_ifne (t := 11) rfl rfl (show inr (v2) by omega) (fun b3 => ?_) (fun b3 => ?_)
  · refine Ew_of (pc' := 12) (fun _ => x_aload_n rfl rfl) ?_
    have hq := hpp (by omega)
    obtain ⟨q5, qld, qm1, qm2, qa, qb⟩ := hq
    refine Ew_of (pc' := 15) (fun _ => x_sipush (z := 512) rfl (by decide)) ?_
    refine Ew_of (pc' := 16) (fun _ => x_iload_n rfl rfl) ?_
    refine w_imul rfl ?_
    refine Ew_of (pc' := 18) (fun _ => x_aload_n rfl rfl) ?_
    refine w_gT H (o := 6) (t := 55) rfl (H.perm 6 rfl) rfl rfl rfl rfl rfl rfl ?_
    refine Ew_of (pc' := 22) (fun _ => x_iload_n rfl rfl) ?_
    refine w_lI H (o := 55) (n := 3) rfl (H.perm 55 rfl) rfl rfl (H.fix 55 rfl rfl) (show 0 ≤ a1 ∧ a1 < ((3 : Nat) : Int) by omega) (by decide) (fun v4 ev4 qv4 => ?_)
    have qv4 : (-1 : Int) ≤ v4 ∧ v4 ≤ 9 := qv4
    have ev4 : (w55) (a1) = v4 := (congrFun (ew55) (a1)).symm.trans ev4
    refine Ew_of (pc' := 24) (fun _ => x_aload_n rfl rfl) ?_
    refine w_gT H (o := 6) (t := 66) rfl (H.perm 6 rfl) rfl rfl rfl rfl rfl rfl ?_
    refine Ew_of (pc' := 30) (fun _ => x_sipush (z := 8001) rfl (by decide)) ?_
    refine Ew_of (pc' := 31) (fun _ => x_iload_n rfl rfl) ?_
    refine w_imul rfl ?_
    refine Ew_of (pc' := 33) (fun _ => x_iload_n rfl rfl) ?_
    refine w_iadd rfl ?_
    refine w_lI H (o := 66) (n := 24003) rfl (H.perm 66 rfl) rfl rfl (H.fix 66 rfl rfl) (show 0 ≤ ((8001 * a1) + a2) ∧ ((8001 * a1) + a2) < ((24003 : Nat) : Int) by omega) (by decide) (fun v5 ev5 qv5 => ?_)
    have qv5 : (0 : Int) ≤ v5 ∧ v5 ≤ 63 := qv5
    have ev5 : (w66) (((8001 * a1) + a2)) = v5 := (congrFun (ew66) (((8001 * a1) + a2))).symm.trans ev5
    refine Ew_of (pc' := 36) (fun _ => x_iload_n rfl rfl) ?_
    have ho4 := ev4
    have h24 := ho.symm.trans ho4
    rw [h24] at qld qm2 qb
    have hp9 := p2_le9 (o := (v4)) (by omega)
    have hrw : (sh ((w66)) (8001 * (a1))) ((a2)) = (v5) := ev5
    rw [hrw] at qm1 qm2
    have : 1 ≤ mass (PP_ ((v5))) ∧ mass (PP_ ((v5))) ≤ p2 ((v4)) := ⟨qm1, qm2⟩
    refine w_inv H (o := 6) rfl rfl rfl (H.perm 6 rfl) rfl rfl (by rfl) (M409 H (w71) (ew71) (w72) (ew72) (w73) (ew73) (PP_) (show inr ((512 * a1)) by omega) (show inr (v4) by omega) (show inr (v5) by omega) (show inr (a3) by omega) (show LD (PP_) 64 ((v4)) (sh ((w71)) (((512 * a1)))) (sh ((w72)) (((512 * a1)))) (sh ((w73)) (((512 * a1)))) by assumption) (show 5 ≤ (v4) ∧ (v4) ≤ 9 by omega) (show 0 ≤ ((512 * a1)) ∧ ((512 * a1)) + p2 ((v4)) ≤ 2048 by omega) (show 0 ≤ (v5) ∧ (v5) < 64 by omega) (show 1 ≤ mass ((PP_) (v5)) ∧ mass ((PP_) (v5)) ≤ p2 ((v4)) by assumption) (show 0 ≤ (a3) ∧ (a3) < p2 ((v4)) by omega) (fun z10 σ F6 A7 H hS8 hA9 pz10_0 pz10_1 pz10_2 => ⟨rfl, ?_⟩))
    refine Ew_of (pc' := 41) (fun _ => x_istore rfl) ?_
    have hld := pz10_2
    refine Ew_of (pc' := 42) (fun _ => x_aload_n rfl (rk_o (rfl) rfl rfl)) ?_
    refine Ew_of (pc' := 43) (fun _ => x_iload_n rfl (rk_o (rfl) rfl rfl)) ?_
    refine Ew_of (pc' := 44) (fun _ => x_aload_n rfl (rk_o (rfl) rfl rfl)) ?_
    refine w_gT H (o := 6) (t := 73) rfl (H.perm 6 rfl) rfl rfl rfl rfl rfl rfl ?_
    refine Ew_of (pc' := 50) (fun _ => x_sipush (z := 512) rfl (by decide)) ?_
    refine Ew_of (pc' := 51) (fun _ => x_iload_n rfl (rk_o (rfl) rfl rfl)) ?_
    refine w_imul rfl ?_
    refine Ew_of (pc' := 54) (fun _ => x_iload rfl rk_s) ?_
    refine w_iadd rfl ?_
    refine w_lI H (o := 73) (n := 2048) rfl (H.perm 73 rfl) rfl rfl (H.fix 73 rfl rfl) (show 0 ≤ ((512 * a1) + z10) ∧ ((512 * a1) + z10) < ((2048 : Nat) : Int) by omega) (by decide) (fun v11 ev11 qv11 => ?_)
    have qv11 : (0 : Int) ≤ v11 ∧ v11 ≤ 511 := qv11
    have ev11 : (w73) (((512 * a1) + z10)) = v11 := (congrFun ((funext (hA9 73 rfl)).trans (ew73)) (((512 * a1) + z10))).symm.trans ev11
    refine w_isub rfl ?_
    refine Ew_of (pc' := 58) (fun _ => x_aload_n rfl (rk_o (rfl) rfl rfl)) ?_
    refine w_gT H (o := 6) (t := 72) rfl (H.perm 6 rfl) rfl rfl rfl rfl rfl rfl ?_
    refine Ew_of (pc' := 64) (fun _ => x_sipush (z := 512) rfl (by decide)) ?_
    refine Ew_of (pc' := 65) (fun _ => x_iload_n rfl (rk_o (rfl) rfl rfl)) ?_
    refine w_imul rfl ?_
    refine Ew_of (pc' := 68) (fun _ => x_iload rfl rk_s) ?_
    refine w_iadd rfl ?_
    refine w_lI H (o := 72) (n := 2048) rfl (H.perm 72 rfl) rfl rfl (H.fix 72 rfl rfl) (show 0 ≤ ((512 * a1) + z10) ∧ ((512 * a1) + z10) < ((2048 : Nat) : Int) by omega) (by decide) (fun v12 ev12 qv12 => ?_)
    have qv12 : (0 : Int) ≤ v12 ∧ v12 ≤ 9 := qv12
    have ev12 : (w72) (((512 * a1) + z10)) = v12 := (congrFun ((funext (hA9 72 rfl)).trans (ew72)) (((512 * a1) + z10))).symm.trans ev12
    have hbi := ev12
    refine w_inv H (o := 6) rfl rfl rfl (H.perm 6 rfl) rfl rfl (by rfl) (M389 H (u6_35) (((hS8 6 35 rfl).trans (eu6_35))) (A 69) (funext (hA9 69 rfl)) (show inr ((a3 - v11)) by omega) (show inr (v12) by omega) (show 0 ≤ (v12) ∧ (v12) ≤ 31 by omega) (show 0 ≤ (u6_35) ∧ (u6_35) ≤ 90000000 by omega) (fun σ F13 A14 H hS15 hA16 y18 ey19 wq20 ewq21 pz17_0 pz17_1 => ⟨rfl, ?_⟩))
    have r22 : (0 : Int) ≤ y18 ∧ y18 ≤ 100000000 := by have h1 : (0 : Int) ≤ F13 6 35 ∧ F13 6 35 ≤ 100000000 := H.frng 6 35; rw [show F13 6 35 = y18 from (ey19)] at h1; exact h1
    have : ((w55)) ((a1)) ≤ 0 → (z10) = 0 ∧ (y18) = (u6_35) := fun q => absurd q (by rw [ho]; omega)
    have : 1 ≤ ((w55)) ((a1)) → LEAD (sh ((w71)) (512 * (a1))) (sh ((w72)) (512 * (a1))) (sh ((w73)) (512 * (a1))) (((w55)) ((a1))) ((sh ((w66)) (8001 * (a1))) ((a2))) ((a3)) ((z10)) ∧ (y18) = (u6_35) + (sh ((w72)) (512 * (a1))) ((z10)) := fun _ => ⟨by rw [ho4, hrw]; exact hld, by have e : (sh ((w72)) (512 * (a1))) ((z10)) = ((w72)) (512 * (a1) + (z10)) := rfl; omega⟩
    refine Ew_of (pc' := 75) (fun _ => x_iload rfl rk_s) ?_
    exact w_ireturn rfl (k (z10) σ _ _ H (SF_trans (SF_trans (SF_refl) hS8 (any_sub rfl)) hS15 (any_sub rfl)) (SA_trans (SA_trans (SA_refl) hA9 (any_subA rfl)) hA16 (any_subA rfl)) (y18) ((ey19)) (show inr (z10) by omega) (show 0 ≤ (z10) ∧ (z10) ≤ 511 by omega) (show ((w55)) (a1) ≤ 0 → (z10) = 0 ∧ (y18) = (u6_35) by assumption) (show 1 ≤ ((w55)) (a1) → LEAD (sh ((w71)) (512 * a1)) (sh ((w72)) (512 * a1)) (sh ((w73)) (512 * a1)) (((w55)) (a1)) ((sh ((w66)) (8001 * a1)) (a2)) (a3) ((z10)) ∧ (y18) = (u6_35) + (sh ((w72)) (512 * a1)) ((z10)) by assumption))
  · have : ((w55)) ((a1)) ≤ 0 → (0 : Int) = 0 ∧ (u6_35) = (u6_35) := fun _ => ⟨rfl, rfl⟩
    have : 1 ≤ ((w55)) ((a1)) → LEAD (sh ((w71)) (512 * (a1))) (sh ((w72)) (512 * (a1))) (sh ((w73)) (512 * (a1))) (((w55)) ((a1))) ((sh ((w66)) (8001 * (a1))) ((a2))) ((a3)) 0 ∧ (u6_35) = (u6_35) + (sh ((w72)) (512 * (a1))) 0 := fun q => absurd q (by rw [ho]; omega)
    refine Ew_of (pc' := 10) (fun _ => x_iconst rfl) ?_
    exact w_ireturn rfl (k (0) σ _ _ H (SF_refl) (SA_refl) (u6_35) ((eu6_35)) (show inr (0) by omega) (show 0 ≤ (0) ∧ (0) ≤ 511 by omega) (show ((w55)) (a1) ≤ 0 → (0) = 0 ∧ (u6_35) = (u6_35) by assumption) (show 1 ≤ ((w55)) (a1) → LEAD (sh ((w71)) (512 * a1)) (sh ((w72)) (512 * a1)) (sh ((w73)) (512 * a1)) (((w55)) (a1)) ((sh ((w66)) (8001 * a1)) (a2)) (a3) ((0)) ∧ (u6_35) = (u6_35) + (sh ((w72)) (512 * a1)) ((0)) by assumption))
