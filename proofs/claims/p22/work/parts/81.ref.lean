/-- Writer.lastState -/
theorem M442 {σ0 σ : rS} {D N : Nat → Nat} {F : hF} {A : hA} {d c s : Nat} {Q : wQ} (H : HS σ0 σ D N F A) {a1 : Int} (u6_28 : Int) (eu6_28 : F 6 28 = u6_28) (w54 : Int → Int) (ew54 : A 54 = w54) (w55 : Int → Int) (ew55 : A 55 = w55) (w66 : Int → Int) (ew66 : A 66 = w66) (w71 : Int → Int) (ew71 : A 71 = w71) (w72 : Int → Int) (ew72 : A 72 = w72) (w73 : Int → Int) (ew73 : A 73 = w73) (h0 : inr (a1)) (h1 : 0 ≤ (a1) ∧ (a1) ≤ 2) (h2 : 1 ≤ (u6_28)) (h3 : 0 ≤ ((w55)) ((a1))) (h4 : WO ((w54)) ((w55))) (h5 : 1 ≤ ((w55)) ((a1)) → (sh ((w54)) (64 * (a1))) ((sh ((w66)) (8001 * (a1))) ((u6_28) - 1)) ≠ 0) (k : ∀ (z : Int) σ Fₚ Aₚ, HS σ0 σ D N Fₚ Aₚ → SF [] F Fₚ → SA [71, 72, 73, 74] A Aₚ → ∀ v71 : Int → Int, Aₚ 71 = v71 → ∀ v72 : Int → Int, Aₚ 72 = v72 → ∀ v73 : Int → Int, Aₚ 73 = v73 → (inr (z)) → (0 ≤ (z) ∧ (z) ≤ 511) → (((w55)) ((a1)) ≤ 0 → (z) = 0) → (1 ≤ ((w55)) ((a1)) → LD (sh ((w54)) (64 * (a1))) 64 (((w55)) ((a1))) (sh ((v71)) (512 * (a1))) (sh ((v72)) (512 * (a1))) (sh ((v73)) (512 * (a1))) ∧ LOW (sh ((v71)) (512 * (a1))) (sh ((v72)) (512 * (a1))) (((w55)) ((a1))) ((sh ((w66)) (8001 * (a1))) ((u6_28) - 1)) 0 ((z))) → (FRM ((w71)) ((v71)) (512 * (a1)) (512 * (a1) + 512)) → (FRM ((w72)) ((v72)) (512 * (a1)) (512 * (a1) + 512)) → (FRM ((w73)) ((v73)) (512 * (a1)) (512 * (a1) + 512)) → Q (some (I z)) σ c s) : Ew 442 (d + 2) 0 (rargs 0 [.ref (D 6), I a1]) [] σ c s Q := by
  have r1 : (0 : Int) ≤ u6_28 ∧ u6_28 ≤ 8001 := rngE (show (0 : Int) ≤ F 6 28 ∧ F 6 28 ≤ 8001 from H.frng 6 28) (show F 6 28 = u6_28 from (eu6_28))
  have h0r : 0 ≤ ((w55)) ((a1)) := h3
  have hwo : WO ((w54)) ((w55)) := h4
  have hwt := hwo ((a1)) (by omega) (by omega)
  have hlz : 1 ≤ ((w55)) ((a1)) → (sh ((w54)) (64 * (a1))) ((sh ((w66)) (8001 * (a1))) ((u6_28) - 1)) ≠ 0 := h5
  refine Ew_of (pcₚ := 1) (fun _ => x_aload_n rfl rfl) ?_
  refine w_gT H (o := 6) (t := 55) rfl (H.perm 6 rfl) rfl rfl rfl rfl rfl rfl ?_
  refine Ew_of (pcₚ := 5) (fun _ => x_iload_n rfl rfl) ?_
  refine w_lI H (o := 55) (n := 3) rfl (H.perm 55 rfl) rfl rfl (H.fix 55 rfl rfl) (show 0 ≤ a1 ∧ a1 < ((3 : Nat) : Int) from q_1082 h1) (by decide) (fun v2 ev2 qv2 => ?_)
  have qv2 : (-1 : Int) ≤ v2 ∧ v2 ≤ 9 := qv2
  have ev2 : (w55) (a1) = v2 := (congrFun (ew55) (a1)).symm.trans ev2
  have ho := ev2
  refine w_ifne (t := 11) rfl rfl (show inr (v2) from q_1086 qv2) (fun b3 => ?_) (fun b3 => ?_)
  · refine Ew_of (pcₚ := 12) (fun _ => x_aload_n rfl rfl) ?_
    refine Ew_of (pcₚ := 13) (fun _ => x_aload_n rfl rfl) ?_
    refine w_gT H (o := 6) (t := 54) rfl (H.perm 6 rfl) rfl rfl rfl rfl rfl rfl ?_
    refine Ew_of (pcₚ := 18) (fun _ => x_bipush (z := 64) rfl (by decide)) ?_
    refine Ew_of (pcₚ := 19) (fun _ => x_iload_n rfl rfl) ?_
    refine w_imul rfl ?_
    refine Ew_of (pcₚ := 22) (fun _ => x_bipush (z := 64) rfl (by decide)) ?_
    refine Ew_of (pcₚ := 23) (fun _ => x_aload_n rfl rfl) ?_
    refine w_gT H (o := 6) (t := 55) rfl (H.perm 6 rfl) rfl rfl rfl rfl rfl rfl ?_
    refine Ew_of (pcₚ := 27) (fun _ => x_iload_n rfl rfl) ?_
    refine w_lI H (o := 55) (n := 3) rfl (H.perm 55 rfl) rfl rfl (H.fix 55 rfl rfl) (show 0 ≤ a1 ∧ a1 < ((3 : Nat) : Int) from q_1082 h1) (by decide) (fun v4 ev4 qv4 => ?_)
    have qv4 : (-1 : Int) ≤ v4 ∧ v4 ≤ 9 := qv4
    have ev4 : (w55) (a1) = v4 := (congrFun (ew55) (a1)).symm.trans ev4
    refine Ew_of (pcₚ := 31) (fun _ => x_sipush (z := 512) rfl (by decide)) ?_
    refine Ew_of (pcₚ := 32) (fun _ => x_iload_n rfl rfl) ?_
    refine w_imul rfl ?_
    have ho3 := ev4
    have hps : SH ((w54)) (64 * (a1)) 64 ((v4)) (lastOf ((a1))) := by rcases hwt with q | q; omega; (have q2 : SH ((w54)) (64 * (a1)) 64 (((w55)) ((a1))) (lastOf ((a1))) := q; rw [ho3] at q2; exact q2)
    have hp9 := p2_le9 (o := (v4)) (by omega)
    have h59 : 5 ≤ (v4) ∧ (v4) ≤ 9 := ⟨hps.1, hps.2.1⟩
    have fr0 : True := trivial
    refine w_inv H (o := 6) rfl rfl rfl (H.perm 6 rfl) rfl rfl (by rfl) (M407_54 H (w54) (ew54) (w71) (ew71) (w72) (ew72) (w73) (ew73) (lastOf ((a1))) (show inr ((64 * a1)) from q_1087 h1) (show inr (64) from q_51) (show inr (v4) from q_2328 h59) (show inr ((512 * a1)) from q_1085 h1) (show SH ((w54)) ((64 * a1)) (64) (v4) (lastOf ((a1))) from hps) (show 0 ≤ ((64 * a1)) ∧ 1 ≤ (64) ∧ (64) ≤ 64 ∧ ((64 * a1)) + (64) ≤ 192 from q_1084 h1) (show 0 ≤ ((512 * a1)) ∧ ((512 * a1)) + p2 ((v4)) ≤ 2048 by omega) (fun σ F5 A6 H hS7 hA8 wq10 ewq11 wq12 ewq13 wq14 ewq15 pz9_0 pz9_1 pz9_2 pz9_3 pz9_4 => ⟨rfl, ?_⟩))
    have hld := pz9_0
    have : FRM ((w71)) ((wq10)) (512 * (a1)) (512 * (a1) + 512) := fun k h => pz9_2 k (by omega)
    have : FRM ((w72)) ((wq12)) (512 * (a1)) (512 * (a1) + 512) := fun k h => pz9_3 k (by omega)
    have : FRM ((w73)) ((wq14)) (512 * (a1)) (512 * (a1) + 512) := fun k h => pz9_4 k (by omega)
    refine Ew_of (pcₚ := 37) (fun _ => x_aload_n rfl rfl) ?_
    refine Ew_of (pcₚ := 40) (fun _ => x_sipush (z := 512) rfl (by decide)) ?_
    refine Ew_of (pcₚ := 41) (fun _ => x_iload_n rfl rfl) ?_
    refine w_imul rfl ?_
    refine Ew_of (pcₚ := 43) (fun _ => x_aload_n rfl rfl) ?_
    refine w_gT H (o := 6) (t := 55) rfl (H.perm 6 rfl) rfl rfl rfl rfl rfl rfl ?_
    refine Ew_of (pcₚ := 47) (fun _ => x_iload_n rfl rfl) ?_
    refine w_lI H (o := 55) (n := 3) rfl (H.perm 55 rfl) rfl rfl (H.fix 55 rfl rfl) (show 0 ≤ a1 ∧ a1 < ((3 : Nat) : Int) from q_1082 h1) (by decide) (fun v16 ev16 qv16 => ?_)
    have qv16 : (-1 : Int) ≤ v16 ∧ v16 ≤ 9 := qv16
    have ev16 : (w55) (a1) = v16 := (congrFun ((funext (hA8 55 rfl)).trans (ew55)) (a1)).symm.trans ev16
    refine Ew_of (pcₚ := 49) (fun _ => x_aload_n rfl rfl) ?_
    refine w_gT H (o := 6) (t := 66) rfl (H.perm 6 rfl) rfl rfl rfl rfl rfl rfl ?_
    refine Ew_of (pcₚ := 55) (fun _ => x_sipush (z := 8001) rfl (by decide)) ?_
    refine Ew_of (pcₚ := 56) (fun _ => x_iload_n rfl rfl) ?_
    refine w_imul rfl ?_
    refine Ew_of (pcₚ := 58) (fun _ => x_aload_n rfl rfl) ?_
    refine w_gI H (o := 6) (w := u6_28) rfl (H.perm 6 rfl) rfl rfl rfl (fun _ => rfl) ((hS7 6 28 rfl).trans (eu6_28)) ?_
    refine w_iadd rfl ?_
    refine Ew_of (pcₚ := 63) (fun _ => x_iconst rfl) ?_
    refine w_isub rfl ?_
    refine w_lI H (o := 66) (n := 24003) rfl (H.perm 66 rfl) rfl rfl (H.fix 66 rfl rfl) (show 0 ≤ (((8001 * a1) + u6_28) - 1) ∧ (((8001 * a1) + u6_28) - 1) < ((24003 : Nat) : Int) from q_2115 h1 h2 r1) (by decide) (fun v17 ev17 qv17 => ?_)
    have qv17 : (0 : Int) ≤ v17 ∧ v17 ≤ 63 := qv17
    have ev17 : (w66) ((((8001 * a1) + u6_28) - 1)) = v17 := (congrFun ((funext (hA8 66 rfl)).trans (ew66)) ((((8001 * a1) + u6_28) - 1))).symm.trans ev17
    refine Ew_of (pcₚ := 66) (fun _ => x_iconst rfl) ?_
    have ho6 := ev16
    have h36 := ho3.symm.trans ho6
    rw [h36] at hld hp9 h59 hps
    have hsy : (sh ((w66)) (8001 * (a1))) ((u6_28) - 1) = (v17) := by show ((w66)) (8001 * (a1) + ((u6_28) - 1)) = (v17); rw [show 8001 * (a1) + ((u6_28) - 1) = 8001 * (a1) + (u6_28) - 1 by omega]; exact ev17
    have hnl := hlz (by rw [ho6]; omega)
    rw [hsy] at hnl
    have hle := SH_le ((v17)) hps (by omega) (by omega)
    have hme := mass_eq ((sh ((w54)) (64 * (a1))) ((v17)))
    have hee : (sh ((w54)) (64 * (a1))) ((v17)) = ((w54)) (64 * (a1) + (v17)) := rfl
    have : 1 ≤ mass ((sh ((w54)) (64 * (a1))) ((v17))) := by omega
    have : (0 : Int) = 1 → mass ((sh ((w54)) (64 * (a1))) ((v17))) < p2 ((v16)) := fun q => absurd q (by decide)
    refine w_inv H (o := 6) rfl rfl rfl (H.perm 6 rfl) rfl rfl (by rfl) (M408 H (wq10) (ewq11) (wq12) (ewq13) (wq14) (ewq15) (sh ((w54)) (64 * (a1))) (show inr ((512 * a1)) from q_1085 h1) (show inr (v16) from q_1086 qv16) (show inr (v17) from q_2117 qv17) (show inr (0) from q_20) (show (0) = 0 ∨ (0) = 1 from q_1) (show LD (sh ((w54)) (64 * (a1))) 64 ((v16)) (sh ((wq10)) (((512 * a1)))) (sh ((wq12)) (((512 * a1)))) (sh ((wq14)) (((512 * a1)))) by assumption) (show 5 ≤ (v16) ∧ (v16) ≤ 9 by omega) (show 0 ≤ ((512 * a1)) ∧ ((512 * a1)) + p2 ((v16)) ≤ 2048 by omega) (show 0 ≤ (v17) ∧ (v17) < 64 from q_2116 qv17) (show 1 ≤ mass ((sh ((w54)) (64 * (a1))) (v17)) by assumption) (show (0) = 1 → mass ((sh ((w54)) (64 * (a1))) (v17)) < p2 ((v16)) by assumption) (fun z22 σ F18 A19 H hS20 hA21 pz22_0 pz22_1 pz22_2 => ⟨rfl, ?_⟩))
    have hlo := pz22_2
    have : ((w55)) ((a1)) ≤ 0 → (z22) = 0 := fun q => absurd q (by rw [ho6]; omega)
    have : 1 ≤ ((w55)) ((a1)) → LD (sh ((w54)) (64 * (a1))) 64 (((w55)) ((a1))) (sh ((wq10)) (512 * (a1))) (sh ((wq12)) (512 * (a1))) (sh ((wq14)) (512 * (a1))) ∧ LOW (sh ((wq10)) (512 * (a1))) (sh ((wq12)) (512 * (a1))) (((w55)) ((a1))) ((sh ((w66)) (8001 * (a1))) ((u6_28) - 1)) 0 ((z22)) := fun _ => by rw [ho6, hsy]; exact ⟨hld, hlo⟩
    exact w_ireturn rfl (k (z22) σ _ _ H (SF_trans (SF_trans (SF_refl) hS7 (any_sub rfl)) hS20 (any_sub rfl)) (SA_trans (SA_trans (SA_refl) hA8 (any_subA rfl)) hA21 (any_subA rfl)) (wq10) ((funext (hA21 71 rfl)).trans (ewq11)) (wq12) ((funext (hA21 72 rfl)).trans (ewq13)) (wq14) ((funext (hA21 73 rfl)).trans (ewq15)) (show inr (z22) from pz22_0) (show 0 ≤ (z22) ∧ (z22) ≤ 511 by omega) (show ((w55)) (a1) ≤ 0 → (z22) = 0 by assumption) (show 1 ≤ ((w55)) (a1) → LD (sh ((w54)) (64 * a1)) 64 (((w55)) (a1)) (sh ((wq10)) (512 * a1)) (sh ((wq12)) (512 * a1)) (sh ((wq14)) (512 * a1)) ∧ LOW (sh ((wq10)) (512 * a1)) (sh ((wq12)) (512 * a1)) (((w55)) (a1)) ((sh ((w66)) (8001 * a1)) ((u6_28) - 1)) 0 ((z22)) by assumption) (show FRM ((w71)) ((wq10)) (512 * a1) (512 * a1 + 512) by assumption) (show FRM ((w72)) ((wq12)) (512 * a1) (512 * a1 + 512) by assumption) (show FRM ((w73)) ((wq14)) (512 * a1) (512 * a1 + 512) by assumption))
  · have : ((w55)) ((a1)) ≤ 0 → (0 : Int) = 0 := fun _ => rfl
    have : 1 ≤ ((w55)) ((a1)) → LD (sh ((w54)) (64 * (a1))) 64 (((w55)) ((a1))) (sh ((w71)) (512 * (a1))) (sh ((w72)) (512 * (a1))) (sh ((w73)) (512 * (a1))) ∧ LOW (sh ((w71)) (512 * (a1))) (sh ((w72)) (512 * (a1))) (((w55)) ((a1))) ((sh ((w66)) (8001 * (a1))) ((u6_28) - 1)) 0 ((0 : Int)) := fun q => absurd q (by rw [ho]; omega)
    have : FRM ((w71)) ((w71)) (512 * (a1)) (512 * (a1) + 512) := fun _ _ => rfl
    have : FRM ((w72)) ((w72)) (512 * (a1)) (512 * (a1) + 512) := fun _ _ => rfl
    have : FRM ((w73)) ((w73)) (512 * (a1)) (512 * (a1) + 512) := fun _ _ => rfl
    refine Ew_of (pcₚ := 10) (fun _ => x_iconst rfl) ?_
    exact w_ireturn rfl (k (0) σ _ _ H (SF_refl) (SA_refl) (w71) (ew71) (w72) (ew72) (w73) (ew73) (show inr (0) from q_20) (show 0 ≤ (0) ∧ (0) ≤ 511 by first | exact q_1438 | omega) (show ((w55)) (a1) ≤ 0 → (0) = 0 by assumption) (show 1 ≤ ((w55)) (a1) → LD (sh ((w54)) (64 * a1)) 64 (((w55)) (a1)) (sh ((w71)) (512 * a1)) (sh ((w72)) (512 * a1)) (sh ((w73)) (512 * a1)) ∧ LOW (sh ((w71)) (512 * a1)) (sh ((w72)) (512 * a1)) (((w55)) (a1)) ((sh ((w66)) (8001 * a1)) ((u6_28) - 1)) 0 ((0)) by assumption) (show FRM ((w71)) ((w71)) (512 * a1) (512 * a1 + 512) by assumption) (show FRM ((w72)) ((w72)) (512 * a1) (512 * a1 + 512) by assumption) (show FRM ((w73)) ((w73)) (512 * a1) (512 * a1 + 512) by assumption))
