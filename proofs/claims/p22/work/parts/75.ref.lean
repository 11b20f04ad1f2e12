/-- Writer.asItWas -/
theorem M438 {σ0 σ : rS} {D N : Nat → Nat} {F : hF} {A : hA} {d c s : Nat} {Q : wQ} (H : HS σ0 σ D N F A) {a1 a2 a3 : Int} (u6_28 : Int) (eu6_28 : F 6 28 = u6_28) (w54 : Int → Int) (ew54 : A 54 = w54) (w55 : Int → Int) (ew55 : A 55 = w55) (w66 : Int → Int) (ew66 : A 66 = w66) (h0 : inr (a1)) (h1 : inr (a2)) (h2 : inr (a3)) (h3 : 0 ≤ (a1) ∧ (a1) ≤ 2) (h4 : WO ((w54)) ((w55))) (h5 : 0 ≤ (a3) ∧ (a3) < 64) (h6 : 1 ≤ (u6_28)) (k : ∀ (z : Int) σ Fₚ Aₚ, HS σ0 σ D N Fₚ Aₚ → SF [] F Fₚ → SA [71, 72, 73, 74] A Aₚ → (inr (z)) → (-1 ≤ (z) ∧ (z) ≤ 72009) → ((z) ≠ -1 → 1 ≤ ((w55)) ((a1)) → COST (sh ((w54)) (64 * (a1))) (((w55)) ((a1))) (sh ((w66)) (8001 * (a1))) ((u6_28)) ((z))) → ((z) ≠ -1 → ((w55)) ((a1)) ≤ 0 → (a2) = 1 ∧ ((w54)) (64 * (a1) + (a3)) = 1) → ((z) ≠ -1 → 0 ≤ ((w55)) ((a1))) → Q (some (I z)) σ c s) : Ew 438 (d + 3) 0 (rargs 0 [.ref (D 6), I a1, I a2, I a3]) [] σ c s Q := by
  have r1 : (0 : Int) ≤ u6_28 ∧ u6_28 ≤ 8001 := rngE (show (0 : Int) ≤ F 6 28 ∧ F 6 28 ≤ 8001 from H.frng 6 28) (show F 6 28 = u6_28 from (eu6_28))
  have hwo : WO ((w54)) ((w55)) := h4
  have hwt := hwo ((a1)) (by omega) (by omega)
  refine Ew_of (pcₚ := 1) (fun _ => x_aload_n rfl rfl) ?_
  refine w_gT H (o := 6) (t := 55) rfl (H.perm 6 rfl) rfl rfl rfl rfl rfl rfl ?_
  refine Ew_of (pcₚ := 5) (fun _ => x_iload_n rfl rfl) ?_
  refine w_lI H (o := 55) (n := 3) rfl (H.perm 55 rfl) rfl rfl (H.fix 55 rfl rfl) (show 0 ≤ a1 ∧ a1 < ((3 : Nat) : Int) from q_1082 h3) (by decide) (fun v2 ev2 qv2 => ?_)
  have qv2 : (-1 : Int) ≤ v2 ∧ v2 ≤ 9 := qv2
  have ev2 : (w55) (a1) = v2 := (congrFun (ew55) (a1)).symm.trans ev2
  have ho := ev2
  refine w_ifge (t := 11) rfl rfl (show inr (v2) from q_1086 qv2) (fun b3 => ?_) (fun b3 => ?_)
  · refine Ew_of (pcₚ := 12) (fun _ => x_aload_n rfl rfl) ?_
    refine w_gT H (o := 6) (t := 55) rfl (H.perm 6 rfl) rfl rfl rfl rfl rfl rfl ?_
    refine Ew_of (pcₚ := 16) (fun _ => x_iload_n rfl rfl) ?_
    refine w_lI H (o := 55) (n := 3) rfl (H.perm 55 rfl) rfl rfl (H.fix 55 rfl rfl) (show 0 ≤ a1 ∧ a1 < ((3 : Nat) : Int) from q_1082 h3) (by decide) (fun v4 ev4 qv4 => ?_)
    have qv4 : (-1 : Int) ≤ v4 ∧ v4 ≤ 9 := qv4
    have ev4 : (w55) (a1) = v4 := (congrFun (ew55) (a1)).symm.trans ev4
    refine w_ifle (t := 40) rfl rfl (show inr (v4) from q_1086 qv4) (fun b5 => ?_) (fun b5 => ?_)
    · refine Ew_of (pcₚ := 41) (fun _ => x_iload_n rfl rfl) ?_
      refine Ew_of (pcₚ := 42) (fun _ => x_iconst rfl) ?_
      refine w_icmpne (t := 64) rfl rfl (show inr (a2) from h1) (show inr (1) from q_23) (fun b6 => ?_) (fun b6 => ?_)
      · refine Ew_of (pcₚ := 65) (fun _ => x_iconst rfl) ?_
        exact w_ireturn rfl (k ((-1)) σ _ _ H (SF_refl) (SA_refl) (show inr ((-1)) from q_16) (show -1 ≤ ((-1)) ∧ ((-1)) ≤ 72009 by first | exact q_2309 | omega) (show ((-1)) ≠ -1 → 1 ≤ ((w55)) (a1) → COST (sh ((w54)) (64 * a1)) (((w55)) (a1)) (sh ((w66)) (8001 * a1)) ((u6_28)) (((-1))) by first | assumption | exact fun h => absurd rfl h | exact fun h => absurd h (by decide) | omega) (show ((-1)) ≠ -1 → ((w55)) (a1) ≤ 0 → a2 = 1 ∧ ((w54)) (64 * a1 + a3) = 1 by first | assumption | exact fun h => absurd rfl h | exact fun h => absurd h (by decide) | omega) (show ((-1)) ≠ -1 → 0 ≤ ((w55)) (a1) by first | assumption | exact fun h => absurd rfl h | exact fun h => absurd h (by decide) | omega))
      · refine Ew_of (pcₚ := 46) (fun _ => x_aload_n rfl rfl) ?_
        refine w_gT H (o := 6) (t := 54) rfl (H.perm 6 rfl) rfl rfl rfl rfl rfl rfl ?_
        refine Ew_of (pcₚ := 51) (fun _ => x_bipush (z := 64) rfl (by decide)) ?_
        refine Ew_of (pcₚ := 52) (fun _ => x_iload_n rfl rfl) ?_
        refine w_imul rfl ?_
        refine Ew_of (pcₚ := 54) (fun _ => x_iload_n rfl rfl) ?_
        refine w_iadd rfl ?_
        refine w_lI H (o := 54) (n := 192) rfl (H.perm 54 rfl) rfl rfl (H.fix 54 rfl rfl) (show 0 ≤ ((64 * a1) + a3) ∧ ((64 * a1) + a3) < ((192 : Nat) : Int) from q_2310 h3 h5) (by decide) (fun v7 ev7 qv7 => ?_)
        have qv7 : (-1 : Int) ≤ v7 ∧ v7 ≤ 512 := qv7
        have ev7 : (w54) (((64 * a1) + a3)) = v7 := (congrFun (ew54) (((64 * a1) + a3))).symm.trans ev7
        refine Ew_of (pcₚ := 57) (fun _ => x_iconst rfl) ?_
        refine w_icmpne (t := 64) rfl rfl (show inr (v7) from q_1055 qv7) (show inr (1) from q_23) (fun b8 => ?_) (fun b8 => ?_)
        · refine Ew_of (pcₚ := 65) (fun _ => x_iconst rfl) ?_
          exact w_ireturn rfl (k ((-1)) σ _ _ H (SF_refl) (SA_refl) (show inr ((-1)) from q_16) (show -1 ≤ ((-1)) ∧ ((-1)) ≤ 72009 by first | exact q_2309 | omega) (show ((-1)) ≠ -1 → 1 ≤ ((w55)) (a1) → COST (sh ((w54)) (64 * a1)) (((w55)) (a1)) (sh ((w66)) (8001 * a1)) ((u6_28)) (((-1))) by first | assumption | exact fun h => absurd rfl h | exact fun h => absurd h (by decide) | omega) (show ((-1)) ≠ -1 → ((w55)) (a1) ≤ 0 → a2 = 1 ∧ ((w54)) (64 * a1 + a3) = 1 by first | assumption | exact fun h => absurd rfl h | exact fun h => absurd h (by decide) | omega) (show ((-1)) ≠ -1 → 0 ≤ ((w55)) (a1) by first | assumption | exact fun h => absurd rfl h | exact fun h => absurd h (by decide) | omega))
        · refine Ew_of (pcₚ := 61) (fun _ => x_iconst rfl) ?_
          refine Ew_of (pcₚ := 65) (fun _ => x_goto rfl rfl) ?_
          exact w_ireturn rfl (k (0) σ _ _ H (SF_refl) (SA_refl) (show inr (0) from q_20) (show -1 ≤ (0) ∧ (0) ≤ 72009 by first | exact q_2311 | omega) (show (0) ≠ -1 → 1 ≤ ((w55)) (a1) → COST (sh ((w54)) (64 * a1)) (((w55)) (a1)) (sh ((w66)) (8001 * a1)) ((u6_28)) ((0)) by first | assumption | exact fun h => absurd rfl h | exact fun h => absurd h (by decide) | omega) (show (0) ≠ -1 → ((w55)) (a1) ≤ 0 → a2 = 1 ∧ ((w54)) (64 * a1 + a3) = 1 by first | assumption | exact fun h => absurd rfl h | exact fun h => absurd h (by decide) | omega) (show (0) ≠ -1 → 0 ≤ ((w55)) (a1) by first | assumption | exact fun h => absurd rfl h | exact fun h => absurd h (by decide) | omega))
    · refine Ew_of (pcₚ := 21) (fun _ => x_aload_n rfl rfl) ?_
      refine Ew_of (pcₚ := 22) (fun _ => x_iload_n rfl rfl) ?_
      refine Ew_of (pcₚ := 23) (fun _ => x_aload_n rfl rfl) ?_
      refine w_gT H (o := 6) (t := 54) rfl (H.perm 6 rfl) rfl rfl rfl rfl rfl rfl ?_
      refine Ew_of (pcₚ := 28) (fun _ => x_bipush (z := 64) rfl (by decide)) ?_
      refine Ew_of (pcₚ := 29) (fun _ => x_iload_n rfl rfl) ?_
      refine w_imul rfl ?_
      refine Ew_of (pcₚ := 31) (fun _ => x_aload_n rfl rfl) ?_
      refine w_gT H (o := 6) (t := 55) rfl (H.perm 6 rfl) rfl rfl rfl rfl rfl rfl ?_
      refine Ew_of (pcₚ := 35) (fun _ => x_iload_n rfl rfl) ?_
      refine w_lI H (o := 55) (n := 3) rfl (H.perm 55 rfl) rfl rfl (H.fix 55 rfl rfl) (show 0 ≤ a1 ∧ a1 < ((3 : Nat) : Int) from q_1082 h3) (by decide) (fun v9 ev9 qv9 => ?_)
      have qv9 : (-1 : Int) ≤ v9 ∧ v9 ≤ 9 := qv9
      have ev9 : (w55) (a1) = v9 := (congrFun (ew55) (a1)).symm.trans ev9
      have ho3 := ev9
      have hps : SH ((w54)) (64 * (a1)) 64 ((v9)) (lastOf ((a1))) := by rcases hwt with q | q; omega; (have q2 : SH ((w54)) (64 * (a1)) 64 (((w55)) ((a1))) (lastOf ((a1))) := q; rw [ho3] at q2; exact q2)
      refine w_inv H (o := 6) rfl rfl rfl (H.perm 6 rfl) rfl rfl (by rfl) (M410_54 H (u6_28) ((eu6_28)) (w54) (ew54) (w66) (ew66) (lastOf ((a1))) (show inr (a1) from h0) (show inr ((64 * a1)) from q_1087 h3) (show inr (v9) from q_1086 qv9) (show 0 ≤ (a1) ∧ (a1) ≤ 2 from h3) (show SH ((w54)) ((64 * a1)) 64 (v9) (lastOf ((a1))) from hps) (show 0 ≤ ((64 * a1)) ∧ ((64 * a1)) + 64 ≤ 192 from q_2312 h3) (show 1 ≤ (u6_28) from h6) (fun z14 σ F10 A11 H hS12 hA13 pz14_0 pz14_1 pz14_2 pz14_3 => ⟨rfl, ?_⟩))
      have hmx : (((w55)) ((a1))) * (u6_28) ≤ 9 * 8001 := Int.mul_le_mul (by rw [ho3]; omega) (by omega) (by omega) (by omega)
      rw [ho3] at hmx
      have hcq := pz14_2
      rw [← ho3] at hcq
      have : (z14) ≠ -1 → 1 ≤ ((w55)) ((a1)) → COST (sh ((w54)) (64 * (a1))) (((w55)) ((a1))) (sh ((w66)) (8001 * (a1))) ((u6_28)) ((z14)) := fun q _ => hcq q
      have : (z14) ≠ -1 → ((w55)) ((a1)) ≤ 0 → (a2) = 1 ∧ ((w54)) (64 * (a1) + (a3)) = 1 := fun _ q => absurd q (by rw [ho3]; omega)
      have : (z14) ≠ -1 → 0 ≤ ((w55)) ((a1)) := fun _ => by rw [ho3]; omega
      exact w_ireturn rfl (k (z14) σ _ _ H (SF_trans (SF_refl) hS12 (any_sub rfl)) (SA_trans (SA_refl) hA13 (any_subA rfl)) (show inr (z14) from pz14_0) (show -1 ≤ (z14) ∧ (z14) ≤ 72009 by omega) (show (z14) ≠ -1 → 1 ≤ ((w55)) (a1) → COST (sh ((w54)) (64 * a1)) (((w55)) (a1)) (sh ((w66)) (8001 * a1)) ((u6_28)) ((z14)) by first | assumption | exact fun h => absurd rfl h | exact fun h => absurd h (by decide) | omega) (show (z14) ≠ -1 → ((w55)) (a1) ≤ 0 → a2 = 1 ∧ ((w54)) (64 * a1 + a3) = 1 by first | assumption | exact fun h => absurd rfl h | exact fun h => absurd h (by decide) | omega) (show (z14) ≠ -1 → 0 ≤ ((w55)) (a1) by first | assumption | exact fun h => absurd rfl h | exact fun h => absurd h (by decide) | omega))
  · have : (-1 : Int) ≠ -1 → 1 ≤ ((w55)) ((a1)) → COST (sh ((w54)) (64 * (a1))) (((w55)) ((a1))) (sh ((w66)) (8001 * (a1))) ((u6_28)) (-1) := fun q => absurd rfl q
    have : (-1 : Int) ≠ -1 → ((w55)) ((a1)) ≤ 0 → (a2) = 1 ∧ ((w54)) (64 * (a1) + (a3)) = 1 := fun q => absurd rfl q
    have : (-1 : Int) ≠ -1 → 0 ≤ ((w55)) ((a1)) := fun q => absurd rfl q
    refine Ew_of (pcₚ := 10) (fun _ => x_iconst rfl) ?_
    exact w_ireturn rfl (k ((-1)) σ _ _ H (SF_refl) (SA_refl) (show inr ((-1)) from q_16) (show -1 ≤ ((-1)) ∧ ((-1)) ≤ 72009 by first | exact q_2309 | omega) (show ((-1)) ≠ -1 → 1 ≤ ((w55)) (a1) → COST (sh ((w54)) (64 * a1)) (((w55)) (a1)) (sh ((w66)) (8001 * a1)) ((u6_28)) (((-1))) by first | assumption | exact fun h => absurd rfl h | exact fun h => absurd h (by decide) | omega) (show ((-1)) ≠ -1 → ((w55)) (a1) ≤ 0 → a2 = 1 ∧ ((w54)) (64 * a1 + a3) = 1 by first | assumption | exact fun h => absurd rfl h | exact fun h => absurd h (by decide) | omega) (show ((-1)) ≠ -1 → 0 ≤ ((w55)) (a1) by first | assumption | exact fun h => absurd rfl h | exact fun h => absurd h (by decide) | omega))
