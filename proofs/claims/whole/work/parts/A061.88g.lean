section
/-! 88g.ref -/
theorem M438f {σ0 σ : rS} {D N : Nat → Nat} {F : hF} {A : hA} {d c s : Nat} {Q : wQ} (H : HS σ0 σ D N F A) {a1 a2 a3 : Int} (u6_28 : Int) (eu6_28 : F 6 28 = u6_28) (w54 : Int → Int) (ew54 : A 54 = w54) (w55 : Int → Int) (ew55 : A 55 = w55) (w66 : Int → Int) (ew66 : A 66 = w66) (h0 : inr (a1)) (h1 : inr (a2)) (h2 : inr (a3)) (h3 : 0 ≤ (a1) ∧ (a1) ≤ 2) (h4 : WO ((w54)) ((w55))) (h5 : 0 ≤ (a3) ∧ (a3) < 64) (h6 : 1 ≤ (u6_28)) (h7 : (a2) = dfN (cutP ((u6_28)) (sh ((w66)) (8001 * (a1)))) ((u6_28))) (h8 : ((w66)) (8001 * (a1)) = (a3)) (k : ∀ (z : Int) σ Fₚ Aₚ, HS σ0 σ D N Fₚ Aₚ → SF [] F Fₚ → SA [71, 72, 73, 74] A Aₚ → (inr (z)) → (-1 ≤ (z) ∧ (z) ≤ 72009) → ((z) ≠ -1 → 1 ≤ ((w55)) ((a1)) → COST (sh ((w54)) (64 * (a1))) (((w55)) ((a1))) (sh ((w66)) (8001 * (a1))) ((u6_28)) ((z))) → ((z) ≠ -1 → ((w55)) ((a1)) ≤ 0 → (a2) = 1 ∧ ((w54)) (64 * (a1) + (a3)) = 1) → ((z) ≠ -1 → 0 ≤ ((w55)) ((a1))) → ((z) = aswF (btS (((w55)) ((a1))) (sh ((w54)) (64 * (a1)))) (cutP ((u6_28)) (sh ((w66)) (8001 * (a1)))) ((u6_28))) → Q (some (I z)) σ c s) : Ew 438 (d + 3) 0 (rargs 0 [.ref (D 6), I a1, I a2, I a3]) [] σ c s Q := by
  have r1 : (0 : Int) ≤ u6_28 ∧ u6_28 ≤ 8001 := rngE (show (0 : Int) ≤ F 6 28 ∧ F 6 28 ≤ 8001 from H.frng 6 28) (show F 6 28 = u6_28 from (eu6_28))
  have hwo : WO ((w54)) ((w55)) := h4
  have hwt := hwo ((a1)) (by omega) (by omega)
  have hBs : ∀ i, (0 : Int) ≤ (w66) i ∧ (w66) i ≤ 63 := fun i => by have h1 : (0 : Int) ≤ A 66 i ∧ A 66 i ≤ 63 := H.arng 66 i; rw [show A 66 = w66 from ew66] at h1; exact h1
  have hSj : ∀ j, 0 ≤ j → j < (u6_28) → 0 ≤ (sh ((w66)) (8001 * (a1))) j ∧ (sh ((w66)) (8001 * (a1))) j < 64 := fun j _ _ => by have h := hBs (8001 * (a1) + j); show 0 ≤ ((w66)) (8001 * (a1) + j) ∧ ((w66)) (8001 * (a1) + j) < 64; omega
  refine Ew_of (pcₚ := 1) (fun _ => x_aload_n rfl rfl) ?_
  refine w_gT H (o := 6) (t := 55) rfl (H.perm 6 rfl) rfl rfl rfl rfl rfl rfl ?_
  refine Ew_of (pcₚ := 5) (fun _ => x_iload_n rfl rfl) ?_
  refine w_lI H (o := 55) (n := 3) rfl (H.perm 55 rfl) rfl rfl (H.fix 55 rfl rfl) (show 0 ≤ a1 ∧ a1 < ((3 : Nat) : Int) from q_1333 h3) (by decide) (fun v2 ev2 qv2 => ?_)
  have qv2 : (-1 : Int) ≤ v2 ∧ v2 ≤ 9 := qv2
  have ev2 : (w55) (a1) = v2 := (congrFun (ew55) (a1)).symm.trans ev2
  have ho := ev2
  refine w_ifge (t := 11) rfl rfl (show inr (v2) from q_1337 qv2) (fun b3 => ?_) (fun b3 => ?_)
  · refine Ew_of (pcₚ := 12) (fun _ => x_aload_n rfl rfl) ?_
    refine w_gT H (o := 6) (t := 55) rfl (H.perm 6 rfl) rfl rfl rfl rfl rfl rfl ?_
    refine Ew_of (pcₚ := 16) (fun _ => x_iload_n rfl rfl) ?_
    refine w_lI H (o := 55) (n := 3) rfl (H.perm 55 rfl) rfl rfl (H.fix 55 rfl rfl) (show 0 ≤ a1 ∧ a1 < ((3 : Nat) : Int) from q_1333 h3) (by decide) (fun v4 ev4 qv4 => ?_)
    have qv4 : (-1 : Int) ≤ v4 ∧ v4 ≤ 9 := qv4
    have ev4 : (w55) (a1) = v4 := (congrFun (ew55) (a1)).symm.trans ev4
    refine w_ifle (t := 40) rfl rfl (show inr (v4) from q_1337 qv4) (fun b5 => ?_) (fun b5 => ?_)
    · refine Ew_of (pcₚ := 41) (fun _ => x_iload_n rfl rfl) ?_
      refine Ew_of (pcₚ := 42) (fun _ => x_iconst rfl) ?_
      have ho40 : ((w55)) ((a1)) = 0 := by have h1 := ho; omega
      refine w_icmpne (t := 64) rfl rfl (show inr (a2) from h1) (show inr (1) from q_135) (fun b6 => ?_) (fun b6 => ?_)
      · have : (-1) = aswF (btS (((w55)) ((a1))) (sh ((w54)) (64 * (a1)))) (cutP ((u6_28)) (sh ((w66)) (8001 * (a1)))) ((u6_28)) := by first | exact asw_0 (by omega) ho40 (show (sh ((w66)) (8001 * (a1))) 0 = (a3) ∧ 0 ≤ (a3) ∧ (a3) < 64 from ⟨by show ((w66)) (8001 * (a1) + 0) = (a3); rw [Int.add_zero]; omega, by omega, by omega⟩) (by assumption) (.inl (by omega)) | exact asw_0 (by omega) ho40 (show (sh ((w66)) (8001 * (a1))) 0 = (a3) ∧ 0 ≤ (a3) ∧ (a3) < 64 from ⟨by show ((w66)) (8001 * (a1) + 0) = (a3); rw [Int.add_zero]; omega, by omega, by omega⟩) (by assumption) (.inr (by show ((w54)) (64 * (a1) + (a3)) ≠ 1; rw [hp57]; omega))
        refine Ew_of (pcₚ := 65) (fun _ => x_iconst rfl) ?_
        exact w_ireturn rfl (k ((-1)) σ _ _ H (SF_refl) (SA_refl) (show inr ((-1)) from q_63) (show -1 ≤ ((-1)) ∧ ((-1)) ≤ 72009 by first | exact q_2614 | omega) (show ((-1)) ≠ -1 → 1 ≤ ((w55)) (a1) → COST (sh ((w54)) (64 * a1)) (((w55)) (a1)) (sh ((w66)) (8001 * a1)) ((u6_28)) (((-1))) by first | assumption | exact fun h => absurd rfl h | exact fun h => absurd h (by decide) | omega) (show ((-1)) ≠ -1 → ((w55)) (a1) ≤ 0 → a2 = 1 ∧ ((w54)) (64 * a1 + a3) = 1 by first | assumption | exact fun h => absurd rfl h | exact fun h => absurd h (by decide) | omega) (show ((-1)) ≠ -1 → 0 ≤ ((w55)) (a1) by first | assumption | exact fun h => absurd rfl h | exact fun h => absurd h (by decide) | omega) (show ((-1)) = aswF (btS (((w55)) (a1)) (sh ((w54)) (64 * a1))) (cutP ((u6_28)) (sh ((w66)) (8001 * a1))) ((u6_28)) by assumption))
      · refine Ew_of (pcₚ := 46) (fun _ => x_aload_n rfl rfl) ?_
        refine w_gT H (o := 6) (t := 54) rfl (H.perm 6 rfl) rfl rfl rfl rfl rfl rfl ?_
        refine Ew_of (pcₚ := 51) (fun _ => x_bipush (z := 64) rfl (by decide)) ?_
        refine Ew_of (pcₚ := 52) (fun _ => x_iload_n rfl rfl) ?_
        refine w_imul rfl ?_
        refine Ew_of (pcₚ := 54) (fun _ => x_iload_n rfl rfl) ?_
        refine w_iadd rfl ?_
        refine w_lI H (o := 54) (n := 192) rfl (H.perm 54 rfl) rfl rfl (H.fix 54 rfl rfl) (show 0 ≤ ((64 * a1) + a3) ∧ ((64 * a1) + a3) < ((192 : Nat) : Int) from q_2615 h3 h5) (by decide) (fun v7 ev7 qv7 => ?_)
        have qv7 : (-1 : Int) ≤ v7 ∧ v7 ≤ 512 := qv7
        have ev7 : (w54) (((64 * a1) + a3)) = v7 := (congrFun (ew54) (((64 * a1) + a3))).symm.trans ev7
        refine Ew_of (pcₚ := 57) (fun _ => x_iconst rfl) ?_
        have hp57 := ev7
        refine w_icmpne (t := 64) rfl rfl (show inr (v7) from q_1312 qv7) (show inr (1) from q_135) (fun b8 => ?_) (fun b8 => ?_)
        · have : (-1) = aswF (btS (((w55)) ((a1))) (sh ((w54)) (64 * (a1)))) (cutP ((u6_28)) (sh ((w66)) (8001 * (a1)))) ((u6_28)) := by first | exact asw_0 (by omega) ho40 (show (sh ((w66)) (8001 * (a1))) 0 = (a3) ∧ 0 ≤ (a3) ∧ (a3) < 64 from ⟨by show ((w66)) (8001 * (a1) + 0) = (a3); rw [Int.add_zero]; omega, by omega, by omega⟩) (by assumption) (.inl (by omega)) | exact asw_0 (by omega) ho40 (show (sh ((w66)) (8001 * (a1))) 0 = (a3) ∧ 0 ≤ (a3) ∧ (a3) < 64 from ⟨by show ((w66)) (8001 * (a1) + 0) = (a3); rw [Int.add_zero]; omega, by omega, by omega⟩) (by assumption) (.inr (by show ((w54)) (64 * (a1) + (a3)) ≠ 1; rw [hp57]; omega))
          refine Ew_of (pcₚ := 65) (fun _ => x_iconst rfl) ?_
          exact w_ireturn rfl (k ((-1)) σ _ _ H (SF_refl) (SA_refl) (show inr ((-1)) from q_63) (show -1 ≤ ((-1)) ∧ ((-1)) ≤ 72009 by first | exact q_2614 | omega) (show ((-1)) ≠ -1 → 1 ≤ ((w55)) (a1) → COST (sh ((w54)) (64 * a1)) (((w55)) (a1)) (sh ((w66)) (8001 * a1)) ((u6_28)) (((-1))) by first | assumption | exact fun h => absurd rfl h | exact fun h => absurd h (by decide) | omega) (show ((-1)) ≠ -1 → ((w55)) (a1) ≤ 0 → a2 = 1 ∧ ((w54)) (64 * a1 + a3) = 1 by first | assumption | exact fun h => absurd rfl h | exact fun h => absurd h (by decide) | omega) (show ((-1)) ≠ -1 → 0 ≤ ((w55)) (a1) by first | assumption | exact fun h => absurd rfl h | exact fun h => absurd h (by decide) | omega) (show ((-1)) = aswF (btS (((w55)) (a1)) (sh ((w54)) (64 * a1))) (cutP ((u6_28)) (sh ((w66)) (8001 * a1))) ((u6_28)) by assumption))
        · have : 0 = aswF (btS (((w55)) ((a1))) (sh ((w54)) (64 * (a1)))) (cutP ((u6_28)) (sh ((w66)) (8001 * (a1)))) ((u6_28)) := asw_1 (by omega) ho40 (show (sh ((w66)) (8001 * (a1))) 0 = (a3) ∧ 0 ≤ (a3) ∧ (a3) < 64 from ⟨by show ((w66)) (8001 * (a1) + 0) = (a3); rw [Int.add_zero]; omega, by omega, by omega⟩) (by assumption) (by omega) (by show ((w54)) (64 * (a1) + (a3)) = 1; rw [hp57]; omega)
          refine Ew_of (pcₚ := 61) (fun _ => x_iconst rfl) ?_
          refine Ew_of (pcₚ := 65) (fun _ => x_goto rfl rfl) ?_
          exact w_ireturn rfl (k (0) σ _ _ H (SF_refl) (SA_refl) (show inr (0) from q_2) (show -1 ≤ (0) ∧ (0) ≤ 72009 by first | exact q_2616 | omega) (show (0) ≠ -1 → 1 ≤ ((w55)) (a1) → COST (sh ((w54)) (64 * a1)) (((w55)) (a1)) (sh ((w66)) (8001 * a1)) ((u6_28)) ((0)) by first | assumption | exact fun h => absurd rfl h | exact fun h => absurd h (by decide) | omega) (show (0) ≠ -1 → ((w55)) (a1) ≤ 0 → a2 = 1 ∧ ((w54)) (64 * a1 + a3) = 1 by first | assumption | exact fun h => absurd rfl h | exact fun h => absurd h (by decide) | omega) (show (0) ≠ -1 → 0 ≤ ((w55)) (a1) by first | assumption | exact fun h => absurd rfl h | exact fun h => absurd h (by decide) | omega) (show (0) = aswF (btS (((w55)) (a1)) (sh ((w54)) (64 * a1))) (cutP ((u6_28)) (sh ((w66)) (8001 * a1))) ((u6_28)) by assumption))
    · refine Ew_of (pcₚ := 21) (fun _ => x_aload_n rfl rfl) ?_
      refine Ew_of (pcₚ := 22) (fun _ => x_iload_n rfl rfl) ?_
      refine Ew_of (pcₚ := 23) (fun _ => x_aload_n rfl rfl) ?_
      refine w_gT H (o := 6) (t := 54) rfl (H.perm 6 rfl) rfl rfl rfl rfl rfl rfl ?_
      refine Ew_of (pcₚ := 28) (fun _ => x_bipush (z := 64) rfl (by decide)) ?_
      refine Ew_of (pcₚ := 29) (fun _ => x_iload_n rfl rfl) ?_
      refine w_imul rfl ?_
      refine Ew_of (pcₚ := 31) (fun _ => x_aload_n rfl rfl) ?_
      refine w_gT H (o := 6) (t := 55) rfl (H.perm 6 rfl) rfl rfl rfl rfl rfl rfl ?_
      refine Ew_of (pcₚ := 35) (fun _ => x_iload_n rfl rfl) ?_
      refine w_lI H (o := 55) (n := 3) rfl (H.perm 55 rfl) rfl rfl (H.fix 55 rfl rfl) (show 0 ≤ a1 ∧ a1 < ((3 : Nat) : Int) from q_1333 h3) (by decide) (fun v9 ev9 qv9 => ?_)
      have qv9 : (-1 : Int) ≤ v9 ∧ v9 ≤ 9 := qv9
      have ev9 : (w55) (a1) = v9 := (congrFun (ew55) (a1)).symm.trans ev9
      have ho3 := ev9
      have hps : SH ((w54)) (64 * (a1)) 64 ((v9)) (lastOf ((a1))) := by rcases hwt with q | q; omega; (have q2 : SH ((w54)) (64 * (a1)) 64 (((w55)) ((a1))) (lastOf ((a1))) := q; rw [ho3] at q2; exact q2)
      refine w_inv H (o := 6) rfl rfl rfl (H.perm 6 rfl) rfl rfl (by rfl) (M410_54 H (u6_28) ((eu6_28)) (w54) (ew54) (w66) (ew66) (lastOf ((a1))) (show inr (a1) from h0) (show inr ((64 * a1)) from q_1338 h3) (show inr (v9) from q_1337 qv9) (show 0 ≤ (a1) ∧ (a1) ≤ 2 from h3) (hps) (show 0 ≤ ((64 * a1)) ∧ ((64 * a1)) + 64 ≤ 192 from q_2617 h3) (show 1 ≤ (u6_28) from h6) (fun z14 σ F10 A11 H hS12 hA13 pz14_0 pz14_1 pz14_2 pz14_3 => ⟨rfl, ?_⟩))
      have hmx : (((w55)) ((a1))) * (u6_28) ≤ 9 * 8001 := Int.mul_le_mul (by rw [ho3]; omega) (by omega) (by omega) (by omega)
      rw [ho3] at hmx
      have hcq := pz14_2
      rw [← ho3] at hcq
      have : (z14) ≠ -1 → 1 ≤ ((w55)) ((a1)) → COST (sh ((w54)) (64 * (a1))) (((w55)) ((a1))) (sh ((w66)) (8001 * (a1))) ((u6_28)) ((z14)) := fun q _ => hcq q
      have : (z14) ≠ -1 → ((w55)) ((a1)) ≤ 0 → (a2) = 1 ∧ ((w54)) (64 * (a1) + (a3)) = 1 := fun _ q => absurd q (by rw [ho3]; omega)
      have : (z14) ≠ -1 → 0 ≤ ((w55)) ((a1)) := fun _ => by rw [ho3]; omega
      have : (z14) = aswF (btS (((w55)) ((a1))) (sh ((w54)) (64 * (a1)))) (cutP ((u6_28)) (sh ((w66)) (8001 * (a1)))) ((u6_28)) := by rw [ho3]; exact asw_c (by omega) (by rcases hwt with q | q; (exfalso; omega); (have q5 := q.1; have q9 := q.2.1; rw [ho3] at q5 q9; exact ⟨q5, q9⟩)) hSj pz14_2 pz14_3
      exact w_ireturn rfl (k (z14) σ _ _ H (SF_trans (SF_refl) hS12 (any_sub rfl)) (SA_trans (SA_refl) hA13 (any_subA rfl)) (show inr (z14) from pz14_0) (show -1 ≤ (z14) ∧ (z14) ≤ 72009 by omega) (show (z14) ≠ -1 → 1 ≤ ((w55)) (a1) → COST (sh ((w54)) (64 * a1)) (((w55)) (a1)) (sh ((w66)) (8001 * a1)) ((u6_28)) ((z14)) by first | assumption | exact fun h => absurd rfl h | exact fun h => absurd h (by decide) | omega) (show (z14) ≠ -1 → ((w55)) (a1) ≤ 0 → a2 = 1 ∧ ((w54)) (64 * a1 + a3) = 1 by first | assumption | exact fun h => absurd rfl h | exact fun h => absurd h (by decide) | omega) (show (z14) ≠ -1 → 0 ≤ ((w55)) (a1) by first | assumption | exact fun h => absurd rfl h | exact fun h => absurd h (by decide) | omega) (show (z14) = aswF (btS (((w55)) (a1)) (sh ((w54)) (64 * a1))) (cutP ((u6_28)) (sh ((w66)) (8001 * a1))) ((u6_28)) by assumption))
  · have : (-1 : Int) ≠ -1 → 1 ≤ ((w55)) ((a1)) → COST (sh ((w54)) (64 * (a1))) (((w55)) ((a1))) (sh ((w66)) (8001 * (a1))) ((u6_28)) (-1) := fun q => absurd rfl q
    have : (-1 : Int) ≠ -1 → ((w55)) ((a1)) ≤ 0 → (a2) = 1 ∧ ((w54)) (64 * (a1) + (a3)) = 1 := fun q => absurd rfl q
    have : (-1 : Int) ≠ -1 → 0 ≤ ((w55)) ((a1)) := fun q => absurd rfl q
    have : (-1) = aswF (btS (((w55)) ((a1))) (sh ((w54)) (64 * (a1)))) (cutP ((u6_28)) (sh ((w66)) (8001 * (a1)))) ((u6_28)) := (aswF_0 (btS_n (by rw [ho]; omega))).symm
    refine Ew_of (pcₚ := 10) (fun _ => x_iconst rfl) ?_
    exact w_ireturn rfl (k ((-1)) σ _ _ H (SF_refl) (SA_refl) (show inr ((-1)) from q_63) (show -1 ≤ ((-1)) ∧ ((-1)) ≤ 72009 by first | exact q_2614 | omega) (show ((-1)) ≠ -1 → 1 ≤ ((w55)) (a1) → COST (sh ((w54)) (64 * a1)) (((w55)) (a1)) (sh ((w66)) (8001 * a1)) ((u6_28)) (((-1))) by first | assumption | exact fun h => absurd rfl h | exact fun h => absurd h (by decide) | omega) (show ((-1)) ≠ -1 → ((w55)) (a1) ≤ 0 → a2 = 1 ∧ ((w54)) (64 * a1 + a3) = 1 by first | assumption | exact fun h => absurd rfl h | exact fun h => absurd h (by decide) | omega) (show ((-1)) ≠ -1 → 0 ≤ ((w55)) (a1) by first | assumption | exact fun h => absurd rfl h | exact fun h => absurd h (by decide) | omega) (show ((-1)) = aswF (btS (((w55)) (a1)) (sh ((w54)) (64 * a1))) (cutP ((u6_28)) (sh ((w66)) (8001 * a1))) ((u6_28)) by assumption))
set_option maxHeartbeats 16000000 in
theorem M437f {σ0 σ : rS} {D N : Nat → Nat} {F : hF} {A : hA} {d c s : Nat} {Q : wQ} (H : HS σ0 σ D N F A) {a1 : Int} (u6_28 : Int) (eu6_28 : F 6 28 = u6_28) (u6_35 : Int) (eu6_35 : F 6 35 = u6_35) (w54 : Int → Int) (ew54 : A 54 = w54) (w55 : Int → Int) (ew55 : A 55 = w55) (w66 : Int → Int) (ew66 : A 66 = w66) (w69 : Int → Int) (ew69 : A 69 = w69) (h0 : inr (a1)) (h1 : 0 ≤ (a1) ∧ (a1) ≤ 2) (h2 : 1 ≤ (u6_28)) (h3 : WO ((w54)) ((w55))) (h4 : ∀ j, 0 ≤ j → j < (u6_28) → (sh ((w66)) (8001 * (a1))) j ≤ lS ((a1))) (k : ∀ (z : Int) σ Fₚ Aₚ, HS σ0 σ D N Fₚ Aₚ → SF [(6, 35)] F Fₚ → SA [54, 55, 69, 71, 72, 73, 74, 75, 76, 77, 78] A Aₚ → ∀ y6_35 : Int, Fₚ 6 35 = y6_35 → ∀ v54 : Int → Int, Aₚ 54 = v54 → ∀ v55 : Int → Int, Aₚ 55 = v55 → ∀ v69 : Int → Int, Aₚ 69 = v69 → (inr (z)) → (0 ≤ (z) ∧ (z) ≤ 3) → (0 ≤ (y6_35) ∧ (y6_35) ≤ 700) → (TBL ((v54)) ((v55)) (sh ((w66)) (8001 * (a1))) ((a1)) ((u6_28))) → (WO ((v54)) ((v55))) → (FRM ((w54)) ((v54)) (64 * (a1)) (64 * (a1) + 64)) → (FRM ((w55)) ((v55)) ((a1)) ((a1) + 1)) → (IMP (MDX ((w69)) ((u6_35))) (TTP ((a1)) (cutP ((u6_28)) (sh ((w66)) (8001 * (a1)))) ((u6_28)) (btS (((w55)) ((a1))) (sh ((w54)) (64 * (a1)))) (btS (((v55)) ((a1))) (sh ((v54)) (64 * (a1)))) ((z)) ((v69)) ((y6_35)))) → Q (some (I z)) σ c s) : Ew 437 (d + 5) 0 (rargs 0 [.ref (D 6), I a1]) [] σ c s Q := by
  have r1 : (0 : Int) ≤ u6_28 ∧ u6_28 ≤ 8001 := rngE (show (0 : Int) ≤ F 6 28 ∧ F 6 28 ≤ 8001 from H.frng 6 28) (show F 6 28 = u6_28 from (eu6_28))
  have r2 : (0 : Int) ≤ u6_35 ∧ u6_35 ≤ 100000000 := rngE (show (0 : Int) ≤ F 6 35 ∧ F 6 35 ≤ 100000000 from H.frng 6 35) (show F 6 35 = u6_35 from (eu6_35))
  have hwo : WO ((w54)) ((w55)) := h3
  have hsyl : ∀ j, 0 ≤ j → j < (u6_28) → (sh ((w66)) (8001 * (a1))) j ≤ lS ((a1)) := h4
  have hls : lS ((a1)) ≤ lastOf ((a1)) ∧ 0 ≤ lS ((a1)) ∧ lastOf ((a1)) ≤ 52 := by have := lS_eq ((a1)); have := lastOf_eq ((a1)); omega
  have hBs : ∀ i, (0 : Int) ≤ (w66) i ∧ (w66) i ≤ 63 := fun i => by have h1 : (0 : Int) ≤ A 66 i ∧ A 66 i ≤ 63 := H.arng 66 i; rw [show A 66 = w66 from ew66] at h1; exact h1
  refine Ew_of (pcₚ := 2) (fun _ => x_bipush (z := 64) rfl (by decide)) ?_
  refine Ew_of (pcₚ := 3) (fun _ => x_iload_n rfl rfl) ?_
  refine w_imul rfl ?_
  refine Ew_of (pcₚ := 5) (fun _ => x_istore_n rfl) ?_
  refine Ew_of (pcₚ := 6) (fun _ => x_aload_n rfl (rk_o (rfl) rfl rfl)) ?_
  refine w_gT H (o := 6) (t := 66) rfl (H.perm 6 rfl) rfl rfl rfl rfl rfl rfl ?_
  refine Ew_of (pcₚ := 12) (fun _ => x_sipush (z := 8001) rfl (by decide)) ?_
  refine Ew_of (pcₚ := 13) (fun _ => x_iload_n rfl (rk_o (rfl) rfl rfl)) ?_
  refine w_imul rfl ?_
  refine w_lI H (o := 66) (n := 24003) rfl (H.perm 66 rfl) rfl rfl (H.fix 66 rfl rfl) (show 0 ≤ (8001 * a1) ∧ (8001 * a1) < ((24003 : Nat) : Int) from q_2641 h1) (by decide) (fun v3 ev3 qv3 => ?_)
  have qv3 : (0 : Int) ≤ v3 ∧ v3 ≤ 63 := qv3
  have ev3 : (w66) ((8001 * a1)) = v3 := (congrFun (ew66) ((8001 * a1))).symm.trans ev3
  have hs15 := ev3
  have hf0 : (sh ((w66)) (8001 * (a1))) 0 = (v3) ∧ 0 ≤ (v3) ∧ (v3) < 64 := ⟨by show ((w66)) (8001 * (a1) + 0) = (v3); rw [Int.add_zero]; exact hs15, by omega, by omega⟩
  refine Ew_of (pcₚ := 16) (fun _ => x_istore_n rfl) ?_
  refine Ew_of (pcₚ := 17) (fun _ => x_aload_n rfl (rk_o (rk_o (rfl) rfl rfl) rfl rfl)) ?_
  refine Ew_of (pcₚ := 18) (fun _ => x_iload_n rfl (rk_o (rk_o (rfl) rfl rfl) rfl rfl)) ?_
  refine w_inv H (o := 6) rfl rfl rfl (H.perm 6 rfl) rfl rfl (by rfl) (M414b H (u6_28) ((eu6_28)) (w66) (ew66) (show inr (a1) from h0) (show 0 ≤ (a1) ∧ (a1) ≤ 2 from h1) (fun z8 σ F4 A5 H hS6 hA7 wq9 ewq10 pz8_0 pz8_1 pz8_2 pz8_3 pz8_4 pz8_5 pz8_6 => ⟨rfl, ?_⟩))
  have hdf21 : z8 = dfN (cutP ((u6_28)) (sh ((w66)) (8001 * (a1)))) ((u6_28)) := by have e := dfN_e (co := (wq9)) (S := (cutP ((u6_28)) (sh ((w66)) (8001 * (a1))))) (n := (u6_28)) (ct_cut (by assumption)); omega
  refine Ew_of (pcₚ := 23) (fun _ => x_istore rfl) ?_
  refine Ew_of (pcₚ := 24) (fun _ => x_iconst rfl) ?_
  refine Ew_of (pcₚ := 26) (fun _ => x_istore rfl) ?_
  refine Ew_of (pcₚ := 27) (fun _ => x_iconst rfl) ?_
  refine Ew_of (pcₚ := 29) (fun _ => x_istore rfl) ?_
  refine Ew_of (pcₚ := 30) (fun _ => x_aload_n rfl (rk_o (rk_o (rk_o (rk_o (rk_o (rfl) rfl rfl) rfl rfl) rfl rfl) rfl rfl) rfl rfl)) ?_
  refine Ew_of (pcₚ := 31) (fun _ => x_iload_n rfl (rk_o (rk_o (rk_o (rk_o (rk_o (rfl) rfl rfl) rfl rfl) rfl rfl) rfl rfl) rfl rfl)) ?_
  refine w_inv H (o := 6) rfl rfl rfl (H.perm 6 rfl) rfl rfl (by rfl) (M417 H (show inr (a1) from h0) (show 0 ≤ (a1) ∧ (a1) ≤ 2 from h1) (fun z15 σ F11 A12 H hS13 hA14 wq16 ewq17 pz15_0 pz15_1 pz15_2 pz15_3 pz15_4 => ⟨rfl, ?_⟩))
  have hkk1 : ∀ i, (0 : Int) ≤ i → i < 64 → ((wq16)) i = KK ((a1)) i := pz15_4
  have hk7 : (z15) = kO ((a1)) := by have := kO_eq ((a1)); omega
  have hshk : SH (KK ((a1))) 0 64 (kO ((a1))) (lastOf ((a1))) := by rw [← hk7]; exact SH_copy pz15_3 (fun k a b => by rw [Int.zero_add]; exact (hkk1 k a b).symm)
  (try clear pz15_2)
  refine Ew_of (pcₚ := 36) (fun _ => x_istore rfl) ?_
  refine Ew_of (pcₚ := 37) (fun _ => x_aload_n rfl (rk_o (rk_o (rk_o (rk_o (rk_o (rk_o (rfl) rfl rfl) rfl rfl) rfl rfl) rfl rfl) rfl rfl) rfl rfl)) ?_
  refine Ew_of (pcₚ := 38) (fun _ => x_iload_n rfl (rk_o (rk_o (rk_o (rk_o (rk_o (rk_o (rfl) rfl rfl) rfl rfl) rfl rfl) rfl rfl) rfl rfl) rfl rfl)) ?_
  refine Ew_of (pcₚ := 39) (fun _ => x_aload_n rfl (rk_o (rk_o (rk_o (rk_o (rk_o (rk_o (rfl) rfl rfl) rfl rfl) rfl rfl) rfl rfl) rfl rfl) rfl rfl)) ?_
  refine w_gT H (o := 6) (t := 75) rfl (H.perm 6 rfl) rfl rfl rfl rfl rfl rfl ?_
  refine Ew_of (pcₚ := 43) (fun _ => x_iconst rfl) ?_
  refine Ew_of (pcₚ := 45) (fun _ => x_iload rfl rk_s) ?_
  refine w_inv H (o := 6) rfl rfl rfl (H.perm 6 rfl) rfl rfl (by rfl) (M410_75 H (u6_28) ((((hS13 6 28 rfl).trans (hS6 6 28 rfl)).trans (eu6_28))) (w66) ((funext (hA14 66 rfl)).trans ((funext (hA7 66 rfl)).trans (ew66))) (wq16) (ewq17) (lastOf ((a1))) (show inr (a1) from h0) (show inr (0) from q_2) (show inr (z15) from pz15_0) (show 0 ≤ (a1) ∧ (a1) ≤ 2 from h1) (pz15_3) (show 0 ≤ (0) ∧ (0) + 64 ≤ 64 from q_2503) (show 1 ≤ (u6_28) from h2) (fun z22 σ F18 A19 H hS20 hA21 pz22_0 pz22_1 pz22_2 pz22_3 => ⟨rfl, ?_⟩))
  have hnz1 : ∀ j, (0 : Int) ≤ j → j < (u6_28) → (sh ((wq16)) 0) ((sh ((w66)) (8001 * (a1))) j) ≠ 0 := fun j a b => by have h1 := hBs (8001 * (a1) + j); have h2 : ((w66)) (8001 * (a1) + j) ≤ lS ((a1)) := hsyl j a b; show ((wq16)) (0 + ((w66)) (8001 * (a1) + j)) ≠ 0; rw [Int.zero_add, hkk1 _ h1.1 (by omega)]; exact KK_nz (by omega) (by omega) h1.1 h2
  have hr1 := pz22_3 hnz1
  have hz45 : 0 ≤ (z22) := by omega
  have hc1 : COST (sh ((wq16)) 0) (kO ((a1))) (sh ((w66)) (8001 * (a1))) ((u6_28)) ((z22)) := by rw [← hk7]; exact pz22_2 hr1
  have hcb1 : (z22) ≤ kO ((a1)) * (u6_28) := by rw [← hk7]; have := pz22_1; omega
  have hag1 : AG (sh ((wq16)) 0) (KK ((a1))) := fun s a b => by show ((wq16)) (0 + s) = _; rw [Int.zero_add]; exact hkk1 s a b
  (try clear pz22_1); (try clear pz22_2); (try clear pz22_3)
  obtain ⟨qk, hqk⟩ : ∃ q : Int, q = (z22) := ⟨_, rfl⟩
  have hkc : kcF ((a1)) (cutP ((u6_28)) (sh ((w66)) (8001 * (a1)))) ((u6_28)) = qk := by rw [hqk]; exact rcF_y (by have := kO_eq ((a1)); omega) (by omega) (COST_cut (by omega) (COST_agree (by have := kO_eq ((a1)); omega) hc1 hag1))
  refine Ew_of (pcₚ := 50) (fun _ => x_istore rfl) ?_
  have hc62 : ∀ (ls : rO) (σ : rS) (F_c62 : hF) (A_c62 : hA) (xc62_5 : Int) (xc62_6 : Int), rlook ls 0 = some (.ref (D 6)) → rlook ls 1 = some (I (a1)) → rlook ls 2 = some (I ((64 * a1))) → rlook ls 3 = some (I (v3)) → rlook ls 4 = some (I (z8)) → rlook ls 5 = some (I (xc62_5)) → rlook ls 6 = some (I (xc62_6)) → HS σ0 σ D N F_c62 A_c62 → SF [] F18 F_c62 → SA [] A19 A_c62 → (inr (xc62_5)) → (inr (xc62_6)) → ((xc62_5) = 0 ∧ (xc62_6) = qk) → Ew 437 (d + 5) 62 ls [] σ c s Q := by
   as_aux_lemma =>
    intro  ls σ F_c62 A_c62 xc62_5 xc62_6 lc62_0 lc62_1 lc62_2 lc62_3 lc62_4 lc62_5 lc62_6 H hS_c62 hA_c62   jc62_0 jc62_1 jc62_2
    have hc87 : ∀ (ls : rO) (σ : rS) (F_c87 : hF) (A_c87 : hA) (xc87_5 : Int) (xc87_6 : Int), rlook ls 0 = some (.ref (D 6)) → rlook ls 1 = some (I (a1)) → rlook ls 2 = some (I ((64 * a1))) → rlook ls 3 = some (I (v3)) → rlook ls 4 = some (I (z8)) → rlook ls 5 = some (I (xc87_5)) → rlook ls 6 = some (I (xc87_6)) → HS σ0 σ D N F_c87 A_c87 → SF [] F_c62 F_c87 → SA [] A_c62 A_c87 → (inr (xc87_5)) → (inr (xc87_6)) → (((xc87_5) = 0 ∨ (xc87_5) = 1) ∧ (xc87_6) ≤ qk) → (m1F ((a1)) (cutP ((u6_28)) (sh ((w66)) (8001 * (a1)))) ((u6_28)) = ((xc87_5), (xc87_6))) → Ew 437 (d + 5) 87 ls [] σ c s Q := by
     as_aux_lemma =>
      intro  ls σ F_c87 A_c87 xc87_5 xc87_6 lc87_0 lc87_1 lc87_2 lc87_3 lc87_4 lc87_5 lc87_6 H hS_c87 hA_c87   jc87_0 jc87_1 jc87_2 jc87_3
      have hm87 : m1F ((a1)) (cutP ((u6_28)) (sh ((w66)) (8001 * (a1)))) ((u6_28)) = ((xc87_5), (xc87_6)) := by assumption
      refine Ew_of (pcₚ := 88) (fun _ => x_aload_n rfl lc87_0) ?_
      have : ∀ j, (0 : Int) ≤ j → j < (u6_28) → (sh ((w66)) (8001 * (a1))) j ≤ lastOf ((a1)) := fun j a b => by have := hsyl j a b; omega
      refine Ew_of (pcₚ := 89) (fun _ => x_iload_n rfl lc87_1) ?_
      refine w_inv H (o := 6) rfl rfl rfl (H.perm 6 rfl) rfl rfl (by rfl) (M413f H (u6_28) (((((((hS_c87 6 28 rfl).trans (hS_c62 6 28 rfl)).trans (hS20 6 28 rfl)).trans (hS13 6 28 rfl)).trans (hS6 6 28 rfl)).trans (eu6_28))) (u6_35) (((((((hS_c87 6 35 rfl).trans (hS_c62 6 35 rfl)).trans (hS20 6 35 rfl)).trans (hS13 6 35 rfl)).trans (hS6 6 35 rfl)).trans (eu6_35))) (w66) ((funext (hA_c87 66 rfl)).trans ((funext (hA_c62 66 rfl)).trans ((funext (hA21 66 rfl)).trans ((funext (hA14 66 rfl)).trans ((funext (hA7 66 rfl)).trans (ew66)))))) (w69) ((funext (hA_c87 69 rfl)).trans ((funext (hA_c62 69 rfl)).trans ((funext (hA21 69 rfl)).trans ((funext (hA14 69 rfl)).trans ((funext (hA7 69 rfl)).trans (ew69)))))) (lastOf ((a1))) (show inr (a1) from h0) (show 0 ≤ (a1) ∧ (a1) ≤ 2 from h1) (show 1 ≤ (u6_28) from h2) (show ∀ j, 0 ≤ j → j < (u6_28) → (sh ((w66)) (8001 * (a1))) j ≤ (lastOf ((a1))) by assumption) (show 0 ≤ (lastOf ((a1))) ∧ (lastOf ((a1))) ≤ 63 from q_2643 hls) (fun z27 σ F23 A24 H hS25 hA26 y28 ey29 wq30 ewq31 wq32 ewq33 pz27_0 pz27_1 pz27_2 pz27_3 pz27_4 pz27_5 pz27_6 pz27_7 => ⟨rfl, ?_⟩))
      have r34 : (0 : Int) ≤ y28 ∧ y28 ≤ 100000000 := rngE (show (0 : Int) ≤ F23 6 35 ∧ F23 6 35 ≤ 100000000 from H.frng 6 35) (show F23 6 35 = y28 from (ey29))
      have hce : ∀ i, (0 : Int) ≤ i → i < 64 → ((wq32)) i = su (eqs (sh ((w66)) (8001 * (a1))) i) ((u6_28) : Int).toNat := by assumption
      have hlz : ∀ i, lastOf ((a1)) < i → i < 64 → 0 ≤ i → ((wq32)) i = 0 := fun i a b c => by rw [hce i c b]; exact su_eqs0 (fun k x y => by have := hsyl k x (by omega); omega)
      have hbo92 := pz27_7
      refine Ew_of (pcₚ := 94) (fun _ => x_istore rfl) ?_
      refine Ew_of (pcₚ := 95) (fun _ => x_aload_n rfl (rk_o (lc87_0) rfl rfl)) ?_
      refine Ew_of (pcₚ := 96) (fun _ => x_iload_n rfl (rk_o (lc87_1) rfl rfl)) ?_
      refine Ew_of (pcₚ := 98) (fun _ => x_iload rfl rk_s) ?_
      refine w_inv H (o := 6) rfl rfl rfl (H.perm 6 rfl) rfl rfl (by rfl) (M415f H (u6_28) ((((((((hS25 6 28 rfl).trans (hS_c87 6 28 rfl)).trans (hS_c62 6 28 rfl)).trans (hS20 6 28 rfl)).trans (hS13 6 28 rfl)).trans (hS6 6 28 rfl)).trans (eu6_28))) (y28) ((ey29)) (w66) ((funext (hA26 66 rfl)).trans ((funext (hA_c87 66 rfl)).trans ((funext (hA_c62 66 rfl)).trans ((funext (hA21 66 rfl)).trans ((funext (hA14 66 rfl)).trans ((funext (hA7 66 rfl)).trans (ew66))))))) (wq30) (ewq31) (wq32) (ewq33) (lastOf ((a1))) (show inr (a1) from h0) (show inr (z27) from pz27_0) (show 0 ≤ (a1) ∧ (a1) ≤ 2 from h1) (show 5 ≤ (z27) ∧ (z27) ≤ 9 from pz27_1) (show 1 ≤ (u6_28) from h2) (show ∀ i, (0 : Int) ≤ i → i < 64 → 0 ≤ ((wq32)) i by assumption) (show su (fun i => ((wq32)) i) 64 = (u6_28) by omega) (show su (fun i => pos1 (((wq32)) i)) 64 ≤ p2 ((z27)) by omega) (show ∀ j, 0 ≤ j → j < (u6_28) → 1 ≤ ((wq32)) (((w66)) (8001 * (a1) + j)) by assumption) (hlz) (show 0 ≤ (lastOf ((a1))) ∧ (lastOf ((a1))) ≤ 63 from q_2643 hls) (hce) (fun z39 σ F35 A36 H hS37 hA38 y40 ey41 wq42 ewq43 wq44 ewq45 pz39_0 pz39_1 pz39_2 pz39_3 pz39_4 pz39_5 pz39_6 pz39_7 => ⟨rfl, ?_⟩))
      have r46 : (0 : Int) ≤ y40 ∧ y40 ≤ 100000000 := rngE (show (0 : Int) ≤ F35 6 35 ∧ F35 6 35 ≤ 100000000 from H.frng 6 35) (show F35 6 35 = y40 from (ey41))
      have hco2 : COST (sh ((wq44)) 0) ((z27)) (sh ((w66)) (8001 * (a1))) ((u6_28)) ((z39) - (y40)) := pz39_5
      have hdf2 : DVF ((wq32)) ((u6_28)) (p2 ((z27))) ((wq44)) := pz39_6
      have hbi2 : 0 ≤ (y40) := q_2644 r46
      obtain ⟨q98, hq98⟩ : ∃ q : Int, q = (z39) := ⟨_, rfl⟩
      have hsc : IMP (MDX ((w69)) ((u6_35))) (shC (cutP ((u6_28)) (sh ((w66)) (8001 * (a1)))) ((u6_28)) (z27) = q98 ∧ MDX ((wq42)) ((y40))) := fun q => by have h := pz39_7 (hbo92 q).2; exact ⟨by rw [hq98]; exact h.1.symm, MBY_X h.2⟩
      refine Ew_of (pcₚ := 103) (fun _ => x_istore rfl) ?_
      have hc122 : ∀ (ls : rO) (σ : rS) (F_c122 : hF) (A_c122 : hA) (xc122_5 : Int) (xc122_6 : Int), rlook ls 0 = some (.ref (D 6)) → rlook ls 1 = some (I (a1)) → rlook ls 2 = some (I ((64 * a1))) → rlook ls 3 = some (I (v3)) → rlook ls 4 = some (I (z8)) → rlook ls 5 = some (I (xc122_5)) → rlook ls 6 = some (I (xc122_6)) → rlook ls 9 = some (I (z27)) → HS σ0 σ D N F_c122 A_c122 → SF [] F35 F_c122 → SA [] A36 A_c122 → (inr (xc122_5)) → (inr (xc122_6)) → ((0 ≤ (xc122_5) ∧ (xc122_5) ≤ 2) ∧ (xc122_6) ≤ qk ∧ ((xc122_5) = 2 → q98 ≤ qk)) → (IMP (MDX ((w69)) ((u6_35))) (m2F ((a1)) (cutP ((u6_28)) (sh ((w66)) (8001 * (a1)))) ((u6_28)) = ((xc122_5), (xc122_6)))) → Ew 437 (d + 5) 122 ls [] σ c s Q := by
       as_aux_lemma =>
        intro  ls σ F_c122 A_c122 xc122_5 xc122_6 lc122_0 lc122_1 lc122_2 lc122_3 lc122_4 lc122_5 lc122_6 lc122_9 H hS_c122 hA_c122   jc122_0 jc122_1 jc122_2 jc122_3
        have hm122 : IMP (MDX ((w69)) ((u6_35))) (m2F ((a1)) (cutP ((u6_28)) (sh ((w66)) (8001 * (a1)))) ((u6_28)) = ((xc122_5), (xc122_6))) := by assumption
        refine Ew_of (pcₚ := 123) (fun _ => x_aload_n rfl lc122_0) ?_
        refine Ew_of (pcₚ := 124) (fun _ => x_iload_n rfl lc122_1) ?_
        refine Ew_of (pcₚ := 126) (fun _ => x_iload rfl lc122_4) ?_
        refine Ew_of (pcₚ := 127) (fun _ => x_iload_n rfl lc122_3) ?_
        refine w_inv H (o := 6) rfl rfl rfl (H.perm 6 rfl) rfl rfl (by rfl) (M438f H (u6_28) ((((((((((hS_c122 6 28 rfl).trans (hS37 6 28 rfl)).trans (hS25 6 28 rfl)).trans (hS_c87 6 28 rfl)).trans (hS_c62 6 28 rfl)).trans (hS20 6 28 rfl)).trans (hS13 6 28 rfl)).trans (hS6 6 28 rfl)).trans (eu6_28))) (w54) ((funext (hA_c122 54 rfl)).trans ((funext (hA38 54 rfl)).trans ((funext (hA26 54 rfl)).trans ((funext (hA_c87 54 rfl)).trans ((funext (hA_c62 54 rfl)).trans ((funext (hA21 54 rfl)).trans ((funext (hA14 54 rfl)).trans ((funext (hA7 54 rfl)).trans (ew54))))))))) (w55) ((funext (hA_c122 55 rfl)).trans ((funext (hA38 55 rfl)).trans ((funext (hA26 55 rfl)).trans ((funext (hA_c87 55 rfl)).trans ((funext (hA_c62 55 rfl)).trans ((funext (hA21 55 rfl)).trans ((funext (hA14 55 rfl)).trans ((funext (hA7 55 rfl)).trans (ew55))))))))) (w66) ((funext (hA_c122 66 rfl)).trans ((funext (hA38 66 rfl)).trans ((funext (hA26 66 rfl)).trans ((funext (hA_c87 66 rfl)).trans ((funext (hA_c62 66 rfl)).trans ((funext (hA21 66 rfl)).trans ((funext (hA14 66 rfl)).trans ((funext (hA7 66 rfl)).trans (ew66))))))))) (show inr (a1) from h0) (show inr (z8) from pz8_0) (show inr (v3) from q_2706 hf0) (show 0 ≤ (a1) ∧ (a1) ≤ 2 from h1) (hwo) (show 0 ≤ (v3) ∧ (v3) < 64 from q_2705 hf0) (show 1 ≤ (u6_28) from h2) (show (z8) = dfN (cutP ((u6_28)) (sh ((w66)) (8001 * (a1)))) ((u6_28)) from hdf21) (show ((w66)) (8001 * (a1)) = (v3) from ev3) (fun z51 σ F47 A48 H hS49 hA50 pz51_0 pz51_1 pz51_2 pz51_3 pz51_4 pz51_5 => ⟨rfl, ?_⟩))
        obtain ⟨q127, hq127⟩ : ∃ q : Int, q = (z51) := ⟨_, rfl⟩
        have hasw := pz51_5
        have ha1 := (show IMP _ _ from pz51_2)
        have ha2 := (show IMP _ _ from pz51_4)
        (try clear pz51_2); (try clear pz51_3); (try clear pz51_4)
        refine Ew_of (pcₚ := 132) (fun _ => x_istore rfl) ?_
        have hc147 : ∀ (ls : rO) (σ : rS) (F_c147 : hF) (A_c147 : hA) (xc147_5 : Int), rlook ls 0 = some (.ref (D 6)) → rlook ls 1 = some (I (a1)) → rlook ls 2 = some (I ((64 * a1))) → rlook ls 3 = some (I (v3)) → rlook ls 5 = some (I (xc147_5)) → rlook ls 9 = some (I (z27)) → HS σ0 σ D N F_c147 A_c147 → SF [] F47 F_c147 → SA [] A48 A_c147 → (inr (xc147_5)) → (0 ≤ (xc147_5) ∧ (xc147_5) ≤ 3) → ((xc147_5) ≠ 2 ∨ q98 ≤ qk) → ((xc147_5) ≠ 3 ∨ 0 ≤ q127 ∧ q127 ≤ qk) → (IMP (MDX ((w69)) ((u6_35))) (mwF ((a1)) (cutP ((u6_28)) (sh ((w66)) (8001 * (a1)))) ((u6_28)) (btS (((w55)) ((a1))) (sh ((w54)) (64 * (a1)))) = (xc147_5))) → Ew 437 (d + 5) 147 ls [] σ c s Q := by
         as_aux_lemma =>
          intro  ls σ F_c147 A_c147 xc147_5 lc147_0 lc147_1 lc147_2 lc147_3 lc147_5 lc147_9 H hS_c147 hA_c147   jc147_0 jc147_1 jc147_2 jc147_3 jc147_4
          have hm147 : IMP (MDX ((w69)) ((u6_35))) (mwF ((a1)) (cutP ((u6_28)) (sh ((w66)) (8001 * (a1)))) ((u6_28)) (btS (((w55)) ((a1))) (sh ((w54)) (64 * (a1)))) = (xc147_5)) := jc147_4
          have hm2 : IMP ((xc147_5) = 2) (z39 ≤ z22) := fun q => by omega
          have hm3 : IMP ((xc147_5) = 3) (0 ≤ z51 ∧ z51 ≤ z22) := fun q => by omega
          refine Ew_of (pcₚ := 148) (fun _ => x_aload_n rfl lc147_0) ?_
          have hmx148 : IMP (MDX ((w69)) ((u6_35))) (MDX ((wq42)) ((y40))) := fun q => (hsc q).2
          refine w_inv H (o := 6) rfl rfl rfl (H.perm 6 rfl) rfl rfl (by rfl) (M391 H (y40) (((((hS_c147 6 35 rfl).trans (hS49 6 35 rfl)).trans (hS_c122 6 35 rfl)).trans (ey41))) (wq42) ((funext (hA_c147 69 rfl)).trans ((funext (hA50 69 rfl)).trans ((funext (hA_c122 69 rfl)).trans (ewq43))))  (fun σ F52 A53 H hS54 hA55 y57 ey58 wq59 ewq60 pz56_0 pz56_1 => ⟨rfl, ?_⟩))
          have r61 : (0 : Int) ≤ y57 ∧ y57 ≤ 100000000 := rngE (show (0 : Int) ≤ F52 6 35 ∧ F52 6 35 ≤ 100000000 from H.frng 6 35) (show F52 6 35 = y57 from (ey58))
          have hc164 : ∀ (ls : rO) (σ : rS) (F_c164 : hF) (A_c164 : hA) , rlook ls 0 = some (.ref (D 6)) → rlook ls 1 = some (I (a1)) → rlook ls 2 = some (I ((64 * a1))) → rlook ls 3 = some (I (v3)) → rlook ls 5 = some (I (xc147_5)) → rlook ls 9 = some (I (z27)) → HS σ0 σ D N F_c164 A_c164 → SF [(6, 35)] F52 F_c164 → SA [69] A53 A_c164 → ∀ yc164_6_35 : Int, F_c164 6 35 = yc164_6_35 → ∀ wc164_69 : Int → Int, A_c164 69 = wc164_69 → (0 ≤ (yc164_6_35) ∧ (yc164_6_35) ≤ 8) → (IMP (MDX ((w69)) ((u6_35))) (MDB ((wc164_69)) ((yc164_6_35)) (t1B ((xc147_5)) ((v3))))) → Ew 437 (d + 5) 164 ls [] σ c s Q := by
           as_aux_lemma =>
            intro  ls σ F_c164 A_c164  lc164_0 lc164_1 lc164_2 lc164_3 lc164_5 lc164_9 H hS_c164 hA_c164 yc164_6_35 eyc164_6_35 wc164_69 ewc164_69 jc164_0 jc164_1
            have r62 : (0 : Int) ≤ yc164_6_35 ∧ yc164_6_35 ≤ 100000000 := rngE (show (0 : Int) ≤ F_c164 6 35 ∧ F_c164 6 35 ≤ 100000000 from H.frng 6 35) (show F_c164 6 35 = yc164_6_35 from (eyc164_6_35))
            have hc180 : ∀ (ls : rO) (σ : rS) (F_c180 : hF) (A_c180 : hA) , rlook ls 0 = some (.ref (D 6)) → rlook ls 1 = some (I (a1)) → rlook ls 2 = some (I ((64 * a1))) → rlook ls 3 = some (I (v3)) → rlook ls 5 = some (I (xc147_5)) → rlook ls 9 = some (I (z27)) → HS σ0 σ D N F_c180 A_c180 → SF [] F_c164 F_c180 → SA [55, 75] A_c164 A_c180 → ∀ wc180_55 : Int → Int, A_c180 55 = wc180_55 → ∀ wc180_75 : Int → Int, A_c180 75 = wc180_75 → (IMP ((xc147_5) = 0) ((wc180_55) = upd1 ((w55)) ((a1)) (kO ((a1))) ∧ ∀ i, (0 : Int) ≤ i → i < 64 → ((wc180_75)) i = KK ((a1)) i)) → (IMP ((xc147_5) ≠ 0) ((wc180_55) = (w55))) → Ew 437 (d + 5) 180 ls [] σ c s Q := by
             as_aux_lemma =>
              intro  ls σ F_c180 A_c180  lc180_0 lc180_1 lc180_2 lc180_3 lc180_5 lc180_9 H hS_c180 hA_c180  wc180_55 ewc180_55 wc180_75 ewc180_75 jc180_0 jc180_1
              have hc193 : ∀ (ls : rO) (σ : rS) (F_c193 : hF) (A_c193 : hA) , rlook ls 0 = some (.ref (D 6)) → rlook ls 1 = some (I (a1)) → rlook ls 2 = some (I ((64 * a1))) → rlook ls 3 = some (I (v3)) → rlook ls 5 = some (I (xc147_5)) → rlook ls 9 = some (I (z27)) → HS σ0 σ D N F_c193 A_c193 → SF [] F_c180 F_c193 → SA [55] A_c180 A_c193 → ∀ wc193_55 : Int → Int, A_c193 55 = wc193_55 → (IMP ((xc147_5) = 0) ((wc193_55) = upd1 ((w55)) ((a1)) (kO ((a1))) ∧ ∀ i, (0 : Int) ≤ i → i < 64 → ((wc180_75)) i = KK ((a1)) i)) → (IMP ((xc147_5) = 1) ((wc193_55) = upd1 ((w55)) ((a1)) 0)) → (IMP ((xc147_5) ≠ 0 ∧ (xc147_5) ≠ 1) ((wc193_55) = (w55))) → Ew 437 (d + 5) 193 ls [] σ c s Q := by
               as_aux_lemma =>
                intro  ls σ F_c193 A_c193  lc193_0 lc193_1 lc193_2 lc193_3 lc193_5 lc193_9 H hS_c193 hA_c193  wc193_55 ewc193_55 jc193_0 jc193_1 jc193_2
                have hc228 : ∀ (ls : rO) (σ : rS) (F_c228 : hF) (A_c228 : hA) , rlook ls 0 = some (.ref (D 6)) → rlook ls 2 = some (I ((64 * a1))) → rlook ls 3 = some (I (v3)) → rlook ls 5 = some (I (xc147_5)) → HS σ0 σ D N F_c228 A_c228 → SF [(6, 35)] F_c193 F_c228 → SA [55, 69, 75, 76, 77] A_c193 A_c228 → ∀ yc228_6_35 : Int, F_c228 6 35 = yc228_6_35 → ∀ wc228_55 : Int → Int, A_c228 55 = wc228_55 → ∀ wc228_69 : Int → Int, A_c228 69 = wc228_69 → ∀ wc228_75 : Int → Int, A_c228 75 = wc228_75 → (IMP ((xc147_5) = 0) ((wc228_55) = upd1 ((w55)) ((a1)) (kO ((a1))) ∧ ∀ i, (0 : Int) ≤ i → i < 64 → ((wc228_75)) i = KK ((a1)) i)) → (IMP ((xc147_5) = 1) ((wc228_55) = upd1 ((w55)) ((a1)) 0)) → (IMP ((xc147_5) = 2) ((wc228_55) = upd1 ((w55)) ((a1)) (z27) ∧ DVI ((wq32)) ((wc228_75)) 64 ∧ su (fun i => mass (((wc228_75)) i)) 64 = p2 (z27) ∧ DVF ((wq32)) ((u6_28)) (p2 (z27)) ((wc228_75)))) → (IMP ((xc147_5) = 3) ((wc228_55) = (w55))) → (0 ≤ (yc228_6_35) ∧ (yc228_6_35) ≤ 700) → (IMP (MDX ((w69)) ((u6_35))) (MBY ((wc228_69)) ((yc228_6_35)) (ttB ((a1)) (cutP ((u6_28)) (sh ((w66)) (8001 * (a1)))) ((u6_28)) ((xc147_5))))) → Ew 437 (d + 5) 228 ls [] σ c s Q := by
                 as_aux_lemma =>
                  intro  ls σ F_c228 A_c228  lc228_0 lc228_2 lc228_3 lc228_5 H hS_c228 hA_c228 yc228_6_35 eyc228_6_35 wc228_55 ewc228_55 wc228_69 ewc228_69 wc228_75 ewc228_75 jc228_0 jc228_1 jc228_2 jc228_3 jc228_4 jc228_5
                  have r63 : (0 : Int) ≤ yc228_6_35 ∧ yc228_6_35 ≤ 100000000 := rngE (show (0 : Int) ≤ F_c228 6 35 ∧ F_c228 6 35 ≤ 100000000 from H.frng 6 35) (show F_c228 6 35 = yc228_6_35 from (eyc228_6_35))
                  have h228_0 : IMP ((xc147_5) = 0) ((wc228_55) = upd1 ((w55)) ((a1)) (kO ((a1))) ∧ ∀ i, (0 : Int) ≤ i → i < 64 → ((wc228_75)) i = KK ((a1)) i) := by assumption
                  have h228_1 : IMP ((xc147_5) = 1) ((wc228_55) = upd1 ((w55)) ((a1)) 0) := jc228_1
                  have h228_2 : IMP ((xc147_5) = 2) ((wc228_55) = upd1 ((w55)) ((a1)) (z27) ∧ DVI ((wq32)) ((wc228_75)) 64 ∧ su (fun i => mass (((wc228_75)) i)) 64 = p2 (z27) ∧ DVF ((wq32)) ((u6_28)) (p2 (z27)) ((wc228_75))) := by assumption
                  have h228_3 : IMP ((xc147_5) = 3) ((wc228_55) = (w55)) := jc228_3
                  have j228_m : IMP (MDX ((w69)) ((u6_35))) (MBY ((wc228_69)) ((yc228_6_35)) (ttB ((a1)) (cutP ((u6_28)) (sh ((w66)) (8001 * (a1)))) ((u6_28)) ((xc147_5)))) := jc228_5
                  refine Ew_of (pcₚ := 229) (fun _ => x_iconst rfl) ?_
                  refine Ew_of (pcₚ := 231) (fun _ => x_istore rfl) ?_
                  have : IMP ((xc147_5) ≠ 1) (∀ k, (0 : Int) ≤ k → k < 0 → ((w54)) (64 * (a1) + k) = ((wc228_75)) k) := fun _ k a b => absurd b (by omega)
                  have : FRM ((w54)) ((w54)) (64 * (a1)) (64 * (a1) + 64) := FRM_refl
                  have : IMP ((xc147_5) = 3) ((w54) = (w54)) := fun _ => rfl
                  have : IMP ((xc147_5) = 1) (∀ k, (0 : Int) ≤ k → k < 0 → ((w54)) (64 * (a1) + k) = on0 ((v3)) k) := fun _ k a b => absurd b (by omega)
                  suffices hl231 : ∀ (m : Nat), ∀ (ls : rO) (σ : rS) (F_231 : hF) (A_231 : hA) (x231_10 : Int), rlook ls 0 = some (.ref (D 6)) → rlook ls 2 = some (I ((64 * a1))) → rlook ls 3 = some (I (v3)) → rlook ls 5 = some (I (xc147_5)) → rlook ls 10 = some (I (x231_10)) → HS σ0 σ D N F_231 A_231 → SF [] F_c228 F_231 → SA [54] A_c228 A_231 → ∀ w231_54 : Int → Int, A_231 54 = w231_54 → (inr (x231_10)) → ((0) ≤ (x231_10)) → ((x231_10) ≤ (0) ∨ (x231_10) ≤ ((64))) → (IMP ((xc147_5) ≠ 1) (∀ k, (0 : Int) ≤ k → k < (x231_10) → ((w231_54)) (64 * (a1) + k) = ((wc228_75)) k)) → (FRM ((w54)) ((w231_54)) (64 * (a1)) (64 * (a1) + 64)) → (IMP ((xc147_5) = 3) ((w231_54) = (w54))) → ((xc147_5) < 3 ∨ (x231_10) = 0) → (IMP ((xc147_5) = 1) (∀ k, (0 : Int) ≤ k → k < (x231_10) → ((w231_54)) (64 * (a1) + k) = on0 ((v3)) k)) → (((64)) - (x231_10)).toNat = m → Ew 437 (d + 5) 231 ls [] σ c s Q from
                    hl231 _ _ σ _ _ (0) (rk_o (lc228_0) rfl rfl) (rk_o (lc228_2) rfl rfl) (rk_o (lc228_3) rfl rfl) (rk_o (lc228_5) rfl rfl) (rk_s) H (SF_refl) (SA_refl)  (w54) ((funext (hA_c228 54 rfl)).trans ((funext (hA_c193 54 rfl)).trans ((funext (hA_c180 54 rfl)).trans ((funext (hA_c164 54 rfl)).trans ((funext (hA55 54 rfl)).trans ((funext (hA_c147 54 rfl)).trans ((funext (hA50 54 rfl)).trans ((funext (hA_c122 54 rfl)).trans ((funext (hA38 54 rfl)).trans ((funext (hA26 54 rfl)).trans ((funext (hA_c87 54 rfl)).trans ((funext (hA_c62 54 rfl)).trans ((funext (hA21 54 rfl)).trans ((funext (hA14 54 rfl)).trans ((funext (hA7 54 rfl)).trans (ew54)))))))))))))))) (show inr (0) from q_2) (show (0) ≤ (0) from q_1) (show (0) ≤ (0) ∨ (0) ≤ ((64)) from q_1339) (show IMP ((xc147_5) ≠ 1) (∀ k, (0 : Int) ≤ k → k < (0) → ((w54)) (64 * (a1) + k) = ((wc228_75)) k) by assumption) (show FRM ((w54)) ((w54)) (64 * (a1)) (64 * (a1) + 64) by assumption) (show IMP ((xc147_5) = 3) ((w54) = (w54)) by assumption) (show (xc147_5) < 3 ∨ (0) = 0 from q_2647) (show IMP ((xc147_5) = 1) (∀ k, (0 : Int) ≤ k → k < (0) → ((w54)) (64 * (a1) + k) = on0 ((v3)) k) by assumption) rfl
                  as_aux_lemma =>
                  intro m
                  induction m using Nat.strongRecOn with
                  | _ m ih231 =>
                    intro ls σ F_231 A_231 x231_10 l231_0 l231_2 l231_3 l231_5 l231_10 H hS_231 hA_231  w231_54 ew231_54 j231_0 j231_1 j231_2 j231_3 j231_4 j231_5 j231_6 j231_7 hm231
                    have j231_c : IMP ((xc147_5) ≠ 1) (∀ k, (0 : Int) ≤ k → k < (x231_10) → ((w231_54)) (64 * (a1) + k) = ((wc228_75)) k) := by assumption
                    have j231_f : FRM ((w54)) ((w231_54)) (64 * (a1)) (64 * (a1) + 64) := j231_4
                    have j231_p : IMP ((xc147_5) = 3) ((w231_54) = (w54)) := j231_5
                    have j231_1 : IMP ((xc147_5) = 1) (∀ k, (0 : Int) ≤ k → k < (x231_10) → ((w231_54)) (64 * (a1) + k) = on0 ((v3)) k) := by assumption
                    obtain ⟨ql10, hql10⟩ : ∃ q : Int, q = (x231_10) := ⟨_, rfl⟩
                    refine Ew_of (pcₚ := 233) (fun _ => x_iload rfl l231_10) ?_
                    refine Ew_of (pcₚ := 235) (fun _ => x_bipush (z := 64) rfl (by decide)) ?_
                    refine w_icmpge (t := 286) rfl rfl (show inr (x231_10) from j231_0) (show inr (64) from q_151) (fun b64 => ?_) (fun b64 => ?_)
                    · have hto : FRM ((w55)) ((wc228_55)) ((a1)) ((a1) + 1) := by rcases (show (xc147_5) = 0 ∨ (xc147_5) = 1 ∨ (xc147_5) = 2 ∨ (xc147_5) = 3 by omega) with q | q | q | q; (rw [(h228_0 q).1]; exact FRM_upd FRM_refl (by omega) (by omega)); (rw [h228_1 q]; exact FRM_upd FRM_refl (by omega) (by omega)); (rw [(h228_2 q).1]; exact FRM_upd FRM_refl (by omega) (by omega)); (rw [h228_3 q]; exact FRM_refl)
                      have htb : TBL ((w231_54)) ((wc228_55)) (sh ((w66)) (8001 * (a1))) ((a1)) ((u6_28)) := by rcases (show (xc147_5) = 0 ∨ (xc147_5) = 1 ∨ (xc147_5) = 2 ∨ (xc147_5) = 3 by omega) with q | q | q | q; (first | exact TBL_new hshk (fun k a b => by rw [j231_c (by omega) k a (by omega)]; exact (h228_0 q).2 k a b) (by rw [(h228_0 q).1, upd1_s]) hc1 hag1 hcb1 | (exfalso; omega)); exact TBL_0 (by rw [h228_1 q, upd1_s]); (first | exact TBL_new (SH_div (by omega) (h228_2 q).2.1 (h228_2 q).2.2.1 hlz) (fun k a b => j231_c (by omega) k a (by omega)) (by rw [(h228_2 q).1, upd1_s]) hco2 (AG_sh (DVF_uniq hdf2 (h228_2 q).2.2.2)) (by have := hm2 q; omega) | (exfalso; omega)); (rw [j231_p q, h228_3 q]; have hq3 := hm3 q; exact TBL_was hwo (by omega) (by omega) (ha2 (by omega)) (ha1 (by omega)) (by omega))
                      have : WO ((w231_54)) ((wc228_55)) := WO_new hwo j231_f hto htb
                      have hTT : IMP (MDX ((w69)) ((u6_35))) (TTP ((a1)) (cutP ((u6_28)) (sh ((w66)) (8001 * (a1)))) ((u6_28)) (btS (((w55)) ((a1))) (sh ((w54)) (64 * (a1)))) (btS (((wc228_55)) ((a1))) (sh ((w231_54)) (64 * (a1)))) ((xc147_5)) ((wc228_69)) ((yc228_6_35))) := fun q => ⟨(hm147 q).symm, j228_m q, by rcases (show (xc147_5) = 0 ∨ (xc147_5) = 1 ∨ (xc147_5) = 2 ∨ (xc147_5) = 3 by omega) with z | z | z | z; (rw [z, tnF_0, (h228_0 z).1, upd1_s]; exact btS_e (by have := kO_eq ((a1)); omega) (fun k a b => (j231_c (by omega) k a (by omega)).trans ((h228_0 z).2 k a b))); (rw [z, tnF_1, h228_1 z, upd1_s]; exact btS_e (Int.le_refl 0) (fun k a b => by rw [on0_cut (by omega), hf0.1]; exact j231_1 z k a (by omega))); (rw [z, tnF_2 (hbo92 q).1.symm, (h228_2 z).1, upd1_s, shP_e (ct_cut hce) (h228_2 z).2.2.2]; exact btS_e (by omega) (fun k a b => j231_c (by omega) k a (by omega))); (rw [z, tnF_3, j231_p z, h228_3 z])⟩
                      refine Ew_of (pcₚ := 288) (fun _ => x_iload rfl l231_5) ?_
                      exact w_ireturn rfl (k (xc147_5) σ _ _ H (SF_trans (SF_trans (SF_trans (SF_trans (SF_trans (SF_trans (SF_trans (SF_trans (SF_trans (SF_trans (SF_trans (SF_trans (SF_trans (SF_trans (SF_trans (SF_trans (SF_refl) hS6 (any_sub rfl)) hS13 (any_sub rfl)) hS20 (any_sub rfl)) hS_c62 (any_sub rfl)) hS_c87 (any_sub rfl)) hS25 (any_sub rfl)) hS37 (any_sub rfl)) hS_c122 (any_sub rfl)) hS49 (any_sub rfl)) hS_c147 (any_sub rfl)) hS54 (any_sub rfl)) hS_c164 (any_sub rfl)) hS_c180 (any_sub rfl)) hS_c193 (any_sub rfl)) hS_c228 (any_sub rfl)) hS_231 (any_sub rfl)) (SA_trans (SA_trans (SA_trans (SA_trans (SA_trans (SA_trans (SA_trans (SA_trans (SA_trans (SA_trans (SA_trans (SA_trans (SA_trans (SA_trans (SA_trans (SA_trans (SA_refl) hA7 (any_subA rfl)) hA14 (any_subA rfl)) hA21 (any_subA rfl)) hA_c62 (any_subA rfl)) hA_c87 (any_subA rfl)) hA26 (any_subA rfl)) hA38 (any_subA rfl)) hA_c122 (any_subA rfl)) hA50 (any_subA rfl)) hA_c147 (any_subA rfl)) hA55 (any_subA rfl)) hA_c164 (any_subA rfl)) hA_c180 (any_subA rfl)) hA_c193 (any_subA rfl)) hA_c228 (any_subA rfl)) hA_231 (any_subA rfl)) (yc228_6_35) (((hS_231 6 35 rfl).trans (eyc228_6_35))) (w231_54) (ew231_54) (wc228_55) ((funext (hA_231 55 rfl)).trans (ewc228_55)) (wc228_69) ((funext (hA_231 69 rfl)).trans (ewc228_69)) (show inr (xc147_5) from jc147_0) (show 0 ≤ (xc147_5) ∧ (xc147_5) ≤ 3 from jc147_1) (show 0 ≤ (yc228_6_35) ∧ (yc228_6_35) ≤ 700 from jc228_4) (htb) (show WO ((w231_54)) ((wc228_55)) by assumption) (j231_f) (hto) (hTT))
                    · refine Ew_of (pcₚ := 240) (fun _ => x_iload rfl l231_5) ?_
                      refine Ew_of (pcₚ := 241) (fun _ => x_iconst rfl) ?_
                      refine w_icmpge (t := 286) rfl rfl (show inr (xc147_5) from jc147_0) (show inr (3) from q_246) (fun b65 => ?_) (fun b65 => ?_)
                      · have hto : FRM ((w55)) ((wc228_55)) ((a1)) ((a1) + 1) := by rcases (show (xc147_5) = 0 ∨ (xc147_5) = 1 ∨ (xc147_5) = 2 ∨ (xc147_5) = 3 from q_2648 b65 jc147_1) with q | q | q | q; (rw [(h228_0 q).1]; exact FRM_upd FRM_refl (by omega) (by omega)); (rw [h228_1 q]; exact FRM_upd FRM_refl (by omega) (by omega)); (rw [(h228_2 q).1]; exact FRM_upd FRM_refl (by omega) (by omega)); (rw [h228_3 q]; exact FRM_refl)
                        have htb : TBL ((w231_54)) ((wc228_55)) (sh ((w66)) (8001 * (a1))) ((a1)) ((u6_28)) := by rcases (show (xc147_5) = 0 ∨ (xc147_5) = 1 ∨ (xc147_5) = 2 ∨ (xc147_5) = 3 from q_2648 b65 jc147_1) with q | q | q | q; (first | exact TBL_new hshk (fun k a b => by rw [j231_c (by omega) k a (by omega)]; exact (h228_0 q).2 k a b) (by rw [(h228_0 q).1, upd1_s]) hc1 hag1 hcb1 | (exfalso; omega)); exact TBL_0 (by rw [h228_1 q, upd1_s]); (first | exact TBL_new (SH_div (by omega) (h228_2 q).2.1 (h228_2 q).2.2.1 hlz) (fun k a b => j231_c (by omega) k a (by omega)) (by rw [(h228_2 q).1, upd1_s]) hco2 (AG_sh (DVF_uniq hdf2 (h228_2 q).2.2.2)) (by have := hm2 q; omega) | (exfalso; omega)); (rw [j231_p q, h228_3 q]; have hq3 := hm3 q; exact TBL_was hwo (by omega) (by omega) (ha2 (by omega)) (ha1 (by omega)) (by omega))
                        have : WO ((w231_54)) ((wc228_55)) := WO_new hwo j231_f hto htb
                        have hTT : IMP (MDX ((w69)) ((u6_35))) (TTP ((a1)) (cutP ((u6_28)) (sh ((w66)) (8001 * (a1)))) ((u6_28)) (btS (((w55)) ((a1))) (sh ((w54)) (64 * (a1)))) (btS (((wc228_55)) ((a1))) (sh ((w231_54)) (64 * (a1)))) ((xc147_5)) ((wc228_69)) ((yc228_6_35))) := fun q => ⟨(hm147 q).symm, j228_m q, by rcases (show (xc147_5) = 0 ∨ (xc147_5) = 1 ∨ (xc147_5) = 2 ∨ (xc147_5) = 3 from q_2648 b65 jc147_1) with z | z | z | z; (rw [z, tnF_0, (h228_0 z).1, upd1_s]; exact btS_e (by have := kO_eq ((a1)); omega) (fun k a b => (j231_c (by omega) k a (by omega)).trans ((h228_0 z).2 k a b))); (rw [z, tnF_1, h228_1 z, upd1_s]; exact btS_e (Int.le_refl 0) (fun k a b => by rw [on0_cut (by omega), hf0.1]; exact j231_1 z k a (by omega))); (rw [z, tnF_2 (hbo92 q).1.symm, (h228_2 z).1, upd1_s, shP_e (ct_cut hce) (h228_2 z).2.2.2]; exact btS_e (by omega) (fun k a b => j231_c (by omega) k a (by omega))); (rw [z, tnF_3, j231_p z, h228_3 z])⟩
                        refine Ew_of (pcₚ := 288) (fun _ => x_iload rfl l231_5) ?_
                        exact w_ireturn rfl (k (xc147_5) σ _ _ H (SF_trans (SF_trans (SF_trans (SF_trans (SF_trans (SF_trans (SF_trans (SF_trans (SF_trans (SF_trans (SF_trans (SF_trans (SF_trans (SF_trans (SF_trans (SF_trans (SF_refl) hS6 (any_sub rfl)) hS13 (any_sub rfl)) hS20 (any_sub rfl)) hS_c62 (any_sub rfl)) hS_c87 (any_sub rfl)) hS25 (any_sub rfl)) hS37 (any_sub rfl)) hS_c122 (any_sub rfl)) hS49 (any_sub rfl)) hS_c147 (any_sub rfl)) hS54 (any_sub rfl)) hS_c164 (any_sub rfl)) hS_c180 (any_sub rfl)) hS_c193 (any_sub rfl)) hS_c228 (any_sub rfl)) hS_231 (any_sub rfl)) (SA_trans (SA_trans (SA_trans (SA_trans (SA_trans (SA_trans (SA_trans (SA_trans (SA_trans (SA_trans (SA_trans (SA_trans (SA_trans (SA_trans (SA_trans (SA_trans (SA_refl) hA7 (any_subA rfl)) hA14 (any_subA rfl)) hA21 (any_subA rfl)) hA_c62 (any_subA rfl)) hA_c87 (any_subA rfl)) hA26 (any_subA rfl)) hA38 (any_subA rfl)) hA_c122 (any_subA rfl)) hA50 (any_subA rfl)) hA_c147 (any_subA rfl)) hA55 (any_subA rfl)) hA_c164 (any_subA rfl)) hA_c180 (any_subA rfl)) hA_c193 (any_subA rfl)) hA_c228 (any_subA rfl)) hA_231 (any_subA rfl)) (yc228_6_35) (((hS_231 6 35 rfl).trans (eyc228_6_35))) (w231_54) (ew231_54) (wc228_55) ((funext (hA_231 55 rfl)).trans (ewc228_55)) (wc228_69) ((funext (hA_231 69 rfl)).trans (ewc228_69)) (show inr (xc147_5) from jc147_0) (show 0 ≤ (xc147_5) ∧ (xc147_5) ≤ 3 from jc147_1) (show 0 ≤ (yc228_6_35) ∧ (yc228_6_35) ≤ 700 from jc228_4) (htb) (show WO ((w231_54)) ((wc228_55)) by assumption) (j231_f) (hto) (hTT))
                      · refine Ew_of (pcₚ := 245) (fun _ => x_aload_n rfl l231_0) ?_
                        refine w_gT H (o := 6) (t := 54) rfl (H.perm 6 rfl) rfl rfl rfl rfl rfl rfl ?_
                        refine Ew_of (pcₚ := 249) (fun _ => x_iload_n rfl l231_2) ?_
                        refine Ew_of (pcₚ := 251) (fun _ => x_iload rfl l231_10) ?_
                        refine w_iadd rfl ?_
                        refine Ew_of (pcₚ := 254) (fun _ => x_iload rfl l231_5) ?_
                        refine Ew_of (pcₚ := 255) (fun _ => x_iconst rfl) ?_
                        refine w_icmpne (t := 272) rfl rfl (show inr (xc147_5) from jc147_0) (show inr (1) from q_135) (fun b66 => ?_) (fun b66 => ?_)
                        · have htr : -1 ≤ ((wc228_75)) ((x231_10)) ∧ ((wc228_75)) ((x231_10)) ≤ 512 := by rcases (show (xc147_5) = 0 ∨ (xc147_5) = 2 by omega) with q | q; (rw [(h228_0 q).2 ((x231_10)) (by omega) (by omega)]; have w := SH_le ((x231_10)) hshk (by omega) (by omega); have w2 := p2_le9 (o := kO ((a1))) (by have := kO_eq ((a1)); omega); rw [Int.zero_add] at w; omega); (have w := SH_le ((x231_10)) (SH_div (by omega) (h228_2 q).2.1 (h228_2 q).2.2.1 hlz) (by omega) (by omega); have w2 := p2_le9 (o := z27) (by omega); rw [Int.zero_add] at w; omega)
                          refine Ew_of (pcₚ := 273) (fun _ => x_aload_n rfl l231_0) ?_
                          refine w_gT H (o := 6) (t := 75) rfl (H.perm 6 rfl) rfl rfl rfl rfl rfl rfl ?_
                          refine Ew_of (pcₚ := 278) (fun _ => x_iload rfl l231_10) ?_
                          refine w_lI H (o := 75) (n := 64) rfl (H.perm 75 rfl) rfl rfl (H.fix 75 rfl rfl) (show 0 ≤ x231_10 ∧ x231_10 < ((64 : Nat) : Int) by omega) (by decide) (fun v67 ev67 qv67 => ?_)
                          have qv67 : (-2147483648 : Int) ≤ v67 ∧ v67 ≤ 2147483647 := qv67
                          have ev67 : (wc228_75) (x231_10) = v67 := (congrFun ((funext (hA_231 75 rfl)).trans (ewc228_75)) (x231_10)).symm.trans ev67
                          refine w_sI H (o := 54) (n := 192) rfl (H.perm 54 rfl) rfl rfl (H.fix 54 rfl rfl) (show 0 ≤ ((64 * a1) + x231_10) ∧ ((64 * a1) + x231_10) < ((192 : Nat) : Int) by omega) (by decide) (show (-1 : Int) ≤ v67 ∧ v67 ≤ 512 from q_2649 ev67 htr) (fun σ H => ?_)
                          refine Ew_of (pcₚ := 283) (fun _ => x_iinc (len := 3) rfl (l231_10)) ?_
                          refine Ew_of (pcₚ := 231) (fun _ => x_goto rfl rfl) ?_
                          have : IMP ((xc147_5) ≠ 1) (∀ k, (0 : Int) ≤ k → k < ((x231_10 + 1)) → ((upd1 (w231_54) (((64 * a1) + x231_10)) (v67))) (64 * (a1) + k) = ((wc228_75)) k) := fun q => cp_upd (j231_c q) (by omega) rfl
                          have : FRM ((w54)) ((upd1 (w231_54) (((64 * a1) + x231_10)) (v67))) (64 * (a1)) (64 * (a1) + 64) := FRM_upd j231_f (by omega) (by omega)
                          have : IMP ((xc147_5) = 3) ((upd1 (w231_54) (((64 * a1) + x231_10)) (v67)) = (w54)) := fun q => absurd q (by omega)
                          have : IMP ((xc147_5) = 1) (∀ k, (0 : Int) ≤ k → k < ((x231_10 + 1)) → ((upd1 (w231_54) (((64 * a1) + x231_10)) (v67))) (64 * (a1) + k) = on0 ((v3)) k) := by first | exact fun q => absurd q (by omega) | exact fun q k a b => by by_cases e : k = ql10; (rw [e, hql10, upd1_s]; unfold on0; first | (rw [if_pos (by omega)]) | (rw [if_neg (by omega)])); (rw [upd1_o (by omega)]; exact j231_1 q k a (by omega))
                          exact ih231 _ (msE hm231 q_1344 (q_1345 b64)) _ σ _ _ ((x231_10 + 1)) (rk_o (l231_0) rfl rfl) (rk_o (l231_2) rfl rfl) (rk_o (l231_3) rfl rfl) (rk_o (l231_5) rfl rfl) (rk_s) H (hS_231) (SA_upd (hA_231) rfl)  (upd1 (w231_54) (((64 * a1) + x231_10)) (v67)) (congrArg (fun q => upd1 q (((64 * a1) + x231_10)) (v67)) (ew231_54)) (show inr ((x231_10 + 1)) from q_2707 b64 j231_0) (show (0) ≤ ((x231_10 + 1)) by omega) (show ((x231_10 + 1)) ≤ (0) ∨ ((x231_10 + 1)) ≤ ((64)) from q_1342 b64) (show IMP ((xc147_5) ≠ 1) (∀ k, (0 : Int) ≤ k → k < ((x231_10 + 1)) → ((upd1 (w231_54) (((64 * a1) + x231_10)) (v67))) (64 * (a1) + k) = ((wc228_75)) k) by assumption) (show FRM ((w54)) ((upd1 (w231_54) (((64 * a1) + x231_10)) (v67))) (64 * (a1)) (64 * (a1) + 64) by assumption) (show IMP ((xc147_5) = 3) ((upd1 (w231_54) (((64 * a1) + x231_10)) (v67)) = (w54)) by assumption) (show (xc147_5) < 3 ∨ ((x231_10 + 1)) = 0 from q_2650 b65) (show IMP ((xc147_5) = 1) (∀ k, (0 : Int) ≤ k → k < ((x231_10 + 1)) → ((upd1 (w231_54) (((64 * a1) + x231_10)) (v67))) (64 * (a1) + k) = on0 ((v3)) k) by assumption) rfl
                        · refine Ew_of (pcₚ := 260) (fun _ => x_iload rfl l231_10) ?_
                          refine Ew_of (pcₚ := 261) (fun _ => x_iload_n rfl l231_3) ?_
                          refine w_icmpne (t := 268) rfl rfl (show inr (x231_10) from j231_0) (show inr (v3) from q_2706 hf0) (fun b68 => ?_) (fun b68 => ?_)
                          · refine Ew_of (pcₚ := 269) (fun _ => x_iconst rfl) ?_
                            refine Ew_of (pcₚ := 279) (fun _ => x_goto rfl rfl) ?_
                            refine w_sI H (o := 54) (n := 192) rfl (H.perm 54 rfl) rfl rfl (H.fix 54 rfl rfl) (show 0 ≤ ((64 * a1) + x231_10) ∧ ((64 * a1) + x231_10) < ((192 : Nat) : Int) by omega) (by decide) (show (-1 : Int) ≤ 0 ∧ 0 ≤ 512 from q_1689) (fun σ H => ?_)
                            refine Ew_of (pcₚ := 283) (fun _ => x_iinc (len := 3) rfl (l231_10)) ?_
                            refine Ew_of (pcₚ := 231) (fun _ => x_goto rfl rfl) ?_
                            have : IMP ((xc147_5) ≠ 1) (∀ k, (0 : Int) ≤ k → k < ((x231_10 + 1)) → ((upd1 (w231_54) (((64 * a1) + x231_10)) (0))) (64 * (a1) + k) = ((wc228_75)) k) := fun q => cp_upd (j231_c q) (by omega) rfl
                            have : FRM ((w54)) ((upd1 (w231_54) (((64 * a1) + x231_10)) (0))) (64 * (a1)) (64 * (a1) + 64) := FRM_upd j231_f (by omega) (by omega)
                            have : IMP ((xc147_5) = 3) ((upd1 (w231_54) (((64 * a1) + x231_10)) (0)) = (w54)) := fun q => absurd q (by omega)
                            have : IMP ((xc147_5) = 1) (∀ k, (0 : Int) ≤ k → k < ((x231_10 + 1)) → ((upd1 (w231_54) (((64 * a1) + x231_10)) (0))) (64 * (a1) + k) = on0 ((v3)) k) := by first | exact fun q => absurd q (by omega) | exact fun q k a b => by by_cases e : k = ql10; (rw [e, hql10, upd1_s]; unfold on0; first | (rw [if_pos (by omega)]) | (rw [if_neg (by omega)])); (rw [upd1_o (by omega)]; exact j231_1 q k a (by omega))
                            exact ih231 _ (msE hm231 q_1344 (q_1345 b64)) _ σ _ _ ((x231_10 + 1)) (rk_o (l231_0) rfl rfl) (rk_o (l231_2) rfl rfl) (rk_o (l231_3) rfl rfl) (rk_o (l231_5) rfl rfl) (rk_s) H (hS_231) (SA_upd (hA_231) rfl)  (upd1 (w231_54) (((64 * a1) + x231_10)) (0)) (congrArg (fun q => upd1 q (((64 * a1) + x231_10)) (0)) (ew231_54)) (show inr ((x231_10 + 1)) from q_2707 b64 j231_0) (show (0) ≤ ((x231_10 + 1)) by omega) (show ((x231_10 + 1)) ≤ (0) ∨ ((x231_10 + 1)) ≤ ((64)) from q_1342 b64) (show IMP ((xc147_5) ≠ 1) (∀ k, (0 : Int) ≤ k → k < ((x231_10 + 1)) → ((upd1 (w231_54) (((64 * a1) + x231_10)) (0))) (64 * (a1) + k) = ((wc228_75)) k) by assumption) (show FRM ((w54)) ((upd1 (w231_54) (((64 * a1) + x231_10)) (0))) (64 * (a1)) (64 * (a1) + 64) by assumption) (show IMP ((xc147_5) = 3) ((upd1 (w231_54) (((64 * a1) + x231_10)) (0)) = (w54)) by assumption) (show (xc147_5) < 3 ∨ ((x231_10 + 1)) = 0 from q_2650 b65) (show IMP ((xc147_5) = 1) (∀ k, (0 : Int) ≤ k → k < ((x231_10 + 1)) → ((upd1 (w231_54) (((64 * a1) + x231_10)) (0))) (64 * (a1) + k) = on0 ((v3)) k) by assumption) rfl
                          · refine Ew_of (pcₚ := 265) (fun _ => x_iconst rfl) ?_
                            refine Ew_of (pcₚ := 279) (fun _ => x_goto rfl rfl) ?_
                            refine w_sI H (o := 54) (n := 192) rfl (H.perm 54 rfl) rfl rfl (H.fix 54 rfl rfl) (show 0 ≤ ((64 * a1) + x231_10) ∧ ((64 * a1) + x231_10) < ((192 : Nat) : Int) from q_2708 b64 b68 h1 hf0) (by decide) (show (-1 : Int) ≤ 1 ∧ 1 ≤ 512 from q_1691) (fun σ H => ?_)
                            refine Ew_of (pcₚ := 283) (fun _ => x_iinc (len := 3) rfl (l231_10)) ?_
                            refine Ew_of (pcₚ := 231) (fun _ => x_goto rfl rfl) ?_
                            have : IMP ((xc147_5) ≠ 1) (∀ k, (0 : Int) ≤ k → k < ((x231_10 + 1)) → ((upd1 (w231_54) (((64 * a1) + x231_10)) (1))) (64 * (a1) + k) = ((wc228_75)) k) := fun q => cp_upd (j231_c q) (by omega) rfl
                            have : FRM ((w54)) ((upd1 (w231_54) (((64 * a1) + x231_10)) (1))) (64 * (a1)) (64 * (a1) + 64) := FRM_upd j231_f (by omega) (by omega)
                            have : IMP ((xc147_5) = 3) ((upd1 (w231_54) (((64 * a1) + x231_10)) (1)) = (w54)) := fun q => absurd q (by omega)
                            have : IMP ((xc147_5) = 1) (∀ k, (0 : Int) ≤ k → k < ((x231_10 + 1)) → ((upd1 (w231_54) (((64 * a1) + x231_10)) (1))) (64 * (a1) + k) = on0 ((v3)) k) := by first | exact fun q => absurd q (by omega) | exact fun q k a b => by by_cases e : k = ql10; (rw [e, hql10, upd1_s]; unfold on0; first | (rw [if_pos (by omega)]) | (rw [if_neg (by omega)])); (rw [upd1_o (by omega)]; exact j231_1 q k a (by omega))
                            exact ih231 _ (msE hm231 q_1344 (q_1345 b64)) _ σ _ _ ((x231_10 + 1)) (rk_o (l231_0) rfl rfl) (rk_o (l231_2) rfl rfl) (rk_o (l231_3) rfl rfl) (rk_o (l231_5) rfl rfl) (rk_s) H (hS_231) (SA_upd (hA_231) rfl)  (upd1 (w231_54) (((64 * a1) + x231_10)) (1)) (congrArg (fun q => upd1 q (((64 * a1) + x231_10)) (1)) (ew231_54)) (show inr ((x231_10 + 1)) from q_2707 b64 j231_0) (show (0) ≤ ((x231_10 + 1)) from q_2709 b68 hf0) (show ((x231_10 + 1)) ≤ (0) ∨ ((x231_10 + 1)) ≤ ((64)) from q_1342 b64) (show IMP ((xc147_5) ≠ 1) (∀ k, (0 : Int) ≤ k → k < ((x231_10 + 1)) → ((upd1 (w231_54) (((64 * a1) + x231_10)) (1))) (64 * (a1) + k) = ((wc228_75)) k) by assumption) (show FRM ((w54)) ((upd1 (w231_54) (((64 * a1) + x231_10)) (1))) (64 * (a1)) (64 * (a1) + 64) by assumption) (show IMP ((xc147_5) = 3) ((upd1 (w231_54) (((64 * a1) + x231_10)) (1)) = (w54)) by assumption) (show (xc147_5) < 3 ∨ ((x231_10 + 1)) = 0 from q_2650 b65) (show IMP ((xc147_5) = 1) (∀ k, (0 : Int) ≤ k → k < ((x231_10 + 1)) → ((upd1 (w231_54) (((64 * a1) + x231_10)) (1))) (64 * (a1) + k) = on0 ((v3)) k) by assumption) rfl
                have h193_0 : IMP ((xc147_5) = 0) ((wc193_55) = upd1 ((w55)) ((a1)) (kO ((a1))) ∧ ∀ i, (0 : Int) ≤ i → i < 64 → ((wc180_75)) i = KK ((a1)) i) := by assumption
                have h193_1 : IMP ((xc147_5) = 1) ((wc193_55) = upd1 ((w55)) ((a1)) 0) := jc193_1
                have h193_3 : IMP ((xc147_5) ≠ 0 ∧ (xc147_5) ≠ 1) ((wc193_55) = (w55)) := jc193_2
                have j193_m : IMP (MDX ((w69)) ((u6_35))) (MDB ((wc164_69)) ((yc164_6_35)) (t1B ((xc147_5)) ((v3)))) := jc164_1
                refine Ew_of (pcₚ := 195) (fun _ => x_iload rfl lc193_5) ?_
                refine Ew_of (pcₚ := 196) (fun _ => x_iconst rfl) ?_
                refine w_icmpne (t := 228) rfl rfl (show inr (xc147_5) from jc147_0) (show inr (2) from q_122) (fun b69 => ?_) (fun b69 => ?_)
                · have : IMP ((xc147_5) = 0) ((wc193_55) = upd1 ((w55)) ((a1)) (kO ((a1))) ∧ ∀ i, (0 : Int) ≤ i → i < 64 → ((wc180_75)) i = KK ((a1)) i) := by first | exact h193_0 | exact (fun q => absurd q (by omega))
                  have : IMP ((xc147_5) = 1) ((wc193_55) = upd1 ((w55)) ((a1)) 0) := by first | exact h193_1 | exact (fun q => absurd q (by omega))
                  have : IMP ((xc147_5) = 2) ((wc193_55) = upd1 ((w55)) ((a1)) (z27) ∧ DVI ((wq32)) ((wc180_75)) 64 ∧ su (fun i => mass (((wc180_75)) i)) 64 = p2 (z27) ∧ DVF ((wq32)) ((u6_28)) (p2 (z27)) ((wc180_75))) := by first | exact (fun q => ⟨by rw [h193_3 (by omega)], hd0, hd1, hd2⟩) | exact (fun q => absurd q (by omega))
                  have : IMP ((xc147_5) = 3) ((wc193_55) = (w55)) := by first | exact (fun q => h193_3 (by omega)) | exact (fun q => absurd q (by omega))
                  have : IMP (MDX ((w69)) ((u6_35))) (MBY ((wc164_69)) ((yc164_6_35)) (ttB ((a1)) (cutP ((u6_28)) (sh ((w66)) (8001 * (a1)))) ((u6_28)) ((xc147_5)))) := by first | exact fun q => by by_cases z1 : ((xc147_5)) = 1; (exact ttM_1 z1 (by omega) hf0 (j193_m q)); (exact ttM_n (by omega) (j193_m q)) | exact fun q => by have z : (xc147_5) = 2 := (by omega); have h0 := j193_m q; rw [t1B_n (by omega)] at h0; have h := pzMISS_1 (by omega) [] h0; rw [List.nil_append, sh0, ← hPD217] at h; rw [z, ttB_2 (hbo92 q).1.symm]; exact ⟨_, h, pd8_len.1, by rw [byw_pd]; rfl⟩
                  exact hc228  _ σ _ _  (lc193_0) (lc193_2) (lc193_3) (lc193_5) H (SF_refl) (SA_refl) (yc164_6_35) ((((hS_c193 6 35 rfl).trans (hS_c180 6 35 rfl)).trans (eyc164_6_35))) (wc193_55) (ewc193_55) (wc164_69) ((funext (hA_c193 69 rfl)).trans ((funext (hA_c180 69 rfl)).trans (ewc164_69))) (wc180_75) ((funext (hA_c193 75 rfl)).trans (ewc180_75)) (h193_0) (h193_1) (show IMP ((xc147_5) = 2) ((wc193_55) = upd1 ((w55)) ((a1)) (z27) ∧ DVI ((wq32)) ((wc180_75)) 64 ∧ su (fun i => mass (((wc180_75)) i)) 64 = p2 (z27) ∧ DVF ((wq32)) ((u6_28)) (p2 (z27)) ((wc180_75))) by assumption) (show IMP ((xc147_5) = 3) ((wc193_55) = (w55)) by assumption) (show 0 ≤ (yc164_6_35) ∧ (yc164_6_35) ≤ 700 from q_2651 jc164_0 r62) (show IMP (MDX ((w69)) ((u6_35))) (MBY ((wc164_69)) ((yc164_6_35)) (ttB ((a1)) (cutP ((u6_28)) (sh ((w66)) (8001 * (a1)))) ((u6_28)) ((xc147_5)))) by assumption)
                · refine Ew_of (pcₚ := 200) (fun _ => x_aload_n rfl lc193_0) ?_
                  refine w_gT H (o := 6) (t := 55) rfl (H.perm 6 rfl) rfl rfl rfl rfl rfl rfl ?_
                  refine Ew_of (pcₚ := 204) (fun _ => x_iload_n rfl lc193_1) ?_
                  refine Ew_of (pcₚ := 206) (fun _ => x_iload rfl lc193_9) ?_
                  refine w_sI H (o := 55) (n := 3) rfl (H.perm 55 rfl) rfl rfl (H.fix 55 rfl rfl) (show 0 ≤ a1 ∧ a1 < ((3 : Nat) : Int) from q_1333 h1) (by decide) (show (-1 : Int) ≤ z27 ∧ z27 ≤ 9 from q_2652 pz27_1) (fun σ H => ?_)
                  refine Ew_of (pcₚ := 208) (fun _ => x_aload_n rfl lc193_0) ?_
                  refine Ew_of (pcₚ := 209) (fun _ => x_aload_n rfl lc193_0) ?_
                  refine w_gI H (o := 6) (w := u6_28) rfl (H.perm 6 rfl) rfl rfl rfl (fun _ => rfl) (((((((((((((((hS_c193 6 28 rfl).trans (hS_c180 6 28 rfl)).trans (hS_c164 6 28 rfl)).trans (hS54 6 28 rfl)).trans (hS_c147 6 28 rfl)).trans (hS49 6 28 rfl)).trans (hS_c122 6 28 rfl)).trans (hS37 6 28 rfl)).trans (hS25 6 28 rfl)).trans (hS_c87 6 28 rfl)).trans (hS_c62 6 28 rfl)).trans (hS20 6 28 rfl)).trans (hS13 6 28 rfl)).trans (hS6 6 28 rfl)).trans (eu6_28)) ?_
                  refine Ew_of (pcₚ := 214) (fun _ => x_iload rfl lc193_9) ?_
                  refine w_inv H (o := 6) rfl rfl rfl (H.perm 6 rfl) rfl rfl (by rfl) (M411b H (wq32) ((funext (hA_c193 78 rfl)).trans ((funext (hA_c180 78 rfl)).trans ((funext (hA_c164 78 rfl)).trans ((funext (hA55 78 rfl)).trans ((funext (hA_c147 78 rfl)).trans ((funext (hA50 78 rfl)).trans ((funext (hA_c122 78 rfl)).trans ((funext (hA38 78 rfl)).trans (ewq33))))))))) (show inr (u6_28) from q_6 r1) (show inr (z27) from pz27_0) (show 1 ≤ (u6_28) ∧ (u6_28) ≤ 8001 from q_2618 h2 r1) (show 5 ≤ (z27) ∧ (z27) ≤ 9 from pz27_1) (show ∀ i, (0 : Int) ≤ i → i < 64 → 0 ≤ ((wq32)) i by assumption) (show su (fun i => ((wq32)) i) 64 = (u6_28) by omega) (show su (fun i => pos1 (((wq32)) i)) 64 ≤ p2 ((z27)) by omega) (fun σ F70 A71 H hS72 hA73 wq75 ewq76 pz74_0 pz74_1 pz74_2 => ⟨rfl, ?_⟩))
                  have hd0 := pz74_0
                  have hd1 := pz74_1
                  have hd2 := pz74_2
                  have : SH ((wq75)) 0 64 (z27) (lastOf ((a1))) := SH_div (by omega) hd0 hd1 hlz
                  have hPD217 : shP (cutP ((u6_28)) (sh ((w66)) (8001 * (a1)))) ((u6_28)) (z27) = cutP 64 ((wq75)) := shP_e (ct_cut hce) hd2
                  refine Ew_of (pcₚ := 218) (fun _ => x_aload_n rfl lc193_0) ?_
                  refine Ew_of (pcₚ := 219) (fun _ => x_aload_n rfl lc193_0) ?_
                  refine w_gT H (o := 6) (t := 75) rfl (H.perm 6 rfl) rfl rfl rfl rfl rfl rfl ?_
                  refine Ew_of (pcₚ := 223) (fun _ => x_iconst rfl) ?_
                  refine Ew_of (pcₚ := 225) (fun _ => x_iload rfl lc193_9) ?_
                  refine w_inv H (o := 6) rfl rfl rfl (H.perm 6 rfl) rfl rfl (by rfl) (M412_75 H (yc164_6_35) (((((hS72 6 35 rfl).trans (hS_c193 6 35 rfl)).trans (hS_c180 6 35 rfl)).trans (eyc164_6_35))) (wc164_69) ((funext (hA73 69 rfl)).trans ((funext (hA_c193 69 rfl)).trans ((funext (hA_c180 69 rfl)).trans (ewc164_69)))) (wq75) (ewq76) (lastOf ((a1))) (show inr (0) from q_2) (show inr (z27) from pz27_0) (show SH ((wq75)) (0) 64 (z27) (lastOf ((a1))) by assumption) (show 0 ≤ (0) ∧ (0) + 64 ≤ 64 from q_2503) (show 0 ≤ (yc164_6_35) ∧ (yc164_6_35) ≤ 1000000 from q_2654 jc164_0 r62) (show 0 ≤ (lastOf ((a1))) from q_2653 hls) (fun σ F77 A78 H hS79 hA80 y82 ey83 wq84 ewq85 pz81_0 pz81_1 pz81_2 => ⟨rfl, ?_⟩))
                  have r86 : (0 : Int) ≤ y82 ∧ y82 ≤ 100000000 := rngE (show (0 : Int) ≤ F77 6 35 ∧ F77 6 35 ≤ 100000000 from H.frng 6 35) (show F77 6 35 = y82 from (ey83))
                  have : IMP ((xc147_5) = 0) ((upd1 (wc193_55) (a1) (z27)) = upd1 ((w55)) ((a1)) (kO ((a1))) ∧ ∀ i, (0 : Int) ≤ i → i < 64 → ((wq75)) i = KK ((a1)) i) := by first | exact h193_0 | exact (fun q => absurd q (by omega))
                  have : IMP ((xc147_5) = 1) ((upd1 (wc193_55) (a1) (z27)) = upd1 ((w55)) ((a1)) 0) := by first | exact h193_1 | exact (fun q => absurd q (by omega))
                  have : IMP ((xc147_5) = 2) ((upd1 (wc193_55) (a1) (z27)) = upd1 ((w55)) ((a1)) (z27) ∧ DVI ((wq32)) ((wq75)) 64 ∧ su (fun i => mass (((wq75)) i)) 64 = p2 (z27) ∧ DVF ((wq32)) ((u6_28)) (p2 (z27)) ((wq75))) := by first | exact (fun q => ⟨by rw [h193_3 (by omega)], hd0, hd1, hd2⟩) | exact (fun q => absurd q (by omega))
                  have : IMP ((xc147_5) = 3) ((upd1 (wc193_55) (a1) (z27)) = (w55)) := by first | exact (fun q => h193_3 (by omega)) | exact (fun q => absurd q (by omega))
                  have : IMP (MDX ((w69)) ((u6_35))) (MBY ((wq84)) ((y82)) (ttB ((a1)) (cutP ((u6_28)) (sh ((w66)) (8001 * (a1)))) ((u6_28)) ((xc147_5)))) := by first | exact fun q => by by_cases z1 : ((xc147_5)) = 1; (exact ttM_1 z1 (by omega) hf0 (j193_m q)); (exact ttM_n (by omega) (j193_m q)) | exact fun q => by have z : (xc147_5) = 2 := (by omega); have h0 := j193_m q; rw [t1B_n (by omega)] at h0; have h := pz81_1 (by omega) [] h0; rw [List.nil_append, sh0, ← hPD217] at h; rw [z, ttB_2 (hbo92 q).1.symm]; exact ⟨_, h, pd8_len.1, by rw [byw_pd]; rfl⟩
                  exact hc228  _ σ _ _  (lc193_0) (lc193_2) (lc193_3) (lc193_5) H (SF_trans (SF_trans (SF_refl) hS72 (any_sub rfl)) hS79 (any_sub rfl)) (SA_trans (SA_trans (SA_upd (SA_refl) rfl) hA73 (any_subA rfl)) hA80 (any_subA rfl)) (y82) ((ey83)) (upd1 (wc193_55) (a1) (z27)) ((funext (hA80 55 rfl)).trans ((funext (hA73 55 rfl)).trans (congrArg (fun q => upd1 q (a1) (z27)) (ewc193_55)))) (wq84) (ewq85) (wq75) ((funext (hA80 75 rfl)).trans (ewq76)) (show IMP ((xc147_5) = 0) ((upd1 (wc193_55) (a1) (z27)) = upd1 ((w55)) ((a1)) (kO ((a1))) ∧ ∀ i, (0 : Int) ≤ i → i < 64 → ((wq75)) i = KK ((a1)) i) by assumption) (show IMP ((xc147_5) = 1) ((upd1 (wc193_55) (a1) (z27)) = upd1 ((w55)) ((a1)) 0) by assumption) (show IMP ((xc147_5) = 2) ((upd1 (wc193_55) (a1) (z27)) = upd1 ((w55)) ((a1)) (z27) ∧ DVI ((wq32)) ((wq75)) 64 ∧ su (fun i => mass (((wq75)) i)) 64 = p2 (z27) ∧ DVF ((wq32)) ((u6_28)) (p2 (z27)) ((wq75))) by assumption) (show IMP ((xc147_5) = 3) ((upd1 (wc193_55) (a1) (z27)) = (w55)) by assumption) (show 0 ≤ (y82) ∧ (y82) ≤ 700 from q_2655 hls jc164_0 pz81_0 r86) (show IMP (MDX ((w69)) ((u6_35))) (MBY ((wq84)) ((y82)) (ttB ((a1)) (cutP ((u6_28)) (sh ((w66)) (8001 * (a1)))) ((u6_28)) ((xc147_5)))) by assumption)
              have h180_0 : IMP ((xc147_5) = 0) ((wc180_55) = upd1 ((w55)) ((a1)) (kO ((a1))) ∧ ∀ i, (0 : Int) ≤ i → i < 64 → ((wc180_75)) i = KK ((a1)) i) := by assumption
              have h180_3 : IMP ((xc147_5) ≠ 0) ((wc180_55) = (w55)) := jc180_1
              refine Ew_of (pcₚ := 182) (fun _ => x_iload rfl lc180_5) ?_
              refine Ew_of (pcₚ := 183) (fun _ => x_iconst rfl) ?_
              refine w_icmpne (t := 193) rfl rfl (show inr (xc147_5) from jc147_0) (show inr (1) from q_135) (fun b87 => ?_) (fun b87 => ?_)
              · have : IMP ((xc147_5) = 0) ((wc180_55) = upd1 ((w55)) ((a1)) (kO ((a1))) ∧ ∀ i, (0 : Int) ≤ i → i < 64 → ((wc180_75)) i = KK ((a1)) i) := by first | exact h180_0 | exact (fun q => absurd q (by omega))
                have : IMP ((xc147_5) = 1) ((wc180_55) = upd1 ((w55)) ((a1)) 0) := by first | exact (fun q => absurd q (by omega)) | exact (fun q => by rw [h180_3 (by omega)])
                have : IMP ((xc147_5) ≠ 0 ∧ (xc147_5) ≠ 1) ((wc180_55) = (w55)) := by first | exact (fun q => h180_3 q.1) | exact (fun q => absurd q (by omega))
                exact hc193  _ σ _ _  (lc180_0) (lc180_1) (lc180_2) (lc180_3) (lc180_5) (lc180_9) H (SF_refl) (SA_refl)  (wc180_55) (ewc180_55) (h180_0) (show IMP ((xc147_5) = 1) ((wc180_55) = upd1 ((w55)) ((a1)) 0) by assumption) (show IMP ((xc147_5) ≠ 0 ∧ (xc147_5) ≠ 1) ((wc180_55) = (w55)) by assumption)
              · refine Ew_of (pcₚ := 187) (fun _ => x_aload_n rfl lc180_0) ?_
                refine w_gT H (o := 6) (t := 55) rfl (H.perm 6 rfl) rfl rfl rfl rfl rfl rfl ?_
                refine Ew_of (pcₚ := 191) (fun _ => x_iload_n rfl lc180_1) ?_
                refine Ew_of (pcₚ := 192) (fun _ => x_iconst rfl) ?_
                refine w_sI H (o := 55) (n := 3) rfl (H.perm 55 rfl) rfl rfl (H.fix 55 rfl rfl) (show 0 ≤ a1 ∧ a1 < ((3 : Nat) : Int) from q_1333 h1) (by decide) (show (-1 : Int) ≤ 0 ∧ 0 ≤ 9 from q_1683) (fun σ H => ?_)
                have : IMP ((xc147_5) = 0) ((upd1 (wc180_55) (a1) (0)) = upd1 ((w55)) ((a1)) (kO ((a1))) ∧ ∀ i, (0 : Int) ≤ i → i < 64 → ((wc180_75)) i = KK ((a1)) i) := by first | exact h180_0 | exact (fun q => absurd q (by omega))
                have : IMP ((xc147_5) = 1) ((upd1 (wc180_55) (a1) (0)) = upd1 ((w55)) ((a1)) 0) := by first | exact (fun q => absurd q (by omega)) | exact (fun q => by rw [h180_3 (by omega)])
                have : IMP ((xc147_5) ≠ 0 ∧ (xc147_5) ≠ 1) ((upd1 (wc180_55) (a1) (0)) = (w55)) := by first | exact (fun q => h180_3 q.1) | exact (fun q => absurd q (by omega))
                exact hc193  _ σ _ _  (lc180_0) (lc180_1) (lc180_2) (lc180_3) (lc180_5) (lc180_9) H (SF_refl) (SA_upd (SA_refl) rfl)  (upd1 (wc180_55) (a1) (0)) (congrArg (fun q => upd1 q (a1) (0)) (ewc180_55)) (show IMP ((xc147_5) = 0) ((upd1 (wc180_55) (a1) (0)) = upd1 ((w55)) ((a1)) (kO ((a1))) ∧ ∀ i, (0 : Int) ≤ i → i < 64 → ((wc180_75)) i = KK ((a1)) i) by assumption) (show IMP ((xc147_5) = 1) ((upd1 (wc180_55) (a1) (0)) = upd1 ((w55)) ((a1)) 0) by assumption) (show IMP ((xc147_5) ≠ 0 ∧ (xc147_5) ≠ 1) ((upd1 (wc180_55) (a1) (0)) = (w55)) by assumption)
            refine Ew_of (pcₚ := 166) (fun _ => x_iload rfl lc164_5) ?_
            refine w_ifne (t := 180) rfl rfl (show inr (xc147_5) from jc147_0) (fun b88 => ?_) (fun b88 => ?_)
            · have : IMP ((xc147_5) = 0) ((w55) = upd1 ((w55)) ((a1)) (kO ((a1))) ∧ ∀ i, (0 : Int) ≤ i → i < 64 → ((wq44)) i = KK ((a1)) i) := by first | exact (fun _ => ⟨by rw [← hk8], hkk3⟩) | exact (fun q => absurd q (by omega))
              have : IMP ((xc147_5) ≠ 0) ((w55) = (w55)) := by first | exact (fun _ => rfl) | exact (fun q => absurd q (by omega))
              exact hc180  _ σ _ _  (lc164_0) (lc164_1) (lc164_2) (lc164_3) (lc164_5) (lc164_9) H (SF_refl) (SA_refl)  (w55) ((funext (hA_c164 55 rfl)).trans ((funext (hA55 55 rfl)).trans ((funext (hA_c147 55 rfl)).trans ((funext (hA50 55 rfl)).trans ((funext (hA_c122 55 rfl)).trans ((funext (hA38 55 rfl)).trans ((funext (hA26 55 rfl)).trans ((funext (hA_c87 55 rfl)).trans ((funext (hA_c62 55 rfl)).trans ((funext (hA21 55 rfl)).trans ((funext (hA14 55 rfl)).trans ((funext (hA7 55 rfl)).trans (ew55))))))))))))) (wq44) ((funext (hA_c164 75 rfl)).trans ((funext (hA55 75 rfl)).trans ((funext (hA_c147 75 rfl)).trans ((funext (hA50 75 rfl)).trans ((funext (hA_c122 75 rfl)).trans (ewq45)))))) (show IMP ((xc147_5) = 0) ((w55) = upd1 ((w55)) ((a1)) (kO ((a1))) ∧ ∀ i, (0 : Int) ≤ i → i < 64 → ((wq44)) i = KK ((a1)) i) by assumption) (show IMP ((xc147_5) ≠ 0) ((w55) = (w55)) by assumption)
            · refine Ew_of (pcₚ := 170) (fun _ => x_aload_n rfl lc164_0) ?_
              refine w_gT H (o := 6) (t := 55) rfl (H.perm 6 rfl) rfl rfl rfl rfl rfl rfl ?_
              refine Ew_of (pcₚ := 174) (fun _ => x_iload_n rfl lc164_1) ?_
              refine Ew_of (pcₚ := 175) (fun _ => x_aload_n rfl lc164_0) ?_
              refine Ew_of (pcₚ := 176) (fun _ => x_iload_n rfl lc164_1) ?_
              refine w_inv H (o := 6) rfl rfl rfl (H.perm 6 rfl) rfl rfl (by rfl) (M417 H (show inr (a1) from h0) (show 0 ≤ (a1) ∧ (a1) ≤ 2 from h1) (fun z93 σ F89 A90 H hS91 hA92 wq94 ewq95 pz93_0 pz93_1 pz93_2 pz93_3 pz93_4 => ⟨rfl, ?_⟩))
              have hk8 : (z93) = kO ((a1)) := by have := kO_eq ((a1)); omega
              have hkk3 : ∀ i, (0 : Int) ≤ i → i < 64 → ((wq94)) i = KK ((a1)) i := pz93_4
              refine w_sI H (o := 55) (n := 3) rfl (H.perm 55 rfl) rfl rfl (H.fix 55 rfl rfl) (show 0 ≤ a1 ∧ a1 < ((3 : Nat) : Int) from q_1333 h1) (by decide) (show (-1 : Int) ≤ z93 ∧ z93 ≤ 9 from q_2656 pz93_1) (fun σ H => ?_)
              have : IMP ((xc147_5) = 0) ((upd1 (w55) (a1) (z93)) = upd1 ((w55)) ((a1)) (kO ((a1))) ∧ ∀ i, (0 : Int) ≤ i → i < 64 → ((wq94)) i = KK ((a1)) i) := by first | exact (fun _ => ⟨by rw [← hk8], hkk3⟩) | exact (fun q => absurd q (by omega))
              have : IMP ((xc147_5) ≠ 0) ((upd1 (w55) (a1) (z93)) = (w55)) := by first | exact (fun _ => rfl) | exact (fun q => absurd q (by omega))
              exact hc180  _ σ _ _  (lc164_0) (lc164_1) (lc164_2) (lc164_3) (lc164_5) (lc164_9) H (SF_trans (SF_refl) hS91 (any_sub rfl)) (SA_upd (SA_trans (SA_refl) hA92 (any_subA rfl)) rfl)  (upd1 (w55) (a1) (z93)) (congrArg (fun q => upd1 q (a1) (z93)) ((funext (hA92 55 rfl)).trans ((funext (hA_c164 55 rfl)).trans ((funext (hA55 55 rfl)).trans ((funext (hA_c147 55 rfl)).trans ((funext (hA50 55 rfl)).trans ((funext (hA_c122 55 rfl)).trans ((funext (hA38 55 rfl)).trans ((funext (hA26 55 rfl)).trans ((funext (hA_c87 55 rfl)).trans ((funext (hA_c62 55 rfl)).trans ((funext (hA21 55 rfl)).trans ((funext (hA14 55 rfl)).trans ((funext (hA7 55 rfl)).trans (ew55))))))))))))))) (wq94) (ewq95) (show IMP ((xc147_5) = 0) ((upd1 (w55) (a1) (z93)) = upd1 ((w55)) ((a1)) (kO ((a1))) ∧ ∀ i, (0 : Int) ≤ i → i < 64 → ((wq94)) i = KK ((a1)) i) by assumption) (show IMP ((xc147_5) ≠ 0) ((upd1 (w55) (a1) (z93)) = (w55)) by assumption)
          have hb151 : IMP (MDX ((w69)) ((u6_35))) (MDB ((wq59)) ((y57)) []) := fun q => by rw [show (y57) = 0 by omega]; exact pz56_1 (hmx148 q)
          refine Ew_of (pcₚ := 153) (fun _ => x_iload rfl lc147_5) ?_
          refine Ew_of (pcₚ := 154) (fun _ => x_iconst rfl) ?_
          refine w_icmpne (t := 164) rfl rfl (show inr (xc147_5) from jc147_0) (show inr (1) from q_135) (fun b96 => ?_) (fun b96 => ?_)
          · have : IMP (MDX ((w69)) ((u6_35))) (MDB ((wq59)) ((y57)) (t1B ((xc147_5)) ((v3)))) := by first | exact fun q => by rw [t1B_1 (by omega)]; have h := pzMISS_1 (by omega) [] (hb151 q); rw [List.nil_append] at h; exact h | exact fun q => by rw [t1B_n (by omega)]; exact hb151 q
            exact hc164  _ σ _ _  (lc147_0) (lc147_1) (lc147_2) (lc147_3) (lc147_5) (lc147_9) H (SF_refl) (SA_refl) (y57) ((ey58)) (wq59) (ewq60) (show 0 ≤ (y57) ∧ (y57) ≤ 8 from q_2657 pz56_0 r61) (show IMP (MDX ((w69)) ((u6_35))) (MDB ((wq59)) ((y57)) (t1B ((xc147_5)) ((v3)))) by assumption)
          · refine Ew_of (pcₚ := 158) (fun _ => x_aload_n rfl lc147_0) ?_
            refine Ew_of (pcₚ := 159) (fun _ => x_iload_n rfl lc147_3) ?_
            refine Ew_of (pcₚ := 161) (fun _ => x_bipush (z := 8) rfl (by decide)) ?_
            refine w_inv H (o := 6) rfl rfl rfl (H.perm 6 rfl) rfl rfl (by rfl) (M389 H (y57) ((ey58)) (wq59) (ewq60) (show inr (v3) from q_2706 hf0) (show inr (8) from q_141) (show 0 ≤ (8) ∧ (8) ≤ 31 from q_2497) (show 0 ≤ (y57) ∧ (y57) ≤ 90000000 from q_2496 pz56_0 r61) (fun σ F97 A98 H hS99 hA100 y102 ey103 wq104 ewq105 pz101_0 pz101_1 => ⟨rfl, ?_⟩))
            have r106 : (0 : Int) ≤ y102 ∧ y102 ≤ 100000000 := rngE (show (0 : Int) ≤ F97 6 35 ∧ F97 6 35 ≤ 100000000 from H.frng 6 35) (show F97 6 35 = y102 from (ey103))
            have : IMP (MDX ((w69)) ((u6_35))) (MDB ((wq104)) ((y102)) (t1B ((xc147_5)) ((v3)))) := by first | exact fun q => by rw [t1B_1 (by omega)]; have h := pz101_1 (by omega) [] (hb151 q); rw [List.nil_append] at h; exact h | exact fun q => by rw [t1B_n (by omega)]; exact hb151 q
            exact hc164  _ σ _ _  (lc147_0) (lc147_1) (lc147_2) (lc147_3) (lc147_5) (lc147_9) H (SF_trans (SF_refl) hS99 (any_sub rfl)) (SA_trans (SA_refl) hA100 (any_subA rfl)) (y102) ((ey103)) (wq104) (ewq105) (show 0 ≤ (y102) ∧ (y102) ≤ 8 from q_2710 pz101_0 pz56_0 r106) (show IMP (MDX ((w69)) ((u6_35))) (MDB ((wq104)) ((y102)) (t1B ((xc147_5)) ((v3)))) by assumption)
        refine Ew_of (pcₚ := 134) (fun _ => x_iload rfl rk_s) ?_
        refine w_iflt (t := 147) rfl rfl (show inr (z51) from pz51_0) (fun b107 => ?_) (fun b107 => ?_)
        · have : IMP (MDX ((w69)) ((u6_35))) (mwF ((a1)) (cutP ((u6_28)) (sh ((w66)) (8001 * (a1)))) ((u6_28)) (btS (((w55)) ((a1))) (sh ((w54)) (64 * (a1)))) = (xc122_5)) := fun q => mwF_e (hm122 q) hasw.symm (by omega)
          exact hc147  _ σ _ _ (xc122_5) (rk_o (lc122_0) rfl rfl) (rk_o (lc122_1) rfl rfl) (rk_o (lc122_2) rfl rfl) (rk_o (lc122_3) rfl rfl) (rk_o (lc122_5) rfl rfl) (rk_o (lc122_9) rfl rfl) H (SF_refl) (SA_refl)   (show inr (xc122_5) from jc122_0) (show 0 ≤ (xc122_5) ∧ (xc122_5) ≤ 3 from q_2712 jc122_2) (show (xc122_5) ≠ 2 ∨ q98 ≤ qk by omega) (show (xc122_5) ≠ 3 ∨ 0 ≤ q127 ∧ q127 ≤ qk from q_2711 jc122_2) (show IMP (MDX ((w69)) ((u6_35))) (mwF ((a1)) (cutP ((u6_28)) (sh ((w66)) (8001 * (a1)))) ((u6_28)) (btS (((w55)) ((a1))) (sh ((w54)) (64 * (a1)))) = (xc122_5)) by assumption)
        · refine Ew_of (pcₚ := 139) (fun _ => x_iload rfl rk_s) ?_
          refine Ew_of (pcₚ := 141) (fun _ => x_iload rfl (rk_o (lc122_6) rfl rfl)) ?_
          refine w_icmpge (t := 147) rfl rfl (show inr (z51) from pz51_0) (show inr (xc122_6) from jc122_1) (fun b108 => ?_) (fun b108 => ?_)
          · have : IMP (MDX ((w69)) ((u6_35))) (mwF ((a1)) (cutP ((u6_28)) (sh ((w66)) (8001 * (a1)))) ((u6_28)) (btS (((w55)) ((a1))) (sh ((w54)) (64 * (a1)))) = (xc122_5)) := fun q => mwF_e (hm122 q) hasw.symm (by omega)
            exact hc147  _ σ _ _ (xc122_5) (rk_o (lc122_0) rfl rfl) (rk_o (lc122_1) rfl rfl) (rk_o (lc122_2) rfl rfl) (rk_o (lc122_3) rfl rfl) (rk_o (lc122_5) rfl rfl) (rk_o (lc122_9) rfl rfl) H (SF_refl) (SA_refl)   (show inr (xc122_5) from jc122_0) (show 0 ≤ (xc122_5) ∧ (xc122_5) ≤ 3 from q_2712 jc122_2) (show (xc122_5) ≠ 2 ∨ q98 ≤ qk by omega) (show (xc122_5) ≠ 3 ∨ 0 ≤ q127 ∧ q127 ≤ qk from q_2711 jc122_2) (show IMP (MDX ((w69)) ((u6_35))) (mwF ((a1)) (cutP ((u6_28)) (sh ((w66)) (8001 * (a1)))) ((u6_28)) (btS (((w55)) ((a1))) (sh ((w54)) (64 * (a1)))) = (xc122_5)) by assumption)
          · refine Ew_of (pcₚ := 145) (fun _ => x_iconst rfl) ?_
            refine Ew_of (pcₚ := 147) (fun _ => x_istore rfl) ?_
            have : IMP (MDX ((w69)) ((u6_35))) (mwF ((a1)) (cutP ((u6_28)) (sh ((w66)) (8001 * (a1)))) ((u6_28)) (btS (((w55)) ((a1))) (sh ((w54)) (64 * (a1)))) = (3)) := fun q => mwF_e (hm122 q) hasw.symm (by omega)
            exact hc147  _ σ _ _ (3) (rk_o (rk_o (lc122_0) rfl rfl) rfl rfl) (rk_o (rk_o (lc122_1) rfl rfl) rfl rfl) (rk_o (rk_o (lc122_2) rfl rfl) rfl rfl) (rk_o (rk_o (lc122_3) rfl rfl) rfl rfl) (rk_s) (rk_o (rk_o (lc122_9) rfl rfl) rfl rfl) H (SF_refl) (SA_refl)   (show inr (3) from q_246) (show 0 ≤ (3) ∧ (3) ≤ 3 from q_546) (show (3) ≠ 2 ∨ q98 ≤ qk from q_2713) (show (3) ≠ 3 ∨ 0 ≤ q127 ∧ q127 ≤ qk by omega) (show IMP (MDX ((w69)) ((u6_35))) (mwF ((a1)) (cutP ((u6_28)) (sh ((w66)) (8001 * (a1)))) ((u6_28)) (btS (((w55)) ((a1))) (sh ((w54)) (64 * (a1)))) = (3)) by assumption)
      refine Ew_of (pcₚ := 105) (fun _ => x_iload rfl (rk_o (rk_o (lc87_5) rfl rfl) rfl rfl)) ?_
      refine w_iflt (t := 115) rfl rfl (show inr (xc87_5) from jc87_0) (fun b109 => ?_) (fun b109 => ?_)
      · refine Ew_of (pcₚ := 116) (fun _ => x_iconst rfl) ?_
        refine Ew_of (pcₚ := 118) (fun _ => x_istore rfl) ?_
        refine Ew_of (pcₚ := 120) (fun _ => x_iload rfl (rk_o (rk_s) rfl rfl)) ?_
        refine Ew_of (pcₚ := 122) (fun _ => x_istore rfl) ?_
        have : IMP (MDX ((w69)) ((u6_35))) (m2F ((a1)) (cutP ((u6_28)) (sh ((w66)) (8001 * (a1)))) ((u6_28)) = ((2), (z39))) := fun q => m2F_e hm87 (hbo92 q).1.symm (hsc q).1 (by omega)
        exact hc122  _ σ _ _ (2) (z39) (rk_o (rk_o (rk_o (rk_o (lc87_0) rfl rfl) rfl rfl) rfl rfl) rfl rfl) (rk_o (rk_o (rk_o (rk_o (lc87_1) rfl rfl) rfl rfl) rfl rfl) rfl rfl) (rk_o (rk_o (rk_o (rk_o (lc87_2) rfl rfl) rfl rfl) rfl rfl) rfl rfl) (rk_o (rk_o (rk_o (rk_o (lc87_3) rfl rfl) rfl rfl) rfl rfl) rfl rfl) (rk_o (rk_o (rk_o (rk_o (lc87_4) rfl rfl) rfl rfl) rfl rfl) rfl rfl) (rk_o (rk_s) rfl rfl) (rk_s) (rk_o (rk_o (rk_o (rk_s) rfl rfl) rfl rfl) rfl rfl) H (SF_refl) (SA_refl)   (show inr (2) from q_122) (show inr (z39) from pz39_0) (show (0 ≤ (2) ∧ (2) ≤ 2) ∧ (z39) ≤ qk ∧ ((2) = 2 → q98 ≤ qk) from q_2714 b109 jc87_1 jc87_2 pz39_1) (show IMP (MDX ((w69)) ((u6_35))) (m2F ((a1)) (cutP ((u6_28)) (sh ((w66)) (8001 * (a1)))) ((u6_28)) = ((2), (z39))) by assumption)
      · refine Ew_of (pcₚ := 110) (fun _ => x_iload rfl rk_s) ?_
        refine Ew_of (pcₚ := 112) (fun _ => x_iload rfl (rk_o (rk_o (lc87_6) rfl rfl) rfl rfl)) ?_
        refine w_icmpge (t := 122) rfl rfl (show inr (z39) from pz39_0) (show inr (xc87_6) from jc87_1) (fun b110 => ?_) (fun b110 => ?_)
        · have : IMP (MDX ((w69)) ((u6_35))) (m2F ((a1)) (cutP ((u6_28)) (sh ((w66)) (8001 * (a1)))) ((u6_28)) = ((xc87_5), (xc87_6))) := fun q => m2F_e hm87 (hbo92 q).1.symm (hsc q).1 (by omega)
          exact hc122  _ σ _ _ (xc87_5) (xc87_6) (rk_o (rk_o (lc87_0) rfl rfl) rfl rfl) (rk_o (rk_o (lc87_1) rfl rfl) rfl rfl) (rk_o (rk_o (lc87_2) rfl rfl) rfl rfl) (rk_o (rk_o (lc87_3) rfl rfl) rfl rfl) (rk_o (rk_o (lc87_4) rfl rfl) rfl rfl) (rk_o (rk_o (lc87_5) rfl rfl) rfl rfl) (rk_o (rk_o (lc87_6) rfl rfl) rfl rfl) (rk_o (rk_s) rfl rfl) H (SF_refl) (SA_refl)   (show inr (xc87_5) from jc87_0) (show inr (xc87_6) from jc87_1) (show (0 ≤ (xc87_5) ∧ (xc87_5) ≤ 2) ∧ (xc87_6) ≤ qk ∧ ((xc87_5) = 2 → q98 ≤ qk) from q_2715 b109 jc87_2) (show IMP (MDX ((w69)) ((u6_35))) (m2F ((a1)) (cutP ((u6_28)) (sh ((w66)) (8001 * (a1)))) ((u6_28)) = ((xc87_5), (xc87_6))) by assumption)
        · refine Ew_of (pcₚ := 116) (fun _ => x_iconst rfl) ?_
          refine Ew_of (pcₚ := 118) (fun _ => x_istore rfl) ?_
          refine Ew_of (pcₚ := 120) (fun _ => x_iload rfl (rk_o (rk_s) rfl rfl)) ?_
          refine Ew_of (pcₚ := 122) (fun _ => x_istore rfl) ?_
          have : IMP (MDX ((w69)) ((u6_35))) (m2F ((a1)) (cutP ((u6_28)) (sh ((w66)) (8001 * (a1)))) ((u6_28)) = ((2), (z39))) := fun q => m2F_e hm87 (hbo92 q).1.symm (hsc q).1 (by omega)
          exact hc122  _ σ _ _ (2) (z39) (rk_o (rk_o (rk_o (rk_o (lc87_0) rfl rfl) rfl rfl) rfl rfl) rfl rfl) (rk_o (rk_o (rk_o (rk_o (lc87_1) rfl rfl) rfl rfl) rfl rfl) rfl rfl) (rk_o (rk_o (rk_o (rk_o (lc87_2) rfl rfl) rfl rfl) rfl rfl) rfl rfl) (rk_o (rk_o (rk_o (rk_o (lc87_3) rfl rfl) rfl rfl) rfl rfl) rfl rfl) (rk_o (rk_o (rk_o (rk_o (lc87_4) rfl rfl) rfl rfl) rfl rfl) rfl rfl) (rk_o (rk_s) rfl rfl) (rk_s) (rk_o (rk_o (rk_o (rk_s) rfl rfl) rfl rfl) rfl rfl) H (SF_refl) (SA_refl)   (show inr (2) from q_122) (show inr (z39) from pz39_0) (show (0 ≤ (2) ∧ (2) ≤ 2) ∧ (z39) ≤ qk ∧ ((2) = 2 → q98 ≤ qk) by omega) (show IMP (MDX ((w69)) ((u6_35))) (m2F ((a1)) (cutP ((u6_28)) (sh ((w66)) (8001 * (a1)))) ((u6_28)) = ((2), (z39))) by assumption)
    refine Ew_of (pcₚ := 64) (fun _ => x_iload rfl lc62_4) ?_
    refine Ew_of (pcₚ := 65) (fun _ => x_iconst rfl) ?_
    refine w_icmpne (t := 87) rfl rfl (show inr (z8) from pz8_0) (show inr (1) from q_135) (fun b111 => ?_) (fun b111 => ?_)
    · have : m1F ((a1)) (cutP ((u6_28)) (sh ((w66)) (8001 * (a1)))) ((u6_28)) = ((xc62_5), (xc62_6)) := m1F_e hkc (by omega)
      exact hc87  _ σ _ _ (xc62_5) (xc62_6) (lc62_0) (lc62_1) (lc62_2) (lc62_3) (lc62_4) (lc62_5) (lc62_6) H (SF_refl) (SA_refl)   (show inr (xc62_5) from jc62_0) (show inr (xc62_6) from jc62_1) (show ((xc62_5) = 0 ∨ (xc62_5) = 1) ∧ (xc62_6) ≤ qk from q_2716 jc62_2) (show m1F ((a1)) (cutP ((u6_28)) (sh ((w66)) (8001 * (a1)))) ((u6_28)) = ((xc62_5), (xc62_6)) by assumption)
    · refine Ew_of (pcₚ := 70) (fun _ => x_iload rfl lc62_5) ?_
      refine w_iflt (t := 80) rfl rfl (show inr (xc62_5) from jc62_0) (fun b112 => ?_) (fun b112 => ?_)
      · refine Ew_of (pcₚ := 81) (fun _ => x_iconst rfl) ?_
        refine Ew_of (pcₚ := 83) (fun _ => x_istore rfl) ?_
        refine Ew_of (pcₚ := 85) (fun _ => x_bipush (z := 8) rfl (by decide)) ?_
        refine Ew_of (pcₚ := 87) (fun _ => x_istore rfl) ?_
        have : m1F ((a1)) (cutP ((u6_28)) (sh ((w66)) (8001 * (a1)))) ((u6_28)) = ((1), (8)) := m1F_e hkc (by omega)
        exact hc87  _ σ _ _ (1) (8) (rk_o (rk_o (lc62_0) rfl rfl) rfl rfl) (rk_o (rk_o (lc62_1) rfl rfl) rfl rfl) (rk_o (rk_o (lc62_2) rfl rfl) rfl rfl) (rk_o (rk_o (lc62_3) rfl rfl) rfl rfl) (rk_o (rk_o (lc62_4) rfl rfl) rfl rfl) (rk_o (rk_s) rfl rfl) (rk_s) H (SF_refl) (SA_refl)   (show inr (1) from q_135) (show inr (8) from q_141) (show ((1) = 0 ∨ (1) = 1) ∧ (8) ≤ qk from q_2717 b112 jc62_1 jc62_2) (show m1F ((a1)) (cutP ((u6_28)) (sh ((w66)) (8001 * (a1)))) ((u6_28)) = ((1), (8)) by assumption)
      · refine Ew_of (pcₚ := 75) (fun _ => x_bipush (z := 8) rfl (by decide)) ?_
        refine Ew_of (pcₚ := 77) (fun _ => x_iload rfl lc62_6) ?_
        refine w_icmpge (t := 87) rfl rfl (show inr (8) from q_141) (show inr (xc62_6) from jc62_1) (fun b113 => ?_) (fun b113 => ?_)
        · have : m1F ((a1)) (cutP ((u6_28)) (sh ((w66)) (8001 * (a1)))) ((u6_28)) = ((xc62_5), (xc62_6)) := m1F_e hkc (by omega)
          exact hc87  _ σ _ _ (xc62_5) (xc62_6) (lc62_0) (lc62_1) (lc62_2) (lc62_3) (lc62_4) (lc62_5) (lc62_6) H (SF_refl) (SA_refl)   (show inr (xc62_5) from jc62_0) (show inr (xc62_6) from jc62_1) (show ((xc62_5) = 0 ∨ (xc62_5) = 1) ∧ (xc62_6) ≤ qk from q_2716 jc62_2) (show m1F ((a1)) (cutP ((u6_28)) (sh ((w66)) (8001 * (a1)))) ((u6_28)) = ((xc62_5), (xc62_6)) by assumption)
        · refine Ew_of (pcₚ := 81) (fun _ => x_iconst rfl) ?_
          refine Ew_of (pcₚ := 83) (fun _ => x_istore rfl) ?_
          refine Ew_of (pcₚ := 85) (fun _ => x_bipush (z := 8) rfl (by decide)) ?_
          refine Ew_of (pcₚ := 87) (fun _ => x_istore rfl) ?_
          have : m1F ((a1)) (cutP ((u6_28)) (sh ((w66)) (8001 * (a1)))) ((u6_28)) = ((1), (8)) := m1F_e hkc (by omega)
          exact hc87  _ σ _ _ (1) (8) (rk_o (rk_o (lc62_0) rfl rfl) rfl rfl) (rk_o (rk_o (lc62_1) rfl rfl) rfl rfl) (rk_o (rk_o (lc62_2) rfl rfl) rfl rfl) (rk_o (rk_o (lc62_3) rfl rfl) rfl rfl) (rk_o (rk_o (lc62_4) rfl rfl) rfl rfl) (rk_o (rk_s) rfl rfl) (rk_s) H (SF_refl) (SA_refl)   (show inr (1) from q_135) (show inr (8) from q_141) (show ((1) = 0 ∨ (1) = 1) ∧ (8) ≤ qk from q_2718 b113 jc62_2) (show m1F ((a1)) (cutP ((u6_28)) (sh ((w66)) (8001 * (a1)))) ((u6_28)) = ((1), (8)) by assumption)
  refine Ew_of (pcₚ := 52) (fun _ => x_iload rfl rk_s) ?_
  refine w_iflt (t := 62) rfl rfl (show inr (z22) from pz22_0) (fun b114 => ?_) (fun b114 => ?_)
  · exact hc62  _ σ _ _ ((-1)) (0) (rk_o (rk_o (rk_o (rk_o (rk_o (rk_o (rk_o (rfl) rfl rfl) rfl rfl) rfl rfl) rfl rfl) rfl rfl) rfl rfl) rfl rfl) (rk_o (rk_o (rk_o (rk_o (rk_o (rk_o (rk_o (rfl) rfl rfl) rfl rfl) rfl rfl) rfl rfl) rfl rfl) rfl rfl) rfl rfl) (rk_o (rk_o (rk_o (rk_o (rk_o (rk_o (rk_s) rfl rfl) rfl rfl) rfl rfl) rfl rfl) rfl rfl) rfl rfl) (rk_o (rk_o (rk_o (rk_o (rk_o (rk_s) rfl rfl) rfl rfl) rfl rfl) rfl rfl) rfl rfl) (rk_o (rk_o (rk_o (rk_o (rk_s) rfl rfl) rfl rfl) rfl rfl) rfl rfl) (rk_o (rk_o (rk_o (rk_s) rfl rfl) rfl rfl) rfl rfl) (rk_o (rk_o (rk_s) rfl rfl) rfl rfl) H (SF_refl) (SA_refl)   (show inr ((-1)) from q_63) (show inr (0) from q_2) (show ((-1)) = 0 ∧ (0) = qk by omega)
  · refine Ew_of (pcₚ := 56) (fun _ => x_iconst rfl) ?_
    refine Ew_of (pcₚ := 58) (fun _ => x_istore rfl) ?_
    refine Ew_of (pcₚ := 60) (fun _ => x_iload rfl (rk_o (rk_s) rfl rfl)) ?_
    refine Ew_of (pcₚ := 62) (fun _ => x_istore rfl) ?_
    exact hc62  _ σ _ _ (0) (z22) (rk_o (rk_o (rk_o (rk_o (rk_o (rk_o (rk_o (rk_o (rk_o (rfl) rfl rfl) rfl rfl) rfl rfl) rfl rfl) rfl rfl) rfl rfl) rfl rfl) rfl rfl) rfl rfl) (rk_o (rk_o (rk_o (rk_o (rk_o (rk_o (rk_o (rk_o (rk_o (rfl) rfl rfl) rfl rfl) rfl rfl) rfl rfl) rfl rfl) rfl rfl) rfl rfl) rfl rfl) rfl rfl) (rk_o (rk_o (rk_o (rk_o (rk_o (rk_o (rk_o (rk_o (rk_s) rfl rfl) rfl rfl) rfl rfl) rfl rfl) rfl rfl) rfl rfl) rfl rfl) rfl rfl) (rk_o (rk_o (rk_o (rk_o (rk_o (rk_o (rk_o (rk_s) rfl rfl) rfl rfl) rfl rfl) rfl rfl) rfl rfl) rfl rfl) rfl rfl) (rk_o (rk_o (rk_o (rk_o (rk_o (rk_o (rk_s) rfl rfl) rfl rfl) rfl rfl) rfl rfl) rfl rfl) rfl rfl) (rk_o (rk_s) rfl rfl) (rk_s) H (SF_refl) (SA_refl)   (show inr (0) from q_2) (show inr (z22) from pz22_0) (show (0) = 0 ∧ (z22) = qk by omega)


end
section
/-! 90f.ref -/
theorem M439f {σ0 σ : rS} {D N : Nat → Nat} {F : hF} {A : hA} {d c s : Nat} {Q : wQ} (H : HS σ0 σ D N F A) {a1 a2 : Int} (u6_35 : Int) (eu6_35 : F 6 35 = u6_35) (w67 : Int → Int) (ew67 : A 67 = w67) (w68 : Int → Int) (ew68 : A 68 = w68) (w69 : Int → Int) (ew69 : A 69 = w69) (h0 : inr (a1)) (h1 : inr (a2)) (h2 : 0 ≤ (a1) ∧ (a1) ≤ 2) (h3 : 0 ≤ (a2) ∧ (a2) ≤ 8000) (h4 : 0 ≤ (u6_35) ∧ (u6_35) ≤ 80000000) (k : ∀ σ Fₚ Aₚ, HS σ0 σ D N Fₚ Aₚ → SF [(6, 35)] F Fₚ → SA [69] A Aₚ → ∀ y6_35 : Int, Fₚ 6 35 = y6_35 → ∀ v69 : Int → Int, Aₚ 69 = v69 → ((y6_35) = (u6_35) + ((w67)) (8001 * (a1) + (a2))) → (IMP ((u6_35) + 40 ≤ 192000) (MDA ((w69)) ((u6_35)) ((v69)) ((y6_35)) (btw (((w68)) (8001 * (a1) + (a2))) (((w67)) (8001 * (a1) + (a2)))))) → Q none σ c s) : Ew 439 (d + 1) 0 (rargs 0 [.ref (D 6), I a1, I a2]) [] σ c s Q := by
  have r1 : (0 : Int) ≤ u6_35 ∧ u6_35 ≤ 100000000 := rngE (show (0 : Int) ≤ F 6 35 ∧ F 6 35 ≤ 100000000 from H.frng 6 35) (show F 6 35 = u6_35 from (eu6_35))
  refine Ew_of (pcₚ := 1) (fun _ => x_aload_n rfl rfl) ?_
  refine Ew_of (pcₚ := 2) (fun _ => x_aload_n rfl rfl) ?_
  refine w_gT H (o := 6) (t := 68) rfl (H.perm 6 rfl) rfl rfl rfl rfl rfl rfl ?_
  refine Ew_of (pcₚ := 8) (fun _ => x_sipush (z := 8001) rfl (by decide)) ?_
  refine Ew_of (pcₚ := 9) (fun _ => x_iload_n rfl rfl) ?_
  refine w_imul rfl ?_
  refine Ew_of (pcₚ := 11) (fun _ => x_iload_n rfl rfl) ?_
  refine w_iadd rfl ?_
  refine w_lI H (o := 68) (n := 24003) rfl (H.perm 68 rfl) rfl rfl (H.fix 68 rfl rfl) (show 0 ≤ ((8001 * a1) + a2) ∧ ((8001 * a1) + a2) < ((24003 : Nat) : Int) from q_2607 h2 h3) (by decide) (fun v2 ev2 qv2 => ?_)
  have qv2 : (-2147483648 : Int) ≤ v2 ∧ v2 ≤ 2147483647 := qv2
  have ev2 : (w68) (((8001 * a1) + a2)) = v2 := (congrFun (ew68) (((8001 * a1) + a2))).symm.trans ev2
  refine Ew_of (pcₚ := 14) (fun _ => x_aload_n rfl rfl) ?_
  refine w_gT H (o := 6) (t := 67) rfl (H.perm 6 rfl) rfl rfl rfl rfl rfl rfl ?_
  refine Ew_of (pcₚ := 20) (fun _ => x_sipush (z := 8001) rfl (by decide)) ?_
  refine Ew_of (pcₚ := 21) (fun _ => x_iload_n rfl rfl) ?_
  refine w_imul rfl ?_
  refine Ew_of (pcₚ := 23) (fun _ => x_iload_n rfl rfl) ?_
  refine w_iadd rfl ?_
  refine w_lI H (o := 67) (n := 24003) rfl (H.perm 67 rfl) rfl rfl (H.fix 67 rfl rfl) (show 0 ≤ ((8001 * a1) + a2) ∧ ((8001 * a1) + a2) < ((24003 : Nat) : Int) from q_2607 h2 h3) (by decide) (fun v3 ev3 qv3 => ?_)
  have qv3 : (0 : Int) ≤ v3 ∧ v3 ≤ 31 := qv3
  have ev3 : (w67) (((8001 * a1) + a2)) = v3 := (congrFun (ew67) (((8001 * a1) + a2))).symm.trans ev3
  have hmb := ev3
  have hmo2 := ev2
  have hmb2 := ev3
  refine w_inv H (o := 6) rfl rfl rfl (H.perm 6 rfl) rfl rfl (by rfl) (M389 H (u6_35) ((eu6_35)) (w69) (ew69) (show inr (v2) from q_18 qv2) (show inr (v3) from q_2608 qv3) (show 0 ≤ (v3) ∧ (v3) ≤ 31 from qv3) (show 0 ≤ (u6_35) ∧ (u6_35) ≤ 90000000 from q_2168 h4 r1) (fun σ F4 A5 H hS6 hA7 y9 ey10 wq11 ewq12 pz8_0 pz8_1 => ⟨rfl, ?_⟩))
  have r13 : (0 : Int) ≤ y9 ∧ y9 ≤ 100000000 := rngE (show (0 : Int) ≤ F4 6 35 ∧ F4 6 35 ≤ 100000000 from H.frng 6 35) (show F4 6 35 = y9 from (ey10))
  have : IMP ((u6_35) + 40 ≤ 192000) (MDA ((w69)) ((u6_35)) ((wq11)) ((y9)) (btw (((w68)) (8001 * (a1) + (a2))) (((w67)) (8001 * (a1) + (a2))))) := fun q => by rw [hmo2, hmb2]; exact pz8_1 (by omega)
  exact w_ret rfl (k σ _ _ H (SF_trans (SF_refl) hS6 (any_sub rfl)) (SA_trans (SA_refl) hA7 (any_subA rfl)) (y9) ((ey10)) (wq11) (ewq12) (show (y9) = (u6_35) + ((w67)) (8001 * a1 + a2) from q_2609 ev3 pz8_0) (show IMP ((u6_35) + 40 ≤ 192000) (MDA ((w69)) ((u6_35)) ((wq11)) ((y9)) (btw (((w68)) (8001 * a1 + a2)) (((w67)) (8001 * a1 + a2)))) by assumption))

theorem M440f {σ0 σ : rS} {D N : Nat → Nat} {F : hF} {A : hA} {d c s : Nat} {Q : wQ} (H : HS σ0 σ D N F A) {a1 : Int} (u6_35 : Int) (eu6_35 : F 6 35 = u6_35) (w67 : Int → Int) (ew67 : A 67 = w67) (w68 : Int → Int) (ew68 : A 68 = w68) (w69 : Int → Int) (ew69 : A 69 = w69) (h0 : inr (a1)) (h1 : 0 ≤ (a1) ∧ (a1) ≤ 8000) (h2 : 0 ≤ (u6_35) ∧ (u6_35) ≤ 70000000) (k : ∀ σ Fₚ Aₚ, HS σ0 σ D N Fₚ Aₚ → SF [(6, 35)] F Fₚ → SA [69] A Aₚ → ∀ y6_35 : Int, Fₚ 6 35 = y6_35 → ∀ v69 : Int → Int, Aₚ 69 = v69 → ((y6_35) = (u6_35) + ((w67)) (8001 * 0 + (a1)) + ((w67)) (8001 * 2 + (a1)) + ((w67)) (8001 * 1 + (a1))) → (IMP ((u6_35) + 130 ≤ 192000) (MDA ((w69)) ((u6_35)) ((v69)) ((y6_35)) (XR ((w68)) ((w67)) ((a1))))) → Q none σ c s) : Ew 440 (d + 2) 0 (rargs 0 [.ref (D 6), I a1]) [] σ c s Q := by
  have r1 : (0 : Int) ≤ u6_35 ∧ u6_35 ≤ 100000000 := rngE (show (0 : Int) ≤ F 6 35 ∧ F 6 35 ≤ 100000000 from H.frng 6 35) (show F 6 35 = u6_35 from (eu6_35))
  have hB : ∀ i, (0 : Int) ≤ (w67) i ∧ (w67) i ≤ 31 := fun i => by have h1 : (0 : Int) ≤ A 67 i ∧ A 67 i ≤ 31 := H.arng 67 i; rw [show A 67 = w67 from ew67] at h1; exact h1
  have hb0 := hB (8001 * 0 + (a1))
  have hb1 := hB (8001 * 1 + (a1))
  have hb2 := hB (8001 * 2 + (a1))
  refine Ew_of (pcₚ := 1) (fun _ => x_aload_n rfl rfl) ?_
  refine Ew_of (pcₚ := 2) (fun _ => x_iconst rfl) ?_
  refine Ew_of (pcₚ := 3) (fun _ => x_iload_n rfl rfl) ?_
  refine w_inv H (o := 6) rfl rfl rfl (H.perm 6 rfl) rfl rfl (by rfl) (M439f H (u6_35) ((eu6_35)) (w67) (ew67) (w68) (ew68) (w69) (ew69) (show inr (0) from q_2) (show inr (a1) from h0) (show 0 ≤ (0) ∧ (0) ≤ 2 from q_2611) (show 0 ≤ (a1) ∧ (a1) ≤ 8000 from h1) (show 0 ≤ (u6_35) ∧ (u6_35) ≤ 80000000 from q_2610 h2 r1) (fun σ F2 A3 H hS4 hA5 y7 ey8 wq9 ewq10 pz6_0 pz6_1 => ⟨rfl, ?_⟩))
  have r11 : (0 : Int) ≤ y7 ∧ y7 ≤ 100000000 := rngE (show (0 : Int) ≤ F2 6 35 ∧ F2 6 35 ≤ 100000000 from H.frng 6 35) (show F2 6 35 = y7 from (ey8))
  refine Ew_of (pcₚ := 7) (fun _ => x_aload_n rfl rfl) ?_
  refine Ew_of (pcₚ := 8) (fun _ => x_iconst rfl) ?_
  refine Ew_of (pcₚ := 9) (fun _ => x_iload_n rfl rfl) ?_
  refine w_inv H (o := 6) rfl rfl rfl (H.perm 6 rfl) rfl rfl (by rfl) (M439f H (y7) ((ey8)) (w67) ((funext (hA5 67 rfl)).trans (ew67)) (w68) ((funext (hA5 68 rfl)).trans (ew68)) (wq9) (ewq10) (show inr (2) from q_122) (show inr (a1) from h0) (show 0 ≤ (2) ∧ (2) ≤ 2 from q_440) (show 0 ≤ (a1) ∧ (a1) ≤ 8000 from h1) (show 0 ≤ (y7) ∧ (y7) ≤ 80000000 by omega) (fun σ F12 A13 H hS14 hA15 y17 ey18 wq19 ewq20 pz16_0 pz16_1 => ⟨rfl, ?_⟩))
  have r21 : (0 : Int) ≤ y17 ∧ y17 ≤ 100000000 := rngE (show (0 : Int) ≤ F12 6 35 ∧ F12 6 35 ≤ 100000000 from H.frng 6 35) (show F12 6 35 = y17 from (ey18))
  refine Ew_of (pcₚ := 13) (fun _ => x_aload_n rfl rfl) ?_
  refine Ew_of (pcₚ := 14) (fun _ => x_iconst rfl) ?_
  refine Ew_of (pcₚ := 15) (fun _ => x_iload_n rfl rfl) ?_
  refine w_inv H (o := 6) rfl rfl rfl (H.perm 6 rfl) rfl rfl (by rfl) (M439f H (y17) ((ey18)) (w67) ((funext (hA15 67 rfl)).trans ((funext (hA5 67 rfl)).trans (ew67))) (w68) ((funext (hA15 68 rfl)).trans ((funext (hA5 68 rfl)).trans (ew68))) (wq19) (ewq20) (show inr (1) from q_135) (show inr (a1) from h0) (show 0 ≤ (1) ∧ (1) ≤ 2 from q_2612) (show 0 ≤ (a1) ∧ (a1) ≤ 8000 from h1) (show 0 ≤ (y17) ∧ (y17) ≤ 80000000 by omega) (fun σ F22 A23 H hS24 hA25 y27 ey28 wq29 ewq30 pz26_0 pz26_1 => ⟨rfl, ?_⟩))
  have r31 : (0 : Int) ≤ y27 ∧ y27 ≤ 100000000 := rngE (show (0 : Int) ≤ F22 6 35 ∧ F22 6 35 ≤ 100000000 from H.frng 6 35) (show F22 6 35 = y27 from (ey28))
  have : IMP ((u6_35) + 130 ≤ 192000) (MDA ((w69)) ((u6_35)) ((wq29)) ((y27)) (XR ((w68)) ((w67)) ((a1)))) := fun q => MDA_t (pz6_1 (by omega)) (MDA_t (pz16_1 (by omega)) (pz26_1 (by omega)))
  exact w_ret rfl (k σ _ _ H (SF_trans (SF_trans (SF_trans (SF_refl) hS4 (any_sub rfl)) hS14 (any_sub rfl)) hS24 (any_sub rfl)) (SA_trans (SA_trans (SA_trans (SA_refl) hA5 (any_subA rfl)) hA15 (any_subA rfl)) hA25 (any_subA rfl)) (y27) ((ey28)) (wq29) (ewq30) (show (y27) = (u6_35) + ((w67)) (8001 * 0 + a1) + ((w67)) (8001 * 2 + a1) + ((w67)) (8001 * 1 + a1) from q_2613 pz16_0 pz26_0 pz6_0) (show IMP ((u6_35) + 130 ≤ 192000) (MDA ((w69)) ((u6_35)) ((wq29)) ((y27)) (XR ((w68)) ((w67)) (a1))) by assumption))

theorem M441f {σ0 σ : rS} {D N : Nat → Nat} {F : hF} {A : hA} {d c s : Nat} {Q : wQ} (H : HS σ0 σ D N F A) {a1 a2 a3 : Int} (u6_35 : Int) (eu6_35 : F 6 35 = u6_35) (w55 : Int → Int) (ew55 : A 55 = w55) (w66 : Int → Int) (ew66 : A 66 = w66) (w69 : Int → Int) (ew69 : A 69 = w69) (w71 : Int → Int) (ew71 : A 71 = w71) (w72 : Int → Int) (ew72 : A 72 = w72) (w73 : Int → Int) (ew73 : A 73 = w73) (PP_ : Int → Int) (h0 : inr (a1)) (h1 : inr (a2)) (h2 : inr (a3)) (h3 : 0 ≤ (a1) ∧ (a1) ≤ 2) (h4 : 0 ≤ (a2) ∧ (a2) ≤ 8000) (h5 : 0 ≤ (u6_35) ∧ (u6_35) ≤ 70000000) (h6 : 0 ≤ ((w55)) ((a1))) (h7 : 1 ≤ ((w55)) ((a1)) → 5 ≤ ((w55)) ((a1)) ∧ LD PP_ 64 (((w55)) ((a1))) (sh ((w71)) (512 * (a1))) (sh ((w72)) (512 * (a1))) (sh ((w73)) (512 * (a1))) ∧ 1 ≤ mass (PP_ ((sh ((w66)) (8001 * (a1))) ((a2)))) ∧ mass (PP_ ((sh ((w66)) (8001 * (a1))) ((a2)))) ≤ p2 (((w55)) ((a1))) ∧ 0 ≤ (a3) ∧ (a3) < p2 (((w55)) ((a1)))) (k : ∀ (z : Int) σ Fₚ Aₚ, HS σ0 σ D N Fₚ Aₚ → SF [(6, 35)] F Fₚ → SA [69] A Aₚ → ∀ y6_35 : Int, Fₚ 6 35 = y6_35 → ∀ v69 : Int → Int, Aₚ 69 = v69 → (inr (z)) → (0 ≤ (z) ∧ (z) ≤ 511) → (((w55)) ((a1)) ≤ 0 → (z) = 0 ∧ (y6_35) = (u6_35)) → (1 ≤ ((w55)) ((a1)) → LEAD (sh ((w71)) (512 * (a1))) (sh ((w72)) (512 * (a1))) (sh ((w73)) (512 * (a1))) (((w55)) ((a1))) ((sh ((w66)) (8001 * (a1))) ((a2))) ((a3)) ((z)) ∧ (y6_35) = (u6_35) + (sh ((w72)) (512 * (a1))) ((z))) → ((z) = (nxS (btS (((w55)) ((a1))) PP_) ((sh ((w66)) (8001 * (a1))) ((a2))) ((a3))).1) → (IMP ((u6_35) + 40 ≤ 192000) (MDA ((w69)) ((u6_35)) ((v69)) ((y6_35)) ((nxS (btS (((w55)) ((a1))) PP_) ((sh ((w66)) (8001 * (a1))) ((a2))) ((a3))).2))) → Q (some (I z)) σ c s) : Ew 441 (d + 1) 0 (rargs 0 [.ref (D 6), I a1, I a2, I a3]) [] σ c s Q := by
  have r1 : (0 : Int) ≤ u6_35 ∧ u6_35 ≤ 100000000 := rngE (show (0 : Int) ≤ F 6 35 ∧ F 6 35 ≤ 100000000 from H.frng 6 35) (show F 6 35 = u6_35 from (eu6_35))
  have h0r : 0 ≤ ((w55)) ((a1)) := h6
  have hpp : 1 ≤ ((w55)) ((a1)) → 5 ≤ ((w55)) ((a1)) ∧ LD PP_ 64 (((w55)) ((a1))) (sh ((w71)) (512 * (a1))) (sh ((w72)) (512 * (a1))) (sh ((w73)) (512 * (a1))) ∧ 1 ≤ mass (PP_ ((sh ((w66)) (8001 * (a1))) ((a2)))) ∧ mass (PP_ ((sh ((w66)) (8001 * (a1))) ((a2)))) ≤ p2 (((w55)) ((a1))) ∧ 0 ≤ (a3) ∧ (a3) < p2 (((w55)) ((a1))) := h7
  refine Ew_of (pcₚ := 1) (fun _ => x_aload_n rfl rfl) ?_
  refine w_gT H (o := 6) (t := 55) rfl (H.perm 6 rfl) rfl rfl rfl rfl rfl rfl ?_
  refine Ew_of (pcₚ := 5) (fun _ => x_iload_n rfl rfl) ?_
  refine w_lI H (o := 55) (n := 3) rfl (H.perm 55 rfl) rfl rfl (H.fix 55 rfl rfl) (show 0 ≤ a1 ∧ a1 < ((3 : Nat) : Int) from q_1333 h3) (by decide) (fun v2 ev2 qv2 => ?_)
  have qv2 : (-1 : Int) ≤ v2 ∧ v2 ≤ 9 := qv2
  have ev2 : (w55) (a1) = v2 := (congrFun (ew55) (a1)).symm.trans ev2
  have ho := ev2
  rw [ho] at h0r hpp
  refine w_ifne (t := 11) rfl rfl (show inr (v2) from q_1337 qv2) (fun b3 => ?_) (fun b3 => ?_)
  · refine Ew_of (pcₚ := 12) (fun _ => x_aload_n rfl rfl) ?_
    have hq := hpp (by omega)
    obtain ⟨q5, qld, qm1, qm2, qa, qb⟩ := hq
    refine Ew_of (pcₚ := 15) (fun _ => x_sipush (z := 512) rfl (by decide)) ?_
    refine Ew_of (pcₚ := 16) (fun _ => x_iload_n rfl rfl) ?_
    refine w_imul rfl ?_
    refine Ew_of (pcₚ := 18) (fun _ => x_aload_n rfl rfl) ?_
    refine w_gT H (o := 6) (t := 55) rfl (H.perm 6 rfl) rfl rfl rfl rfl rfl rfl ?_
    refine Ew_of (pcₚ := 22) (fun _ => x_iload_n rfl rfl) ?_
    refine w_lI H (o := 55) (n := 3) rfl (H.perm 55 rfl) rfl rfl (H.fix 55 rfl rfl) (show 0 ≤ a1 ∧ a1 < ((3 : Nat) : Int) from q_1333 h3) (by decide) (fun v4 ev4 qv4 => ?_)
    have qv4 : (-1 : Int) ≤ v4 ∧ v4 ≤ 9 := qv4
    have ev4 : (w55) (a1) = v4 := (congrFun (ew55) (a1)).symm.trans ev4
    refine Ew_of (pcₚ := 24) (fun _ => x_aload_n rfl rfl) ?_
    refine w_gT H (o := 6) (t := 66) rfl (H.perm 6 rfl) rfl rfl rfl rfl rfl rfl ?_
    refine Ew_of (pcₚ := 30) (fun _ => x_sipush (z := 8001) rfl (by decide)) ?_
    refine Ew_of (pcₚ := 31) (fun _ => x_iload_n rfl rfl) ?_
    refine w_imul rfl ?_
    refine Ew_of (pcₚ := 33) (fun _ => x_iload_n rfl rfl) ?_
    refine w_iadd rfl ?_
    refine w_lI H (o := 66) (n := 24003) rfl (H.perm 66 rfl) rfl rfl (H.fix 66 rfl rfl) (show 0 ≤ ((8001 * a1) + a2) ∧ ((8001 * a1) + a2) < ((24003 : Nat) : Int) from q_2607 h3 h4) (by decide) (fun v5 ev5 qv5 => ?_)
    have qv5 : (0 : Int) ≤ v5 ∧ v5 ≤ 63 := qv5
    have ev5 : (w66) (((8001 * a1) + a2)) = v5 := (congrFun (ew66) (((8001 * a1) + a2))).symm.trans ev5
    refine Ew_of (pcₚ := 36) (fun _ => x_iload_n rfl rfl) ?_
    have ho4 := ev4
    have h24 := ho.symm.trans ho4
    rw [h24] at qld qm2 qb
    have hp9 := p2_le9 (o := (v4)) (by omega)
    have hrw : (sh ((w66)) (8001 * (a1))) ((a2)) = (v5) := ev5
    rw [hrw] at qm1 qm2
    have : 1 ≤ mass (PP_ ((v5))) ∧ mass (PP_ ((v5))) ≤ p2 ((v4)) := ⟨qm1, qm2⟩
    refine w_inv H (o := 6) rfl rfl rfl (H.perm 6 rfl) rfl rfl (by rfl) (M409 H (w71) (ew71) (w72) (ew72) (w73) (ew73) (PP_) (show inr ((512 * a1)) from q_1336 h3) (show inr (v4) from q_1337 qv4) (show inr (v5) from q_2409 qv5) (show inr (a3) from h2) (show LD (PP_) 64 ((v4)) (sh ((w71)) (((512 * a1)))) (sh ((w72)) (((512 * a1)))) (sh ((w73)) (((512 * a1)))) by assumption) (show 5 ≤ (v4) ∧ (v4) ≤ 9 by omega) (show 0 ≤ ((512 * a1)) ∧ ((512 * a1)) + p2 ((v4)) ≤ 2048 by omega) (show 0 ≤ (v5) ∧ (v5) < 64 from q_2408 qv5) (show 1 ≤ mass ((PP_) (v5)) ∧ mass ((PP_) (v5)) ≤ p2 ((v4)) by assumption) (show 0 ≤ (a3) ∧ (a3) < p2 ((v4)) by omega) (fun z10 σ F6 A7 H hS8 hA9 pz10_0 pz10_1 pz10_2 => ⟨rfl, ?_⟩))
    refine Ew_of (pcₚ := 41) (fun _ => x_istore rfl) ?_
    have hld := pz10_2
    obtain ⟨ql4, hql4⟩ : ∃ q : Int, q = (z10) := ⟨_, rfl⟩
    have hdv7 := LD_dv (st := (a3)) qld (k := (z10)) (by omega) (by omega)
    refine Ew_of (pcₚ := 42) (fun _ => x_aload_n rfl (rk_o (rfl) rfl rfl)) ?_
    refine Ew_of (pcₚ := 43) (fun _ => x_iload_n rfl (rk_o (rfl) rfl rfl)) ?_
    refine Ew_of (pcₚ := 44) (fun _ => x_aload_n rfl (rk_o (rfl) rfl rfl)) ?_
    refine w_gT H (o := 6) (t := 73) rfl (H.perm 6 rfl) rfl rfl rfl rfl rfl rfl ?_
    refine Ew_of (pcₚ := 50) (fun _ => x_sipush (z := 512) rfl (by decide)) ?_
    refine Ew_of (pcₚ := 51) (fun _ => x_iload_n rfl (rk_o (rfl) rfl rfl)) ?_
    refine w_imul rfl ?_
    refine Ew_of (pcₚ := 54) (fun _ => x_iload rfl rk_s) ?_
    refine w_iadd rfl ?_
    refine w_lI H (o := 73) (n := 2048) rfl (H.perm 73 rfl) rfl rfl (H.fix 73 rfl rfl) (show 0 ≤ ((512 * a1) + z10) ∧ ((512 * a1) + z10) < ((2048 : Nat) : Int) by omega) (by decide) (fun v11 ev11 qv11 => ?_)
    have qv11 : (0 : Int) ≤ v11 ∧ v11 ≤ 511 := qv11
    have ev11 : (w73) (((512 * a1) + z10)) = v11 := (congrFun ((funext (hA9 73 rfl)).trans (ew73)) (((512 * a1) + z10))).symm.trans ev11
    have hba7 := ev11
    refine w_isub rfl ?_
    refine Ew_of (pcₚ := 58) (fun _ => x_aload_n rfl (rk_o (rfl) rfl rfl)) ?_
    refine w_gT H (o := 6) (t := 72) rfl (H.perm 6 rfl) rfl rfl rfl rfl rfl rfl ?_
    refine Ew_of (pcₚ := 64) (fun _ => x_sipush (z := 512) rfl (by decide)) ?_
    refine Ew_of (pcₚ := 65) (fun _ => x_iload_n rfl (rk_o (rfl) rfl rfl)) ?_
    refine w_imul rfl ?_
    refine Ew_of (pcₚ := 68) (fun _ => x_iload rfl rk_s) ?_
    refine w_iadd rfl ?_
    refine w_lI H (o := 72) (n := 2048) rfl (H.perm 72 rfl) rfl rfl (H.fix 72 rfl rfl) (show 0 ≤ ((512 * a1) + z10) ∧ ((512 * a1) + z10) < ((2048 : Nat) : Int) by omega) (by decide) (fun v12 ev12 qv12 => ?_)
    have qv12 : (0 : Int) ≤ v12 ∧ v12 ≤ 9 := qv12
    have ev12 : (w72) (((512 * a1) + z10)) = v12 := (congrFun ((funext (hA9 72 rfl)).trans (ew72)) (((512 * a1) + z10))).symm.trans ev12
    have hbi := ev12
    have hbi7 : (sh ((w72)) (512 * (a1))) ((z10)) = (v12) := ev12
    have hbc7 : btw (((a3 - v11))) ((v12)) = btw ((a3)) ((v12)) := btw_congr (by rw [← hbi7, ← hba7]; exact hdv7)
    have hn7 : nxS (btS (((w55)) ((a1))) PP_) ((sh ((w66)) (8001 * (a1))) ((a2))) ((a3)) = ((z10), btw ((a3)) ((v12))) := nxS_y (o := ((w55)) ((a1))) (by rw [btS_1 (by rw [ho]; omega), ho]; omega) (tbX_bt (by rw [ho4]; omega) (by rw [ho4]; exact qld)) (by rw [ho4, hrw]; exact hld) hbi7
    refine w_inv H (o := 6) rfl rfl rfl (H.perm 6 rfl) rfl rfl (by rfl) (M389 H (u6_35) (((hS8 6 35 rfl).trans (eu6_35))) (w69) ((funext (hA9 69 rfl)).trans (ew69)) (show inr ((a3 - v11)) by omega) (show inr (v12) from q_1732 qv12) (show 0 ≤ (v12) ∧ (v12) ≤ 31 from q_1731 qv12) (show 0 ≤ (u6_35) ∧ (u6_35) ≤ 90000000 from q_2630 h5 r1) (fun σ F13 A14 H hS15 hA16 y18 ey19 wq20 ewq21 pz17_0 pz17_1 => ⟨rfl, ?_⟩))
    have r22 : (0 : Int) ≤ y18 ∧ y18 ≤ 100000000 := rngE (show (0 : Int) ≤ F13 6 35 ∧ F13 6 35 ≤ 100000000 from H.frng 6 35) (show F13 6 35 = y18 from (ey19))
    have : ((w55)) ((a1)) ≤ 0 → (z10) = 0 ∧ (y18) = (u6_35) := fun q => absurd q (by rw [ho]; omega)
    have : 1 ≤ ((w55)) ((a1)) → LEAD (sh ((w71)) (512 * (a1))) (sh ((w72)) (512 * (a1))) (sh ((w73)) (512 * (a1))) (((w55)) ((a1))) ((sh ((w66)) (8001 * (a1))) ((a2))) ((a3)) ((z10)) ∧ (y18) = (u6_35) + (sh ((w72)) (512 * (a1))) ((z10)) := fun _ => ⟨by rw [ho4, hrw]; exact hld, by have e : (sh ((w72)) (512 * (a1))) ((z10)) = ((w72)) (512 * (a1) + (z10)) := rfl; omega⟩
    have hp73 := pz17_1
    rw [hbc7] at hp73
    have : (z10) = (nxS (btS (((w55)) ((a1))) PP_) ((sh ((w66)) (8001 * (a1))) ((a2))) ((a3))).1 := by rw [hn7]
    have : IMP ((u6_35) + 40 ≤ 192000) (MDA ((w69)) ((u6_35)) ((wq20)) ((y18)) ((nxS (btS (((w55)) ((a1))) PP_) ((sh ((w66)) (8001 * (a1))) ((a2))) ((a3))).2)) := fun q => by rw [hn7]; exact hp73 (by omega)
    refine Ew_of (pcₚ := 75) (fun _ => x_iload rfl rk_s) ?_
    exact w_ireturn rfl (k (z10) σ _ _ H (SF_trans (SF_trans (SF_refl) hS8 (any_sub rfl)) hS15 (any_sub rfl)) (SA_trans (SA_trans (SA_refl) hA9 (any_subA rfl)) hA16 (any_subA rfl)) (y18) ((ey19)) (wq20) (ewq21) (show inr (z10) from pz10_0) (show 0 ≤ (z10) ∧ (z10) ≤ 511 by omega) (show ((w55)) (a1) ≤ 0 → (z10) = 0 ∧ (y18) = (u6_35) by assumption) (show 1 ≤ ((w55)) (a1) → LEAD (sh ((w71)) (512 * a1)) (sh ((w72)) (512 * a1)) (sh ((w73)) (512 * a1)) (((w55)) (a1)) ((sh ((w66)) (8001 * a1)) (a2)) (a3) ((z10)) ∧ (y18) = (u6_35) + (sh ((w72)) (512 * a1)) ((z10)) by assumption) (show (z10) = (nxS (btS (((w55)) (a1)) PP_) ((sh ((w66)) (8001 * a1)) (a2)) (a3)).1 by assumption) (show IMP ((u6_35) + 40 ≤ 192000) (MDA ((w69)) ((u6_35)) ((wq20)) ((y18)) ((nxS (btS (((w55)) (a1)) PP_) ((sh ((w66)) (8001 * a1)) (a2)) (a3)).2)) by assumption))
  · have : ((w55)) ((a1)) ≤ 0 → (0 : Int) = 0 ∧ (u6_35) = (u6_35) := fun _ => ⟨rfl, rfl⟩
    have : 1 ≤ ((w55)) ((a1)) → LEAD (sh ((w71)) (512 * (a1))) (sh ((w72)) (512 * (a1))) (sh ((w73)) (512 * (a1))) (((w55)) ((a1))) ((sh ((w66)) (8001 * (a1))) ((a2))) ((a3)) 0 ∧ (u6_35) = (u6_35) + (sh ((w72)) (512 * (a1))) 0 := fun q => absurd q (by rw [ho]; omega)
    have hn0 : nxS (btS (((w55)) ((a1))) PP_) ((sh ((w66)) (8001 * (a1))) ((a2))) ((a3)) = (0, []) := nxS_0 (by rw [btS_1 (by rw [ho]; omega), ho]; omega)
    have : (0 : Int) = (nxS (btS (((w55)) ((a1))) PP_) ((sh ((w66)) (8001 * (a1))) ((a2))) ((a3))).1 := by rw [hn0]
    have : IMP ((u6_35) + 40 ≤ 192000) (MDA ((w69)) ((u6_35)) ((w69)) ((u6_35)) ((nxS (btS (((w55)) ((a1))) PP_) ((sh ((w66)) (8001 * (a1))) ((a2))) ((a3))).2)) := fun _ => by rw [hn0]; exact MDA_0
    refine Ew_of (pcₚ := 10) (fun _ => x_iconst rfl) ?_
    exact w_ireturn rfl (k (0) σ _ _ H (SF_refl) (SA_refl) (u6_35) ((eu6_35)) (w69) (ew69) (show inr (0) from q_2) (show 0 ≤ (0) ∧ (0) ≤ 511 by first | exact q_1687 | omega) (show ((w55)) (a1) ≤ 0 → (0) = 0 ∧ (u6_35) = (u6_35) by assumption) (show 1 ≤ ((w55)) (a1) → LEAD (sh ((w71)) (512 * a1)) (sh ((w72)) (512 * a1)) (sh ((w73)) (512 * a1)) (((w55)) (a1)) ((sh ((w66)) (8001 * a1)) (a2)) (a3) ((0)) ∧ (u6_35) = (u6_35) + (sh ((w72)) (512 * a1)) ((0)) by assumption) (show (0) = (nxS (btS (((w55)) (a1)) PP_) ((sh ((w66)) (8001 * a1)) (a2)) (a3)).1 by assumption) (show IMP ((u6_35) + 40 ≤ 192000) (MDA ((w69)) ((u6_35)) ((w69)) ((u6_35)) ((nxS (btS (((w55)) (a1)) PP_) ((sh ((w66)) (8001 * a1)) (a2)) (a3)).2)) by assumption))

theorem M442f {σ0 σ : rS} {D N : Nat → Nat} {F : hF} {A : hA} {d c s : Nat} {Q : wQ} (H : HS σ0 σ D N F A) {a1 : Int} (u6_28 : Int) (eu6_28 : F 6 28 = u6_28) (w54 : Int → Int) (ew54 : A 54 = w54) (w55 : Int → Int) (ew55 : A 55 = w55) (w66 : Int → Int) (ew66 : A 66 = w66) (w71 : Int → Int) (ew71 : A 71 = w71) (w72 : Int → Int) (ew72 : A 72 = w72) (w73 : Int → Int) (ew73 : A 73 = w73) (h0 : inr (a1)) (h1 : 0 ≤ (a1) ∧ (a1) ≤ 2) (h2 : 1 ≤ (u6_28)) (h3 : 0 ≤ ((w55)) ((a1))) (h4 : WO ((w54)) ((w55))) (h5 : 1 ≤ ((w55)) ((a1)) → (sh ((w54)) (64 * (a1))) ((sh ((w66)) (8001 * (a1))) ((u6_28) - 1)) ≠ 0) (k : ∀ (z : Int) σ Fₚ Aₚ, HS σ0 σ D N Fₚ Aₚ → SF [] F Fₚ → SA [71, 72, 73, 74] A Aₚ → ∀ v71 : Int → Int, Aₚ 71 = v71 → ∀ v72 : Int → Int, Aₚ 72 = v72 → ∀ v73 : Int → Int, Aₚ 73 = v73 → (inr (z)) → (0 ≤ (z) ∧ (z) ≤ 511) → (((w55)) ((a1)) ≤ 0 → (z) = 0) → (1 ≤ ((w55)) ((a1)) → LD (sh ((w54)) (64 * (a1))) 64 (((w55)) ((a1))) (sh ((v71)) (512 * (a1))) (sh ((v72)) (512 * (a1))) (sh ((v73)) (512 * (a1))) ∧ LOW (sh ((v71)) (512 * (a1))) (sh ((v72)) (512 * (a1))) (((w55)) ((a1))) ((sh ((w66)) (8001 * (a1))) ((u6_28) - 1)) 0 ((z))) → (FRM ((w71)) ((v71)) (512 * (a1)) (512 * (a1) + 512)) → (FRM ((w72)) ((v72)) (512 * (a1)) (512 * (a1) + 512)) → (FRM ((w73)) ((v73)) (512 * (a1)) (512 * (a1) + 512)) → ((z) = slS (btS (((w55)) ((a1))) (sh ((w54)) (64 * (a1)))) (sh ((w66)) (8001 * (a1))) ((u6_28))) → Q (some (I z)) σ c s) : Ew 442 (d + 2) 0 (rargs 0 [.ref (D 6), I a1]) [] σ c s Q := by
  have r1 : (0 : Int) ≤ u6_28 ∧ u6_28 ≤ 8001 := rngE (show (0 : Int) ≤ F 6 28 ∧ F 6 28 ≤ 8001 from H.frng 6 28) (show F 6 28 = u6_28 from (eu6_28))
  have h0r : 0 ≤ ((w55)) ((a1)) := h3
  have hwo : WO ((w54)) ((w55)) := h4
  have hwt := hwo ((a1)) (by omega) (by omega)
  have hlz : 1 ≤ ((w55)) ((a1)) → (sh ((w54)) (64 * (a1))) ((sh ((w66)) (8001 * (a1))) ((u6_28) - 1)) ≠ 0 := h5
  refine Ew_of (pcₚ := 1) (fun _ => x_aload_n rfl rfl) ?_
  refine w_gT H (o := 6) (t := 55) rfl (H.perm 6 rfl) rfl rfl rfl rfl rfl rfl ?_
  refine Ew_of (pcₚ := 5) (fun _ => x_iload_n rfl rfl) ?_
  refine w_lI H (o := 55) (n := 3) rfl (H.perm 55 rfl) rfl rfl (H.fix 55 rfl rfl) (show 0 ≤ a1 ∧ a1 < ((3 : Nat) : Int) from q_1333 h1) (by decide) (fun v2 ev2 qv2 => ?_)
  have qv2 : (-1 : Int) ≤ v2 ∧ v2 ≤ 9 := qv2
  have ev2 : (w55) (a1) = v2 := (congrFun (ew55) (a1)).symm.trans ev2
  have ho := ev2
  refine w_ifne (t := 11) rfl rfl (show inr (v2) from q_1337 qv2) (fun b3 => ?_) (fun b3 => ?_)
  · refine Ew_of (pcₚ := 12) (fun _ => x_aload_n rfl rfl) ?_
    refine Ew_of (pcₚ := 13) (fun _ => x_aload_n rfl rfl) ?_
    refine w_gT H (o := 6) (t := 54) rfl (H.perm 6 rfl) rfl rfl rfl rfl rfl rfl ?_
    refine Ew_of (pcₚ := 18) (fun _ => x_bipush (z := 64) rfl (by decide)) ?_
    refine Ew_of (pcₚ := 19) (fun _ => x_iload_n rfl rfl) ?_
    refine w_imul rfl ?_
    refine Ew_of (pcₚ := 22) (fun _ => x_bipush (z := 64) rfl (by decide)) ?_
    refine Ew_of (pcₚ := 23) (fun _ => x_aload_n rfl rfl) ?_
    refine w_gT H (o := 6) (t := 55) rfl (H.perm 6 rfl) rfl rfl rfl rfl rfl rfl ?_
    refine Ew_of (pcₚ := 27) (fun _ => x_iload_n rfl rfl) ?_
    refine w_lI H (o := 55) (n := 3) rfl (H.perm 55 rfl) rfl rfl (H.fix 55 rfl rfl) (show 0 ≤ a1 ∧ a1 < ((3 : Nat) : Int) from q_1333 h1) (by decide) (fun v4 ev4 qv4 => ?_)
    have qv4 : (-1 : Int) ≤ v4 ∧ v4 ≤ 9 := qv4
    have ev4 : (w55) (a1) = v4 := (congrFun (ew55) (a1)).symm.trans ev4
    refine Ew_of (pcₚ := 31) (fun _ => x_sipush (z := 512) rfl (by decide)) ?_
    refine Ew_of (pcₚ := 32) (fun _ => x_iload_n rfl rfl) ?_
    refine w_imul rfl ?_
    have ho3 := ev4
    have hps : SH ((w54)) (64 * (a1)) 64 ((v4)) (lastOf ((a1))) := by rcases hwt with q | q; omega; (have q2 : SH ((w54)) (64 * (a1)) 64 (((w55)) ((a1))) (lastOf ((a1))) := q; rw [ho3] at q2; exact q2)
    have hp9 := p2_le9 (o := (v4)) (by omega)
    have h59 : 5 ≤ (v4) ∧ (v4) ≤ 9 := ⟨hps.1, hps.2.1⟩
    have fr0 : True := trivial
    refine w_inv H (o := 6) rfl rfl rfl (H.perm 6 rfl) rfl rfl (by rfl) (M407_54 H (w54) (ew54) (w71) (ew71) (w72) (ew72) (w73) (ew73) (lastOf ((a1))) (show inr ((64 * a1)) from q_1338 h1) (show inr (64) from q_151) (show inr (v4) from q_2631 h59) (show inr ((512 * a1)) from q_1336 h1) (hps) (show 0 ≤ ((64 * a1)) ∧ 1 ≤ (64) ∧ (64) ≤ 64 ∧ ((64 * a1)) + (64) ≤ 192 from q_1335 h1) (show 0 ≤ ((512 * a1)) ∧ ((512 * a1)) + p2 ((v4)) ≤ 2048 by omega) (fun σ F5 A6 H hS7 hA8 wq10 ewq11 wq12 ewq13 wq14 ewq15 pz9_0 pz9_1 pz9_2 pz9_3 pz9_4 => ⟨rfl, ?_⟩))
    have hld := pz9_0
    have : FRM ((w71)) ((wq10)) (512 * (a1)) (512 * (a1) + 512) := fun k h => pz9_2 k (by omega)
    have : FRM ((w72)) ((wq12)) (512 * (a1)) (512 * (a1) + 512) := fun k h => pz9_3 k (by omega)
    have : FRM ((w73)) ((wq14)) (512 * (a1)) (512 * (a1) + 512) := fun k h => pz9_4 k (by omega)
    refine Ew_of (pcₚ := 37) (fun _ => x_aload_n rfl rfl) ?_
    refine Ew_of (pcₚ := 40) (fun _ => x_sipush (z := 512) rfl (by decide)) ?_
    refine Ew_of (pcₚ := 41) (fun _ => x_iload_n rfl rfl) ?_
    refine w_imul rfl ?_
    refine Ew_of (pcₚ := 43) (fun _ => x_aload_n rfl rfl) ?_
    refine w_gT H (o := 6) (t := 55) rfl (H.perm 6 rfl) rfl rfl rfl rfl rfl rfl ?_
    refine Ew_of (pcₚ := 47) (fun _ => x_iload_n rfl rfl) ?_
    refine w_lI H (o := 55) (n := 3) rfl (H.perm 55 rfl) rfl rfl (H.fix 55 rfl rfl) (show 0 ≤ a1 ∧ a1 < ((3 : Nat) : Int) from q_1333 h1) (by decide) (fun v16 ev16 qv16 => ?_)
    have qv16 : (-1 : Int) ≤ v16 ∧ v16 ≤ 9 := qv16
    have ev16 : (w55) (a1) = v16 := (congrFun ((funext (hA8 55 rfl)).trans (ew55)) (a1)).symm.trans ev16
    refine Ew_of (pcₚ := 49) (fun _ => x_aload_n rfl rfl) ?_
    refine w_gT H (o := 6) (t := 66) rfl (H.perm 6 rfl) rfl rfl rfl rfl rfl rfl ?_
    refine Ew_of (pcₚ := 55) (fun _ => x_sipush (z := 8001) rfl (by decide)) ?_
    refine Ew_of (pcₚ := 56) (fun _ => x_iload_n rfl rfl) ?_
    refine w_imul rfl ?_
    refine Ew_of (pcₚ := 58) (fun _ => x_aload_n rfl rfl) ?_
    refine w_gI H (o := 6) (w := u6_28) rfl (H.perm 6 rfl) rfl rfl rfl (fun _ => rfl) ((hS7 6 28 rfl).trans (eu6_28)) ?_
    refine w_iadd rfl ?_
    refine Ew_of (pcₚ := 63) (fun _ => x_iconst rfl) ?_
    refine w_isub rfl ?_
    refine w_lI H (o := 66) (n := 24003) rfl (H.perm 66 rfl) rfl rfl (H.fix 66 rfl rfl) (show 0 ≤ (((8001 * a1) + u6_28) - 1) ∧ (((8001 * a1) + u6_28) - 1) < ((24003 : Nat) : Int) from q_2407 h1 h2 r1) (by decide) (fun v17 ev17 qv17 => ?_)
    have qv17 : (0 : Int) ≤ v17 ∧ v17 ≤ 63 := qv17
    have ev17 : (w66) ((((8001 * a1) + u6_28) - 1)) = v17 := (congrFun ((funext (hA8 66 rfl)).trans (ew66)) ((((8001 * a1) + u6_28) - 1))).symm.trans ev17
    refine Ew_of (pcₚ := 66) (fun _ => x_iconst rfl) ?_
    have ho6 := ev16
    have h36 := ho3.symm.trans ho6
    rw [h36] at hld hp9 h59 hps
    have hsy : (sh ((w66)) (8001 * (a1))) ((u6_28) - 1) = (v17) := by show ((w66)) (8001 * (a1) + ((u6_28) - 1)) = (v17); rw [show 8001 * (a1) + ((u6_28) - 1) = 8001 * (a1) + (u6_28) - 1 by omega]; exact ev17
    have hnl := hlz (by rw [ho6]; omega)
    rw [hsy] at hnl
    have hle := SH_le ((v17)) hps (by omega) (by omega)
    have hme := mass_eq ((sh ((w54)) (64 * (a1))) ((v17)))
    have hee : (sh ((w54)) (64 * (a1))) ((v17)) = ((w54)) (64 * (a1) + (v17)) := rfl
    have : 1 ≤ mass ((sh ((w54)) (64 * (a1))) ((v17))) := by omega
    have : (0 : Int) = 1 → mass ((sh ((w54)) (64 * (a1))) ((v17))) < p2 ((v16)) := fun q => absurd q (by decide)
    refine w_inv H (o := 6) rfl rfl rfl (H.perm 6 rfl) rfl rfl (by rfl) (M408 H (wq10) (ewq11) (wq12) (ewq13) (wq14) (ewq15) (sh ((w54)) (64 * (a1))) (show inr ((512 * a1)) from q_1336 h1) (show inr (v16) from q_1337 qv16) (show inr (v17) from q_2409 qv17) (show inr (0) from q_2) (show (0) = 0 ∨ (0) = 1 from q_45) (show LD (sh ((w54)) (64 * (a1))) 64 ((v16)) (sh ((wq10)) (((512 * a1)))) (sh ((wq12)) (((512 * a1)))) (sh ((wq14)) (((512 * a1)))) by assumption) (show 5 ≤ (v16) ∧ (v16) ≤ 9 by omega) (show 0 ≤ ((512 * a1)) ∧ ((512 * a1)) + p2 ((v16)) ≤ 2048 by omega) (show 0 ≤ (v17) ∧ (v17) < 64 from q_2408 qv17) (show 1 ≤ mass ((sh ((w54)) (64 * (a1))) (v17)) by assumption) (show (0) = 1 → mass ((sh ((w54)) (64 * (a1))) (v17)) < p2 ((v16)) by assumption) (fun z22 σ F18 A19 H hS20 hA21 pz22_0 pz22_1 pz22_2 => ⟨rfl, ?_⟩))
    have hlo := pz22_2
    have : ((w55)) ((a1)) ≤ 0 → (z22) = 0 := fun q => absurd q (by rw [ho6]; omega)
    have : 1 ≤ ((w55)) ((a1)) → LD (sh ((w54)) (64 * (a1))) 64 (((w55)) ((a1))) (sh ((wq10)) (512 * (a1))) (sh ((wq12)) (512 * (a1))) (sh ((wq14)) (512 * (a1))) ∧ LOW (sh ((wq10)) (512 * (a1))) (sh ((wq12)) (512 * (a1))) (((w55)) ((a1))) ((sh ((w66)) (8001 * (a1))) ((u6_28) - 1)) 0 ((z22)) := fun _ => by rw [ho6, hsy]; exact ⟨hld, hlo⟩
    have : (z22) = slS (btS (((w55)) ((a1))) (sh ((w54)) (64 * (a1)))) (sh ((w66)) (8001 * (a1))) ((u6_28)) := (slS_y (o := ((w55)) ((a1))) (by rw [btS_1 (by rw [ho6]; omega), ho6]; omega) (tbX_bt (by rw [ho6]; omega) (by rw [ho6]; exact hld)) (by rw [ho6, hsy]; exact hlo)).symm
    exact w_ireturn rfl (k (z22) σ _ _ H (SF_trans (SF_trans (SF_refl) hS7 (any_sub rfl)) hS20 (any_sub rfl)) (SA_trans (SA_trans (SA_refl) hA8 (any_subA rfl)) hA21 (any_subA rfl)) (wq10) ((funext (hA21 71 rfl)).trans (ewq11)) (wq12) ((funext (hA21 72 rfl)).trans (ewq13)) (wq14) ((funext (hA21 73 rfl)).trans (ewq15)) (show inr (z22) from pz22_0) (show 0 ≤ (z22) ∧ (z22) ≤ 511 by omega) (show ((w55)) (a1) ≤ 0 → (z22) = 0 by assumption) (show 1 ≤ ((w55)) (a1) → LD (sh ((w54)) (64 * a1)) 64 (((w55)) (a1)) (sh ((wq10)) (512 * a1)) (sh ((wq12)) (512 * a1)) (sh ((wq14)) (512 * a1)) ∧ LOW (sh ((wq10)) (512 * a1)) (sh ((wq12)) (512 * a1)) (((w55)) (a1)) ((sh ((w66)) (8001 * a1)) ((u6_28) - 1)) 0 ((z22)) by assumption) (show FRM ((w71)) ((wq10)) (512 * a1) (512 * a1 + 512) by assumption) (show FRM ((w72)) ((wq12)) (512 * a1) (512 * a1 + 512) by assumption) (show FRM ((w73)) ((wq14)) (512 * a1) (512 * a1 + 512) by assumption) (show (z22) = slS (btS (((w55)) (a1)) (sh ((w54)) (64 * a1))) (sh ((w66)) (8001 * a1)) ((u6_28)) by assumption))
  · have : ((w55)) ((a1)) ≤ 0 → (0 : Int) = 0 := fun _ => rfl
    have : 1 ≤ ((w55)) ((a1)) → LD (sh ((w54)) (64 * (a1))) 64 (((w55)) ((a1))) (sh ((w71)) (512 * (a1))) (sh ((w72)) (512 * (a1))) (sh ((w73)) (512 * (a1))) ∧ LOW (sh ((w71)) (512 * (a1))) (sh ((w72)) (512 * (a1))) (((w55)) ((a1))) ((sh ((w66)) (8001 * (a1))) ((u6_28) - 1)) 0 ((0 : Int)) := fun q => absurd q (by rw [ho]; omega)
    have : FRM ((w71)) ((w71)) (512 * (a1)) (512 * (a1) + 512) := fun _ _ => rfl
    have : FRM ((w72)) ((w72)) (512 * (a1)) (512 * (a1) + 512) := fun _ _ => rfl
    have : FRM ((w73)) ((w73)) (512 * (a1)) (512 * (a1) + 512) := fun _ _ => rfl
    have : (0 : Int) = slS (btS (((w55)) ((a1))) (sh ((w54)) (64 * (a1)))) (sh ((w66)) (8001 * (a1))) ((u6_28)) := (slS_0 (by rw [btS_1 (by rw [ho]; omega), ho]; omega)).symm
    refine Ew_of (pcₚ := 10) (fun _ => x_iconst rfl) ?_
    exact w_ireturn rfl (k (0) σ _ _ H (SF_refl) (SA_refl) (w71) (ew71) (w72) (ew72) (w73) (ew73) (show inr (0) from q_2) (show 0 ≤ (0) ∧ (0) ≤ 511 by first | exact q_1687 | omega) (show ((w55)) (a1) ≤ 0 → (0) = 0 by assumption) (show 1 ≤ ((w55)) (a1) → LD (sh ((w54)) (64 * a1)) 64 (((w55)) (a1)) (sh ((w71)) (512 * a1)) (sh ((w72)) (512 * a1)) (sh ((w73)) (512 * a1)) ∧ LOW (sh ((w71)) (512 * a1)) (sh ((w72)) (512 * a1)) (((w55)) (a1)) ((sh ((w66)) (8001 * a1)) ((u6_28) - 1)) 0 ((0)) by assumption) (show FRM ((w71)) ((w71)) (512 * a1) (512 * a1 + 512) by assumption) (show FRM ((w72)) ((w72)) (512 * a1) (512 * a1 + 512) by assumption) (show FRM ((w73)) ((w73)) (512 * a1) (512 * a1 + 512) by assumption) (show (0) = slS (btS (((w55)) (a1)) (sh ((w54)) (64 * a1))) (sh ((w66)) (8001 * a1)) ((u6_28)) by assumption))


end
