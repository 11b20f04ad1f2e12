/-- Model.poly -/
theorem M73p {σ0 σ : rS} {D N : Nat → Nat} {F : hF} {A : hA} {d c s : Nat} {Q : wQ} (H : HS σ0 σ D N F A) {a1 a2 a3 a4 : Int} (w10 : Int → Int) (ew10 : A 10 = w10) (w11 : Int → Int) (ew11 : A 11 = w11) (h0 : inr (a1)) (h1 : inr (a2)) (h2 : inr (a3)) (h3 : inr (a4)) (h4 : (a4) = 0 ∨ (a4) = 1) (k : ∀ (z : Int) σ F' A', HS σ0 σ D N F' A' → SF [(2, 1)] F F' → SA [] A A' → (inr (z)) → (((0 ≤ (a1) ∧ (a1) ≤ 3) ∧ ((z) : Int) = plY (prL (rwR ((w10)) ((w11)) ((a1))) ((a2)) ((a3))) ((a4)) ∨ ¬ (0 ≤ (a1) ∧ (a1) ≤ 3) ∧ ((z) : Int) = 0)) → Q (some (I z)) σ c s) : Ew 73 (d + 4) 0 (rargs 0 [.ref (D 0), I a1, I a2, I a3, I a4]) [] σ c s Q := by
  have hSz : ∀ i, (0 : Int) ≤ (w11) i ∧ (w11) i ≤ 65536 := fun i => by have h1 : (0 : Int) ≤ A 11 i ∧ A 11 i ≤ 65536 := H.arng 11 i; rw [show A 11 = w11 from ew11] at h1; exact h1
  have hl0 := rwR_len (ro := (w10)) (si := (w11)) (r := (a1)) (hSz ((a1))).1
  have hsa := hSz ((a1))
  refine Ew_of (pc' := 1) (fun _ => x_iload_n rfl rfl) ?_
  refine w_stat24 rfl rfl (by rfl) (M56p H (show inr (a1) by omega) (fun z5 σ F1 A2 H hS3 hA4 pz5_0 pz5_1 => ⟨rretB rfl pz5_0, ?_⟩))
  refine w_ifne (t := 9) rfl rfl (show inr (z5) by omega) (fun b6 => ?_) (fun b6 => ?_)
  · refine Ew_of (pc' := 10) (fun _ => x_aload_n rfl rfl) ?_
    refine w_gT H (o := 0) (t := 2) rfl (H.perm 0 rfl) rfl rfl rfl rfl rfl rfl ?_
    refine Ew_of (pc' := 15) (fun _ => x_ldc (z := 65536) rfl (by decide)) ?_
    refine Ew_of (pc' := 16) (fun _ => x_iload_n rfl rfl) ?_
    refine w_imul rfl ?_
    refine w_inv H (o := 2) rfl rfl rfl (H.perm 2 rfl) rfl rfl (by rfl) (M304b H (show inr ((65536 * a1)) by omega) (fun σ F7 A8 H hS9 hA10 y12 ey13 pz11_0 => ⟨rfl, ?_⟩))
    have r14 : (-2147483648 : Int) ≤ y12 ∧ y12 ≤ 2147483647 := by have h1 : (-2147483648 : Int) ≤ F7 2 1 ∧ F7 2 1 ≤ 2147483647 := H.frng 2 1; rw [show F7 2 1 = y12 from (ey13)] at h1; exact h1
    refine Ew_of (pc' := 21) (fun _ => x_aload_n rfl rfl) ?_
    refine Ew_of (pc' := 22) (fun _ => x_iload_n rfl rfl) ?_
    refine Ew_of (pc' := 23) (fun _ => x_iload_n rfl rfl) ?_
    refine Ew_of (pc' := 24) (fun _ => x_iload_n rfl rfl) ?_
    refine w_inv H (o := 0) rfl rfl rfl (H.perm 0 rfl) rfl rfl (by rfl) (M62p H (w11) ((funext (hA10 11 rfl)).trans ((funext (hA4 11 rfl)).trans (ew11))) (show inr (a1) by omega) (show inr (a2) by omega) (show inr (a3) by omega) (show 0 ≤ (a1) ∧ (a1) ≤ 3 by omega) (fun z19 σ F15 A16 H hS17 hA18 pz19_0 pz19_1 => ⟨rretB rfl pz19_0, ?_⟩))
    refine w_ifeq (t := 42) rfl rfl (show inr (z19) by omega) (fun b20 => ?_) (fun b20 => ?_)
    · refine Ew_of (pc' := 43) (fun _ => x_iconst rfl) ?_
      refine Ew_of (pc' := 45) (fun _ => x_istore rfl) ?_
      have hP : IMP True (((0) : Int) = PLS (prL (rwR ((w10)) ((w11)) ((a1))) ((a2)) ((a3)))) := by first | exact fun _ => (pzMISS_1).trans (by rw [POL_L (b := (a3)) (by omega) (by omega), pr_sc (f := sh ((w10)) (65536 * (a1))) (n := ((w11)) ((a1))) (L := rwR ((w10)) ((w11)) ((a1))) rfl (by omega), shf_sh, show (y12) = 65536 * (a1) by omega]) | exact fun _ => (by rw [pr_nil (f := sh ((w10)) (65536 * (a1))) (n := ((w11)) ((a1))) (L := rwR ((w10)) ((w11)) ((a1))) rfl (hSz ((a1))).1 (by omega), PLS_nil])
      refine Ew_of (pc' := 47) (fun _ => x_iload rfl (rk_o (rfl) rfl rfl)) ?_
      refine w_ifeq (t := 67) rfl rfl (show inr (a4) by omega) (fun b21 => ?_) (fun b21 => ?_)
      · refine Ew_of (pc' := 69) (fun _ => x_iload rfl rk_s) ?_
        have : ((0 ≤ (a1) ∧ (a1) ≤ 3) ∧ ((0) : Int) = plY (prL (rwR ((w10)) ((w11)) ((a1))) ((a2)) ((a3))) ((a4)) ∨ ¬ (0 ≤ (a1) ∧ (a1) ≤ 3) ∧ ((0) : Int) = 0) := by first | exact .inl ⟨by omega, (hP trivial).trans (plY_0 (by omega)).symm⟩ | exact .inl ⟨by omega, by rw [plY_1 (by omega), ← hP trivial, ← py_sub]; rfl⟩
        exact w_ireturn rfl (k (0) σ _ _ H (SF_trans (SF_trans (SF_trans (SF_refl) hS3 (any_sub rfl)) hS9 (any_sub rfl)) hS17 (any_sub rfl)) (SA_trans (SA_trans (SA_trans (SA_refl) hA4 (any_subA rfl)) hA10 (any_subA rfl)) hA18 (any_subA rfl)) (show inr (0) by omega) (show ((0 ≤ a1 ∧ a1 ≤ 3) ∧ ((0) : Int) = plY (prL (rwR ((w10)) ((w11)) (a1)) (a2) (a3)) (a4) ∨ ¬ (0 ≤ a1 ∧ a1 ≤ 3) ∧ ((0) : Int) = 0) by assumption))
      · refine Ew_of (pc' := 52) (fun _ => x_iload rfl rk_s) ?_
        refine Ew_of (pc' := 54) (fun _ => x_bipush (z := 17) rfl (by decide)) ?_
        refine w_ishlE rfl ?_
        have g22 : inr (slI (0) (17)) := toI_inr _
        refine Ew_of (pc' := 57) (fun _ => x_iload rfl rk_s) ?_
        refine Ew_of (pc' := 59) (fun _ => x_bipush (z := 15) rfl (by decide)) ?_
        refine w_iushrE rfl ?_
        have g23 : inr (usI (0) (15)) := toI_inr _
        refine w_iorE rfl ?_
        have g24 : inr (orI ((slI (0) (17))) ((usI (0) (15)))) := toI_inr _
        refine Ew_of (pc' := 63) (fun _ => x_ldc (z := 1568478504) rfl (by decide)) ?_
        refine w_isubE rfl ?_
        have g25 : inr (sbI ((orI ((slI (0) (17))) ((usI (0) (15))))) (1568478504)) := toI_inr _
        refine Ew_of (pc' := 69) (fun _ => x_goto rfl rfl) ?_
        have : ((0 ≤ (a1) ∧ (a1) ≤ 3) ∧ (((sbI ((orI ((slI (0) (17))) ((usI (0) (15))))) (1568478504))) : Int) = plY (prL (rwR ((w10)) ((w11)) ((a1))) ((a2)) ((a3))) ((a4)) ∨ ¬ (0 ≤ (a1) ∧ (a1) ≤ 3) ∧ (((sbI ((orI ((slI (0) (17))) ((usI (0) (15))))) (1568478504))) : Int) = 0) := by first | exact .inl ⟨by omega, (hP trivial).trans (plY_0 (by omega)).symm⟩ | exact .inl ⟨by omega, by rw [plY_1 (by omega), ← hP trivial, ← py_sub]; rfl⟩
        exact w_ireturn rfl (k ((sbI ((orI ((slI (0) (17))) ((usI (0) (15))))) (1568478504))) σ _ _ H (SF_trans (SF_trans (SF_trans (SF_refl) hS3 (any_sub rfl)) hS9 (any_sub rfl)) hS17 (any_sub rfl)) (SA_trans (SA_trans (SA_trans (SA_refl) hA4 (any_subA rfl)) hA10 (any_subA rfl)) hA18 (any_subA rfl)) (show inr ((sbI ((orI ((slI (0) (17))) ((usI (0) (15))))) (1568478504))) by omega) (show ((0 ≤ a1 ∧ a1 ≤ 3) ∧ (((sbI ((orI ((slI (0) (17))) ((usI (0) (15))))) (1568478504))) : Int) = plY (prL (rwR ((w10)) ((w11)) (a1)) (a2) (a3)) (a4) ∨ ¬ (0 ≤ a1 ∧ a1 ≤ 3) ∧ (((sbI ((orI ((slI (0) (17))) ((usI (0) (15))))) (1568478504))) : Int) = 0) by assumption))
    · refine Ew_of (pc' := 31) (fun _ => x_aload_n rfl rfl) ?_
      refine w_gT H (o := 0) (t := 2) rfl (H.perm 0 rfl) rfl rfl rfl rfl rfl rfl ?_
      refine Ew_of (pc' := 35) (fun _ => x_iload_n rfl rfl) ?_
      refine Ew_of (pc' := 36) (fun _ => x_iload_n rfl rfl) ?_
      refine w_inv H (o := 2) rfl rfl rfl (H.perm 2 rfl) rfl rfl (by rfl) (M318 H (y12) (((hS17 2 1 rfl).trans (ey13))) (w10) ((funext (hA18 10 rfl)).trans ((funext (hA10 10 rfl)).trans ((funext (hA4 10 rfl)).trans (ew10)))) (show inr (a2) by omega) (show inr (a3) by omega) (show 0 ≤ (y12) ∧ (y12) ≤ 196608 by omega) (show 0 ≤ (a2) ∧ (a2) ≤ (a3) ∧ (a3) ≤ 65536 by omega) (fun z30 σ F26 A27 H hS28 hA29 pz30_0 pz30_1 => ⟨rfl, ?_⟩))
      refine Ew_of (pc' := 43) (fun _ => x_goto rfl rfl) ?_
      refine Ew_of (pc' := 45) (fun _ => x_istore rfl) ?_
      have hP : IMP True (((z30) : Int) = PLS (prL (rwR ((w10)) ((w11)) ((a1))) ((a2)) ((a3)))) := by first | exact fun _ => (pz30_1).trans (by rw [POL_L (b := (a3)) (by omega) (by omega), pr_sc (f := sh ((w10)) (65536 * (a1))) (n := ((w11)) ((a1))) (L := rwR ((w10)) ((w11)) ((a1))) rfl (by omega), shf_sh, show (y12) = 65536 * (a1) by omega]) | exact fun _ => (by rw [pr_nil (f := sh ((w10)) (65536 * (a1))) (n := ((w11)) ((a1))) (L := rwR ((w10)) ((w11)) ((a1))) rfl (hSz ((a1))).1 (by omega), PLS_nil])
      refine Ew_of (pc' := 47) (fun _ => x_iload rfl (rk_o (rfl) rfl rfl)) ?_
      refine w_ifeq (t := 67) rfl rfl (show inr (a4) by omega) (fun b31 => ?_) (fun b31 => ?_)
      · refine Ew_of (pc' := 69) (fun _ => x_iload rfl rk_s) ?_
        have : ((0 ≤ (a1) ∧ (a1) ≤ 3) ∧ ((z30) : Int) = plY (prL (rwR ((w10)) ((w11)) ((a1))) ((a2)) ((a3))) ((a4)) ∨ ¬ (0 ≤ (a1) ∧ (a1) ≤ 3) ∧ ((z30) : Int) = 0) := by first | exact .inl ⟨by omega, (hP trivial).trans (plY_0 (by omega)).symm⟩ | exact .inl ⟨by omega, by rw [plY_1 (by omega), ← hP trivial, ← py_sub]; rfl⟩
        exact w_ireturn rfl (k (z30) σ _ _ H (SF_trans (SF_trans (SF_trans (SF_trans (SF_refl) hS3 (any_sub rfl)) hS9 (any_sub rfl)) hS17 (any_sub rfl)) hS28 (any_sub rfl)) (SA_trans (SA_trans (SA_trans (SA_trans (SA_refl) hA4 (any_subA rfl)) hA10 (any_subA rfl)) hA18 (any_subA rfl)) hA29 (any_subA rfl)) (show inr (z30) by omega) (show ((0 ≤ a1 ∧ a1 ≤ 3) ∧ ((z30) : Int) = plY (prL (rwR ((w10)) ((w11)) (a1)) (a2) (a3)) (a4) ∨ ¬ (0 ≤ a1 ∧ a1 ≤ 3) ∧ ((z30) : Int) = 0) by assumption))
      · refine Ew_of (pc' := 52) (fun _ => x_iload rfl rk_s) ?_
        refine Ew_of (pc' := 54) (fun _ => x_bipush (z := 17) rfl (by decide)) ?_
        refine w_ishlE rfl ?_
        have g32 : inr (slI (z30) (17)) := toI_inr _
        refine Ew_of (pc' := 57) (fun _ => x_iload rfl rk_s) ?_
        refine Ew_of (pc' := 59) (fun _ => x_bipush (z := 15) rfl (by decide)) ?_
        refine w_iushrE rfl ?_
        have g33 : inr (usI (z30) (15)) := toI_inr _
        refine w_iorE rfl ?_
        have g34 : inr (orI ((slI (z30) (17))) ((usI (z30) (15)))) := toI_inr _
        refine Ew_of (pc' := 63) (fun _ => x_ldc (z := 1568478504) rfl (by decide)) ?_
        refine w_isubE rfl ?_
        have g35 : inr (sbI ((orI ((slI (z30) (17))) ((usI (z30) (15))))) (1568478504)) := toI_inr _
        refine Ew_of (pc' := 69) (fun _ => x_goto rfl rfl) ?_
        have : ((0 ≤ (a1) ∧ (a1) ≤ 3) ∧ (((sbI ((orI ((slI (z30) (17))) ((usI (z30) (15))))) (1568478504))) : Int) = plY (prL (rwR ((w10)) ((w11)) ((a1))) ((a2)) ((a3))) ((a4)) ∨ ¬ (0 ≤ (a1) ∧ (a1) ≤ 3) ∧ (((sbI ((orI ((slI (z30) (17))) ((usI (z30) (15))))) (1568478504))) : Int) = 0) := by first | exact .inl ⟨by omega, (hP trivial).trans (plY_0 (by omega)).symm⟩ | exact .inl ⟨by omega, by rw [plY_1 (by omega), ← hP trivial, ← py_sub]; rfl⟩
        exact w_ireturn rfl (k ((sbI ((orI ((slI (z30) (17))) ((usI (z30) (15))))) (1568478504))) σ _ _ H (SF_trans (SF_trans (SF_trans (SF_trans (SF_refl) hS3 (any_sub rfl)) hS9 (any_sub rfl)) hS17 (any_sub rfl)) hS28 (any_sub rfl)) (SA_trans (SA_trans (SA_trans (SA_trans (SA_refl) hA4 (any_subA rfl)) hA10 (any_subA rfl)) hA18 (any_subA rfl)) hA29 (any_subA rfl)) (show inr ((sbI ((orI ((slI (z30) (17))) ((usI (z30) (15))))) (1568478504))) by omega) (show ((0 ≤ a1 ∧ a1 ≤ 3) ∧ (((sbI ((orI ((slI (z30) (17))) ((usI (z30) (15))))) (1568478504))) : Int) = plY (prL (rwR ((w10)) ((w11)) (a1)) (a2) (a3)) (a4) ∨ ¬ (0 ≤ a1 ∧ a1 ≤ 3) ∧ (((sbI ((orI ((slI (z30) (17))) ((usI (z30) (15))))) (1568478504))) : Int) = 0) by assumption))
  · refine Ew_of (pc' := 8) (fun _ => x_iconst rfl) ?_
    have : ((0 ≤ (a1) ∧ (a1) ≤ 3) ∧ (0 : Int) = plY (prL (rwR ((w10)) ((w11)) ((a1))) ((a2)) ((a3))) ((a4)) ∨ ¬ (0 ≤ (a1) ∧ (a1) ≤ 3) ∧ (0 : Int) = 0) := .inr ⟨by omega, rfl⟩
    exact w_ireturn rfl (k (0) σ _ _ H (SF_trans (SF_refl) hS3 (any_sub rfl)) (SA_trans (SA_refl) hA4 (any_subA rfl)) (show inr (0) by omega) (show ((0 ≤ a1 ∧ a1 ≤ 3) ∧ ((0) : Int) = plY (prL (rwR ((w10)) ((w11)) (a1)) (a2) (a3)) (a4) ∨ ¬ (0 ≤ a1 ∧ a1 ≤ 3) ∧ ((0) : Int) = 0) by assumption))
/-- Model.state -/
theorem M83p {σ0 σ : rS} {D N : Nat → Nat} {F : hF} {A : hA} {d c s : Nat} {Q : wQ} (H : HS σ0 σ D N F A) {a1 : Int} (u5_27 : Int) (eu5_27 : F 5 27 = u5_27) (u5_32 : Int) (eu5_32 : F 5 32 = u5_32) (u5_33 : Int) (eu5_33 : F 5 33 = u5_33) (u5_34 : Int) (eu5_34 : F 5 34 = u5_34) (u5_36 : Int) (eu5_36 : F 5 36 = u5_36) (h0 : inr (a1)) (k : ∀ (z : Int) σ F' A', HS σ0 σ D N F' A' → SF [] F F' → SA [] A A' → (inr (z)) → ((a1) = 3 → 0 ≤ (z) ∧ (z) ≤ 65536) → (((a1) = 0 ∧ (z) = (u5_32) ∨ (a1) = 1 ∧ (z) = (u5_33) ∨ (a1) = 2 ∧ (z) = (u5_34) ∨ (a1) = 3 ∧ (z) = (u5_27) ∨ ((a1) < 0 ∨ 3 < (a1)) ∧ (z) = (u5_36))) → Q (some (I z)) σ c s) : Ew 83 (d + 0) 0 (rargs 0 [.ref (D 0), I a1]) [] σ c s Q := by
  have r1 : (0 : Int) ≤ u5_27 ∧ u5_27 ≤ 65536 := by have h1 : (0 : Int) ≤ F 5 27 ∧ F 5 27 ≤ 65536 := H.frng 5 27; rw [show F 5 27 = u5_27 from (eu5_27)] at h1; exact h1
  have r2 : (-2147483648 : Int) ≤ u5_32 ∧ u5_32 ≤ 2147483647 := by have h1 : (-2147483648 : Int) ≤ F 5 32 ∧ F 5 32 ≤ 2147483647 := H.frng 5 32; rw [show F 5 32 = u5_32 from (eu5_32)] at h1; exact h1
  have r3 : (-2147483648 : Int) ≤ u5_33 ∧ u5_33 ≤ 2147483647 := by have h1 : (-2147483648 : Int) ≤ F 5 33 ∧ F 5 33 ≤ 2147483647 := H.frng 5 33; rw [show F 5 33 = u5_33 from (eu5_33)] at h1; exact h1
  have r4 : (-2147483648 : Int) ≤ u5_34 ∧ u5_34 ≤ 2147483647 := by have h1 : (-2147483648 : Int) ≤ F 5 34 ∧ F 5 34 ≤ 2147483647 := H.frng 5 34; rw [show F 5 34 = u5_34 from (eu5_34)] at h1; exact h1
  have r5 : (-2147483648 : Int) ≤ u5_36 ∧ u5_36 ≤ 2147483647 := by have h1 : (-2147483648 : Int) ≤ F 5 36 ∧ F 5 36 ≤ 2147483647 := H.frng 5 36; rw [show F 5 36 = u5_36 from (eu5_36)] at h1; exact h1
  refine Ew_of (pc' := 1) (fun _ => x_iload_n rfl rfl) ?_
  refine w_ifne (t := 14) rfl rfl (show inr (a1) by omega) (fun b6 => ?_) (fun b6 => ?_)
  · refine Ew_of (pc' := 15) (fun _ => x_iload_n rfl rfl) ?_
    refine Ew_of (pc' := 16) (fun _ => x_iconst rfl) ?_
    refine w_icmpne (t := 29) rfl rfl (show inr (a1) by omega) (show inr (1) by omega) (fun b7 => ?_) (fun b7 => ?_)
    · refine Ew_of (pc' := 30) (fun _ => x_iload_n rfl rfl) ?_
      refine Ew_of (pc' := 31) (fun _ => x_iconst rfl) ?_
      refine w_icmpne (t := 44) rfl rfl (show inr (a1) by omega) (show inr (2) by omega) (fun b8 => ?_) (fun b8 => ?_)
      · refine Ew_of (pc' := 45) (fun _ => x_iload_n rfl rfl) ?_
        refine Ew_of (pc' := 46) (fun _ => x_iconst rfl) ?_
        refine w_icmpne (t := 59) rfl rfl (show inr (a1) by omega) (show inr (3) by omega) (fun b9 => ?_) (fun b9 => ?_)
        · refine Ew_of (pc' := 60) (fun _ => x_aload_n rfl rfl) ?_
          refine w_gT H (o := 0) (t := 5) rfl (H.perm 0 rfl) rfl rfl rfl rfl rfl rfl ?_
          refine w_gI H (o := 5) (w := u5_36) rfl (H.perm 5 rfl) rfl rfl rfl (fun _ => rfl) (eu5_36) ?_
          exact w_ireturn rfl (k (u5_36) σ _ _ H (SF_refl) (SA_refl) (show inr (u5_36) by omega) (show a1 = 3 → 0 ≤ (u5_36) ∧ (u5_36) ≤ 65536 by omega) (show (a1 = 0 ∧ (u5_36) = (u5_32) ∨ a1 = 1 ∧ (u5_36) = (u5_33) ∨ a1 = 2 ∧ (u5_36) = (u5_34) ∨ a1 = 3 ∧ (u5_36) = (u5_27) ∨ (a1 < 0 ∨ 3 < a1) ∧ (u5_36) = (u5_36)) by omega))
        · refine Ew_of (pc' := 50) (fun _ => x_aload_n rfl rfl) ?_
          refine w_gT H (o := 0) (t := 5) rfl (H.perm 0 rfl) rfl rfl rfl rfl rfl rfl ?_
          refine w_gI H (o := 5) (w := u5_27) rfl (H.perm 5 rfl) rfl rfl rfl (fun _ => rfl) (eu5_27) ?_
          refine Ew_of (pc' := 66) (fun _ => x_goto rfl rfl) ?_
          exact w_ireturn rfl (k (u5_27) σ _ _ H (SF_refl) (SA_refl) (show inr (u5_27) by omega) (show a1 = 3 → 0 ≤ (u5_27) ∧ (u5_27) ≤ 65536 by omega) (show (a1 = 0 ∧ (u5_27) = (u5_32) ∨ a1 = 1 ∧ (u5_27) = (u5_33) ∨ a1 = 2 ∧ (u5_27) = (u5_34) ∨ a1 = 3 ∧ (u5_27) = (u5_27) ∨ (a1 < 0 ∨ 3 < a1) ∧ (u5_27) = (u5_36)) by omega))
      · refine Ew_of (pc' := 35) (fun _ => x_aload_n rfl rfl) ?_
        refine w_gT H (o := 0) (t := 5) rfl (H.perm 0 rfl) rfl rfl rfl rfl rfl rfl ?_
        refine w_gI H (o := 5) (w := u5_34) rfl (H.perm 5 rfl) rfl rfl rfl (fun _ => rfl) (eu5_34) ?_
        refine Ew_of (pc' := 66) (fun _ => x_goto rfl rfl) ?_
        exact w_ireturn rfl (k (u5_34) σ _ _ H (SF_refl) (SA_refl) (show inr (u5_34) by omega) (show a1 = 3 → 0 ≤ (u5_34) ∧ (u5_34) ≤ 65536 by omega) (show (a1 = 0 ∧ (u5_34) = (u5_32) ∨ a1 = 1 ∧ (u5_34) = (u5_33) ∨ a1 = 2 ∧ (u5_34) = (u5_34) ∨ a1 = 3 ∧ (u5_34) = (u5_27) ∨ (a1 < 0 ∨ 3 < a1) ∧ (u5_34) = (u5_36)) by omega))
    · refine Ew_of (pc' := 20) (fun _ => x_aload_n rfl rfl) ?_
      refine w_gT H (o := 0) (t := 5) rfl (H.perm 0 rfl) rfl rfl rfl rfl rfl rfl ?_
      refine w_gI H (o := 5) (w := u5_33) rfl (H.perm 5 rfl) rfl rfl rfl (fun _ => rfl) (eu5_33) ?_
      refine Ew_of (pc' := 66) (fun _ => x_goto rfl rfl) ?_
      exact w_ireturn rfl (k (u5_33) σ _ _ H (SF_refl) (SA_refl) (show inr (u5_33) by omega) (show a1 = 3 → 0 ≤ (u5_33) ∧ (u5_33) ≤ 65536 by omega) (show (a1 = 0 ∧ (u5_33) = (u5_32) ∨ a1 = 1 ∧ (u5_33) = (u5_33) ∨ a1 = 2 ∧ (u5_33) = (u5_34) ∨ a1 = 3 ∧ (u5_33) = (u5_27) ∨ (a1 < 0 ∨ 3 < a1) ∧ (u5_33) = (u5_36)) by omega))
  · refine Ew_of (pc' := 5) (fun _ => x_aload_n rfl rfl) ?_
    refine w_gT H (o := 0) (t := 5) rfl (H.perm 0 rfl) rfl rfl rfl rfl rfl rfl ?_
    refine w_gI H (o := 5) (w := u5_32) rfl (H.perm 5 rfl) rfl rfl rfl (fun _ => rfl) (eu5_32) ?_
    refine Ew_of (pc' := 66) (fun _ => x_goto rfl rfl) ?_
    exact w_ireturn rfl (k (u5_32) σ _ _ H (SF_refl) (SA_refl) (show inr (u5_32) by omega) (show a1 = 3 → 0 ≤ (u5_32) ∧ (u5_32) ≤ 65536 by omega) (show (a1 = 0 ∧ (u5_32) = (u5_32) ∨ a1 = 1 ∧ (u5_32) = (u5_33) ∨ a1 = 2 ∧ (u5_32) = (u5_34) ∨ a1 = 3 ∧ (u5_32) = (u5_27) ∨ (a1 < 0 ∨ 3 < a1) ∧ (u5_32) = (u5_36)) by omega))
/-- Model.within -/
theorem M67p {σ0 σ : rS} {D N : Nat → Nat} {F : hF} {A : hA} {d c s : Nat} {Q : wQ} (H : HS σ0 σ D N F A) {a1 a2 a3 : Int} (h0 : inr (a1)) (h1 : inr (a2)) (h2 : inr (a3)) (k : ∀ (z : Int) σ F' A', HS σ0 σ D N F' A' → SF [] F F' → SA [] A A' → ((z) = 0 ∨ (z) = 1) → ((z) = 1 ∧ (a2) ≤ (a1) ∧ (a1) ≤ (a3) ∨ (z) = 0 ∧ ((a1) < (a2) ∨ (a3) < (a1))) → Q (some (I z)) σ c s) : Ew 67 (d + 0) 0 (rargs 0 [I a1, I a2, I a3]) [] σ c s Q := by
  refine Ew_of (pc' := 1) (fun _ => x_iload_n rfl rfl) ?_
  refine Ew_of (pc' := 2) (fun _ => x_iload_n rfl rfl) ?_
  refine w_icmplt (t := 14) rfl rfl (show inr (a1) by omega) (show inr (a2) by omega) (fun b1 => ?_) (fun b1 => ?_)
  · refine Ew_of (pc' := 15) (fun _ => x_iconst rfl) ?_
    exact w_ireturn rfl (k (0) σ _ _ H (SF_refl) (SA_refl) (show (0) = 0 ∨ (0) = 1 by omega) (show (0) = 1 ∧ a2 ≤ a1 ∧ a1 ≤ a3 ∨ (0) = 0 ∧ (a1 < a2 ∨ a3 < a1) by omega))
  · refine Ew_of (pc' := 6) (fun _ => x_iload_n rfl rfl) ?_
    refine Ew_of (pc' := 7) (fun _ => x_iload_n rfl rfl) ?_
    refine w_icmpgt (t := 14) rfl rfl (show inr (a1) by omega) (show inr (a3) by omega) (fun b2 => ?_) (fun b2 => ?_)
    · refine Ew_of (pc' := 15) (fun _ => x_iconst rfl) ?_
      exact w_ireturn rfl (k (0) σ _ _ H (SF_refl) (SA_refl) (show (0) = 0 ∨ (0) = 1 by omega) (show (0) = 1 ∧ a2 ≤ a1 ∧ a1 ≤ a3 ∨ (0) = 0 ∧ (a1 < a2 ∨ a3 < a1) by omega))
    · refine Ew_of (pc' := 11) (fun _ => x_iconst rfl) ?_
      refine Ew_of (pc' := 15) (fun _ => x_goto rfl rfl) ?_
      exact w_ireturn rfl (k (1) σ _ _ H (SF_refl) (SA_refl) (show (1) = 0 ∨ (1) = 1 by omega) (show (1) = 1 ∧ a2 ≤ a1 ∧ a1 ≤ a3 ∨ (1) = 0 ∧ (a1 < a2 ∨ a3 < a1) by omega))
/-- Model.about -/
theorem M90p {σ0 σ : rS} {D N : Nat → Nat} {F : hF} {A : hA} {d c s : Nat} {Q : wQ} (H : HS σ0 σ D N F A) {a1 : Int} (u0_9 : Int) (eu0_9 : F 0 9 = u0_9) (u3_2 : Int) (eu3_2 : F 3 2 = u3_2) (u5_2 : Int) (eu5_2 : F 5 2 = u5_2) (u5_3 : Int) (eu5_3 : F 5 3 = u5_3) (u5_27 : Int) (eu5_27 : F 5 27 = u5_27) (u5_32 : Int) (eu5_32 : F 5 32 = u5_32) (u5_33 : Int) (eu5_33 : F 5 33 = u5_33) (u5_34 : Int) (eu5_34 : F 5 34 = u5_34) (u5_36 : Int) (eu5_36 : F 5 36 = u5_36) (w88 : Int → Int) (ew88 : A 88 = w88) (h0 : inr (a1)) (k : ∀ (z : Int) σ F' A', HS σ0 σ D N F' A' → SF [] F F' → SA [] A A' → (inr (z)) → (((z) : Int) = abF ((u0_9)) ((w88)) ((u5_32), (u5_33), (u5_34), (u5_27), (u5_36)) ((u3_2)) ((u5_2)) ((u5_3)) ((a1))) → Q (some (I z)) σ c s) : Ew 90 (d + 1) 0 (rargs 0 [.ref (D 0), I a1]) [] σ c s Q := by
  have r1 : (-2147483648 : Int) ≤ u0_9 ∧ u0_9 ≤ 2147483647 := by have h1 : (-2147483648 : Int) ≤ F 0 9 ∧ F 0 9 ≤ 2147483647 := H.frng 0 9; rw [show F 0 9 = u0_9 from (eu0_9)] at h1; exact h1
  have r2 : (0 : Int) ≤ u3_2 ∧ u3_2 ≤ 65536 := by have h1 : (0 : Int) ≤ F 3 2 ∧ F 3 2 ≤ 65536 := H.frng 3 2; rw [show F 3 2 = u3_2 from (eu3_2)] at h1; exact h1
  have r3 : (0 : Int) ≤ u5_2 ∧ u5_2 ≤ 65536 := by have h1 : (0 : Int) ≤ F 5 2 ∧ F 5 2 ≤ 65536 := H.frng 5 2; rw [show F 5 2 = u5_2 from (eu5_2)] at h1; exact h1
  have r4 : (-2147483648 : Int) ≤ u5_3 ∧ u5_3 ≤ 2147483647 := by have h1 : (-2147483648 : Int) ≤ F 5 3 ∧ F 5 3 ≤ 2147483647 := H.frng 5 3; rw [show F 5 3 = u5_3 from (eu5_3)] at h1; exact h1
  have r5 : (0 : Int) ≤ u5_27 ∧ u5_27 ≤ 65536 := by have h1 : (0 : Int) ≤ F 5 27 ∧ F 5 27 ≤ 65536 := H.frng 5 27; rw [show F 5 27 = u5_27 from (eu5_27)] at h1; exact h1
  have r6 : (-2147483648 : Int) ≤ u5_32 ∧ u5_32 ≤ 2147483647 := by have h1 : (-2147483648 : Int) ≤ F 5 32 ∧ F 5 32 ≤ 2147483647 := H.frng 5 32; rw [show F 5 32 = u5_32 from (eu5_32)] at h1; exact h1
  have r7 : (-2147483648 : Int) ≤ u5_33 ∧ u5_33 ≤ 2147483647 := by have h1 : (-2147483648 : Int) ≤ F 5 33 ∧ F 5 33 ≤ 2147483647 := H.frng 5 33; rw [show F 5 33 = u5_33 from (eu5_33)] at h1; exact h1
  have r8 : (-2147483648 : Int) ≤ u5_34 ∧ u5_34 ≤ 2147483647 := by have h1 : (-2147483648 : Int) ≤ F 5 34 ∧ F 5 34 ≤ 2147483647 := H.frng 5 34; rw [show F 5 34 = u5_34 from (eu5_34)] at h1; exact h1
  have r9 : (-2147483648 : Int) ≤ u5_36 ∧ u5_36 ≤ 2147483647 := by have h1 : (-2147483648 : Int) ≤ F 5 36 ∧ F 5 36 ≤ 2147483647 := H.frng 5 36; rw [show F 5 36 = u5_36 from (eu5_36)] at h1; exact h1
  refine Ew_of (pc' := 1) (fun _ => x_iload_n rfl rfl) ?_
  refine w_ifne (t := 9) rfl rfl (show inr (a1) by omega) (fun b10 => ?_) (fun b10 => ?_)
  · refine Ew_of (pc' := 10) (fun _ => x_iload_n rfl rfl) ?_
    refine Ew_of (pc' := 11) (fun _ => x_iconst rfl) ?_
    refine Ew_of (pc' := 13) (fun _ => x_bipush (z := 12) rfl (by decide)) ?_
    refine w_stat24 rfl rfl (by rfl) (M67p H (show inr (a1) by omega) (show inr (1) by omega) (show inr (12) by omega) (fun z15 σ F11 A12 H hS13 hA14 pz15_0 pz15_1 => ⟨rretB rfl pz15_0, ?_⟩))
    refine w_ifeq (t := 31) rfl rfl (show inr (z15) by omega) (fun b16 => ?_) (fun b16 => ?_)
    · refine Ew_of (pc' := 32) (fun _ => x_iload_n rfl rfl) ?_
      refine Ew_of (pc' := 34) (fun _ => x_bipush (z := 13) rfl (by decide)) ?_
      refine Ew_of (pc' := 36) (fun _ => x_bipush (z := 17) rfl (by decide)) ?_
      refine w_stat24 rfl rfl (by rfl) (M67p H (show inr (a1) by omega) (show inr (13) by omega) (show inr (17) by omega) (fun z21 σ F17 A18 H hS19 hA20 pz21_0 pz21_1 => ⟨rretB rfl pz21_0, ?_⟩))
      refine w_ifeq (t := 51) rfl rfl (show inr (z21) by omega) (fun b22 => ?_) (fun b22 => ?_)
      · refine Ew_of (pc' := 52) (fun _ => x_iload_n rfl rfl) ?_
        refine Ew_of (pc' := 54) (fun _ => x_bipush (z := 18) rfl (by decide)) ?_
        refine w_icmpne (t := 67) rfl rfl (show inr (a1) by omega) (show inr (18) by omega) (fun b23 => ?_) (fun b23 => ?_)
        · refine Ew_of (pc' := 68) (fun _ => x_iload_n rfl rfl) ?_
          refine Ew_of (pc' := 70) (fun _ => x_bipush (z := 19) rfl (by decide)) ?_
          refine w_icmpne (t := 83) rfl rfl (show inr (a1) by omega) (show inr (19) by omega) (fun b24 => ?_) (fun b24 => ?_)
          · refine Ew_of (pc' := 84) (fun _ => x_iload_n rfl rfl) ?_
            refine Ew_of (pc' := 86) (fun _ => x_bipush (z := 20) rfl (by decide)) ?_
            refine w_icmpne (t := 99) rfl rfl (show inr (a1) by omega) (show inr (20) by omega) (fun b25 => ?_) (fun b25 => ?_)
            · refine Ew_of (pc' := 100) (fun _ => x_iconst rfl) ?_
              have : (((-1)) : Int) = abF ((u0_9)) ((w88)) ((u5_32), (u5_33), (u5_34), (u5_27), (u5_36)) ((u3_2)) ((u5_2)) ((u5_3)) ((a1)) := by first | exact ab_18 (by omega) rfl | exact ab_19 (by omega) rfl | exact ab_20 (by omega) rfl | exact ab_n (by omega) rfl
              exact w_ireturn rfl (k ((-1)) σ _ _ H (SF_trans (SF_trans (SF_refl) hS13 (any_sub rfl)) hS19 (any_sub rfl)) (SA_trans (SA_trans (SA_refl) hA14 (any_subA rfl)) hA20 (any_subA rfl)) (show inr ((-1)) by omega) (show (((-1)) : Int) = abF ((u0_9)) ((w88)) ((u5_32), (u5_33), (u5_34), (u5_27), (u5_36)) ((u3_2)) ((u5_2)) ((u5_3)) (a1) by assumption))
            · refine Ew_of (pc' := 90) (fun _ => x_aload_n rfl rfl) ?_
              refine w_gT H (o := 0) (t := 5) rfl (H.perm 0 rfl) rfl rfl rfl rfl rfl rfl ?_
              refine w_gI H (o := 5) (w := u5_3) rfl (H.perm 5 rfl) rfl rfl rfl (fun _ => rfl) (((hS19 5 3 rfl).trans (hS13 5 3 rfl)).trans (eu5_3)) ?_
              refine Ew_of (pc' := 100) (fun _ => x_goto rfl rfl) ?_
              have : ((u5_3) : Int) = abF ((u0_9)) ((w88)) ((u5_32), (u5_33), (u5_34), (u5_27), (u5_36)) ((u3_2)) ((u5_2)) ((u5_3)) ((a1)) := by first | exact ab_18 (by omega) rfl | exact ab_19 (by omega) rfl | exact ab_20 (by omega) rfl | exact ab_n (by omega) rfl
              exact w_ireturn rfl (k (u5_3) σ _ _ H (SF_trans (SF_trans (SF_refl) hS13 (any_sub rfl)) hS19 (any_sub rfl)) (SA_trans (SA_trans (SA_refl) hA14 (any_subA rfl)) hA20 (any_subA rfl)) (show inr (u5_3) by omega) (show ((u5_3) : Int) = abF ((u0_9)) ((w88)) ((u5_32), (u5_33), (u5_34), (u5_27), (u5_36)) ((u3_2)) ((u5_2)) ((u5_3)) (a1) by assumption))
          · refine Ew_of (pc' := 74) (fun _ => x_aload_n rfl rfl) ?_
            refine w_gT H (o := 0) (t := 5) rfl (H.perm 0 rfl) rfl rfl rfl rfl rfl rfl ?_
            refine w_gI H (o := 5) (w := u5_2) rfl (H.perm 5 rfl) rfl rfl rfl (fun _ => rfl) (((hS19 5 2 rfl).trans (hS13 5 2 rfl)).trans (eu5_2)) ?_
            refine Ew_of (pc' := 100) (fun _ => x_goto rfl rfl) ?_
            have : ((u5_2) : Int) = abF ((u0_9)) ((w88)) ((u5_32), (u5_33), (u5_34), (u5_27), (u5_36)) ((u3_2)) ((u5_2)) ((u5_3)) ((a1)) := by first | exact ab_18 (by omega) rfl | exact ab_19 (by omega) rfl | exact ab_20 (by omega) rfl | exact ab_n (by omega) rfl
            exact w_ireturn rfl (k (u5_2) σ _ _ H (SF_trans (SF_trans (SF_refl) hS13 (any_sub rfl)) hS19 (any_sub rfl)) (SA_trans (SA_trans (SA_refl) hA14 (any_subA rfl)) hA20 (any_subA rfl)) (show inr (u5_2) by omega) (show ((u5_2) : Int) = abF ((u0_9)) ((w88)) ((u5_32), (u5_33), (u5_34), (u5_27), (u5_36)) ((u3_2)) ((u5_2)) ((u5_3)) (a1) by assumption))
        · refine Ew_of (pc' := 58) (fun _ => x_aload_n rfl rfl) ?_
          refine w_gT H (o := 0) (t := 3) rfl (H.perm 0 rfl) rfl rfl rfl rfl rfl rfl ?_
          refine w_gI H (o := 3) (w := u3_2) rfl (H.perm 3 rfl) rfl rfl rfl (fun _ => rfl) (((hS19 3 2 rfl).trans (hS13 3 2 rfl)).trans (eu3_2)) ?_
          refine Ew_of (pc' := 100) (fun _ => x_goto rfl rfl) ?_
          have : ((u3_2) : Int) = abF ((u0_9)) ((w88)) ((u5_32), (u5_33), (u5_34), (u5_27), (u5_36)) ((u3_2)) ((u5_2)) ((u5_3)) ((a1)) := by first | exact ab_18 (by omega) rfl | exact ab_19 (by omega) rfl | exact ab_20 (by omega) rfl | exact ab_n (by omega) rfl
          exact w_ireturn rfl (k (u3_2) σ _ _ H (SF_trans (SF_trans (SF_refl) hS13 (any_sub rfl)) hS19 (any_sub rfl)) (SA_trans (SA_trans (SA_refl) hA14 (any_subA rfl)) hA20 (any_subA rfl)) (show inr (u3_2) by omega) (show ((u3_2) : Int) = abF ((u0_9)) ((w88)) ((u5_32), (u5_33), (u5_34), (u5_27), (u5_36)) ((u3_2)) ((u5_2)) ((u5_3)) (a1) by assumption))
      · refine Ew_of (pc' := 43) (fun _ => x_aload_n rfl rfl) ?_
        refine Ew_of (pc' := 44) (fun _ => x_iload_n rfl rfl) ?_
        refine Ew_of (pc' := 46) (fun _ => x_bipush (z := 13) rfl (by decide)) ?_
        refine w_isub rfl ?_
        refine w_inv H (o := 0) rfl rfl rfl (H.perm 0 rfl) rfl rfl (by rfl) (M83p H (u5_27) ((((hS19 5 27 rfl).trans (hS13 5 27 rfl)).trans (eu5_27))) (u5_32) ((((hS19 5 32 rfl).trans (hS13 5 32 rfl)).trans (eu5_32))) (u5_33) ((((hS19 5 33 rfl).trans (hS13 5 33 rfl)).trans (eu5_33))) (u5_34) ((((hS19 5 34 rfl).trans (hS13 5 34 rfl)).trans (eu5_34))) (u5_36) ((((hS19 5 36 rfl).trans (hS13 5 36 rfl)).trans (eu5_36))) (show inr ((a1 - 13)) by omega) (fun z30 σ F26 A27 H hS28 hA29 pz30_0 pz30_1 pz30_2 => ⟨rfl, ?_⟩))
        have : ((z30) : Int) = abF ((u0_9)) ((w88)) ((u5_32), (u5_33), (u5_34), (u5_27), (u5_36)) ((u3_2)) ((u5_2)) ((u5_3)) ((a1)) := ab_k (by omega) pz30_2
        exact w_ireturn rfl (k (z30) σ _ _ H (SF_trans (SF_trans (SF_trans (SF_refl) hS13 (any_sub rfl)) hS19 (any_sub rfl)) hS28 (any_sub rfl)) (SA_trans (SA_trans (SA_trans (SA_refl) hA14 (any_subA rfl)) hA20 (any_subA rfl)) hA29 (any_subA rfl)) (show inr (z30) by omega) (show ((z30) : Int) = abF ((u0_9)) ((w88)) ((u5_32), (u5_33), (u5_34), (u5_27), (u5_36)) ((u3_2)) ((u5_2)) ((u5_3)) (a1) by assumption))
    · refine Ew_of (pc' := 20) (fun _ => x_aload_n rfl rfl) ?_
      refine w_gT H (o := 0) (t := 6) rfl (H.perm 0 rfl) rfl rfl rfl rfl rfl rfl ?_
      refine w_gT H (o := 6) (t := 88) rfl (H.perm 6 rfl) rfl rfl rfl rfl rfl rfl ?_
      refine Ew_of (pc' := 27) (fun _ => x_iload_n rfl rfl) ?_
      refine Ew_of (pc' := 28) (fun _ => x_iconst rfl) ?_
      refine w_isub rfl ?_
      refine w_lI H (o := 88) (n := 12) rfl (H.perm 88 rfl) rfl rfl (H.fix 88 rfl rfl) (show 0 ≤ (a1 - 1) ∧ (a1 - 1) < ((12 : Nat) : Int) by omega) (by decide) (fun v31 ev31 qv31 => ?_)
      have qv31 : (-2147483648 : Int) ≤ v31 ∧ v31 ≤ 2147483647 := qv31
      have ev31 : (w88) ((a1 - 1)) = v31 := (congrFun ((funext (hA14 88 rfl)).trans (ew88)) ((a1 - 1))).symm.trans ev31
      have : ((v31) : Int) = abF ((u0_9)) ((w88)) ((u5_32), (u5_33), (u5_34), (u5_27), (u5_36)) ((u3_2)) ((u5_2)) ((u5_3)) ((a1)) := ab_s (by omega) ev31
      exact w_ireturn rfl (k (v31) σ _ _ H (SF_trans (SF_refl) hS13 (any_sub rfl)) (SA_trans (SA_refl) hA14 (any_subA rfl)) (show inr (v31) by omega) (show ((v31) : Int) = abF ((u0_9)) ((w88)) ((u5_32), (u5_33), (u5_34), (u5_27), (u5_36)) ((u3_2)) ((u5_2)) ((u5_3)) (a1) by assumption))
  · refine Ew_of (pc' := 5) (fun _ => x_aload_n rfl rfl) ?_
    refine w_gI H (o := 0) (w := u0_9) rfl (H.perm 0 rfl) rfl rfl rfl (fun _ => rfl) (eu0_9) ?_
    have : ((u0_9) : Int) = abF ((u0_9)) ((w88)) ((u5_32), (u5_33), (u5_34), (u5_27), (u5_36)) ((u3_2)) ((u5_2)) ((u5_3)) ((a1)) := ab_0 (by omega) rfl
    exact w_ireturn rfl (k (u0_9) σ _ _ H (SF_refl) (SA_refl) (show inr (u0_9) by omega) (show ((u0_9) : Int) = abF ((u0_9)) ((w88)) ((u5_32), (u5_33), (u5_34), (u5_27), (u5_36)) ((u3_2)) ((u5_2)) ((u5_3)) (a1) by assumption))
/-- Model.strayed -/
theorem M91p {σ0 σ : rS} {D N : Nat → Nat} {F : hF} {A : hA} {d c s : Nat} {Q : wQ} (H : HS σ0 σ D N F A) {a1 : Int} (u0_10 : Int) (eu0_10 : F 0 10 = u0_10) (u0_11 : Int) (eu0_11 : F 0 11 = u0_11) (h0 : inr (a1)) (k : ∀ (z : Int) σ F' A', HS σ0 σ D N F' A' → SF [] F F' → SA [] A A' → (inr (z)) → (((a1) = 0 ∧ (z) = (u0_10) ∨ (a1) = 1 ∧ (z) = (u0_11) ∨ (a1) ≠ 0 ∧ (a1) ≠ 1 ∧ (z) = -1)) → Q (some (I z)) σ c s) : Ew 91 (d + 0) 0 (rargs 0 [.ref (D 0), I a1]) [] σ c s Q := by
  have r1 : (-2147483648 : Int) ≤ u0_10 ∧ u0_10 ≤ 2147483647 := by have h1 : (-2147483648 : Int) ≤ F 0 10 ∧ F 0 10 ≤ 2147483647 := H.frng 0 10; rw [show F 0 10 = u0_10 from (eu0_10)] at h1; exact h1
  have r2 : (-2147483648 : Int) ≤ u0_11 ∧ u0_11 ≤ 2147483647 := by have h1 : (-2147483648 : Int) ≤ F 0 11 ∧ F 0 11 ≤ 2147483647 := H.frng 0 11; rw [show F 0 11 = u0_11 from (eu0_11)] at h1; exact h1
  refine Ew_of (pc' := 1) (fun _ => x_iload_n rfl rfl) ?_
  refine w_ifne (t := 11) rfl rfl (show inr (a1) by omega) (fun b3 => ?_) (fun b3 => ?_)
  · refine Ew_of (pc' := 12) (fun _ => x_iload_n rfl rfl) ?_
    refine Ew_of (pc' := 13) (fun _ => x_iconst rfl) ?_
    refine w_icmpne (t := 23) rfl rfl (show inr (a1) by omega) (show inr (1) by omega) (fun b4 => ?_) (fun b4 => ?_)
    · refine Ew_of (pc' := 24) (fun _ => x_iconst rfl) ?_
      exact w_ireturn rfl (k ((-1)) σ _ _ H (SF_refl) (SA_refl) (show inr ((-1)) by omega) (show (a1 = 0 ∧ ((-1)) = (u0_10) ∨ a1 = 1 ∧ ((-1)) = (u0_11) ∨ a1 ≠ 0 ∧ a1 ≠ 1 ∧ ((-1)) = -1) by omega))
    · refine Ew_of (pc' := 17) (fun _ => x_aload_n rfl rfl) ?_
      refine w_gI H (o := 0) (w := u0_11) rfl (H.perm 0 rfl) rfl rfl rfl (fun _ => rfl) (eu0_11) ?_
      refine Ew_of (pc' := 24) (fun _ => x_goto rfl rfl) ?_
      exact w_ireturn rfl (k (u0_11) σ _ _ H (SF_refl) (SA_refl) (show inr (u0_11) by omega) (show (a1 = 0 ∧ (u0_11) = (u0_10) ∨ a1 = 1 ∧ (u0_11) = (u0_11) ∨ a1 ≠ 0 ∧ a1 ≠ 1 ∧ (u0_11) = -1) by omega))
  · refine Ew_of (pc' := 5) (fun _ => x_aload_n rfl rfl) ?_
    refine w_gI H (o := 0) (w := u0_10) rfl (H.perm 0 rfl) rfl rfl rfl (fun _ => rfl) (eu0_10) ?_
    refine Ew_of (pc' := 24) (fun _ => x_goto rfl rfl) ?_
    exact w_ireturn rfl (k (u0_10) σ _ _ H (SF_refl) (SA_refl) (show inr (u0_10) by omega) (show (a1 = 0 ∧ (u0_10) = (u0_10) ∨ a1 = 1 ∧ (u0_10) = (u0_11) ∨ a1 ≠ 0 ∧ a1 ≠ 1 ∧ (u0_10) = -1) by omega))
