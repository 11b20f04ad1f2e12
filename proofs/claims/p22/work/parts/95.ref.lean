/-- Model.written -/
theorem M80 {σ0 σ : rS} {D N : Nat → Nat} {F : hF} {A : hA} {d c s : Nat} {Q : wQ} (H : HS σ0 σ D N F A) {a1 : Int} (u1_1 : Int) (eu1_1 : F 1 1 = u1_1) (u3_2 : Int) (eu3_2 : F 3 2 = u3_2) (u4_5 : Int) (eu4_5 : F 4 5 = u4_5) (u6_2 : Int) (eu6_2 : F 6 2 = u6_2) (u6_4 : Int) (eu6_4 : F 6 4 = u6_4) (u6_6 : Int) (eu6_6 : F 6 6 = u6_6) (w12 : Int → Int) (ew12 : A 12 = w12) (w24 : Int → Int) (ew24 : A 24 = w24) (w25 : Int → Int) (ew25 : A 25 = w25) (w49 : Int → Int) (ew49 : A 49 = w49) (w50 : Int → Int) (ew50 : A 50 = w50) (w51 : Int → Int) (ew51 : A 51 = w51) (h0 : inr (a1)) (h1 : 0 ≤ (a1) ∧ (a1) ≤ 5) (h2 : SE ((w12))) (h3 : 3 ≤ (u6_2)) (h4 : DW ((u6_6)) ((w49)) ((w50)) ((w51))) (h5 : (a1) < 2 → (u3_2) + (u1_1) ≤ 16384) (h6 : (u1_1) ≤ 16384) (h7 : (a1) = 4 → (u6_4) + (u1_1) ≤ 16384) (h8 : KQ bN ((w24)) ((u4_5))) (h9 : KQ bF ((w25)) ((u4_5))) (k : ∀ (z : Int) σ Fₚ Aₚ, HS σ0 σ D N Fₚ Aₚ → SF [(1, 3), (3, 5), (3, 6), (3, 8), (3, 10), (4, 2), (4, 5), (4, 6), (4, 7), (6, 12), (6, 17), (6, 22), (6, 23), (6, 24), (6, 28), (6, 30), (6, 35), (6, 37), (6, 49), (6, 53)] F Fₚ → SA [15, 17, 18, 19, 20, 23, 24, 25, 53, 54, 55, 56, 57, 58, 59, 60, 61, 62, 63, 64, 65, 66, 67, 68, 69, 70, 71, 72, 73, 74, 75, 76, 77, 78, 79, 80, 81, 82, 83, 84, 85, 86, 87, 88] A Aₚ → ∀ y4_5 : Int, Fₚ 4 5 = y4_5 → ∀ v24 : Int → Int, Aₚ 24 = v24 → ∀ v25 : Int → Int, Aₚ 25 = v25 → (inr (z)) → (KQ bN ((v24)) ((y4_5))) → (KQ bF ((v25)) ((y4_5))) → Q (some (I z)) σ c s) : Ew 80 (d + 9) 0 (rargs 0 [.ref (D 0), I a1]) [] σ c s Q := by
  have r1 : (0 : Int) ≤ u1_1 ∧ u1_1 ≤ 65536 := rngE (show (0 : Int) ≤ F 1 1 ∧ F 1 1 ≤ 65536 from H.frng 1 1) (show F 1 1 = u1_1 from (eu1_1))
  have r2 : (0 : Int) ≤ u3_2 ∧ u3_2 ≤ 65536 := rngE (show (0 : Int) ≤ F 3 2 ∧ F 3 2 ≤ 65536 from H.frng 3 2) (show F 3 2 = u3_2 from (eu3_2))
  have r3 : (0 : Int) ≤ u4_5 ∧ u4_5 ≤ 16384 := rngE (show (0 : Int) ≤ F 4 5 ∧ F 4 5 ≤ 16384 from H.frng 4 5) (show F 4 5 = u4_5 from (eu4_5))
  have r4 : (0 : Int) ≤ u6_2 ∧ u6_2 ≤ 8 := rngE (show (0 : Int) ≤ F 6 2 ∧ F 6 2 ≤ 8 from H.frng 6 2) (show F 6 2 = u6_2 from (eu6_2))
  have r5 : (0 : Int) ≤ u6_4 ∧ u6_4 ≤ 65536 := rngE (show (0 : Int) ≤ F 6 4 ∧ F 6 4 ≤ 65536 from H.frng 6 4) (show F 6 4 = u6_4 from (eu6_4))
  have r6 : (0 : Int) ≤ u6_6 ∧ u6_6 ≤ 1 := rngE (show (0 : Int) ≤ F 6 6 ∧ F 6 6 ≤ 1 from H.frng 6 6) (show F 6 6 = u6_6 from (eu6_6))
  have hse : SE ((w12)) := h2
  unfold SE at hse
  refine Ew_of (pcₚ := 1) (fun _ => x_iload_n rfl rfl) ?_
  by_cases b7 : a1 = 0
  · refine w_tsk 0 36 rfl (show inr (a1) from h0) (by omega) (by decide) rfl rfl ?_
    refine Ew_of (pcₚ := 37) (fun _ => x_aload_n rfl rfl) ?_
    refine w_gT H (o := 0) (t := 3) rfl (H.perm 0 rfl) rfl rfl rfl rfl rfl rfl ?_
    refine Ew_of (pcₚ := 41) (fun _ => x_aload_n rfl rfl) ?_
    refine w_gT H (o := 0) (t := 12) rfl (H.perm 0 rfl) rfl rfl rfl rfl rfl rfl ?_
    refine Ew_of (pcₚ := 45) (fun _ => x_iconst rfl) ?_
    refine w_lI H (o := 12) (n := 10) rfl (H.perm 12 rfl) rfl rfl (H.fix 12 rfl rfl) (show 0 ≤ 0 ∧ 0 < ((10 : Nat) : Int) from q_2493) (by decide) (fun v8 ev8 qv8 => ?_)
    have qv8 : (-2147483648 : Int) ≤ v8 ∧ v8 ≤ 2147483647 := qv8
    have ev8 : (w12) (0) = v8 := (congrFun (ew12) (0)).symm.trans ev8
    refine w_inv H (o := 3) rfl rfl rfl (H.perm 3 rfl) rfl rfl (by rfl) (M370 H (u1_1) ((eu1_1)) (u3_2) ((eu3_2)) (show inr (v8) from q_22 qv8) (show (u3_2) + (u1_1) ≤ 16384 from q_2494 b7 h5) (fun z13 σ F9 A10 H hS11 hA12 pz13_0 => ⟨rfl, ?_⟩))
    exact w_ireturn rfl (k (z13) σ _ _ H (SF_trans (SF_refl) hS11 (any_sub rfl)) (SA_trans (SA_refl) hA12 (any_subA rfl)) (u4_5) (((hS11 4 5 rfl).trans (eu4_5))) (w24) ((funext (hA12 24 rfl)).trans (ew24)) (w25) ((funext (hA12 25 rfl)).trans (ew25)) (show inr (z13) from pz13_0) (show KQ bN ((w24)) ((u4_5)) from h8) (show KQ bF ((w25)) ((u4_5)) from h9))
  ·
    by_cases b14 : a1 = 1
    · refine w_tsk 1 50 rfl (show inr (a1) from h0) (by omega) (by decide) rfl rfl ?_
      refine Ew_of (pcₚ := 51) (fun _ => x_aload_n rfl rfl) ?_
      refine w_gT H (o := 0) (t := 3) rfl (H.perm 0 rfl) rfl rfl rfl rfl rfl rfl ?_
      refine Ew_of (pcₚ := 55) (fun _ => x_aload_n rfl rfl) ?_
      refine w_gT H (o := 0) (t := 12) rfl (H.perm 0 rfl) rfl rfl rfl rfl rfl rfl ?_
      refine Ew_of (pcₚ := 59) (fun _ => x_iconst rfl) ?_
      refine w_lI H (o := 12) (n := 10) rfl (H.perm 12 rfl) rfl rfl (H.fix 12 rfl rfl) (show 0 ≤ 3 ∧ 3 < ((10 : Nat) : Int) from q_2495) (by decide) (fun v15 ev15 qv15 => ?_)
      have qv15 : (-2147483648 : Int) ≤ v15 ∧ v15 ≤ 2147483647 := qv15
      have ev15 : (w12) (3) = v15 := (congrFun (ew12) (3)).symm.trans ev15
      refine Ew_of (pcₚ := 61) (fun _ => x_aload_n rfl rfl) ?_
      refine w_gT H (o := 0) (t := 12) rfl (H.perm 0 rfl) rfl rfl rfl rfl rfl rfl ?_
      refine Ew_of (pcₚ := 65) (fun _ => x_iconst rfl) ?_
      refine w_lI H (o := 12) (n := 10) rfl (H.perm 12 rfl) rfl rfl (H.fix 12 rfl rfl) (show 0 ≤ 4 ∧ 4 < ((10 : Nat) : Int) from q_2496) (by decide) (fun v16 ev16 qv16 => ?_)
      have qv16 : (-2147483648 : Int) ≤ v16 ∧ v16 ≤ 2147483647 := qv16
      have ev16 : (w12) (4) = v16 := (congrFun (ew12) (4)).symm.trans ev16
      refine Ew_of (pcₚ := 67) (fun _ => x_aload_n rfl rfl) ?_
      refine w_gT H (o := 0) (t := 12) rfl (H.perm 0 rfl) rfl rfl rfl rfl rfl rfl ?_
      refine Ew_of (pcₚ := 71) (fun _ => x_iconst rfl) ?_
      refine w_lI H (o := 12) (n := 10) rfl (H.perm 12 rfl) rfl rfl (H.fix 12 rfl rfl) (show 0 ≤ 5 ∧ 5 < ((10 : Nat) : Int) from q_2497) (by decide) (fun v17 ev17 qv17 => ?_)
      have qv17 : (-2147483648 : Int) ≤ v17 ∧ v17 ≤ 2147483647 := qv17
      have ev17 : (w12) (5) = v17 := (congrFun (ew12) (5)).symm.trans ev17
      refine Ew_of (pcₚ := 73) (fun _ => x_aload_n rfl rfl) ?_
      refine w_gT H (o := 0) (t := 12) rfl (H.perm 0 rfl) rfl rfl rfl rfl rfl rfl ?_
      refine Ew_of (pcₚ := 77) (fun _ => x_iconst rfl) ?_
      refine w_lI H (o := 12) (n := 10) rfl (H.perm 12 rfl) rfl rfl (H.fix 12 rfl rfl) (show 0 ≤ 2 ∧ 2 < ((10 : Nat) : Int) from q_2051) (by decide) (fun v18 ev18 qv18 => ?_)
      have qv18 : (-2147483648 : Int) ≤ v18 ∧ v18 ≤ 2147483647 := qv18
      have ev18 : (w12) (2) = v18 := (congrFun (ew12) (2)).symm.trans ev18
      refine Ew_of (pcₚ := 79) (fun _ => x_aload_n rfl rfl) ?_
      refine w_gT H (o := 0) (t := 12) rfl (H.perm 0 rfl) rfl rfl rfl rfl rfl rfl ?_
      refine Ew_of (pcₚ := 83) (fun _ => x_iconst rfl) ?_
      refine w_lI H (o := 12) (n := 10) rfl (H.perm 12 rfl) rfl rfl (H.fix 12 rfl rfl) (show 0 ≤ 0 ∧ 0 < ((10 : Nat) : Int) from q_2493) (by decide) (fun v19 ev19 qv19 => ?_)
      have qv19 : (-2147483648 : Int) ≤ v19 ∧ v19 ≤ 2147483647 := qv19
      have ev19 : (w12) (0) = v19 := (congrFun (ew12) (0)).symm.trans ev19
      refine w_inv H (o := 3) rfl rfl rfl (H.perm 3 rfl) rfl rfl (by rfl) (M378 H (u1_1) ((eu1_1)) (u3_2) ((eu3_2)) (show inr (v15) from q_22 qv15) (show inr (v16) from q_22 qv16) (show inr (v17) from q_22 qv17) (show inr (v18) from q_22 qv18) (show inr (v19) from q_22 qv19) (show (u3_2) + (u1_1) ≤ 16384 from q_2498 b14 h5) (fun z24 σ F20 A21 H hS22 hA23 pz24_0 => ⟨rfl, ?_⟩))
      exact w_ireturn rfl (k (z24) σ _ _ H (SF_trans (SF_refl) hS22 (any_sub rfl)) (SA_trans (SA_refl) hA23 (any_subA rfl)) (u4_5) (((hS22 4 5 rfl).trans (eu4_5))) (w24) ((funext (hA23 24 rfl)).trans (ew24)) (w25) ((funext (hA23 25 rfl)).trans (ew25)) (show inr (z24) from pz24_0) (show KQ bN ((w24)) ((u4_5)) from h8) (show KQ bF ((w25)) ((u4_5)) from h9))
    ·
      by_cases b25 : a1 = 2
      · refine w_tsk 2 88 rfl (show inr (a1) from h0) (by omega) (by decide) rfl rfl ?_
        refine Ew_of (pcₚ := 89) (fun _ => x_aload_n rfl rfl) ?_
        refine w_gT H (o := 0) (t := 4) rfl (H.perm 0 rfl) rfl rfl rfl rfl rfl rfl ?_
        refine Ew_of (pcₚ := 93) (fun _ => x_aload_n rfl rfl) ?_
        refine w_gT H (o := 0) (t := 12) rfl (H.perm 0 rfl) rfl rfl rfl rfl rfl rfl ?_
        refine Ew_of (pcₚ := 97) (fun _ => x_iconst rfl) ?_
        refine w_lI H (o := 12) (n := 10) rfl (H.perm 12 rfl) rfl rfl (H.fix 12 rfl rfl) (show 0 ≤ 0 ∧ 0 < ((10 : Nat) : Int) from q_2493) (by decide) (fun v26 ev26 qv26 => ?_)
        have qv26 : (-2147483648 : Int) ≤ v26 ∧ v26 ≤ 2147483647 := qv26
        have ev26 : (w12) (0) = v26 := (congrFun (ew12) (0)).symm.trans ev26
        refine w_inv H (o := 4) rfl rfl rfl (H.perm 4 rfl) rfl rfl (by rfl) (M334 H (u1_1) ((eu1_1)) (u4_5) ((eu4_5)) (w24) (ew24) (w25) (ew25) (show inr (v26) from q_22 qv26) (show 0 ≤ (v26) ∧ (v26) ≤ 3 by omega) (show (u1_1) ≤ 16384 from h6) (show KQ bN ((w24)) ((u4_5)) from h8) (show KQ bF ((w25)) ((u4_5)) from h9) (fun z31 σ F27 A28 H hS29 hA30 y32 ey33 wq34 ewq35 wq36 ewq37 pz31_0 pz31_1 pz31_2 => ⟨rfl, ?_⟩))
        have r38 : (0 : Int) ≤ y32 ∧ y32 ≤ 16384 := rngE (show (0 : Int) ≤ F27 4 5 ∧ F27 4 5 ≤ 16384 from H.frng 4 5) (show F27 4 5 = y32 from (ey33))
        exact w_ireturn rfl (k (z31) σ _ _ H (SF_trans (SF_refl) hS29 (any_sub rfl)) (SA_trans (SA_refl) hA30 (any_subA rfl)) (y32) ((ey33)) (wq34) (ewq35) (wq36) (ewq37) (show inr (z31) from pz31_0) (show KQ bN ((wq34)) ((y32)) from pz31_1) (show KQ bF ((wq36)) ((y32)) from pz31_2))
      ·
        by_cases b39 : a1 = 3
        · refine w_tsk 3 102 rfl (show inr (a1) from h0) (by omega) (by decide) rfl rfl ?_
          refine Ew_of (pcₚ := 103) (fun _ => x_aload_n rfl rfl) ?_
          refine w_gT H (o := 0) (t := 4) rfl (H.perm 0 rfl) rfl rfl rfl rfl rfl rfl ?_
          refine Ew_of (pcₚ := 107) (fun _ => x_aload_n rfl rfl) ?_
          refine w_gT H (o := 0) (t := 12) rfl (H.perm 0 rfl) rfl rfl rfl rfl rfl rfl ?_
          refine Ew_of (pcₚ := 111) (fun _ => x_iconst rfl) ?_
          refine w_lI H (o := 12) (n := 10) rfl (H.perm 12 rfl) rfl rfl (H.fix 12 rfl rfl) (show 0 ≤ 2 ∧ 2 < ((10 : Nat) : Int) from q_2051) (by decide) (fun v40 ev40 qv40 => ?_)
          have qv40 : (-2147483648 : Int) ≤ v40 ∧ v40 ≤ 2147483647 := qv40
          have ev40 : (w12) (2) = v40 := (congrFun (ew12) (2)).symm.trans ev40
          refine Ew_of (pcₚ := 113) (fun _ => x_aload_n rfl rfl) ?_
          refine w_gT H (o := 0) (t := 12) rfl (H.perm 0 rfl) rfl rfl rfl rfl rfl rfl ?_
          refine Ew_of (pcₚ := 117) (fun _ => x_iconst rfl) ?_
          refine w_lI H (o := 12) (n := 10) rfl (H.perm 12 rfl) rfl rfl (H.fix 12 rfl rfl) (show 0 ≤ 0 ∧ 0 < ((10 : Nat) : Int) from q_2493) (by decide) (fun v41 ev41 qv41 => ?_)
          have qv41 : (-2147483648 : Int) ≤ v41 ∧ v41 ≤ 2147483647 := qv41
          have ev41 : (w12) (0) = v41 := (congrFun (ew12) (0)).symm.trans ev41
          refine Ew_of (pcₚ := 119) (fun _ => x_aload_n rfl rfl) ?_
          refine w_gT H (o := 0) (t := 12) rfl (H.perm 0 rfl) rfl rfl rfl rfl rfl rfl ?_
          refine Ew_of (pcₚ := 124) (fun _ => x_bipush (z := 6) rfl (by decide)) ?_
          refine w_lI H (o := 12) (n := 10) rfl (H.perm 12 rfl) rfl rfl (H.fix 12 rfl rfl) (show 0 ≤ 6 ∧ 6 < ((10 : Nat) : Int) from q_2060) (by decide) (fun v42 ev42 qv42 => ?_)
          have qv42 : (-2147483648 : Int) ≤ v42 ∧ v42 ≤ 2147483647 := qv42
          have ev42 : (w12) (6) = v42 := (congrFun (ew12) (6)).symm.trans ev42
          refine w_inv H (o := 4) rfl rfl rfl (H.perm 4 rfl) rfl rfl (by rfl) (M348 H (u1_1) ((eu1_1)) (u4_5) ((eu4_5)) (w24) (ew24) (w25) (ew25) (show inr (v40) from q_22 qv40) (show inr (v41) from q_22 qv41) (show inr (v42) from q_22 qv42) (show 1 ≤ (v40) ∧ (v40) ≤ 65536 by omega) (show 0 ≤ (v41) ∧ (v41) ≤ 3 by omega) (show 0 ≤ (v42) ∧ (v42) ≤ 255 by omega) (show (u1_1) ≤ 16384 from h6) (show KQ bN ((w24)) ((u4_5)) from h8) (show KQ bF ((w25)) ((u4_5)) from h9) (fun z47 σ F43 A44 H hS45 hA46 y48 ey49 wq50 ewq51 wq52 ewq53 pz47_0 pz47_1 pz47_2 => ⟨rfl, ?_⟩))
          have r54 : (0 : Int) ≤ y48 ∧ y48 ≤ 16384 := rngE (show (0 : Int) ≤ F43 4 5 ∧ F43 4 5 ≤ 16384 from H.frng 4 5) (show F43 4 5 = y48 from (ey49))
          exact w_ireturn rfl (k (z47) σ _ _ H (SF_trans (SF_refl) hS45 (any_sub rfl)) (SA_trans (SA_refl) hA46 (any_subA rfl)) (y48) ((ey49)) (wq50) (ewq51) (wq52) (ewq53) (show inr (z47) from pz47_0) (show KQ bN ((wq50)) ((y48)) from pz47_1) (show KQ bF ((wq52)) ((y48)) from pz47_2))
        ·
          by_cases b55 : a1 = 4
          · refine w_tsk 4 129 rfl (show inr (a1) from h0) (by omega) (by decide) rfl rfl ?_
            refine Ew_of (pcₚ := 130) (fun _ => x_aload_n rfl rfl) ?_
            refine w_gT H (o := 0) (t := 6) rfl (H.perm 0 rfl) rfl rfl rfl rfl rfl rfl ?_
            refine Ew_of (pcₚ := 134) (fun _ => x_aload_n rfl rfl) ?_
            refine w_gT H (o := 0) (t := 12) rfl (H.perm 0 rfl) rfl rfl rfl rfl rfl rfl ?_
            refine Ew_of (pcₚ := 139) (fun _ => x_bipush (z := 7) rfl (by decide)) ?_
            refine w_lI H (o := 12) (n := 10) rfl (H.perm 12 rfl) rfl rfl (H.fix 12 rfl rfl) (show 0 ≤ 7 ∧ 7 < ((10 : Nat) : Int) from q_2067) (by decide) (fun v56 ev56 qv56 => ?_)
            have qv56 : (-2147483648 : Int) ≤ v56 ∧ v56 ≤ 2147483647 := qv56
            have ev56 : (w12) (7) = v56 := (congrFun (ew12) (7)).symm.trans ev56
            refine Ew_of (pcₚ := 141) (fun _ => x_aload_n rfl rfl) ?_
            refine w_gT H (o := 0) (t := 12) rfl (H.perm 0 rfl) rfl rfl rfl rfl rfl rfl ?_
            refine Ew_of (pcₚ := 146) (fun _ => x_bipush (z := 8) rfl (by decide)) ?_
            refine w_lI H (o := 12) (n := 10) rfl (H.perm 12 rfl) rfl rfl (H.fix 12 rfl rfl) (show 0 ≤ 8 ∧ 8 < ((10 : Nat) : Int) from q_2071) (by decide) (fun v57 ev57 qv57 => ?_)
            have qv57 : (-2147483648 : Int) ≤ v57 ∧ v57 ≤ 2147483647 := qv57
            have ev57 : (w12) (8) = v57 := (congrFun (ew12) (8)).symm.trans ev57
            refine Ew_of (pcₚ := 148) (fun _ => x_aload_n rfl rfl) ?_
            refine w_gT H (o := 0) (t := 12) rfl (H.perm 0 rfl) rfl rfl rfl rfl rfl rfl ?_
            refine Ew_of (pcₚ := 152) (fun _ => x_iconst rfl) ?_
            refine w_lI H (o := 12) (n := 10) rfl (H.perm 12 rfl) rfl rfl (H.fix 12 rfl rfl) (show 0 ≤ 2 ∧ 2 < ((10 : Nat) : Int) from q_2051) (by decide) (fun v58 ev58 qv58 => ?_)
            have qv58 : (-2147483648 : Int) ≤ v58 ∧ v58 ≤ 2147483647 := qv58
            have ev58 : (w12) (2) = v58 := (congrFun (ew12) (2)).symm.trans ev58
            refine w_inv H (o := 6) rfl rfl rfl (H.perm 6 rfl) rfl rfl (by rfl) (M450 H (u1_1) ((eu1_1)) (u6_2) ((eu6_2)) (u6_4) ((eu6_4)) (u6_6) ((eu6_6)) (w49) (ew49) (w50) (ew50) (w51) (ew51) (show inr (v56) from q_22 qv56) (show inr (v57) from q_22 qv57) (show inr (v58) from q_22 qv58) (show 0 ≤ (v56) ∧ (v56) ≤ 15 by omega) (show 0 ≤ (v57) ∧ (v57) ≤ 11 by omega) (show 1 ≤ (v58) ∧ (v58) ≤ 65536 by omega) (show 3 ≤ (u6_2) from h3) (show 0 ≤ (u6_4) ∧ (u6_4) + (u1_1) ≤ 16384 from q_2499 b55 h7 r5) (show DW ((u6_6)) ((w49)) ((w50)) ((w51)) from h4) (fun z63 σ F59 A60 H hS61 hA62 pz63_0 pz63_1 => ⟨rfl, ?_⟩))
            exact w_ireturn rfl (k (z63) σ _ _ H (SF_trans (SF_refl) hS61 (any_sub rfl)) (SA_trans (SA_refl) hA62 (any_subA rfl)) (u4_5) (((hS61 4 5 rfl).trans (eu4_5))) (w24) ((funext (hA62 24 rfl)).trans (ew24)) (w25) ((funext (hA62 25 rfl)).trans (ew25)) (show inr (z63) from pz63_0) (show KQ bN ((w24)) ((u4_5)) from h8) (show KQ bF ((w25)) ((u4_5)) from h9))
          ·
            refine w_tsd 157 rfl (show inr (a1) from h0) (by omega) rfl ?_
            refine Ew_of (pcₚ := 158) (fun _ => x_aload_n rfl rfl) ?_
            refine w_gT H (o := 0) (t := 6) rfl (H.perm 0 rfl) rfl rfl rfl rfl rfl rfl ?_
            refine Ew_of (pcₚ := 162) (fun _ => x_aload_n rfl rfl) ?_
            refine w_gT H (o := 0) (t := 12) rfl (H.perm 0 rfl) rfl rfl rfl rfl rfl rfl ?_
            refine Ew_of (pcₚ := 167) (fun _ => x_bipush (z := 9) rfl (by decide)) ?_
            refine w_lI H (o := 12) (n := 10) rfl (H.perm 12 rfl) rfl rfl (H.fix 12 rfl rfl) (show 0 ≤ 9 ∧ 9 < ((10 : Nat) : Int) from q_2500) (by decide) (fun v64 ev64 qv64 => ?_)
            have qv64 : (-2147483648 : Int) ≤ v64 ∧ v64 ≤ 2147483647 := qv64
            have ev64 : (w12) (9) = v64 := (congrFun (ew12) (9)).symm.trans ev64
            refine w_inv H (o := 6) rfl rfl rfl (H.perm 6 rfl) rfl rfl (by rfl) (M454 H (u1_1) ((eu1_1)) (u6_2) ((eu6_2)) (show inr (v64) from q_22 qv64) (show 0 ≤ (u1_1) ∧ (u1_1) ≤ 16384 from q_2501 h6 r1) (show 3 ≤ (u6_2) from h3) (fun z69 σ F65 A66 H hS67 hA68 pz69_0 pz69_1 => ⟨rfl, ?_⟩))
            exact w_ireturn rfl (k (z69) σ _ _ H (SF_trans (SF_refl) hS67 (any_sub rfl)) (SA_trans (SA_refl) hA68 (any_subA rfl)) (u4_5) (((hS67 4 5 rfl).trans (eu4_5))) (w24) ((funext (hA68 24 rfl)).trans (ew24)) (w25) ((funext (hA68 25 rfl)).trans (ew25)) (show inr (z69) from pz69_0) (show KQ bN ((w24)) ((u4_5)) from h8) (show KQ bF ((w25)) ((u4_5)) from h9))
