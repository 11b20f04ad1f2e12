/-- Reader.unit -/
theorem M285 {σ0 σ : rS} {D N : Nat → Nat} {F : hF} {A : hA} {d c s : Nat} {Q : wQ} (H : HS σ0 σ D N F A)  (u1_1 : Int) (eu1_1 : F 1 1 = u1_1) (u5_4 : Int) (eu5_4 : F 5 4 = u5_4) (u5_25 : Int) (eu5_25 : F 5 25 = u5_25) (u5_26 : Int) (eu5_26 : F 5 26 = u5_26) (u5_27 : Int) (eu5_27 : F 5 27 = u5_27) (w27 : Int → Int) (ew27 : A 27 = w27) (w28 : Int → Int) (ew28 : A 28 = w28) (w29 : Int → Int) (ew29 : A 29 = w29) (w30 : Int → Int) (ew30 : A 30 = w30) (w34 : Int → Int) (ew34 : A 34 = w34) (w35 : Int → Int) (ew35 : A 35 = w35) (w36 : Int → Int) (ew36 : A 36 = w36) (w37 : Int → Int) (ew37 : A 37 = w37) (h0 : (u5_25) ≤ (u1_1)) (h1 : RT ((w35)) ((w36)) ((w37)) ((w34))) (h2 : DI ((u5_4)) ((w27)) ((w28)) ((w29)) ((w30))) (h3 : (u5_27) ≤ (u5_26)) (k : ∀ (z : Int) σ F' A', HS σ0 σ D N F' A' → SF [(5, 10), (5, 19), (5, 25), (5, 27), (5, 28), (5, 29), (5, 30), (5, 31), (5, 32), (5, 33), (5, 34), (5, 35), (5, 36), (5, 39), (5, 40), (5, 41), (5, 42), (5, 43), (5, 44), (5, 45)] F F' → SA [31, 32, 33, 34, 35, 36, 37, 38, 39, 40, 41, 42, 43, 44, 45, 46, 47] A A' → ∀ y5_25 : Int, F' 5 25 = y5_25 → ∀ y5_27 : Int, F' 5 27 = y5_27 → ∀ v34 : Int → Int, A' 34 = v34 → ∀ v35 : Int → Int, A' 35 = v35 → ∀ v36 : Int → Int, A' 36 = v36 → ∀ v37 : Int → Int, A' 37 = v37 → ((z) = 0 ∨ (z) = 1) → (RT ((v35)) ((v36)) ((v37)) ((v34))) → ((u5_27) ≤ (y5_27) ∧ (y5_27) ≤ (u5_26)) → ((z) = 1 → (u5_25) + 4 ≤ (y5_25) ∧ (y5_25) ≤ (u1_1)) → Q (some (I z)) σ c s) : Ew 285 (d + 9) 0 (rargs 0 [.ref (D 5)]) [] σ c s Q := by
  have r1 : (0 : Int) ≤ u1_1 ∧ u1_1 ≤ 65536 := by have h1 : (0 : Int) ≤ F 1 1 ∧ F 1 1 ≤ 65536 := H.frng 1 1; rw [show F 1 1 = u1_1 from (eu1_1)] at h1; exact h1
  have r2 : (0 : Int) ≤ u5_4 ∧ u5_4 ≤ 1 := by have h1 : (0 : Int) ≤ F 5 4 ∧ F 5 4 ≤ 1 := H.frng 5 4; rw [show F 5 4 = u5_4 from (eu5_4)] at h1; exact h1
  have r3 : (0 : Int) ≤ u5_25 ∧ u5_25 ≤ 65536 := by have h1 : (0 : Int) ≤ F 5 25 ∧ F 5 25 ≤ 65536 := H.frng 5 25; rw [show F 5 25 = u5_25 from (eu5_25)] at h1; exact h1
  have r4 : (0 : Int) ≤ u5_26 ∧ u5_26 ≤ 65536 := by have h1 : (0 : Int) ≤ F 5 26 ∧ F 5 26 ≤ 65536 := H.frng 5 26; rw [show F 5 26 = u5_26 from (eu5_26)] at h1; exact h1
  have r5 : (0 : Int) ≤ u5_27 ∧ u5_27 ≤ 65536 := by have h1 : (0 : Int) ≤ F 5 27 ∧ F 5 27 ≤ 65536 := H.frng 5 27; rw [show F 5 27 = u5_27 from (eu5_27)] at h1; exact h1
  refine Ew_of (pc' := 1) (fun _ => x_aload_n rfl rfl) ?_
  refine Ew_of (pc' := 2) (fun _ => x_iconst rfl) ?_
  refine w_inv H (o := 5) rfl rfl rfl (H.perm 5 rfl) rfl rfl (by rfl) (M283 H (u1_1) ((eu1_1)) (u5_25) ((eu5_25)) (show inr (4) by omega) (show 0 ≤ (4) ∧ (4) ≤ 1000000 by omega) (fun z10 σ F6 A7 H hS8 hA9 pz10_0 pz10_1 => ⟨rretB rfl pz10_0, ?_⟩))
  refine w_ifne (t := 10) rfl rfl (show inr (z10) by omega) (fun b11 => ?_) (fun b11 => ?_)
  · refine Ew_of (pc' := 11) (fun _ => x_aload_n rfl rfl) ?_
    refine Ew_of (pc' := 12) (fun _ => x_aload_n rfl rfl) ?_
    refine w_gI H (o := 5) (w := u5_25) rfl (H.perm 5 rfl) rfl rfl rfl (fun _ => rfl) ((hS8 5 25 rfl).trans (eu5_25)) ?_
    refine Ew_of (pc' := 17) (fun _ => x_bipush (z := 40) rfl (by decide)) ?_
    refine Ew_of (pc' := 20) (fun _ => x_sipush (z := 181) rfl (by decide)) ?_
    refine Ew_of (pc' := 22) (fun _ => x_bipush (z := 47) rfl (by decide)) ?_
    refine Ew_of (pc' := 25) (fun _ => x_sipush (z := 253) rfl (by decide)) ?_
    refine w_inv H (o := 5) rfl rfl rfl (H.perm 5 rfl) rfl rfl (by rfl) (M258 H (show inr (u5_25) by omega) (show inr (40) by omega) (show inr (181) by omega) (show inr (47) by omega) (show inr (253) by omega) (show 0 ≤ (u5_25) ∧ (u5_25) ≤ 65532 by omega) (fun z16 σ F12 A13 H hS14 hA15 pz16_0 => ⟨rretB rfl pz16_0, ?_⟩))
    refine w_ifeq (t := 36) rfl rfl (show inr (z16) by omega) (fun b17 => ?_) (fun b17 => ?_)
    · refine Ew_of (pc' := 37) (fun _ => x_aload_n rfl rfl) ?_
      refine w_gT H (o := 5) (t := 1) rfl (H.perm 5 rfl) rfl rfl rfl rfl rfl rfl ?_
      refine w_gT H (o := 1) (t := 14) rfl (H.perm 1 rfl) rfl rfl rfl rfl rfl rfl ?_
      refine Ew_of (pc' := 44) (fun _ => x_aload_n rfl rfl) ?_
      refine w_gI H (o := 5) (w := u5_25) rfl (H.perm 5 rfl) rfl rfl rfl (fun _ => rfl) (((hS14 5 25 rfl).trans (hS8 5 25 rfl)).trans (eu5_25)) ?_
      refine w_lI H (o := 14) (n := 65536) rfl (H.perm 14 rfl) rfl rfl (H.fix 14 rfl rfl) (show 0 ≤ u5_25 ∧ u5_25 < ((65536 : Nat) : Int) by omega) (by decide) (fun v18 ev18 qv18 => ?_)
      have qv18 : (0 : Int) ≤ v18 ∧ v18 ≤ 255 := qv18
      have ev18 : (A 14) (u5_25) = v18 := (congrFun ((funext (hA15 14 rfl)).trans (funext (hA9 14 rfl))) (u5_25)).symm.trans ev18
      refine Ew_of (pc' := 50) (fun _ => x_bipush (z := 80) rfl (by decide)) ?_
      refine w_icmplt (t := 99) rfl rfl (show inr (v18) by omega) (show inr (80) by omega) (fun b19 => ?_) (fun b19 => ?_)
      · refine Ew_of (pc' := 100) (fun _ => x_aload_n rfl rfl) ?_
        refine Ew_of (pc' := 101) (fun _ => x_iconst rfl) ?_
        refine Ew_of (pc' := 102) (fun _ => x_aload_n rfl rfl) ?_
        refine w_gI H (o := 5) (w := u5_25) rfl (H.perm 5 rfl) rfl rfl rfl (fun _ => rfl) (((hS14 5 25 rfl).trans (hS8 5 25 rfl)).trans (eu5_25)) ?_
        refine w_inv H (o := 5) rfl rfl rfl (H.perm 5 rfl) rfl rfl (by rfl) (M282 H (show inr (2) by omega) (show inr (u5_25) by omega) (show 0 ≤ (2) ∧ (2) ≤ 20 by omega) (show 0 ≤ (u5_25) ∧ (u5_25) ≤ 65536 by omega) (fun z24 σ F20 A21 H hS22 hA23 pz24_0 pz24_1 => ⟨rretB rfl pz24_0, ?_⟩))
        exact w_ireturn rfl (k (z24) σ _ _ H (SF_trans (SF_trans (SF_trans (SF_refl) hS8 (any_sub rfl)) hS14 (any_sub rfl)) hS22 (any_sub rfl)) (SA_trans (SA_trans (SA_trans (SA_refl) hA9 (any_subA rfl)) hA15 (any_subA rfl)) hA23 (any_subA rfl)) (u5_25) (((((hS22 5 25 rfl).trans (hS14 5 25 rfl)).trans (hS8 5 25 rfl)).trans (eu5_25))) (u5_27) (((((hS22 5 27 rfl).trans (hS14 5 27 rfl)).trans (hS8 5 27 rfl)).trans (eu5_27))) (w34) ((funext (hA23 34 rfl)).trans ((funext (hA15 34 rfl)).trans ((funext (hA9 34 rfl)).trans (ew34)))) (w35) ((funext (hA23 35 rfl)).trans ((funext (hA15 35 rfl)).trans ((funext (hA9 35 rfl)).trans (ew35)))) (w36) ((funext (hA23 36 rfl)).trans ((funext (hA15 36 rfl)).trans ((funext (hA9 36 rfl)).trans (ew36)))) (w37) ((funext (hA23 37 rfl)).trans ((funext (hA15 37 rfl)).trans ((funext (hA9 37 rfl)).trans (ew37)))) (show (z24) = 0 ∨ (z24) = 1 by omega) (show RT ((w35)) ((w36)) ((w37)) ((w34)) by assumption) (show (u5_27) ≤ (u5_27) ∧ (u5_27) ≤ (u5_26) by omega) (show (z24) = 1 → (u5_25) + 4 ≤ (u5_25) ∧ (u5_25) ≤ (u1_1) by omega))
      · refine Ew_of (pc' := 54) (fun _ => x_aload_n rfl rfl) ?_
        refine w_gT H (o := 5) (t := 1) rfl (H.perm 5 rfl) rfl rfl rfl rfl rfl rfl ?_
        refine w_gT H (o := 1) (t := 14) rfl (H.perm 1 rfl) rfl rfl rfl rfl rfl rfl ?_
        refine Ew_of (pc' := 61) (fun _ => x_aload_n rfl rfl) ?_
        refine w_gI H (o := 5) (w := u5_25) rfl (H.perm 5 rfl) rfl rfl rfl (fun _ => rfl) (((hS14 5 25 rfl).trans (hS8 5 25 rfl)).trans (eu5_25)) ?_
        refine w_lI H (o := 14) (n := 65536) rfl (H.perm 14 rfl) rfl rfl (H.fix 14 rfl rfl) (show 0 ≤ u5_25 ∧ u5_25 < ((65536 : Nat) : Int) by omega) (by decide) (fun v25 ev25 qv25 => ?_)
        have qv25 : (0 : Int) ≤ v25 ∧ v25 ≤ 255 := qv25
        have ev25 : (A 14) (u5_25) = v25 := (congrFun ((funext (hA15 14 rfl)).trans (funext (hA9 14 rfl))) (u5_25)).symm.trans ev25
        refine Ew_of (pc' := 67) (fun _ => x_bipush (z := 95) rfl (by decide)) ?_
        refine w_icmpgt (t := 99) rfl rfl (show inr (v25) by omega) (show inr (95) by omega) (fun b26 => ?_) (fun b26 => ?_)
        · refine Ew_of (pc' := 100) (fun _ => x_aload_n rfl rfl) ?_
          refine Ew_of (pc' := 101) (fun _ => x_iconst rfl) ?_
          refine Ew_of (pc' := 102) (fun _ => x_aload_n rfl rfl) ?_
          refine w_gI H (o := 5) (w := u5_25) rfl (H.perm 5 rfl) rfl rfl rfl (fun _ => rfl) (((hS14 5 25 rfl).trans (hS8 5 25 rfl)).trans (eu5_25)) ?_
          refine w_inv H (o := 5) rfl rfl rfl (H.perm 5 rfl) rfl rfl (by rfl) (M282 H (show inr (2) by omega) (show inr (u5_25) by omega) (show 0 ≤ (2) ∧ (2) ≤ 20 by omega) (show 0 ≤ (u5_25) ∧ (u5_25) ≤ 65536 by omega) (fun z31 σ F27 A28 H hS29 hA30 pz31_0 pz31_1 => ⟨rretB rfl pz31_0, ?_⟩))
          exact w_ireturn rfl (k (z31) σ _ _ H (SF_trans (SF_trans (SF_trans (SF_refl) hS8 (any_sub rfl)) hS14 (any_sub rfl)) hS29 (any_sub rfl)) (SA_trans (SA_trans (SA_trans (SA_refl) hA9 (any_subA rfl)) hA15 (any_subA rfl)) hA30 (any_subA rfl)) (u5_25) (((((hS29 5 25 rfl).trans (hS14 5 25 rfl)).trans (hS8 5 25 rfl)).trans (eu5_25))) (u5_27) (((((hS29 5 27 rfl).trans (hS14 5 27 rfl)).trans (hS8 5 27 rfl)).trans (eu5_27))) (w34) ((funext (hA30 34 rfl)).trans ((funext (hA15 34 rfl)).trans ((funext (hA9 34 rfl)).trans (ew34)))) (w35) ((funext (hA30 35 rfl)).trans ((funext (hA15 35 rfl)).trans ((funext (hA9 35 rfl)).trans (ew35)))) (w36) ((funext (hA30 36 rfl)).trans ((funext (hA15 36 rfl)).trans ((funext (hA9 36 rfl)).trans (ew36)))) (w37) ((funext (hA30 37 rfl)).trans ((funext (hA15 37 rfl)).trans ((funext (hA9 37 rfl)).trans (ew37)))) (show (z31) = 0 ∨ (z31) = 1 by omega) (show RT ((w35)) ((w36)) ((w37)) ((w34)) by assumption) (show (u5_27) ≤ (u5_27) ∧ (u5_27) ≤ (u5_26) by omega) (show (z31) = 1 → (u5_25) + 4 ≤ (u5_25) ∧ (u5_25) ≤ (u1_1) by omega))
        · refine Ew_of (pc' := 71) (fun _ => x_aload_n rfl rfl) ?_
          refine Ew_of (pc' := 72) (fun _ => x_aload_n rfl rfl) ?_
          refine w_gI H (o := 5) (w := u5_25) rfl (H.perm 5 rfl) rfl rfl rfl (fun _ => rfl) (((hS14 5 25 rfl).trans (hS8 5 25 rfl)).trans (eu5_25)) ?_
          refine Ew_of (pc' := 76) (fun _ => x_aload_n rfl rfl) ?_
          refine w_gT H (o := 5) (t := 1) rfl (H.perm 5 rfl) rfl rfl rfl rfl rfl rfl ?_
          refine w_gT H (o := 1) (t := 14) rfl (H.perm 1 rfl) rfl rfl rfl rfl rfl rfl ?_
          refine Ew_of (pc' := 83) (fun _ => x_aload_n rfl rfl) ?_
          refine w_gI H (o := 5) (w := u5_25) rfl (H.perm 5 rfl) rfl rfl rfl (fun _ => rfl) (((hS14 5 25 rfl).trans (hS8 5 25 rfl)).trans (eu5_25)) ?_
          refine w_lI H (o := 14) (n := 65536) rfl (H.perm 14 rfl) rfl rfl (H.fix 14 rfl rfl) (show 0 ≤ u5_25 ∧ u5_25 < ((65536 : Nat) : Int) by omega) (by decide) (fun v32 ev32 qv32 => ?_)
          have qv32 : (0 : Int) ≤ v32 ∧ v32 ≤ 255 := qv32
          have ev32 : (A 14) (u5_25) = v32 := (congrFun ((funext (hA15 14 rfl)).trans (funext (hA9 14 rfl))) (u5_25)).symm.trans ev32
          refine Ew_of (pc' := 89) (fun _ => x_bipush (z := 42) rfl (by decide)) ?_
          refine Ew_of (pc' := 91) (fun _ => x_bipush (z := 77) rfl (by decide)) ?_
          refine Ew_of (pc' := 93) (fun _ => x_bipush (z := 24) rfl (by decide)) ?_
          refine w_inv H (o := 5) rfl rfl rfl (H.perm 5 rfl) rfl rfl (by rfl) (M258 H (show inr (u5_25) by omega) (show inr (v32) by omega) (show inr (42) by omega) (show inr (77) by omega) (show inr (24) by omega) (show 0 ≤ (u5_25) ∧ (u5_25) ≤ 65532 by omega) (fun z37 σ F33 A34 H hS35 hA36 pz37_0 => ⟨rretB rfl pz37_0, ?_⟩))
          refine w_ifne (t := 109) rfl rfl (show inr (z37) by omega) (fun b38 => ?_) (fun b38 => ?_)
          · refine Ew_of (pc' := 110) (fun _ => x_aload_n rfl rfl) ?_
            refine Ew_of (pc' := 111) (fun _ => x_dup rfl rfl) ?_
            refine w_gI H (o := 5) (w := u5_25) rfl (H.perm 5 rfl) rfl rfl rfl (fun _ => rfl) ((((hS35 5 25 rfl).trans (hS14 5 25 rfl)).trans (hS8 5 25 rfl)).trans (eu5_25)) ?_
            refine Ew_of (pc' := 115) (fun _ => x_iconst rfl) ?_
            refine w_iadd rfl ?_
            refine w_pI H (o := 5) rfl rfl (H.perm 5 rfl) rfl rfl rfl (fun _ => rfl) rfl (show (0 : Int) ≤ (u5_25 + 4) ∧ (u5_25 + 4) ≤ 65536 by omega) (fun σ H => ?_)
            refine Ew_of (pc' := 120) (fun _ => x_aload_n rfl rfl) ?_
            refine Ew_of (pc' := 121) (fun _ => x_iconst rfl) ?_
            refine w_inv H (o := 5) rfl rfl rfl (H.perm 5 rfl) rfl rfl (by rfl) (M283 H (u1_1) (((((hS35 1 1 rfl).trans (hS14 1 1 rfl)).trans (hS8 1 1 rfl)).trans (eu1_1))) ((u5_25 + 4)) (rfl) (show inr (4) by omega) (show 0 ≤ (4) ∧ (4) ≤ 1000000 by omega) (fun z43 σ F39 A40 H hS41 hA42 pz43_0 pz43_1 => ⟨rretB rfl pz43_0, ?_⟩))
            refine w_ifne (t := 129) rfl rfl (show inr (z43) by omega) (fun b44 => ?_) (fun b44 => ?_)
            · refine Ew_of (pc' := 130) (fun _ => x_aload_n rfl rfl) ?_
              refine Ew_of (pc' := 131) (fun _ => x_aload_n rfl rfl) ?_
              refine w_gI H (o := 5) (w := (u5_25 + 4)) rfl (H.perm 5 rfl) rfl rfl rfl (fun _ => rfl) (hS41 5 25 rfl) ?_
              refine Ew_of (pc' := 135) (fun _ => x_iconst rfl) ?_
              refine w_inv H (o := 5) rfl rfl rfl (H.perm 5 rfl) rfl rfl (by rfl) (M257 H (A 14) ((funext (hA42 14 rfl)).trans ((funext (hA36 14 rfl)).trans ((funext (hA15 14 rfl)).trans (funext (hA9 14 rfl))))) (show inr ((u5_25 + 4)) by omega) (show inr (4) by omega) (show 0 ≤ ((u5_25 + 4)) ∧ 0 ≤ (4) ∧ (4) ≤ 8 ∧ ((u5_25 + 4)) + (4) ≤ 65536 by omega) (fun z49 σ F45 A46 H hS47 hA48 pz49_0 pz49_1 pz49_2 pz49_3 pz49_4 pz49_5 pz49_6 pz49_7 pz49_8 => ⟨rfl, ?_⟩))
              replace pz49_1 := pz49_1.resolve_left (by decide)
              replace pz49_2 := pz49_2.resolve_right (by decide)
              replace pz49_3 := pz49_3 (by decide)
              clear pz49_4
              clear pz49_5
              clear pz49_6
              clear pz49_7
              replace pz49_8 := pz49_8 (by decide)
              refine Ew_of (pc' := 139) (fun _ => x_lstore_n rfl) ?_
              refine Ew_of (pc' := 140) (fun _ => x_aload_n rfl (rk2_o (rfl) rfl rfl)) ?_
              refine Ew_of (pc' := 141) (fun _ => x_dup rfl rfl) ?_
              refine w_gI H (o := 5) (w := (u5_25 + 4)) rfl (H.perm 5 rfl) rfl rfl rfl (fun _ => rfl) ((hS47 5 25 rfl).trans (hS41 5 25 rfl)) ?_
              refine Ew_of (pc' := 145) (fun _ => x_iconst rfl) ?_
              refine w_iadd rfl ?_
              refine w_pI H (o := 5) rfl rfl (H.perm 5 rfl) rfl rfl rfl (fun _ => rfl) rfl (show (0 : Int) ≤ ((u5_25 + 4) + 4) ∧ ((u5_25 + 4) + 4) ≤ 65536 by omega) (fun σ H => ?_)
              refine Ew_of (pc' := 150) (fun _ => x_lload_n rfl rk2_s) ?_
              refine Ew_of (pc' := 151) (fun _ => x_aload_n rfl (rk2_o (rfl) rfl rfl)) ?_
              refine w_gT H (o := 5) (t := 1) rfl (H.perm 5 rfl) rfl rfl rfl rfl rfl rfl ?_
              refine w_gI H (o := 1) (w := u1_1) rfl (H.perm 1 rfl) rfl rfl rfl (fun _ => rfl) ((((((hS47 1 1 rfl).trans (hS41 1 1 rfl)).trans (hS35 1 1 rfl)).trans (hS14 1 1 rfl)).trans (hS8 1 1 rfl)).trans (eu1_1)) ?_
              refine Ew_of (pc' := 158) (fun _ => x_aload_n rfl (rk2_o (rfl) rfl rfl)) ?_
              refine w_gI H (o := 5) (w := ((u5_25 + 4) + 4)) rfl (H.perm 5 rfl) rfl rfl rfl (fun _ => rfl) rfl ?_
              refine w_isub rfl ?_
              refine w_i2l rfl (show inr ((u1_1 - ((u5_25 + 4) + 4))) by omega) ?_
              refine w_lcmp rfl (show inrJ (z49) by omega) (show inrJ ((u1_1 - ((u5_25 + 4) + 4))) by omega) (fun z50 gz50 gaz50 gbz50 => ?_)
              refine w_ifle (t := 180) rfl rfl (show inr (z50) by omega) (fun b51 => ?_) (fun b51 => ?_)
              · refine Ew_of (pc' := 181) (fun _ => x_aload_n rfl (rk2_o (rfl) rfl rfl)) ?_
                refine Ew_of (pc' := 182) (fun _ => x_dup rfl rfl) ?_
                refine w_gI H (o := 5) (w := ((u5_25 + 4) + 4)) rfl (H.perm 5 rfl) rfl rfl rfl (fun _ => rfl) rfl ?_
                refine Ew_of (pc' := 186) (fun _ => x_lload_n rfl rk2_s) ?_
                refine w_l2i rfl ?_
                refine w_iadd rfl ?_
                refine w_pI H (o := 5) rfl rfl (H.perm 5 rfl) rfl rfl rfl (fun _ => rfl) rfl (show (0 : Int) ≤ (((u5_25 + 4) + 4) + z49) ∧ (((u5_25 + 4) + 4) + z49) ≤ 65536 by omega) (fun σ H => ?_)
                refine Ew_of (pc' := 192) (fun _ => x_iconst rfl) ?_
                exact w_ireturn rfl (k (1) σ _ _ H (SF_upd (SF_upd (SF_trans (SF_trans (SF_upd (SF_trans (SF_trans (SF_trans (SF_refl) hS8 (any_sub rfl)) hS14 (any_sub rfl)) hS35 (any_sub rfl)) rfl) hS41 (any_sub rfl)) hS47 (any_sub rfl)) rfl) rfl) (SA_trans (SA_trans (SA_trans (SA_trans (SA_trans (SA_refl) hA9 (any_subA rfl)) hA15 (any_subA rfl)) hA36 (any_subA rfl)) hA42 (any_subA rfl)) hA48 (any_subA rfl)) ((((u5_25 + 4) + 4) + z49)) (rfl) (u5_27) (((((((hS47 5 27 rfl).trans (hS41 5 27 rfl)).trans (hS35 5 27 rfl)).trans (hS14 5 27 rfl)).trans (hS8 5 27 rfl)).trans (eu5_27))) (w34) ((funext (hA48 34 rfl)).trans ((funext (hA42 34 rfl)).trans ((funext (hA36 34 rfl)).trans ((funext (hA15 34 rfl)).trans ((funext (hA9 34 rfl)).trans (ew34)))))) (w35) ((funext (hA48 35 rfl)).trans ((funext (hA42 35 rfl)).trans ((funext (hA36 35 rfl)).trans ((funext (hA15 35 rfl)).trans ((funext (hA9 35 rfl)).trans (ew35)))))) (w36) ((funext (hA48 36 rfl)).trans ((funext (hA42 36 rfl)).trans ((funext (hA36 36 rfl)).trans ((funext (hA15 36 rfl)).trans ((funext (hA9 36 rfl)).trans (ew36)))))) (w37) ((funext (hA48 37 rfl)).trans ((funext (hA42 37 rfl)).trans ((funext (hA36 37 rfl)).trans ((funext (hA15 37 rfl)).trans ((funext (hA9 37 rfl)).trans (ew37)))))) (show (1) = 0 ∨ (1) = 1 by omega) (show RT ((w35)) ((w36)) ((w37)) ((w34)) by assumption) (show (u5_27) ≤ (u5_27) ∧ (u5_27) ≤ (u5_26) by omega) (show (1) = 1 → (u5_25) + 4 ≤ ((((u5_25 + 4) + 4) + z49)) ∧ ((((u5_25 + 4) + 4) + z49)) ≤ (u1_1) by omega))
              · refine Ew_of (pc' := 168) (fun _ => x_aload_n rfl (rk2_o (rfl) rfl rfl)) ?_
                refine Ew_of (pc' := 169) (fun _ => x_iconst rfl) ?_
                refine Ew_of (pc' := 170) (fun _ => x_aload_n rfl (rk2_o (rfl) rfl rfl)) ?_
                refine w_gT H (o := 5) (t := 1) rfl (H.perm 5 rfl) rfl rfl rfl rfl rfl rfl ?_
                refine w_gI H (o := 1) (w := u1_1) rfl (H.perm 1 rfl) rfl rfl rfl (fun _ => rfl) ((((((hS47 1 1 rfl).trans (hS41 1 1 rfl)).trans (hS35 1 1 rfl)).trans (hS14 1 1 rfl)).trans (hS8 1 1 rfl)).trans (eu1_1)) ?_
                refine w_inv H (o := 5) rfl rfl rfl (H.perm 5 rfl) rfl rfl (by rfl) (M282 H (show inr (1) by omega) (show inr (u1_1) by omega) (show 0 ≤ (1) ∧ (1) ≤ 20 by omega) (show 0 ≤ (u1_1) ∧ (u1_1) ≤ 65536 by omega) (fun z56 σ F52 A53 H hS54 hA55 pz56_0 pz56_1 => ⟨rretB rfl pz56_0, ?_⟩))
                exact w_ireturn rfl (k (z56) σ _ _ H (SF_trans (SF_upd (SF_trans (SF_trans (SF_upd (SF_trans (SF_trans (SF_trans (SF_refl) hS8 (any_sub rfl)) hS14 (any_sub rfl)) hS35 (any_sub rfl)) rfl) hS41 (any_sub rfl)) hS47 (any_sub rfl)) rfl) hS54 (any_sub rfl)) (SA_trans (SA_trans (SA_trans (SA_trans (SA_trans (SA_trans (SA_refl) hA9 (any_subA rfl)) hA15 (any_subA rfl)) hA36 (any_subA rfl)) hA42 (any_subA rfl)) hA48 (any_subA rfl)) hA55 (any_subA rfl)) (((u5_25 + 4) + 4)) ((hS54 5 25 rfl)) (u5_27) ((((((((hS54 5 27 rfl).trans (hS47 5 27 rfl)).trans (hS41 5 27 rfl)).trans (hS35 5 27 rfl)).trans (hS14 5 27 rfl)).trans (hS8 5 27 rfl)).trans (eu5_27))) (w34) ((funext (hA55 34 rfl)).trans ((funext (hA48 34 rfl)).trans ((funext (hA42 34 rfl)).trans ((funext (hA36 34 rfl)).trans ((funext (hA15 34 rfl)).trans ((funext (hA9 34 rfl)).trans (ew34))))))) (w35) ((funext (hA55 35 rfl)).trans ((funext (hA48 35 rfl)).trans ((funext (hA42 35 rfl)).trans ((funext (hA36 35 rfl)).trans ((funext (hA15 35 rfl)).trans ((funext (hA9 35 rfl)).trans (ew35))))))) (w36) ((funext (hA55 36 rfl)).trans ((funext (hA48 36 rfl)).trans ((funext (hA42 36 rfl)).trans ((funext (hA36 36 rfl)).trans ((funext (hA15 36 rfl)).trans ((funext (hA9 36 rfl)).trans (ew36))))))) (w37) ((funext (hA55 37 rfl)).trans ((funext (hA48 37 rfl)).trans ((funext (hA42 37 rfl)).trans ((funext (hA36 37 rfl)).trans ((funext (hA15 37 rfl)).trans ((funext (hA9 37 rfl)).trans (ew37))))))) (show (z56) = 0 ∨ (z56) = 1 by omega) (show RT ((w35)) ((w36)) ((w37)) ((w34)) by assumption) (show (u5_27) ≤ (u5_27) ∧ (u5_27) ≤ (u5_26) by omega) (show (z56) = 1 → (u5_25) + 4 ≤ (((u5_25 + 4) + 4)) ∧ (((u5_25 + 4) + 4)) ≤ (u1_1) by omega))
            · refine Ew_of (pc' := 128) (fun _ => x_iconst rfl) ?_
              exact w_ireturn rfl (k (0) σ _ _ H (SF_trans (SF_upd (SF_trans (SF_trans (SF_trans (SF_refl) hS8 (any_sub rfl)) hS14 (any_sub rfl)) hS35 (any_sub rfl)) rfl) hS41 (any_sub rfl)) (SA_trans (SA_trans (SA_trans (SA_trans (SA_refl) hA9 (any_subA rfl)) hA15 (any_subA rfl)) hA36 (any_subA rfl)) hA42 (any_subA rfl)) ((u5_25 + 4)) ((hS41 5 25 rfl)) (u5_27) ((((((hS41 5 27 rfl).trans (hS35 5 27 rfl)).trans (hS14 5 27 rfl)).trans (hS8 5 27 rfl)).trans (eu5_27))) (w34) ((funext (hA42 34 rfl)).trans ((funext (hA36 34 rfl)).trans ((funext (hA15 34 rfl)).trans ((funext (hA9 34 rfl)).trans (ew34))))) (w35) ((funext (hA42 35 rfl)).trans ((funext (hA36 35 rfl)).trans ((funext (hA15 35 rfl)).trans ((funext (hA9 35 rfl)).trans (ew35))))) (w36) ((funext (hA42 36 rfl)).trans ((funext (hA36 36 rfl)).trans ((funext (hA15 36 rfl)).trans ((funext (hA9 36 rfl)).trans (ew36))))) (w37) ((funext (hA42 37 rfl)).trans ((funext (hA36 37 rfl)).trans ((funext (hA15 37 rfl)).trans ((funext (hA9 37 rfl)).trans (ew37))))) (show (0) = 0 ∨ (0) = 1 by omega) (show RT ((w35)) ((w36)) ((w37)) ((w34)) by assumption) (show (u5_27) ≤ (u5_27) ∧ (u5_27) ≤ (u5_26) by omega) (show (0) = 1 → (u5_25) + 4 ≤ ((u5_25 + 4)) ∧ ((u5_25 + 4)) ≤ (u1_1) by omega))
          · refine Ew_of (pc' := 100) (fun _ => x_aload_n rfl rfl) ?_
            refine Ew_of (pc' := 101) (fun _ => x_iconst rfl) ?_
            refine Ew_of (pc' := 102) (fun _ => x_aload_n rfl rfl) ?_
            refine w_gI H (o := 5) (w := u5_25) rfl (H.perm 5 rfl) rfl rfl rfl (fun _ => rfl) ((((hS35 5 25 rfl).trans (hS14 5 25 rfl)).trans (hS8 5 25 rfl)).trans (eu5_25)) ?_
            refine w_inv H (o := 5) rfl rfl rfl (H.perm 5 rfl) rfl rfl (by rfl) (M282 H (show inr (2) by omega) (show inr (u5_25) by omega) (show 0 ≤ (2) ∧ (2) ≤ 20 by omega) (show 0 ≤ (u5_25) ∧ (u5_25) ≤ 65536 by omega) (fun z61 σ F57 A58 H hS59 hA60 pz61_0 pz61_1 => ⟨rretB rfl pz61_0, ?_⟩))
            exact w_ireturn rfl (k (z61) σ _ _ H (SF_trans (SF_trans (SF_trans (SF_trans (SF_refl) hS8 (any_sub rfl)) hS14 (any_sub rfl)) hS35 (any_sub rfl)) hS59 (any_sub rfl)) (SA_trans (SA_trans (SA_trans (SA_trans (SA_refl) hA9 (any_subA rfl)) hA15 (any_subA rfl)) hA36 (any_subA rfl)) hA60 (any_subA rfl)) (u5_25) ((((((hS59 5 25 rfl).trans (hS35 5 25 rfl)).trans (hS14 5 25 rfl)).trans (hS8 5 25 rfl)).trans (eu5_25))) (u5_27) ((((((hS59 5 27 rfl).trans (hS35 5 27 rfl)).trans (hS14 5 27 rfl)).trans (hS8 5 27 rfl)).trans (eu5_27))) (w34) ((funext (hA60 34 rfl)).trans ((funext (hA36 34 rfl)).trans ((funext (hA15 34 rfl)).trans ((funext (hA9 34 rfl)).trans (ew34))))) (w35) ((funext (hA60 35 rfl)).trans ((funext (hA36 35 rfl)).trans ((funext (hA15 35 rfl)).trans ((funext (hA9 35 rfl)).trans (ew35))))) (w36) ((funext (hA60 36 rfl)).trans ((funext (hA36 36 rfl)).trans ((funext (hA15 36 rfl)).trans ((funext (hA9 36 rfl)).trans (ew36))))) (w37) ((funext (hA60 37 rfl)).trans ((funext (hA36 37 rfl)).trans ((funext (hA15 37 rfl)).trans ((funext (hA9 37 rfl)).trans (ew37))))) (show (z61) = 0 ∨ (z61) = 1 by omega) (show RT ((w35)) ((w36)) ((w37)) ((w34)) by assumption) (show (u5_27) ≤ (u5_27) ∧ (u5_27) ≤ (u5_26) by omega) (show (z61) = 1 → (u5_25) + 4 ≤ (u5_25) ∧ (u5_25) ≤ (u1_1) by omega))
    · refine Ew_of (pc' := 32) (fun _ => x_aload_n rfl rfl) ?_
      refine w_inv H (o := 5) rfl rfl rfl (H.perm 5 rfl) rfl rfl (by rfl) (M286 H (u1_1) ((((hS14 1 1 rfl).trans (hS8 1 1 rfl)).trans (eu1_1))) (u5_4) ((((hS14 5 4 rfl).trans (hS8 5 4 rfl)).trans (eu5_4))) (u5_25) ((((hS14 5 25 rfl).trans (hS8 5 25 rfl)).trans (eu5_25))) (u5_26) ((((hS14 5 26 rfl).trans (hS8 5 26 rfl)).trans (eu5_26))) (u5_27) ((((hS14 5 27 rfl).trans (hS8 5 27 rfl)).trans (eu5_27))) (w27) ((funext (hA15 27 rfl)).trans ((funext (hA9 27 rfl)).trans (ew27))) (w28) ((funext (hA15 28 rfl)).trans ((funext (hA9 28 rfl)).trans (ew28))) (w29) ((funext (hA15 29 rfl)).trans ((funext (hA9 29 rfl)).trans (ew29))) (w30) ((funext (hA15 30 rfl)).trans ((funext (hA9 30 rfl)).trans (ew30))) (w34) ((funext (hA15 34 rfl)).trans ((funext (hA9 34 rfl)).trans (ew34))) (w35) ((funext (hA15 35 rfl)).trans ((funext (hA9 35 rfl)).trans (ew35))) (w36) ((funext (hA15 36 rfl)).trans ((funext (hA9 36 rfl)).trans (ew36))) (w37) ((funext (hA15 37 rfl)).trans ((funext (hA9 37 rfl)).trans (ew37))) (show (u5_25) + 4 ≤ (u1_1) by omega) (show RT ((w35)) ((w36)) ((w37)) ((w34)) by assumption) (show DI ((u5_4)) ((w27)) ((w28)) ((w29)) ((w30)) by assumption) (show (u5_27) ≤ (u5_26) by omega) (fun z66 σ F62 A63 H hS64 hA65 y67 ey68 y69 ey70 wq71 ewq72 wq73 ewq74 wq75 ewq76 wq77 ewq78 pz66_0 pz66_1 pz66_2 pz66_3 => ⟨rretB rfl pz66_0, ?_⟩))
      have r79 : (0 : Int) ≤ y67 ∧ y67 ≤ 65536 := by have h1 : (0 : Int) ≤ F62 5 25 ∧ F62 5 25 ≤ 65536 := H.frng 5 25; rw [show F62 5 25 = y67 from (ey68)] at h1; exact h1
      have r80 : (0 : Int) ≤ y69 ∧ y69 ≤ 65536 := by have h1 : (0 : Int) ≤ F62 5 27 ∧ F62 5 27 ≤ 65536 := H.frng 5 27; rw [show F62 5 27 = y69 from (ey70)] at h1; exact h1
      exact w_ireturn rfl (k (z66) σ _ _ H (SF_trans (SF_trans (SF_trans (SF_refl) hS8 (any_sub rfl)) hS14 (any_sub rfl)) hS64 (any_sub rfl)) (SA_trans (SA_trans (SA_trans (SA_refl) hA9 (any_subA rfl)) hA15 (any_subA rfl)) hA65 (any_subA rfl)) (y67) ((ey68)) (y69) ((ey70)) (wq71) (ewq72) (wq73) (ewq74) (wq75) (ewq76) (wq77) (ewq78) (show (z66) = 0 ∨ (z66) = 1 by omega) (show RT ((wq73)) ((wq75)) ((wq77)) ((wq71)) by assumption) (show (u5_27) ≤ (y69) ∧ (y69) ≤ (u5_26) by omega) (show (z66) = 1 → (u5_25) + 4 ≤ (y67) ∧ (y67) ≤ (u1_1) by omega))
  · refine Ew_of (pc' := 9) (fun _ => x_iconst rfl) ?_
    exact w_ireturn rfl (k (0) σ _ _ H (SF_trans (SF_refl) hS8 (any_sub rfl)) (SA_trans (SA_refl) hA9 (any_subA rfl)) (u5_25) (((hS8 5 25 rfl).trans (eu5_25))) (u5_27) (((hS8 5 27 rfl).trans (eu5_27))) (w34) ((funext (hA9 34 rfl)).trans (ew34)) (w35) ((funext (hA9 35 rfl)).trans (ew35)) (w36) ((funext (hA9 36 rfl)).trans (ew36)) (w37) ((funext (hA9 37 rfl)).trans (ew37)) (show (0) = 0 ∨ (0) = 1 by omega) (show RT ((w35)) ((w36)) ((w37)) ((w34)) by assumption) (show (u5_27) ≤ (u5_27) ∧ (u5_27) ≤ (u5_26) by omega) (show (0) = 1 → (u5_25) + 4 ≤ (u5_25) ∧ (u5_25) ≤ (u1_1) by omega))
/-- Reader.read -/
theorem M284 {σ0 σ : rS} {D N : Nat → Nat} {F : hF} {A : hA} {d c s : Nat} {Q : wQ} (H : HS σ0 σ D N F A) {a1 : Int} (u5_4 : Int) (eu5_4 : F 5 4 = u5_4) (w27 : Int → Int) (ew27 : A 27 = w27) (w28 : Int → Int) (ew28 : A 28 = w28) (w29 : Int → Int) (ew29 : A 29 = w29) (w30 : Int → Int) (ew30 : A 30 = w30) (w34 : Int → Int) (ew34 : A 34 = w34) (w35 : Int → Int) (ew35 : A 35 = w35) (w36 : Int → Int) (ew36 : A 36 = w36) (w37 : Int → Int) (ew37 : A 37 = w37) (h0 : inr (a1)) (h1 : 0 ≤ (a1) ∧ (a1) ≤ 65536) (h2 : RT ((w35)) ((w36)) ((w37)) ((w34))) (h3 : DI ((u5_4)) ((w27)) ((w28)) ((w29)) ((w30))) (k : ∀ (z : Int) σ F' A', HS σ0 σ D N F' A' → SF [(1, 3), (5, 10), (5, 19), (5, 25), (5, 26), (5, 27), (5, 28), (5, 29), (5, 30), (5, 31), (5, 32), (5, 33), (5, 34), (5, 35), (5, 36), (5, 39), (5, 40), (5, 41), (5, 42), (5, 43), (5, 44), (5, 45)] F F' → SA [15, 31, 32, 33, 34, 35, 36, 37, 38, 39, 40, 41, 42, 43, 44, 45, 46, 47] A A' → ∀ v34 : Int → Int, A' 34 = v34 → ∀ v35 : Int → Int, A' 35 = v35 → ∀ v36 : Int → Int, A' 36 = v36 → ∀ v37 : Int → Int, A' 37 = v37 → (inr (z)) → (RT ((v35)) ((v36)) ((v37)) ((v34))) → Q (some (I z)) σ c s) : Ew 284 (d + 10) 0 (rargs 0 [.ref (D 5), I a1]) [] σ c s Q := by
  have r1 : (0 : Int) ≤ u5_4 ∧ u5_4 ≤ 1 := by have h1 : (0 : Int) ≤ F 5 4 ∧ F 5 4 ≤ 1 := H.frng 5 4; rw [show F 5 4 = u5_4 from (eu5_4)] at h1; exact h1
  refine Ew_of (pc' := 1) (fun _ => x_aload_n rfl rfl) ?_
  refine Ew_of (pc' := 2) (fun _ => x_iconst rfl) ?_
  refine w_pI H (o := 5) rfl rfl (H.perm 5 rfl) rfl rfl rfl (fun _ => rfl) rfl (show (0 : Int) ≤ 0 ∧ 0 ≤ 65536 by omega) (fun σ H => ?_)
  refine Ew_of (pc' := 6) (fun _ => x_aload_n rfl rfl) ?_
  refine Ew_of (pc' := 7) (fun _ => x_iload_n rfl rfl) ?_
  refine w_pI H (o := 5) rfl rfl (H.perm 5 rfl) rfl rfl rfl (fun _ => rfl) rfl (show (0 : Int) ≤ a1 ∧ a1 ≤ 65536 by omega) (fun σ H => ?_)
  refine Ew_of (pc' := 11) (fun _ => x_aload_n rfl rfl) ?_
  refine Ew_of (pc' := 12) (fun _ => x_iconst rfl) ?_
  refine w_pI H (o := 5) rfl rfl (H.perm 5 rfl) rfl rfl rfl (fun _ => rfl) rfl (show (0 : Int) ≤ 0 ∧ 0 ≤ 65536 by omega) (fun σ H => ?_)
  refine Ew_of (pc' := 16) (fun _ => x_aload_n rfl rfl) ?_
  refine Ew_of (pc' := 17) (fun _ => x_iconst rfl) ?_
  refine w_pI H (o := 5) rfl rfl (H.perm 5 rfl) rfl rfl rfl (fun _ => rfl) rfl (show (-2147483648 : Int) ≤ 0 ∧ 0 ≤ 2147483647 by omega) (fun σ H => ?_)
  refine Ew_of (pc' := 21) (fun _ => x_aload_n rfl rfl) ?_
  refine Ew_of (pc' := 22) (fun _ => x_iconst rfl) ?_
  refine w_pI H (o := 5) rfl rfl (H.perm 5 rfl) rfl rfl rfl (fun _ => rfl) rfl (show (-2147483648 : Int) ≤ 0 ∧ 0 ≤ 2147483647 by omega) (fun σ H => ?_)
  refine Ew_of (pc' := 26) (fun _ => x_aload_n rfl rfl) ?_
  refine Ew_of (pc' := 27) (fun _ => x_iconst rfl) ?_
  refine w_pI H (o := 5) rfl rfl (H.perm 5 rfl) rfl rfl rfl (fun _ => rfl) rfl (show (-2147483648 : Int) ≤ 0 ∧ 0 ≤ 2147483647 by omega) (fun σ H => ?_)
  refine Ew_of (pc' := 31) (fun _ => x_aload_n rfl rfl) ?_
  refine Ew_of (pc' := 32) (fun _ => x_iconst rfl) ?_
  refine w_pI H (o := 5) rfl rfl (H.perm 5 rfl) rfl rfl rfl (fun _ => rfl) rfl (show (-2147483648 : Int) ≤ 0 ∧ 0 ≤ 2147483647 by omega) (fun σ H => ?_)
  refine Ew_of (pc' := 36) (fun _ => x_iconst rfl) ?_
  refine Ew_of (pc' := 37) (fun _ => x_istore_n rfl) ?_
  have r2 : (0 : Int) ≤ F 1 1 ∧ F 1 1 ≤ 65536 := by have h1 : (0 : Int) ≤ (updF (updF (updF (updF (updF (updF (updF F 5 25 (0)) 5 26 (a1)) 5 27 (0)) 5 32 (0)) 5 33 (0)) 5 34 (0)) 5 36 (0)) 1 1 ∧ (updF (updF (updF (updF (updF (updF (updF F 5 25 (0)) 5 26 (a1)) 5 27 (0)) 5 32 (0)) 5 33 (0)) 5 34 (0)) 5 36 (0)) 1 1 ≤ 65536 := H.frng 1 1; rw [show (updF (updF (updF (updF (updF (updF (updF F 5 25 (0)) 5 26 (a1)) 5 27 (0)) 5 32 (0)) 5 33 (0)) 5 34 (0)) 5 36 (0)) 1 1 = F 1 1 from rfl] at h1; exact h1
  suffices hl37 : ∀ (m : Nat), ∀ (ls : rO) (σ : rS) (F_37 : hF) (A_37 : hA) (x37_2 : Int), rlook ls 0 = some (.ref (D 5)) → rlook ls 2 = some (I (x37_2)) → HS σ0 σ D N F_37 A_37 → SF [(5, 10), (5, 19), (5, 25), (5, 27), (5, 28), (5, 29), (5, 30), (5, 31), (5, 32), (5, 33), (5, 34), (5, 35), (5, 36), (5, 39), (5, 40), (5, 41), (5, 42), (5, 43), (5, 44), (5, 45)] (updF (updF (updF (updF (updF (updF (updF F 5 25 (0)) 5 26 (a1)) 5 27 (0)) 5 32 (0)) 5 33 (0)) 5 34 (0)) 5 36 (0)) F_37 → SA [31, 32, 33, 34, 35, 36, 37, 38, 39, 40, 41, 42, 43, 44, 45, 46, 47] A A_37 → ∀ y37_5_25 : Int, F_37 5 25 = y37_5_25 → ∀ y37_5_27 : Int, F_37 5 27 = y37_5_27 → ∀ w37_34 : Int → Int, A_37 34 = w37_34 → ∀ w37_35 : Int → Int, A_37 35 = w37_35 → ∀ w37_36 : Int → Int, A_37 36 = w37_36 → ∀ w37_37 : Int → Int, A_37 37 = w37_37 → (inr (x37_2)) → ((x37_2) = 0 ∨ (x37_2) = 1) → ((x37_2) = 0 ∨ (y37_5_25) ≤ (F 1 1)) → (0 ≤ (y37_5_27) ∧ (y37_5_27) ≤ (a1)) → (RT ((w37_35)) ((w37_36)) ((w37_37)) ((w37_34))) → (if (x37_2) = 1 then (F 1 1) - (y37_5_25) + 1 else 0).toNat = m → Ew 284 (d + 10) 37 ls [] σ c s Q from
    hl37 _ _ σ _ _ (1) (rk_o (rfl) rfl rfl) (rk_s) H (SF_refl) (SA_refl) (0) (rfl) (0) (rfl) (w34) (ew34) (w35) (ew35) (w36) (ew36) (w37) (ew37) (show inr (1) by omega) (show (1) = 0 ∨ (1) = 1 by omega) (show (1) = 0 ∨ (0) ≤ (F 1 1) by omega) (show 0 ≤ (0) ∧ (0) ≤ (a1) by omega) (show RT ((w35)) ((w36)) ((w37)) ((w34)) by assumption) rfl
  as_aux_lemma =>
  intro m
  induction m using Nat.strongRecOn with
  | _ m ih37 =>
    intro ls σ F_37 A_37 x37_2 l37_0 l37_2 H hS_37 hA_37 y37_5_25 ey37_5_25 y37_5_27 ey37_5_27 w37_34 ew37_34 w37_35 ew37_35 w37_36 ew37_36 w37_37 ew37_37 j37_0 j37_1 j37_2 j37_3 j37_4 hm37
    have r3 : (0 : Int) ≤ y37_5_25 ∧ y37_5_25 ≤ 65536 := by have h1 : (0 : Int) ≤ F_37 5 25 ∧ F_37 5 25 ≤ 65536 := H.frng 5 25; rw [show F_37 5 25 = y37_5_25 from (ey37_5_25)] at h1; exact h1
    have r4 : (0 : Int) ≤ y37_5_27 ∧ y37_5_27 ≤ 65536 := by have h1 : (0 : Int) ≤ F_37 5 27 ∧ F_37 5 27 ≤ 65536 := H.frng 5 27; rw [show F_37 5 27 = y37_5_27 from (ey37_5_27)] at h1; exact h1
    refine Ew_of (pc' := 38) (fun _ => x_iload_n rfl l37_2) ?_
    have hc63 : ∀ (ls : rO) (σ : rS) (F_c63 : hF) (A_c63 : hA) , rlook ls 0 = some (.ref (D 5)) → rlook ls 2 = some (I (x37_2)) → HS σ0 σ D N F_c63 A_c63 → SF [] F_37 F_c63 → SA [] A_37 A_c63 → (((x37_2) = (0)) ∨ ((x37_2) ≠ (0) ∧ (y37_5_25) ≥ (F 1 1))) → Ew 284 (d + 10) 63 ls [] σ c s Q := by
     as_aux_lemma =>
      intro  ls σ F_c63 A_c63  lc63_0 lc63_2 H hS_c63 hA_c63   jc63_0
      refine Ew_of (pc' := 64) (fun _ => x_iload_n rfl lc63_2) ?_
      refine w_ifne (t := 73) rfl rfl (show inr (x37_2) by omega) (fun b5 => ?_) (fun b5 => ?_)
      · refine Ew_of (pc' := 74) (fun _ => x_aload_n rfl lc63_0) ?_
        refine Ew_of (pc' := 75) (fun _ => x_aload_n rfl lc63_0) ?_
        refine w_gT H (o := 5) (t := 1) rfl (H.perm 5 rfl) rfl rfl rfl rfl rfl rfl ?_
        refine w_gI H (o := 1) (w := F 1 1) rfl (H.perm 1 rfl) rfl rfl rfl (fun _ => rfl) ((hS_c63 1 1 rfl).trans (hS_37 1 1 rfl)) ?_
        refine w_pI H (o := 5) rfl rfl (H.perm 5 rfl) rfl rfl rfl (fun _ => rfl) rfl (show (0 : Int) ≤ F 1 1 ∧ F 1 1 ≤ 65536 by omega) (fun σ H => ?_)
        refine Ew_of (pc' := 85) (fun _ => x_aload_n rfl lc63_0) ?_
        refine w_gT H (o := 5) (t := 1) rfl (H.perm 5 rfl) rfl rfl rfl rfl rfl rfl ?_
        refine Ew_of (pc' := 89) (fun _ => x_aload_n rfl lc63_0) ?_
        refine w_gI H (o := 5) (w := y37_5_27) rfl (H.perm 5 rfl) rfl rfl rfl (fun _ => rfl) ((hS_c63 5 27 rfl).trans (ey37_5_27)) ?_
        refine w_pI H (o := 1) rfl rfl (H.perm 1 rfl) rfl rfl rfl (fun _ => rfl) rfl (show (0 : Int) ≤ y37_5_27 ∧ y37_5_27 ≤ 65536 by omega) (fun σ H => ?_)
        refine Ew_of (pc' := 96) (fun _ => x_iconst rfl) ?_
        refine Ew_of (pc' := 97) (fun _ => x_istore_n rfl) ?_
        suffices hl97 : ∀ (m : Nat), ∀ (ls : rO) (σ : rS) (F_97 : hF) (A_97 : hA) (x97_3 : Int), rlook ls 0 = some (.ref (D 5)) → rlook ls 3 = some (I (x97_3)) → HS σ0 σ D N F_97 A_97 → SF [] (updF (updF F_c63 5 31 (F 1 1)) 1 3 (y37_5_27)) F_97 → SA [15] A_c63 A_97 → (inr (x97_3)) → ((0) ≤ (x97_3)) → ((x97_3) ≤ (0) ∨ (x97_3) ≤ ((y37_5_27))) → (((y37_5_27)) - (x97_3)).toNat = m → Ew 284 (d + 10) 97 ls [] σ c s Q from
          hl97 _ _ σ _ _ (0) (rk_o (lc63_0) rfl rfl) (rk_s) H (SF_refl) (SA_refl)   (show inr (0) by omega) (show (0) ≤ (0) by omega) (show (0) ≤ (0) ∨ (0) ≤ ((y37_5_27)) by omega) rfl
        as_aux_lemma =>
        intro m
        induction m using Nat.strongRecOn with
        | _ m ih97 =>
          intro ls σ F_97 A_97 x97_3 l97_0 l97_3 H hS_97 hA_97   j97_0 j97_1 j97_2 hm97
          refine Ew_of (pc' := 98) (fun _ => x_iload_n rfl l97_3) ?_
          refine Ew_of (pc' := 99) (fun _ => x_aload_n rfl l97_0) ?_
          refine w_gI H (o := 5) (w := y37_5_27) rfl (H.perm 5 rfl) rfl rfl rfl (fun _ => rfl) (((hS_97 5 27 rfl).trans (hS_c63 5 27 rfl)).trans (ey37_5_27)) ?_
          refine w_icmpge (t := 126) rfl rfl (show inr (x97_3) by omega) (show inr (y37_5_27) by omega) (fun b6 => ?_) (fun b6 => ?_)
          · refine Ew_of (pc' := 127) (fun _ => x_aload_n rfl l97_0) ?_
            refine w_gI H (o := 5) (w := y37_5_27) rfl (H.perm 5 rfl) rfl rfl rfl (fun _ => rfl) (((hS_97 5 27 rfl).trans (hS_c63 5 27 rfl)).trans (ey37_5_27)) ?_
            exact w_ireturn rfl (k (y37_5_27) σ _ _ H (SF_trans (SF_upd (SF_upd (SF_trans (SF_trans (SF_upd (SF_upd (SF_upd (SF_upd (SF_upd (SF_upd (SF_upd (SF_refl) rfl) rfl) rfl) rfl) rfl) rfl) rfl) hS_37 (any_sub rfl)) hS_c63 (any_sub rfl)) rfl) rfl) hS_97 (any_sub rfl)) (SA_trans (SA_trans (SA_trans (SA_refl) hA_37 (any_subA rfl)) hA_c63 (any_subA rfl)) hA_97 (any_subA rfl)) (w37_34) ((funext (hA_97 34 rfl)).trans ((funext (hA_c63 34 rfl)).trans (ew37_34))) (w37_35) ((funext (hA_97 35 rfl)).trans ((funext (hA_c63 35 rfl)).trans (ew37_35))) (w37_36) ((funext (hA_97 36 rfl)).trans ((funext (hA_c63 36 rfl)).trans (ew37_36))) (w37_37) ((funext (hA_97 37 rfl)).trans ((funext (hA_c63 37 rfl)).trans (ew37_37))) (show inr (y37_5_27) by omega) (show RT ((w37_35)) ((w37_36)) ((w37_37)) ((w37_34)) by assumption))
          · refine Ew_of (pc' := 106) (fun _ => x_aload_n rfl l97_0) ?_
            refine w_gT H (o := 5) (t := 1) rfl (H.perm 5 rfl) rfl rfl rfl rfl rfl rfl ?_
            refine w_gT H (o := 1) (t := 15) rfl (H.perm 1 rfl) rfl rfl rfl rfl rfl rfl ?_
            refine Ew_of (pc' := 113) (fun _ => x_iload_n rfl l97_3) ?_
            refine Ew_of (pc' := 114) (fun _ => x_aload_n rfl l97_0) ?_
            refine w_gT H (o := 5) (t := 45) rfl (H.perm 5 rfl) rfl rfl rfl rfl rfl rfl ?_
            refine Ew_of (pc' := 118) (fun _ => x_iload_n rfl l97_3) ?_
            refine w_lI H (o := 45) (n := 65536) rfl (H.perm 45 rfl) rfl rfl (H.fix 45 rfl rfl) (show 0 ≤ x97_3 ∧ x97_3 < ((65536 : Nat) : Int) by omega) (by decide) (fun v7 ev7 qv7 => ?_)
            have qv7 : (0 : Int) ≤ v7 ∧ v7 ≤ 255 := qv7
            have ev7 : (A_37 45) (x97_3) = v7 := (congrFun ((funext (hA_97 45 rfl)).trans (funext (hA_c63 45 rfl))) (x97_3)).symm.trans ev7
            refine w_sI H (o := 15) (n := 65536) rfl (H.perm 15 rfl) rfl rfl (H.fix 15 rfl rfl) (show 0 ≤ x97_3 ∧ x97_3 < ((65536 : Nat) : Int) by omega) (by decide) (show (0 : Int) ≤ v7 ∧ v7 ≤ 255 by omega) (fun σ H => ?_)
            refine Ew_of (pc' := 123) (fun _ => x_iinc (len := 3) rfl (l97_3)) ?_
            refine Ew_of (pc' := 97) (fun _ => x_goto rfl rfl) ?_
            exact ih97 _ (by omega) _ σ _ _ ((x97_3 + 1)) (rk_o (l97_0) rfl rfl) (rk_s) H (hS_97) (SA_upd (hA_97) rfl)   (show inr ((x97_3 + 1)) by omega) (show (0) ≤ ((x97_3 + 1)) by omega) (show ((x97_3 + 1)) ≤ (0) ∨ ((x97_3 + 1)) ≤ ((y37_5_27)) by omega) rfl
      · refine Ew_of (pc' := 68) (fun _ => x_aload_n rfl lc63_0) ?_
        have r8 : (0 : Int) ≤ F_37 5 30 ∧ F_37 5 30 ≤ 20 := by have h1 : (0 : Int) ≤ F_c63 5 30 ∧ F_c63 5 30 ≤ 20 := H.frng 5 30; rw [show F_c63 5 30 = F_37 5 30 from (hS_c63 5 30 rfl)] at h1; exact h1
        refine w_gI H (o := 5) (w := F_37 5 30) rfl (H.perm 5 rfl) rfl rfl rfl (fun _ => rfl) (hS_c63 5 30 rfl) ?_
        refine w_ineg rfl ?_
        exact w_ireturn rfl (k ((-F_37 5 30)) σ _ _ H (SF_trans (SF_trans (SF_upd (SF_upd (SF_upd (SF_upd (SF_upd (SF_upd (SF_upd (SF_refl) rfl) rfl) rfl) rfl) rfl) rfl) rfl) hS_37 (any_sub rfl)) hS_c63 (any_sub rfl)) (SA_trans (SA_trans (SA_refl) hA_37 (any_subA rfl)) hA_c63 (any_subA rfl)) (w37_34) ((funext (hA_c63 34 rfl)).trans (ew37_34)) (w37_35) ((funext (hA_c63 35 rfl)).trans (ew37_35)) (w37_36) ((funext (hA_c63 36 rfl)).trans (ew37_36)) (w37_37) ((funext (hA_c63 37 rfl)).trans (ew37_37)) (show inr ((-F_37 5 30)) by omega) (show RT ((w37_35)) ((w37_36)) ((w37_37)) ((w37_34)) by assumption))
    refine w_ifeq (t := 63) rfl rfl (show inr (x37_2) by omega) (fun b9 => ?_) (fun b9 => ?_)
    · exact hc63  _ σ _ _  (l37_0) (l37_2) H (SF_refl) (SA_refl)   (show ((x37_2) = (0)) ∨ ((x37_2) ≠ (0) ∧ (y37_5_25) ≥ (F 1 1)) by omega)
    · refine Ew_of (pc' := 42) (fun _ => x_aload_n rfl l37_0) ?_
      refine w_gI H (o := 5) (w := y37_5_25) rfl (H.perm 5 rfl) rfl rfl rfl (fun _ => rfl) (ey37_5_25) ?_
      refine Ew_of (pc' := 46) (fun _ => x_aload_n rfl l37_0) ?_
      refine w_gT H (o := 5) (t := 1) rfl (H.perm 5 rfl) rfl rfl rfl rfl rfl rfl ?_
      refine w_gI H (o := 1) (w := F 1 1) rfl (H.perm 1 rfl) rfl rfl rfl (fun _ => rfl) (hS_37 1 1 rfl) ?_
      refine w_icmpge (t := 63) rfl rfl (show inr (y37_5_25) by omega) (show inr (F 1 1) by omega) (fun b10 => ?_) (fun b10 => ?_)
      · exact hc63  _ σ _ _  (l37_0) (l37_2) H (SF_refl) (SA_refl)   (show ((x37_2) = (0)) ∨ ((x37_2) ≠ (0) ∧ (y37_5_25) ≥ (F 1 1)) by omega)
      · refine Ew_of (pc' := 56) (fun _ => x_aload_n rfl l37_0) ?_
        refine w_inv H (o := 5) rfl rfl rfl (H.perm 5 rfl) rfl rfl (by rfl) (M285 H (F 1 1) ((hS_37 1 1 rfl)) (u5_4) (((hS_37 5 4 rfl).trans (eu5_4))) (y37_5_25) ((ey37_5_25)) (a1) ((hS_37 5 26 rfl)) (y37_5_27) ((ey37_5_27)) (w27) ((funext (hA_37 27 rfl)).trans (ew27)) (w28) ((funext (hA_37 28 rfl)).trans (ew28)) (w29) ((funext (hA_37 29 rfl)).trans (ew29)) (w30) ((funext (hA_37 30 rfl)).trans (ew30)) (w37_34) (ew37_34) (w37_35) (ew37_35) (w37_36) (ew37_36) (w37_37) (ew37_37) (show (y37_5_25) ≤ (F 1 1) by omega) (show RT ((w37_35)) ((w37_36)) ((w37_37)) ((w37_34)) by assumption) (show DI ((u5_4)) ((w27)) ((w28)) ((w29)) ((w30)) by assumption) (show (y37_5_27) ≤ (a1) by omega) (fun z15 σ F11 A12 H hS13 hA14 y16 ey17 y18 ey19 wq20 ewq21 wq22 ewq23 wq24 ewq25 wq26 ewq27 pz15_0 pz15_1 pz15_2 pz15_3 => ⟨rretB rfl pz15_0, ?_⟩))
        have r28 : (0 : Int) ≤ y16 ∧ y16 ≤ 65536 := by have h1 : (0 : Int) ≤ F11 5 25 ∧ F11 5 25 ≤ 65536 := H.frng 5 25; rw [show F11 5 25 = y16 from (ey17)] at h1; exact h1
        have r29 : (0 : Int) ≤ y18 ∧ y18 ≤ 65536 := by have h1 : (0 : Int) ≤ F11 5 27 ∧ F11 5 27 ≤ 65536 := H.frng 5 27; rw [show F11 5 27 = y18 from (ey19)] at h1; exact h1
        refine Ew_of (pc' := 60) (fun _ => x_istore_n rfl) ?_
        refine Ew_of (pc' := 37) (fun _ => x_goto rfl rfl) ?_
        exact ih37 _ (by omega) _ σ _ _ (z15) (rk_o (l37_0) rfl rfl) (rk_s) H (SF_trans (hS_37) hS13 (any_sub rfl)) (SA_trans (hA_37) hA14 (any_subA rfl)) (y16) ((ey17)) (y18) ((ey19)) (wq20) (ewq21) (wq22) (ewq23) (wq24) (ewq25) (wq26) (ewq27) (show inr (z15) by omega) (show (z15) = 0 ∨ (z15) = 1 by omega) (show (z15) = 0 ∨ (y16) ≤ (F 1 1) by omega) (show 0 ≤ (y18) ∧ (y18) ≤ (a1) by omega) (show RT ((wq22)) ((wq24)) ((wq26)) ((wq20)) by assumption) rfl
/-- Reader.learn -/
theorem M275 {σ0 σ : rS} {D N : Nat → Nat} {F : hF} {A : hA} {d c s : Nat} {Q : wQ} (H : HS σ0 σ D N F A)  (u5_4 : Int) (eu5_4 : F 5 4 = u5_4) (w27 : Int → Int) (ew27 : A 27 = w27) (w28 : Int → Int) (ew28 : A 28 = w28) (w29 : Int → Int) (ew29 : A 29 = w29) (w30 : Int → Int) (ew30 : A 30 = w30) (w34 : Int → Int) (ew34 : A 34 = w34) (w35 : Int → Int) (ew35 : A 35 = w35) (w36 : Int → Int) (ew36 : A 36 = w36) (w37 : Int → Int) (ew37 : A 37 = w37) (h0 : RT ((w35)) ((w36)) ((w37)) ((w34))) (h1 : DI ((u5_4)) ((w27)) ((w28)) ((w29)) ((w30))) (k : ∀ (z : Int) σ F' A', HS σ0 σ D N F' A' → SF [(5, 2), (5, 3), (5, 4), (5, 10), (5, 19), (5, 44), (5, 45)] F F' → SA [26, 27, 28, 29, 30, 31, 32, 33, 34, 35, 36, 37, 38, 39, 40, 41, 42, 43, 44] A A' → ∀ y5_4 : Int, F' 5 4 = y5_4 → ∀ v27 : Int → Int, A' 27 = v27 → ∀ v28 : Int → Int, A' 28 = v28 → ∀ v29 : Int → Int, A' 29 = v29 → ∀ v30 : Int → Int, A' 30 = v30 → ∀ v34 : Int → Int, A' 34 = v34 → ∀ v35 : Int → Int, A' 35 = v35 → ∀ v36 : Int → Int, A' 36 = v36 → ∀ v37 : Int → Int, A' 37 = v37 → (inr (z)) → (RT ((v35)) ((v36)) ((v37)) ((v34))) → (DI ((y5_4)) ((v27)) ((v28)) ((v29)) ((v30))) → (0 ≤ (y5_4) ∧ (y5_4) ≤ 1) → Q (some (I z)) σ c s) : Ew 275 (d + 4) 0 (rargs 0 [.ref (D 5)]) [] σ c s Q := by
  have r1 : (0 : Int) ≤ u5_4 ∧ u5_4 ≤ 1 := by have h1 : (0 : Int) ≤ F 5 4 ∧ F 5 4 ≤ 1 := H.frng 5 4; rw [show F 5 4 = u5_4 from (eu5_4)] at h1; exact h1
  refine Ew_of (pc' := 1) (fun _ => x_iconst rfl) ?_
  refine Ew_of (pc' := 2) (fun _ => x_istore_n rfl) ?_
  have r2 : (0 : Int) ≤ F 1 1 ∧ F 1 1 ≤ 65536 := by have h1 : (0 : Int) ≤ F 1 1 ∧ F 1 1 ≤ 65536 := H.frng 1 1; rw [show F 1 1 = F 1 1 from rfl] at h1; exact h1
  have hc36 : ∀ (tc36_0 : Int), ∀ (ls : rO) (σ : rS) (F_c36 : hF) (A_c36 : hA) , rlook ls 0 = some (.ref (D 5)) → rlook ls 1 = some (I (0)) → HS σ0 σ D N F_c36 A_c36 → SF [] F F_c36 → SA [] A A_c36 → (inr (tc36_0)) → ((tc36_0) = 0 ∨ (tc36_0) = 1 ∧ 4 ≤ (F 1 1)) → Ew 275 (d + 4) 36 ls [I (tc36_0)] σ c s Q := by
   as_aux_lemma =>
    intro tc36_0 ls σ F_c36 A_c36  lc36_0 lc36_1 H hS_c36 hA_c36   jc36_0 jc36_1
    refine Ew_of (pc' := 37) (fun _ => x_istore_n rfl) ?_
    have r3 : (0 : Int) ≤ F 5 10 ∧ F 5 10 ≤ 11 := by have h1 : (0 : Int) ≤ F_c36 5 10 ∧ F_c36 5 10 ≤ 11 := H.frng 5 10; rw [show F_c36 5 10 = F 5 10 from (hS_c36 5 10 rfl)] at h1; exact h1
    have hc247 : ∀ (ls : rO) (σ : rS) (F_c247 : hF) (A_c247 : hA) (xc247_1 : Int), rlook ls 0 = some (.ref (D 5)) → rlook ls 1 = some (I (xc247_1)) → rlook ls 2 = some (I (tc36_0)) → HS σ0 σ D N F_c247 A_c247 → SF [(5, 10), (5, 19), (5, 44), (5, 45)] F_c36 F_c247 → SA [31, 32, 33, 34, 35, 36, 37, 38, 39, 40, 41, 42, 43, 44] A_c36 A_c247 → ∀ yc247_5_10 : Int, F_c247 5 10 = yc247_5_10 → ∀ wc247_31 : Int → Int, A_c247 31 = wc247_31 → ∀ wc247_33 : Int → Int, A_c247 33 = wc247_33 → ∀ wc247_34 : Int → Int, A_c247 34 = wc247_34 → ∀ wc247_35 : Int → Int, A_c247 35 = wc247_35 → ∀ wc247_36 : Int → Int, A_c247 36 = wc247_36 → ∀ wc247_37 : Int → Int, A_c247 37 = wc247_37 → ∀ wc247_38 : Int → Int, A_c247 38 = wc247_38 → (inr (xc247_1)) → (0 ≤ (xc247_1) ∧ (xc247_1) ≤ (F 1 1)) → ((tc36_0) = 1 → 8 ≤ (F 1 1)) → (RT ((wc247_35)) ((wc247_36)) ((wc247_37)) ((wc247_34))) → ((tc36_0) = 1 → CI ((wc247_31)) ((yc247_5_10))) → ((tc36_0) = 1 → PS ((wc247_33)) ((wc247_34)) 0) → ((tc36_0) = 1 → PS ((wc247_33)) ((wc247_34)) 1) → ((tc36_0) = 1 → PS ((wc247_33)) ((wc247_34)) 2) → ((tc36_0) = 1 → 1 ≤ ((wc247_38)) 0 ∧ 1 ≤ ((wc247_38)) 1 ∧ 1 ≤ ((wc247_38)) 2) → Ew 275 (d + 4) 247 ls [] σ c s Q := by
     as_aux_lemma =>
      intro  ls σ F_c247 A_c247 xc247_1 lc247_0 lc247_1 lc247_2 H hS_c247 hA_c247 yc247_5_10 eyc247_5_10 wc247_31 ewc247_31 wc247_33 ewc247_33 wc247_34 ewc247_34 wc247_35 ewc247_35 wc247_36 ewc247_36 wc247_37 ewc247_37 wc247_38 ewc247_38 jc247_0 jc247_1 jc247_2 jc247_3 jc247_4 jc247_5 jc247_6 jc247_7 jc247_8
      have r4 : (0 : Int) ≤ yc247_5_10 ∧ yc247_5_10 ≤ 11 := by have h1 : (0 : Int) ≤ F_c247 5 10 ∧ F_c247 5 10 ≤ 11 := H.frng 5 10; rw [show F_c247 5 10 = yc247_5_10 from (eyc247_5_10)] at h1; exact h1
      have jc247_CI : (tc36_0) = 1 → CI ((wc247_31)) ((yc247_5_10)) := by assumption
      have jc247_0 : (tc36_0) = 1 → PS ((wc247_33)) ((wc247_34)) 0 := by assumption
      have jc247_1 : (tc36_0) = 1 → PS ((wc247_33)) ((wc247_34)) 1 := by assumption
      have jc247_2 : (tc36_0) = 1 → PS ((wc247_33)) ((wc247_34)) 2 := by assumption
      refine Ew_of (pc' := 248) (fun _ => x_aload_n rfl lc247_0) ?_
      refine Ew_of (pc' := 249) (fun _ => x_iload_n rfl lc247_2) ?_
      refine w_pI H (o := 5) rfl rfl (H.perm 5 rfl) rfl rfl rfl (fun _ => rfl) (rfit_b (by omega)) (show (0 : Int) ≤ tc36_0 ∧ tc36_0 ≤ 1 by omega) (fun σ H => ?_)
      refine Ew_of (pc' := 253) (fun _ => x_aload_n rfl lc247_0) ?_
      have hc268 : ∀ (tc268_0 : Int), ∀ (ls : rO) (σ : rS) (F_c268 : hF) (A_c268 : hA) , rlook ls 0 = some (.ref (D 5)) → rlook ls 1 = some (I (xc247_1)) → HS σ0 σ D N F_c268 A_c268 → SF [] (updF F_c247 5 4 (tc36_0)) F_c268 → SA [] A_c247 A_c268 → (inr (tc268_0)) → Ew 275 (d + 4) 268 ls [I (tc268_0), .ref (D 5)] σ c s Q := by
       as_aux_lemma =>
        intro tc268_0 ls σ F_c268 A_c268  lc268_0 lc268_1 H hS_c268 hA_c268   jc268_0
        refine w_pI H (o := 5) rfl rfl (H.perm 5 rfl) rfl rfl rfl (fun _ => rfl) rfl (show (-2147483648 : Int) ≤ tc268_0 ∧ tc268_0 ≤ 2147483647 by omega) (fun σ H => ?_)
        refine Ew_of (pc' := 272) (fun _ => x_aload_n rfl lc268_0) ?_
        refine Ew_of (pc' := 273) (fun _ => x_aload_n rfl lc268_0) ?_
        refine w_gT H (o := 5) (t := 1) rfl (H.perm 5 rfl) rfl rfl rfl rfl rfl rfl ?_
        refine w_gI H (o := 1) (w := F 1 1) rfl (H.perm 1 rfl) rfl rfl rfl (fun _ => rfl) (((hS_c268 1 1 rfl).trans (hS_c247 1 1 rfl)).trans (hS_c36 1 1 rfl)) ?_
        refine Ew_of (pc' := 280) (fun _ => x_iload_n rfl lc268_1) ?_
        refine w_isub rfl ?_
        refine w_pI H (o := 5) rfl rfl (H.perm 5 rfl) rfl rfl rfl (fun _ => rfl) rfl (show (0 : Int) ≤ (F 1 1 - xc247_1) ∧ (F 1 1 - xc247_1) ≤ 65536 by omega) (fun σ H => ?_)
        refine Ew_of (pc' := 285) (fun _ => x_iconst rfl) ?_
        refine Ew_of (pc' := 286) (fun _ => x_istore_n rfl) ?_
        suffices hl286 : ∀ (m : Nat), ∀ (ls : rO) (σ : rS) (F_286 : hF) (A_286 : hA) (x286_3 : Int), rlook ls 0 = some (.ref (D 5)) → rlook ls 1 = some (I (xc247_1)) → rlook ls 3 = some (I (x286_3)) → HS σ0 σ D N F_286 A_286 → SF [] (updF (updF F_c268 5 3 (tc268_0)) 5 2 ((F 1 1 - xc247_1))) F_286 → SA [26] A_c268 A_286 → (inr (x286_3)) → ((0) ≤ (x286_3)) → ((x286_3) ≤ (0) ∨ (x286_3) ≤ (((F 1 1 - xc247_1)))) → ((((F 1 1 - xc247_1))) - (x286_3)).toNat = m → Ew 275 (d + 4) 286 ls [] σ c s Q from
          hl286 _ _ σ _ _ (0) (rk_o (lc268_0) rfl rfl) (rk_o (lc268_1) rfl rfl) (rk_s) H (SF_refl) (SA_refl)   (show inr (0) by omega) (show (0) ≤ (0) by omega) (show (0) ≤ (0) ∨ (0) ≤ (((F 1 1 - xc247_1))) by omega) rfl
        as_aux_lemma =>
        intro m
        induction m using Nat.strongRecOn with
        | _ m ih286 =>
          intro ls σ F_286 A_286 x286_3 l286_0 l286_1 l286_3 H hS_286 hA_286   j286_0 j286_1 j286_2 hm286
          refine Ew_of (pc' := 287) (fun _ => x_iload_n rfl l286_3) ?_
          refine Ew_of (pc' := 288) (fun _ => x_aload_n rfl l286_0) ?_
          refine w_gI H (o := 5) (w := (F 1 1 - xc247_1)) rfl (H.perm 5 rfl) rfl rfl rfl (fun _ => rfl) (hS_286 5 2 rfl) ?_
          refine w_icmpge (t := 317) rfl rfl (show inr (x286_3) by omega) (show inr ((F 1 1 - xc247_1)) by omega) (fun b5 => ?_) (fun b5 => ?_)
          · refine Ew_of (pc' := 318) (fun _ => x_iconst rfl) ?_
            refine Ew_of (pc' := 319) (fun _ => x_istore_n rfl) ?_
            have : ∀ i, (0 : Int) ≤ i → i < 0 → ((w27)) i = ((wc247_31)) i := fun i a b => absurd b (by omega)
            suffices hl319 : ∀ (m : Nat), ∀ (ls : rO) (σ : rS) (F_319 : hF) (A_319 : hA) (x319_3 : Int), rlook ls 0 = some (.ref (D 5)) → rlook ls 3 = some (I (x319_3)) → HS σ0 σ D N F_319 A_319 → SF [] F_286 F_319 → SA [27] A_286 A_319 → ∀ w319_27 : Int → Int, A_319 27 = w319_27 → (inr (x319_3)) → ((0) ≤ (x319_3)) → ((x319_3) ≤ (0) ∨ (x319_3) ≤ ((256))) → (∀ i, 0 ≤ i → i < (x319_3) → ((w319_27)) i = ((wc247_31)) i) → (((256)) - (x319_3)).toNat = m → Ew 275 (d + 4) 319 ls [] σ c s Q from
              hl319 _ _ σ _ _ (0) (rk_o (l286_0) rfl rfl) (rk_s) H (SF_refl) (SA_refl)  (w27) ((funext (hA_286 27 rfl)).trans ((funext (hA_c268 27 rfl)).trans ((funext (hA_c247 27 rfl)).trans ((funext (hA_c36 27 rfl)).trans (ew27))))) (show inr (0) by omega) (show (0) ≤ (0) by omega) (show (0) ≤ (0) ∨ (0) ≤ ((256)) by omega) (show ∀ i, 0 ≤ i → i < (0) → ((w27)) i = ((wc247_31)) i by assumption) rfl
            as_aux_lemma =>
            intro m
            induction m using Nat.strongRecOn with
            | _ m ih319 =>
              intro ls σ F_319 A_319 x319_3 l319_0 l319_3 H hS_319 hA_319  w319_27 ew319_27 j319_0 j319_1 j319_2 j319_3 hm319
              refine Ew_of (pc' := 320) (fun _ => x_iload_n rfl l319_3) ?_
              refine Ew_of (pc' := 323) (fun _ => x_sipush (z := 256) rfl (by decide)) ?_
              refine w_icmpge (t := 344) rfl rfl (show inr (x319_3) by omega) (show inr (256) by omega) (fun b6 => ?_) (fun b6 => ?_)
              · refine Ew_of (pc' := 345) (fun _ => x_iconst rfl) ?_
                refine Ew_of (pc' := 346) (fun _ => x_istore_n rfl) ?_
                have : ∀ i, (0 : Int) ≤ i → i < 0 → ((w28)) i = ((wc247_33)) i := fun i a b => absurd b (by omega)
                suffices hl346 : ∀ (m : Nat), ∀ (ls : rO) (σ : rS) (F_346 : hF) (A_346 : hA) (x346_3 : Int), rlook ls 0 = some (.ref (D 5)) → rlook ls 3 = some (I (x346_3)) → HS σ0 σ D N F_346 A_346 → SF [] F_319 F_346 → SA [28] A_319 A_346 → ∀ w346_28 : Int → Int, A_346 28 = w346_28 → (inr (x346_3)) → ((0) ≤ (x346_3)) → ((x346_3) ≤ (0) ∨ (x346_3) ≤ ((192))) → (∀ i, 0 ≤ i → i < (x346_3) → ((w346_28)) i = ((wc247_33)) i) → (((192)) - (x346_3)).toNat = m → Ew 275 (d + 4) 346 ls [] σ c s Q from
                  hl346 _ _ σ _ _ (0) (rk_o (l319_0) rfl rfl) (rk_s) H (SF_refl) (SA_refl)  (w28) ((funext (hA_319 28 rfl)).trans ((funext (hA_286 28 rfl)).trans ((funext (hA_c268 28 rfl)).trans ((funext (hA_c247 28 rfl)).trans ((funext (hA_c36 28 rfl)).trans (ew28)))))) (show inr (0) by omega) (show (0) ≤ (0) by omega) (show (0) ≤ (0) ∨ (0) ≤ ((192)) by omega) (show ∀ i, 0 ≤ i → i < (0) → ((w28)) i = ((wc247_33)) i by assumption) rfl
                as_aux_lemma =>
                intro m
                induction m using Nat.strongRecOn with
                | _ m ih346 =>
                  intro ls σ F_346 A_346 x346_3 l346_0 l346_3 H hS_346 hA_346  w346_28 ew346_28 j346_0 j346_1 j346_2 j346_3 hm346
                  refine Ew_of (pc' := 347) (fun _ => x_iload_n rfl l346_3) ?_
                  refine Ew_of (pc' := 350) (fun _ => x_sipush (z := 192) rfl (by decide)) ?_
                  refine w_icmpge (t := 371) rfl rfl (show inr (x346_3) by omega) (show inr (192) by omega) (fun b7 => ?_) (fun b7 => ?_)
                  · refine Ew_of (pc' := 372) (fun _ => x_iconst rfl) ?_
                    refine Ew_of (pc' := 373) (fun _ => x_istore_n rfl) ?_
                    have : ∀ i, (0 : Int) ≤ i → i < 0 → ((w29)) i = ((wc247_34)) i := fun i a b => absurd b (by omega)
                    suffices hl373 : ∀ (m : Nat), ∀ (ls : rO) (σ : rS) (F_373 : hF) (A_373 : hA) (x373_3 : Int), rlook ls 0 = some (.ref (D 5)) → rlook ls 3 = some (I (x373_3)) → HS σ0 σ D N F_373 A_373 → SF [] F_346 F_373 → SA [29, 30] A_346 A_373 → ∀ w373_29 : Int → Int, A_373 29 = w373_29 → ∀ w373_30 : Int → Int, A_373 30 = w373_30 → (inr (x373_3)) → ((0) ≤ (x373_3)) → ((x373_3) ≤ (0) ∨ (x373_3) ≤ (3)) → (∀ i, 0 ≤ i → i < (x373_3) → ((w373_29)) i = ((wc247_34)) i) → (0 < (x373_3) → ((w373_30)) 0 = ((wc247_38)) 0) → (1 < (x373_3) → ((w373_30)) 1 = ((wc247_38)) 1) → (2 < (x373_3) → ((w373_30)) 2 = ((wc247_38)) 2) → ((3) - (x373_3)).toNat = m → Ew 275 (d + 4) 373 ls [] σ c s Q from
                      hl373 _ _ σ _ _ (0) (rk_o (l346_0) rfl rfl) (rk_s) H (SF_refl) (SA_refl)  (w29) ((funext (hA_346 29 rfl)).trans ((funext (hA_319 29 rfl)).trans ((funext (hA_286 29 rfl)).trans ((funext (hA_c268 29 rfl)).trans ((funext (hA_c247 29 rfl)).trans ((funext (hA_c36 29 rfl)).trans (ew29))))))) (w30) ((funext (hA_346 30 rfl)).trans ((funext (hA_319 30 rfl)).trans ((funext (hA_286 30 rfl)).trans ((funext (hA_c268 30 rfl)).trans ((funext (hA_c247 30 rfl)).trans ((funext (hA_c36 30 rfl)).trans (ew30))))))) (show inr (0) by omega) (show (0) ≤ (0) by omega) (show (0) ≤ (0) ∨ (0) ≤ (3) by omega) (show ∀ i, 0 ≤ i → i < (0) → ((w29)) i = ((wc247_34)) i by assumption) (show 0 < (0) → ((w30)) 0 = ((wc247_38)) 0 by omega) (show 1 < (0) → ((w30)) 1 = ((wc247_38)) 1 by omega) (show 2 < (0) → ((w30)) 2 = ((wc247_38)) 2 by omega) rfl
                    as_aux_lemma =>
                    intro m
                    induction m using Nat.strongRecOn with
                    | _ m ih373 =>
                      intro ls σ F_373 A_373 x373_3 l373_0 l373_3 H hS_373 hA_373  w373_29 ew373_29 w373_30 ew373_30 j373_0 j373_1 j373_2 j373_3 j373_4 j373_5 j373_6 hm373
                      refine Ew_of (pc' := 374) (fun _ => x_iload_n rfl l373_3) ?_
                      refine Ew_of (pc' := 375) (fun _ => x_iconst rfl) ?_
                      refine w_icmpge (t := 408) rfl rfl (show inr (x373_3) by omega) (show inr (3) by omega) (fun b8 => ?_) (fun b8 => ?_)
                      · have : DI ((tc36_0)) ((w319_27)) ((w346_28)) ((w373_29)) ((w373_30)) := fun q => ⟨⟨_, CI_congr (jc247_CI (by omega)) (fun i a b => j319_3 i a (by omega))⟩, fun t a b => PS_congr (by rcases (show t = 0 ∨ t = 1 ∨ t = 2 by omega) with e | e | e <;> rw [e]; exact jc247_0 (by omega); exact jc247_1 (by omega); exact jc247_2 (by omega)) (by omega) (fun i a b => j346_3 i a (by omega)) (j373_3 t a (by omega)), by omega, by omega, by omega⟩
                        refine Ew_of (pc' := 409) (fun _ => x_aload_n rfl l373_0) ?_
                        refine w_gI H (o := 5) (w := (F 1 1 - xc247_1)) rfl (H.perm 5 rfl) rfl rfl rfl (fun _ => rfl) ((((hS_373 5 2 rfl).trans (hS_346 5 2 rfl)).trans (hS_319 5 2 rfl)).trans (hS_286 5 2 rfl)) ?_
                        exact w_ireturn rfl (k ((F 1 1 - xc247_1)) σ _ _ H (SF_trans (SF_trans (SF_trans (SF_trans (SF_upd (SF_upd (SF_trans (SF_upd (SF_trans (SF_trans (SF_refl) hS_c36 (any_sub rfl)) hS_c247 (any_sub rfl)) rfl) hS_c268 (any_sub rfl)) rfl) rfl) hS_286 (any_sub rfl)) hS_319 (any_sub rfl)) hS_346 (any_sub rfl)) hS_373 (any_sub rfl)) (SA_trans (SA_trans (SA_trans (SA_trans (SA_trans (SA_trans (SA_trans (SA_refl) hA_c36 (any_subA rfl)) hA_c247 (any_subA rfl)) hA_c268 (any_subA rfl)) hA_286 (any_subA rfl)) hA_319 (any_subA rfl)) hA_346 (any_subA rfl)) hA_373 (any_subA rfl)) (tc36_0) ((((((hS_373 5 4 rfl).trans (hS_346 5 4 rfl)).trans (hS_319 5 4 rfl)).trans (hS_286 5 4 rfl)).trans (hS_c268 5 4 rfl))) (w319_27) ((funext (hA_373 27 rfl)).trans ((funext (hA_346 27 rfl)).trans (ew319_27))) (w346_28) ((funext (hA_373 28 rfl)).trans (ew346_28)) (w373_29) (ew373_29) (w373_30) (ew373_30) (wc247_34) ((funext (hA_373 34 rfl)).trans ((funext (hA_346 34 rfl)).trans ((funext (hA_319 34 rfl)).trans ((funext (hA_286 34 rfl)).trans ((funext (hA_c268 34 rfl)).trans (ewc247_34)))))) (wc247_35) ((funext (hA_373 35 rfl)).trans ((funext (hA_346 35 rfl)).trans ((funext (hA_319 35 rfl)).trans ((funext (hA_286 35 rfl)).trans ((funext (hA_c268 35 rfl)).trans (ewc247_35)))))) (wc247_36) ((funext (hA_373 36 rfl)).trans ((funext (hA_346 36 rfl)).trans ((funext (hA_319 36 rfl)).trans ((funext (hA_286 36 rfl)).trans ((funext (hA_c268 36 rfl)).trans (ewc247_36)))))) (wc247_37) ((funext (hA_373 37 rfl)).trans ((funext (hA_346 37 rfl)).trans ((funext (hA_319 37 rfl)).trans ((funext (hA_286 37 rfl)).trans ((funext (hA_c268 37 rfl)).trans (ewc247_37)))))) (show inr ((F 1 1 - xc247_1)) by omega) (show RT ((wc247_35)) ((wc247_36)) ((wc247_37)) ((wc247_34)) by assumption) (show DI ((tc36_0)) ((w319_27)) ((w346_28)) ((w373_29)) ((w373_30)) by assumption) (show 0 ≤ (tc36_0) ∧ (tc36_0) ≤ 1 by omega))
                      · have hx0 : (x373_3) = 0 → ((wc247_38)) ((x373_3)) = ((wc247_38)) 0 := fun e => by rw [e]
                        have hx1 : (x373_3) = 1 → ((wc247_38)) ((x373_3)) = ((wc247_38)) 1 := fun e => by rw [e]
                        have hx2 : (x373_3) = 2 → ((wc247_38)) ((x373_3)) = ((wc247_38)) 2 := fun e => by rw [e]
                        refine Ew_of (pc' := 379) (fun _ => x_aload_n rfl l373_0) ?_
                        refine w_gT H (o := 5) (t := 29) rfl (H.perm 5 rfl) rfl rfl rfl rfl rfl rfl ?_
                        refine Ew_of (pc' := 383) (fun _ => x_iload_n rfl l373_3) ?_
                        refine Ew_of (pc' := 384) (fun _ => x_aload_n rfl l373_0) ?_
                        refine w_gT H (o := 5) (t := 34) rfl (H.perm 5 rfl) rfl rfl rfl rfl rfl rfl ?_
                        refine Ew_of (pc' := 388) (fun _ => x_iload_n rfl l373_3) ?_
                        refine w_lI H (o := 34) (n := 3) rfl (H.perm 34 rfl) rfl rfl (H.fix 34 rfl rfl) (show 0 ≤ x373_3 ∧ x373_3 < ((3 : Nat) : Int) by omega) (by decide) (fun v9 ev9 qv9 => ?_)
                        have qv9 : (-1 : Int) ≤ v9 ∧ v9 ≤ 9 := qv9
                        have ev9 : (wc247_34) (x373_3) = v9 := (congrFun ((funext (hA_373 34 rfl)).trans ((funext (hA_346 34 rfl)).trans ((funext (hA_319 34 rfl)).trans ((funext (hA_286 34 rfl)).trans ((funext (hA_c268 34 rfl)).trans (ewc247_34)))))) (x373_3)).symm.trans ev9
                        refine w_sI H (o := 29) (n := 3) rfl (H.perm 29 rfl) rfl rfl (H.fix 29 rfl rfl) (show 0 ≤ x373_3 ∧ x373_3 < ((3 : Nat) : Int) by omega) (by decide) (show (-1 : Int) ≤ v9 ∧ v9 ≤ 9 by omega) (fun σ H => ?_)
                        refine Ew_of (pc' := 391) (fun _ => x_aload_n rfl l373_0) ?_
                        refine w_gT H (o := 5) (t := 30) rfl (H.perm 5 rfl) rfl rfl rfl rfl rfl rfl ?_
                        refine Ew_of (pc' := 395) (fun _ => x_iload_n rfl l373_3) ?_
                        refine Ew_of (pc' := 396) (fun _ => x_aload_n rfl l373_0) ?_
                        refine w_gT H (o := 5) (t := 38) rfl (H.perm 5 rfl) rfl rfl rfl rfl rfl rfl ?_
                        refine Ew_of (pc' := 400) (fun _ => x_iload_n rfl l373_3) ?_
                        refine w_lJ H (o := 38) (n := 3) rfl (H.perm 38 rfl) rfl rfl (H.fix 38 rfl rfl) (show 0 ≤ x373_3 ∧ x373_3 < ((3 : Nat) : Int) by omega) (by decide) (fun v10 ev10 qv10 => ?_)
                        have qv10 : (-9223372036854775808 : Int) ≤ v10 ∧ v10 ≤ 9223372036854775807 := qv10
                        have ev10 : (wc247_38) (x373_3) = v10 := (congrFun ((funext (hA_373 38 rfl)).trans ((funext (hA_346 38 rfl)).trans ((funext (hA_319 38 rfl)).trans ((funext (hA_286 38 rfl)).trans ((funext (hA_c268 38 rfl)).trans (ewc247_38)))))) (x373_3)).symm.trans ev10
                        refine w_sJ H (o := 30) (n := 3) rfl (H.perm 30 rfl) rfl rfl (H.fix 30 rfl rfl) (show 0 ≤ x373_3 ∧ x373_3 < ((3 : Nat) : Int) by omega) (by decide) (show (-9223372036854775808 : Int) ≤ v10 ∧ v10 ≤ 9223372036854775807 by omega) (fun σ H => ?_)
                        refine Ew_of (pc' := 405) (fun _ => x_iinc (len := 3) rfl (l373_3)) ?_
                        refine Ew_of (pc' := 373) (fun _ => x_goto rfl rfl) ?_
                        have : ∀ i, (0 : Int) ≤ i → i < ((x373_3 + 1)) → ((upd1 (w373_29) (x373_3) (v9))) i = ((wc247_34)) i := pt_copy j373_3 (by omega)
                        have hu0 : 0 < ((x373_3 + 1)) → ((upd1 (w373_30) (x373_3) (v10))) 0 = ((wc247_38)) 0 := by simp only [upd1]; omega
                        have hu1 : 1 < ((x373_3 + 1)) → ((upd1 (w373_30) (x373_3) (v10))) 1 = ((wc247_38)) 1 := by simp only [upd1]; omega
                        have hu2 : 2 < ((x373_3 + 1)) → ((upd1 (w373_30) (x373_3) (v10))) 2 = ((wc247_38)) 2 := by simp only [upd1]; omega
                        exact ih373 _ (by omega) _ σ _ _ ((x373_3 + 1)) (rk_o (l373_0) rfl rfl) (rk_s) H (hS_373) (SA_upd (SA_upd (hA_373) rfl) rfl)  (upd1 (w373_29) (x373_3) (v9)) (congrArg (fun q => upd1 q (x373_3) (v9)) (ew373_29)) (upd1 (w373_30) (x373_3) (v10)) (congrArg (fun q => upd1 q (x373_3) (v10)) (ew373_30)) (show inr ((x373_3 + 1)) by omega) (show (0) ≤ ((x373_3 + 1)) by omega) (show ((x373_3 + 1)) ≤ (0) ∨ ((x373_3 + 1)) ≤ (3) by omega) (show ∀ i, 0 ≤ i → i < ((x373_3 + 1)) → ((upd1 (w373_29) (x373_3) (v9))) i = ((wc247_34)) i by assumption) (show 0 < ((x373_3 + 1)) → ((upd1 (w373_30) (x373_3) (v10))) 0 = ((wc247_38)) 0 by omega) (show 1 < ((x373_3 + 1)) → ((upd1 (w373_30) (x373_3) (v10))) 1 = ((wc247_38)) 1 by omega) (show 2 < ((x373_3 + 1)) → ((upd1 (w373_30) (x373_3) (v10))) 2 = ((wc247_38)) 2 by omega) rfl
                  · refine Ew_of (pc' := 354) (fun _ => x_aload_n rfl l346_0) ?_
                    refine w_gT H (o := 5) (t := 28) rfl (H.perm 5 rfl) rfl rfl rfl rfl rfl rfl ?_
                    refine Ew_of (pc' := 358) (fun _ => x_iload_n rfl l346_3) ?_
                    refine Ew_of (pc' := 359) (fun _ => x_aload_n rfl l346_0) ?_
                    refine w_gT H (o := 5) (t := 33) rfl (H.perm 5 rfl) rfl rfl rfl rfl rfl rfl ?_
                    refine Ew_of (pc' := 363) (fun _ => x_iload_n rfl l346_3) ?_
                    refine w_lI H (o := 33) (n := 192) rfl (H.perm 33 rfl) rfl rfl (H.fix 33 rfl rfl) (show 0 ≤ x346_3 ∧ x346_3 < ((192 : Nat) : Int) by omega) (by decide) (fun v11 ev11 qv11 => ?_)
                    have qv11 : (-1 : Int) ≤ v11 ∧ v11 ≤ 512 := qv11
                    have ev11 : (wc247_33) (x346_3) = v11 := (congrFun ((funext (hA_346 33 rfl)).trans ((funext (hA_319 33 rfl)).trans ((funext (hA_286 33 rfl)).trans ((funext (hA_c268 33 rfl)).trans (ewc247_33))))) (x346_3)).symm.trans ev11
                    refine w_sI H (o := 28) (n := 192) rfl (H.perm 28 rfl) rfl rfl (H.fix 28 rfl rfl) (show 0 ≤ x346_3 ∧ x346_3 < ((192 : Nat) : Int) by omega) (by decide) (show (-1 : Int) ≤ v11 ∧ v11 ≤ 512 by omega) (fun σ H => ?_)
                    refine Ew_of (pc' := 368) (fun _ => x_iinc (len := 3) rfl (l346_3)) ?_
                    refine Ew_of (pc' := 346) (fun _ => x_goto rfl rfl) ?_
                    have : ∀ i, (0 : Int) ≤ i → i < ((x346_3 + 1)) → ((upd1 (w346_28) (x346_3) (v11))) i = ((wc247_33)) i := pt_copy j346_3 (by omega)
                    exact ih346 _ (by omega) _ σ _ _ ((x346_3 + 1)) (rk_o (l346_0) rfl rfl) (rk_s) H (hS_346) (SA_upd (hA_346) rfl)  (upd1 (w346_28) (x346_3) (v11)) (congrArg (fun q => upd1 q (x346_3) (v11)) (ew346_28)) (show inr ((x346_3 + 1)) by omega) (show (0) ≤ ((x346_3 + 1)) by omega) (show ((x346_3 + 1)) ≤ (0) ∨ ((x346_3 + 1)) ≤ ((192)) by omega) (show ∀ i, 0 ≤ i → i < ((x346_3 + 1)) → ((upd1 (w346_28) (x346_3) (v11))) i = ((wc247_33)) i by assumption) rfl
              · refine Ew_of (pc' := 327) (fun _ => x_aload_n rfl l319_0) ?_
                refine w_gT H (o := 5) (t := 27) rfl (H.perm 5 rfl) rfl rfl rfl rfl rfl rfl ?_
                refine Ew_of (pc' := 331) (fun _ => x_iload_n rfl l319_3) ?_
                refine Ew_of (pc' := 332) (fun _ => x_aload_n rfl l319_0) ?_
                refine w_gT H (o := 5) (t := 31) rfl (H.perm 5 rfl) rfl rfl rfl rfl rfl rfl ?_
                refine Ew_of (pc' := 336) (fun _ => x_iload_n rfl l319_3) ?_
                refine w_lI H (o := 31) (n := 256) rfl (H.perm 31 rfl) rfl rfl (H.fix 31 rfl rfl) (show 0 ≤ x319_3 ∧ x319_3 < ((256 : Nat) : Int) by omega) (by decide) (fun v12 ev12 qv12 => ?_)
                have qv12 : (0 : Int) ≤ v12 ∧ v12 ≤ 11 := qv12
                have ev12 : (wc247_31) (x319_3) = v12 := (congrFun ((funext (hA_319 31 rfl)).trans ((funext (hA_286 31 rfl)).trans ((funext (hA_c268 31 rfl)).trans (ewc247_31)))) (x319_3)).symm.trans ev12
                refine w_sI H (o := 27) (n := 256) rfl (H.perm 27 rfl) rfl rfl (H.fix 27 rfl rfl) (show 0 ≤ x319_3 ∧ x319_3 < ((256 : Nat) : Int) by omega) (by decide) (show (0 : Int) ≤ v12 ∧ v12 ≤ 11 by omega) (fun σ H => ?_)
                refine Ew_of (pc' := 341) (fun _ => x_iinc (len := 3) rfl (l319_3)) ?_
                refine Ew_of (pc' := 319) (fun _ => x_goto rfl rfl) ?_
                have : ∀ i, (0 : Int) ≤ i → i < ((x319_3 + 1)) → ((upd1 (w319_27) (x319_3) (v12))) i = ((wc247_31)) i := pt_copy j319_3 (by omega)
                exact ih319 _ (by omega) _ σ _ _ ((x319_3 + 1)) (rk_o (l319_0) rfl rfl) (rk_s) H (hS_319) (SA_upd (hA_319) rfl)  (upd1 (w319_27) (x319_3) (v12)) (congrArg (fun q => upd1 q (x319_3) (v12)) (ew319_27)) (show inr ((x319_3 + 1)) by omega) (show (0) ≤ ((x319_3 + 1)) by omega) (show ((x319_3 + 1)) ≤ (0) ∨ ((x319_3 + 1)) ≤ ((256)) by omega) (show ∀ i, 0 ≤ i → i < ((x319_3 + 1)) → ((upd1 (w319_27) (x319_3) (v12))) i = ((wc247_31)) i by assumption) rfl
          · refine Ew_of (pc' := 295) (fun _ => x_aload_n rfl l286_0) ?_
            refine w_gT H (o := 5) (t := 26) rfl (H.perm 5 rfl) rfl rfl rfl rfl rfl rfl ?_
            refine Ew_of (pc' := 299) (fun _ => x_iload_n rfl l286_3) ?_
            refine Ew_of (pc' := 300) (fun _ => x_aload_n rfl l286_0) ?_
            refine w_gT H (o := 5) (t := 1) rfl (H.perm 5 rfl) rfl rfl rfl rfl rfl rfl ?_
            refine w_gT H (o := 1) (t := 14) rfl (H.perm 1 rfl) rfl rfl rfl rfl rfl rfl ?_
            refine Ew_of (pc' := 307) (fun _ => x_iload_n rfl l286_1) ?_
            refine Ew_of (pc' := 308) (fun _ => x_iload_n rfl l286_3) ?_
            refine w_iadd rfl ?_
            refine w_lI H (o := 14) (n := 65536) rfl (H.perm 14 rfl) rfl rfl (H.fix 14 rfl rfl) (show 0 ≤ (xc247_1 + x286_3) ∧ (xc247_1 + x286_3) < ((65536 : Nat) : Int) by omega) (by decide) (fun v13 ev13 qv13 => ?_)
            have qv13 : (0 : Int) ≤ v13 ∧ v13 ≤ 255 := qv13
            have ev13 : (A 14) ((xc247_1 + x286_3)) = v13 := (congrFun ((funext (hA_286 14 rfl)).trans ((funext (hA_c268 14 rfl)).trans ((funext (hA_c247 14 rfl)).trans (funext (hA_c36 14 rfl))))) ((xc247_1 + x286_3))).symm.trans ev13
            refine w_sI H (o := 26) (n := 65536) rfl (H.perm 26 rfl) rfl rfl (H.fix 26 rfl rfl) (show 0 ≤ x286_3 ∧ x286_3 < ((65536 : Nat) : Int) by omega) (by decide) (show (0 : Int) ≤ v13 ∧ v13 ≤ 255 by omega) (fun σ H => ?_)
            refine Ew_of (pc' := 314) (fun _ => x_iinc (len := 3) rfl (l286_3)) ?_
            refine Ew_of (pc' := 286) (fun _ => x_goto rfl rfl) ?_
            exact ih286 _ (by omega) _ σ _ _ ((x286_3 + 1)) (rk_o (l286_0) rfl rfl) (rk_o (l286_1) rfl rfl) (rk_s) H (hS_286) (SA_upd (hA_286) rfl)   (show inr ((x286_3 + 1)) by omega) (show (0) ≤ ((x286_3 + 1)) by omega) (show ((x286_3 + 1)) ≤ (0) ∨ ((x286_3 + 1)) ≤ (((F 1 1 - xc247_1))) by omega) rfl
      refine Ew_of (pc' := 254) (fun _ => x_iload_n rfl lc247_2) ?_
      refine w_ifeq (t := 267) rfl rfl (show inr (tc36_0) by omega) (fun b14 => ?_) (fun b14 => ?_)
      · refine Ew_of (pc' := 268) (fun _ => x_iconst rfl) ?_
        exact hc268 (0) _ σ _ _  (lc247_0) (lc247_1) H (SF_refl) (SA_refl)   (show inr (0) by omega)
      · refine Ew_of (pc' := 258) (fun _ => x_aload_n rfl lc247_0) ?_
        refine Ew_of (pc' := 259) (fun _ => x_iconst rfl) ?_
        refine Ew_of (pc' := 260) (fun _ => x_iconst rfl) ?_
        refine w_inv H (o := 5) rfl rfl rfl (H.perm 5 rfl) rfl rfl (by rfl) (M257 H (A 14) ((funext (hA_c247 14 rfl)).trans (funext (hA_c36 14 rfl))) (show inr (4) by omega) (show inr (4) by omega) (show 0 ≤ (4) ∧ 0 ≤ (4) ∧ (4) ≤ 8 ∧ (4) + (4) ≤ 65536 by omega) (fun z19 σ F15 A16 H hS17 hA18 pz19_0 pz19_1 pz19_2 pz19_3 pz19_4 pz19_5 pz19_6 pz19_7 pz19_8 => ⟨rfl, ?_⟩))
        replace pz19_1 := pz19_1.resolve_left (by decide)
        replace pz19_2 := pz19_2.resolve_right (by decide)
        replace pz19_3 := pz19_3 (by decide)
        clear pz19_4
        clear pz19_5
        clear pz19_6
        clear pz19_7
        replace pz19_8 := pz19_8 (by decide)
        refine w_l2iA rfl (fun z20 gz20 => ?_)
        refine Ew_of (pc' := 268) (fun _ => x_goto rfl rfl) ?_
        exact hc268 (z20) _ σ _ _  (lc247_0) (lc247_1) H (SF_trans (SF_refl) hS17 (any_sub rfl)) (SA_trans (SA_refl) hA18 (any_subA rfl))   (show inr (z20) by omega)
    refine Ew_of (pc' := 38) (fun _ => x_iload_n rfl rk_s) ?_
    refine w_ifeq (t := 247) rfl rfl (show inr (tc36_0) by omega) (fun b21 => ?_) (fun b21 => ?_)
    · have : (tc36_0) = 1 → CI ((A 31)) ((F 5 10)) := by first | exact (fun q => absurd q (by omega)) | exact (fun _ => by first | exact hci | assumption)
      have : (tc36_0) = 1 → PS ((A 33)) ((w34)) 0 := by first | exact (fun q => absurd q (by omega)) | exact (fun _ => j79_7 (by omega))
      have : (tc36_0) = 1 → PS ((A 33)) ((w34)) 1 := by first | exact (fun q => absurd q (by omega)) | exact (fun _ => j79_5 (by omega))
      have : (tc36_0) = 1 → PS ((A 33)) ((w34)) 2 := by first | exact (fun q => absurd q (by omega)) | exact (fun _ => j79_6 (by omega))
      exact hc247  _ σ _ _ (0) (rk_o (lc36_0) rfl rfl) (rk_o (lc36_1) rfl rfl) (rk_s) H (SF_refl) (SA_refl) (F 5 10) ((hS_c36 5 10 rfl)) (A 31) (funext (hA_c36 31 rfl)) (A 33) (funext (hA_c36 33 rfl)) (w34) ((funext (hA_c36 34 rfl)).trans (ew34)) (w35) ((funext (hA_c36 35 rfl)).trans (ew35)) (w36) ((funext (hA_c36 36 rfl)).trans (ew36)) (w37) ((funext (hA_c36 37 rfl)).trans (ew37)) (A 38) (funext (hA_c36 38 rfl)) (show inr (0) by omega) (show 0 ≤ (0) ∧ (0) ≤ (F 1 1) by omega) (show (tc36_0) = 1 → 8 ≤ (F 1 1) by omega) (show RT ((w35)) ((w36)) ((w37)) ((w34)) by assumption) (show (tc36_0) = 1 → CI ((A 31)) ((F 5 10)) by first | assumption | exact fun h => absurd rfl h | exact fun h => absurd h (by decide) | omega) (show (tc36_0) = 1 → PS ((A 33)) ((w34)) 0 by first | assumption | exact fun h => absurd rfl h | exact fun h => absurd h (by decide) | omega) (show (tc36_0) = 1 → PS ((A 33)) ((w34)) 1 by first | assumption | exact fun h => absurd rfl h | exact fun h => absurd h (by decide) | omega) (show (tc36_0) = 1 → PS ((A 33)) ((w34)) 2 by first | assumption | exact fun h => absurd rfl h | exact fun h => absurd h (by decide) | omega) (show (tc36_0) = 1 → 1 ≤ ((A 38)) 0 ∧ 1 ≤ ((A 38)) 1 ∧ 1 ≤ ((A 38)) 2 by omega)
    · refine Ew_of (pc' := 42) (fun _ => x_aload_n rfl (rk_o (lc36_0) rfl rfl)) ?_
      refine w_gT H (o := 5) (t := 1) rfl (H.perm 5 rfl) rfl rfl rfl rfl rfl rfl ?_
      refine w_gI H (o := 1) (w := F 1 1) rfl (H.perm 1 rfl) rfl rfl rfl (fun _ => rfl) (hS_c36 1 1 rfl) ?_
      refine Ew_of (pc' := 50) (fun _ => x_bipush (z := 8) rfl (by decide)) ?_
      refine w_icmpge (t := 55) rfl rfl (show inr (F 1 1) by omega) (show inr (8) by omega) (fun b22 => ?_) (fun b22 => ?_)
      · refine Ew_of (pc' := 56) (fun _ => x_aload_n rfl (rk_o (lc36_0) rfl rfl)) ?_
        refine Ew_of (pc' := 58) (fun _ => x_bipush (z := 8) rfl (by decide)) ?_
        refine Ew_of (pc' := 59) (fun _ => x_aload_n rfl (rk_o (lc36_0) rfl rfl)) ?_
        refine w_gT H (o := 5) (t := 1) rfl (H.perm 5 rfl) rfl rfl rfl rfl rfl rfl ?_
        refine w_gI H (o := 1) (w := F 1 1) rfl (H.perm 1 rfl) rfl rfl rfl (fun _ => rfl) (hS_c36 1 1 rfl) ?_
        refine w_inv H (o := 5) rfl rfl rfl (H.perm 5 rfl) rfl rfl (by rfl) (M271 H (show inr (8) by omega) (show inr (F 1 1) by omega) (show 0 ≤ (8) ∧ (8) ≤ 65536 ∧ 0 ≤ (F 1 1) ∧ (F 1 1) ≤ 65536 by omega) (fun z27 σ F23 A24 H hS25 hA26 y28 ey29 wq30 ewq31 pz27_0 pz27_1 pz27_2 => ⟨rfl, ?_⟩))
        have r32 : (0 : Int) ≤ y28 ∧ y28 ≤ 11 := by have h1 : (0 : Int) ≤ F23 5 10 ∧ F23 5 10 ≤ 11 := H.frng 5 10; rw [show F23 5 10 = y28 from (ey29)] at h1; exact h1
        refine Ew_of (pc' := 69) (fun _ => x_istore_n rfl) ?_
        refine Ew_of (pc' := 70) (fun _ => x_iload_n rfl rk_s) ?_
        refine w_ifge (t := 76) rfl rfl (show inr (z27) by omega) (fun b33 => ?_) (fun b33 => ?_)
        · have hci : CI ((wq30)) ((y28)) := pz27_2 (by omega)
          refine Ew_of (pc' := 77) (fun _ => x_iconst rfl) ?_
          refine Ew_of (pc' := 79) (fun _ => x_istore rfl) ?_
          have : (0 : Int) < 0 → PS ((A 33)) ((w34)) 1 := fun q => absurd q (by decide)
          have : (1 : Int) < 0 → PS ((A 33)) ((w34)) 2 := fun q => absurd q (by decide)
          have : (2 : Int) < 0 → PS ((A 33)) ((w34)) 0 := fun q => absurd q (by decide)
          suffices hl79 : ∀ (m : Nat), ∀ (ls : rO) (σ : rS) (F_79 : hF) (A_79 : hA) (x79_3 : Int) (x79_4 : Int), rlook ls 0 = some (.ref (D 5)) → rlook ls 2 = some (I (tc36_0)) → rlook ls 3 = some (I (x79_3)) → rlook ls 4 = some (I (x79_4)) → HS σ0 σ D N F_79 A_79 → SF [(5, 19)] F23 F_79 → SA [33, 34, 35, 36, 37, 39, 41] A24 A_79 → ∀ w79_33 : Int → Int, A_79 33 = w79_33 → ∀ w79_34 : Int → Int, A_79 34 = w79_34 → ∀ w79_35 : Int → Int, A_79 35 = w79_35 → ∀ w79_36 : Int → Int, A_79 36 = w79_36 → ∀ w79_37 : Int → Int, A_79 37 = w79_37 → (inr (x79_3)) → (inr (x79_4)) → (0 ≤ (x79_4) ∧ (x79_4) ≤ 3) → (8 ≤ (x79_3) ∧ (x79_3) ≤ (F 1 1)) → (RT ((w79_35)) ((w79_36)) ((w79_37)) ((w79_34))) → (0 < (x79_4) → PS ((w79_33)) ((w79_34)) 1) → (1 < (x79_4) → PS ((w79_33)) ((w79_34)) 2) → (2 < (x79_4) → PS ((w79_33)) ((w79_34)) 0) → (3 - (x79_4)).toNat = m → Ew 275 (d + 4) 79 ls [] σ c s Q from
            hl79 _ _ σ _ _ (z27) (0) (rk_o (rk_o (rk_o (lc36_0) rfl rfl) rfl rfl) rfl rfl) (rk_o (rk_o (rk_s) rfl rfl) rfl rfl) (rk_o (rk_s) rfl rfl) (rk_s) H (SF_refl) (SA_refl)  (A 33) ((funext (hA26 33 rfl)).trans (funext (hA_c36 33 rfl))) (w34) ((funext (hA26 34 rfl)).trans ((funext (hA_c36 34 rfl)).trans (ew34))) (w35) ((funext (hA26 35 rfl)).trans ((funext (hA_c36 35 rfl)).trans (ew35))) (w36) ((funext (hA26 36 rfl)).trans ((funext (hA_c36 36 rfl)).trans (ew36))) (w37) ((funext (hA26 37 rfl)).trans ((funext (hA_c36 37 rfl)).trans (ew37))) (show inr (z27) by omega) (show inr (0) by omega) (show 0 ≤ (0) ∧ (0) ≤ 3 by omega) (show 8 ≤ (z27) ∧ (z27) ≤ (F 1 1) by omega) (show RT ((w35)) ((w36)) ((w37)) ((w34)) by assumption) (show 0 < (0) → PS ((A 33)) ((w34)) 1 by assumption) (show 1 < (0) → PS ((A 33)) ((w34)) 2 by assumption) (show 2 < (0) → PS ((A 33)) ((w34)) 0 by assumption) rfl
          as_aux_lemma =>
          intro m
          induction m using Nat.strongRecOn with
          | _ m ih79 =>
            intro ls σ F_79 A_79 x79_3 x79_4 l79_0 l79_2 l79_3 l79_4 H hS_79 hA_79  w79_33 ew79_33 w79_34 ew79_34 w79_35 ew79_35 w79_36 ew79_36 w79_37 ew79_37 j79_0 j79_1 j79_2 j79_3 j79_4 j79_5 j79_6 j79_7 hm79
            refine Ew_of (pc' := 81) (fun _ => x_iload rfl l79_4) ?_
            refine Ew_of (pc' := 82) (fun _ => x_iconst rfl) ?_
            refine w_icmpge (t := 157) rfl rfl (show inr (x79_4) by omega) (show inr (3) by omega) (fun b34 => ?_) (fun b34 => ?_)
            · refine Ew_of (pc' := 158) (fun _ => x_aload_n rfl l79_0) ?_
              refine w_gT H (o := 5) (t := 1) rfl (H.perm 5 rfl) rfl rfl rfl rfl rfl rfl ?_
              refine w_gI H (o := 1) (w := F 1 1) rfl (H.perm 1 rfl) rfl rfl rfl (fun _ => rfl) (((hS_79 1 1 rfl).trans (hS25 1 1 rfl)).trans (hS_c36 1 1 rfl)) ?_
              refine Ew_of (pc' := 165) (fun _ => x_iload_n rfl l79_3) ?_
              refine Ew_of (pc' := 167) (fun _ => x_bipush (z := 12) rfl (by decide)) ?_
              refine w_iadd rfl ?_
              refine w_icmpge (t := 173) rfl rfl (show inr (F 1 1) by omega) (show inr ((x79_3 + 12)) by omega) (fun b35 => ?_) (fun b35 => ?_)
              · refine Ew_of (pc' := 174) (fun _ => x_iload_n rfl l79_3) ?_
                refine Ew_of (pc' := 176) (fun _ => x_bipush (z := 12) rfl (by decide)) ?_
                refine w_iadd rfl ?_
                refine Ew_of (pc' := 178) (fun _ => x_istore_n rfl) ?_
                refine Ew_of (pc' := 179) (fun _ => x_iconst rfl) ?_
                refine Ew_of (pc' := 181) (fun _ => x_istore rfl) ?_
                suffices hl181 : ∀ (m : Nat), ∀ (ls : rO) (σ : rS) (F_181 : hF) (A_181 : hA) (x181_4 : Int), rlook ls 0 = some (.ref (D 5)) → rlook ls 1 = some (I ((x79_3 + 12))) → rlook ls 2 = some (I (tc36_0)) → rlook ls 3 = some (I (x79_3)) → rlook ls 4 = some (I (x181_4)) → HS σ0 σ D N F_181 A_181 → SF [] F_79 F_181 → SA [38] A_79 A_181 → ∀ w181_38 : Int → Int, A_181 38 = w181_38 → (inr (x181_4)) → (0 ≤ (x181_4) ∧ (x181_4) ≤ 3) → (0 < (x181_4) → 1 ≤ ((w181_38)) 0) → (1 < (x181_4) → 1 ≤ ((w181_38)) 1) → (2 < (x181_4) → 1 ≤ ((w181_38)) 2) → (3 - (x181_4)).toNat = m → Ew 275 (d + 4) 181 ls [] σ c s Q from
                  hl181 _ _ σ _ _ (0) (rk_o (rk_o (l79_0) rfl rfl) rfl rfl) (rk_o (rk_s) rfl rfl) (rk_o (rk_o (l79_2) rfl rfl) rfl rfl) (rk_o (rk_o (l79_3) rfl rfl) rfl rfl) (rk_s) H (SF_refl) (SA_refl)  (A 38) ((funext (hA_79 38 rfl)).trans ((funext (hA26 38 rfl)).trans (funext (hA_c36 38 rfl)))) (show inr (0) by omega) (show 0 ≤ (0) ∧ (0) ≤ 3 by omega) (show 0 < (0) → 1 ≤ ((A 38)) 0 by omega) (show 1 < (0) → 1 ≤ ((A 38)) 1 by omega) (show 2 < (0) → 1 ≤ ((A 38)) 2 by omega) rfl
                as_aux_lemma =>
                intro m
                induction m using Nat.strongRecOn with
                | _ m ih181 =>
                  intro ls σ F_181 A_181 x181_4 l181_0 l181_1 l181_2 l181_3 l181_4 H hS_181 hA_181  w181_38 ew181_38 j181_0 j181_1 j181_2 j181_3 j181_4 hm181
                  refine Ew_of (pc' := 183) (fun _ => x_iload rfl l181_4) ?_
                  refine Ew_of (pc' := 184) (fun _ => x_iconst rfl) ?_
                  refine w_icmpge (t := 247) rfl rfl (show inr (x181_4) by omega) (show inr (3) by omega) (fun b36 => ?_) (fun b36 => ?_)
                  · have : (tc36_0) = 1 → CI ((wq30)) ((y28)) := by first | exact (fun q => absurd q (by omega)) | exact (fun _ => by first | exact hci | assumption)
                    have : (tc36_0) = 1 → PS ((w79_33)) ((w79_34)) 0 := by first | exact (fun q => absurd q (by omega)) | exact (fun _ => j79_7 (by omega))
                    have : (tc36_0) = 1 → PS ((w79_33)) ((w79_34)) 1 := by first | exact (fun q => absurd q (by omega)) | exact (fun _ => j79_5 (by omega))
                    have : (tc36_0) = 1 → PS ((w79_33)) ((w79_34)) 2 := by first | exact (fun q => absurd q (by omega)) | exact (fun _ => j79_6 (by omega))
                    exact hc247  _ σ _ _ ((x79_3 + 12)) (l181_0) (l181_1) (l181_2) H (SF_trans (SF_trans (SF_trans (SF_refl) hS25 (any_sub rfl)) hS_79 (any_sub rfl)) hS_181 (any_sub rfl)) (SA_trans (SA_trans (SA_trans (SA_refl) hA26 (any_subA rfl)) hA_79 (any_subA rfl)) hA_181 (any_subA rfl)) (y28) ((((hS_181 5 10 rfl).trans (hS_79 5 10 rfl)).trans (ey29))) (wq30) ((funext (hA_181 31 rfl)).trans ((funext (hA_79 31 rfl)).trans (ewq31))) (w79_33) ((funext (hA_181 33 rfl)).trans (ew79_33)) (w79_34) ((funext (hA_181 34 rfl)).trans (ew79_34)) (w79_35) ((funext (hA_181 35 rfl)).trans (ew79_35)) (w79_36) ((funext (hA_181 36 rfl)).trans (ew79_36)) (w79_37) ((funext (hA_181 37 rfl)).trans (ew79_37)) (w181_38) (ew181_38) (show inr ((x79_3 + 12)) by omega) (show 0 ≤ ((x79_3 + 12)) ∧ ((x79_3 + 12)) ≤ (F 1 1) by omega) (show (tc36_0) = 1 → 8 ≤ (F 1 1) by omega) (show RT ((w79_35)) ((w79_36)) ((w79_37)) ((w79_34)) by assumption) (show (tc36_0) = 1 → CI ((wq30)) ((y28)) by first | assumption | exact fun h => absurd rfl h | exact fun h => absurd h (by decide) | omega) (show (tc36_0) = 1 → PS ((w79_33)) ((w79_34)) 0 by first | assumption | exact fun h => absurd rfl h | exact fun h => absurd h (by decide) | omega) (show (tc36_0) = 1 → PS ((w79_33)) ((w79_34)) 1 by first | assumption | exact fun h => absurd rfl h | exact fun h => absurd h (by decide) | omega) (show (tc36_0) = 1 → PS ((w79_33)) ((w79_34)) 2 by first | assumption | exact fun h => absurd rfl h | exact fun h => absurd h (by decide) | omega) (show (tc36_0) = 1 → 1 ≤ ((w181_38)) 0 ∧ 1 ≤ ((w181_38)) 1 ∧ 1 ≤ ((w181_38)) 2 by omega)
                  · refine Ew_of (pc' := 188) (fun _ => x_aload_n rfl l181_0) ?_
                    refine w_gT H (o := 5) (t := 38) rfl (H.perm 5 rfl) rfl rfl rfl rfl rfl rfl ?_
                    refine Ew_of (pc' := 193) (fun _ => x_iload rfl l181_4) ?_
                    refine Ew_of (pc' := 194) (fun _ => x_aload_n rfl l181_0) ?_
                    refine Ew_of (pc' := 195) (fun _ => x_iload_n rfl l181_3) ?_
                    refine Ew_of (pc' := 196) (fun _ => x_iconst rfl) ?_
                    refine Ew_of (pc' := 198) (fun _ => x_iload rfl l181_4) ?_
                    refine w_imul rfl ?_
                    refine w_iadd rfl ?_
                    refine Ew_of (pc' := 201) (fun _ => x_iconst rfl) ?_
                    refine w_inv H (o := 5) rfl rfl rfl (H.perm 5 rfl) rfl rfl (by rfl) (M257 H (A 14) ((funext (hA_181 14 rfl)).trans ((funext (hA_79 14 rfl)).trans ((funext (hA26 14 rfl)).trans (funext (hA_c36 14 rfl))))) (show inr ((x79_3 + (4 * x181_4))) by omega) (show inr (4) by omega) (show 0 ≤ ((x79_3 + (4 * x181_4))) ∧ 0 ≤ (4) ∧ (4) ≤ 8 ∧ ((x79_3 + (4 * x181_4))) + (4) ≤ 65536 by omega) (fun z41 σ F37 A38 H hS39 hA40 pz41_0 pz41_1 pz41_2 pz41_3 pz41_4 pz41_5 pz41_6 pz41_7 pz41_8 => ⟨rfl, ?_⟩))
                    replace pz41_1 := pz41_1.resolve_left (by decide)
                    replace pz41_2 := pz41_2.resolve_right (by decide)
                    replace pz41_3 := pz41_3 (by decide)
                    clear pz41_4
                    clear pz41_5
                    clear pz41_6
                    clear pz41_7
                    replace pz41_8 := pz41_8 (by decide)
                    refine w_sJ H (o := 38) (n := 3) rfl (H.perm 38 rfl) rfl rfl (H.fix 38 rfl rfl) (show 0 ≤ x181_4 ∧ x181_4 < ((3 : Nat) : Int) by omega) (by decide) (show (-9223372036854775808 : Int) ≤ z41 ∧ z41 ≤ 9223372036854775807 by omega) (fun σ H => ?_)
                    refine Ew_of (pc' := 206) (fun _ => x_aload_n rfl l181_0) ?_
                    refine w_gT H (o := 5) (t := 38) rfl (H.perm 5 rfl) rfl rfl rfl rfl rfl rfl ?_
                    refine Ew_of (pc' := 211) (fun _ => x_iload rfl l181_4) ?_
                    refine w_lJ H (o := 38) (n := 3) rfl (H.perm 38 rfl) rfl rfl (H.fix 38 rfl rfl) (show 0 ≤ x181_4 ∧ x181_4 < ((3 : Nat) : Int) by omega) (by decide) (fun v42 ev42 qv42 => ?_)
                    have qv42 : (-9223372036854775808 : Int) ≤ v42 ∧ v42 ≤ 9223372036854775807 := qv42
                    have ev42 : (upd1 (w181_38) (x181_4) (z41)) (x181_4) = v42 := (congrFun (congrArg (fun q => upd1 q (x181_4) (z41)) ((funext (hA40 38 rfl)).trans (ew181_38))) (x181_4)).symm.trans ev42
                    have hq := ev42
                    rw [upd1_s] at hq
                    refine Ew_of (pc' := 213) (fun _ => x_lconst (z := 0) rfl (by decide)) ?_
                    refine w_lcmp rfl (show inrJ (v42) by omega) (show inrJ (0) by omega) (fun z43 gz43 gaz43 gbz43 => ?_)
                    refine w_ifeq (t := 238) rfl rfl (show inr (z43) by omega) (fun b44 => ?_) (fun b44 => ?_)
                    · refine Ew_of (pc' := 240) (fun _ => x_bipush (z := -4) rfl (by decide)) ?_
                      exact w_ireturn rfl (k ((-4)) σ _ _ H (SF_trans (SF_trans (SF_trans (SF_trans (SF_trans (SF_refl) hS_c36 (any_sub rfl)) hS25 (any_sub rfl)) hS_79 (any_sub rfl)) hS_181 (any_sub rfl)) hS39 (any_sub rfl)) (SA_upd (SA_trans (SA_trans (SA_trans (SA_trans (SA_trans (SA_refl) hA_c36 (any_subA rfl)) hA26 (any_subA rfl)) hA_79 (any_subA rfl)) hA_181 (any_subA rfl)) hA40 (any_subA rfl)) rfl) (u5_4) (((((((hS39 5 4 rfl).trans (hS_181 5 4 rfl)).trans (hS_79 5 4 rfl)).trans (hS25 5 4 rfl)).trans (hS_c36 5 4 rfl)).trans (eu5_4))) (w27) ((funext (hA40 27 rfl)).trans ((funext (hA_181 27 rfl)).trans ((funext (hA_79 27 rfl)).trans ((funext (hA26 27 rfl)).trans ((funext (hA_c36 27 rfl)).trans (ew27)))))) (w28) ((funext (hA40 28 rfl)).trans ((funext (hA_181 28 rfl)).trans ((funext (hA_79 28 rfl)).trans ((funext (hA26 28 rfl)).trans ((funext (hA_c36 28 rfl)).trans (ew28)))))) (w29) ((funext (hA40 29 rfl)).trans ((funext (hA_181 29 rfl)).trans ((funext (hA_79 29 rfl)).trans ((funext (hA26 29 rfl)).trans ((funext (hA_c36 29 rfl)).trans (ew29)))))) (w30) ((funext (hA40 30 rfl)).trans ((funext (hA_181 30 rfl)).trans ((funext (hA_79 30 rfl)).trans ((funext (hA26 30 rfl)).trans ((funext (hA_c36 30 rfl)).trans (ew30)))))) (w79_34) ((funext (hA40 34 rfl)).trans ((funext (hA_181 34 rfl)).trans (ew79_34))) (w79_35) ((funext (hA40 35 rfl)).trans ((funext (hA_181 35 rfl)).trans (ew79_35))) (w79_36) ((funext (hA40 36 rfl)).trans ((funext (hA_181 36 rfl)).trans (ew79_36))) (w79_37) ((funext (hA40 37 rfl)).trans ((funext (hA_181 37 rfl)).trans (ew79_37))) (show inr ((-4)) by omega) (show RT ((w79_35)) ((w79_36)) ((w79_37)) ((w79_34)) by assumption) (show DI ((u5_4)) ((w27)) ((w28)) ((w29)) ((w30)) by assumption) (show 0 ≤ (u5_4) ∧ (u5_4) ≤ 1 by omega))
                    · refine Ew_of (pc' := 218) (fun _ => x_aload_n rfl l181_0) ?_
                      refine w_gT H (o := 5) (t := 38) rfl (H.perm 5 rfl) rfl rfl rfl rfl rfl rfl ?_
                      refine Ew_of (pc' := 223) (fun _ => x_iload rfl l181_4) ?_
                      refine w_lJ H (o := 38) (n := 3) rfl (H.perm 38 rfl) rfl rfl (H.fix 38 rfl rfl) (show 0 ≤ x181_4 ∧ x181_4 < ((3 : Nat) : Int) by omega) (by decide) (fun v45 ev45 qv45 => ?_)
                      have qv45 : (-9223372036854775808 : Int) ≤ v45 ∧ v45 ≤ 9223372036854775807 := qv45
                      have ev45 : (upd1 (w181_38) (x181_4) (z41)) (x181_4) = v45 := (congrFun (congrArg (fun q => upd1 q (x181_4) (z41)) ((funext (hA40 38 rfl)).trans (ew181_38))) (x181_4)).symm.trans ev45
                      refine Ew_of (pc' := 225) (fun _ => x_aload_n rfl l181_0) ?_
                      refine w_gT H (o := 5) (t := 1) rfl (H.perm 5 rfl) rfl rfl rfl rfl rfl rfl ?_
                      refine w_gI H (o := 1) (w := F 1 1) rfl (H.perm 1 rfl) rfl rfl rfl (fun _ => rfl) (((((hS39 1 1 rfl).trans (hS_181 1 1 rfl)).trans (hS_79 1 1 rfl)).trans (hS25 1 1 rfl)).trans (hS_c36 1 1 rfl)) ?_
                      refine Ew_of (pc' := 232) (fun _ => x_iload_n rfl l181_1) ?_
                      refine w_isub rfl ?_
                      refine w_i2l rfl (show inr ((F 1 1 - (x79_3 + 12))) by omega) ?_
                      have hq2 := ev45
                      rw [upd1_s] at hq2
                      refine w_lcmp rfl (show inrJ (v45) by omega) (show inrJ ((F 1 1 - (x79_3 + 12))) by omega) (fun z46 gz46 gaz46 gbz46 => ?_)
                      refine w_ifle (t := 241) rfl rfl (show inr (z46) by omega) (fun b47 => ?_) (fun b47 => ?_)
                      · refine Ew_of (pc' := 244) (fun _ => x_iinc (len := 3) rfl (l181_4)) ?_
                        refine Ew_of (pc' := 181) (fun _ => x_goto rfl rfl) ?_
                        have hu0 : 0 < ((x181_4 + 1)) → 1 ≤ ((upd1 (w181_38) (x181_4) (z41))) 0 := by simp only [upd1]; omega
                        have hu1 : 1 < ((x181_4 + 1)) → 1 ≤ ((upd1 (w181_38) (x181_4) (z41))) 1 := by simp only [upd1]; omega
                        have hu2 : 2 < ((x181_4 + 1)) → 1 ≤ ((upd1 (w181_38) (x181_4) (z41))) 2 := by simp only [upd1]; omega
                        exact ih181 _ (by omega) _ σ _ _ ((x181_4 + 1)) (rk_o (l181_0) rfl rfl) (rk_o (l181_1) rfl rfl) (rk_o (l181_2) rfl rfl) (rk_o (l181_3) rfl rfl) (rk_s) H (SF_trans (hS_181) hS39 (any_sub rfl)) (SA_upd (SA_trans (hA_181) hA40 (any_subA rfl)) rfl)  (upd1 (w181_38) (x181_4) (z41)) (congrArg (fun q => upd1 q (x181_4) (z41)) ((funext (hA40 38 rfl)).trans (ew181_38))) (show inr ((x181_4 + 1)) by omega) (show 0 ≤ ((x181_4 + 1)) ∧ ((x181_4 + 1)) ≤ 3 by omega) (show 0 < ((x181_4 + 1)) → 1 ≤ ((upd1 (w181_38) (x181_4) (z41))) 0 by omega) (show 1 < ((x181_4 + 1)) → 1 ≤ ((upd1 (w181_38) (x181_4) (z41))) 1 by omega) (show 2 < ((x181_4 + 1)) → 1 ≤ ((upd1 (w181_38) (x181_4) (z41))) 2 by omega) rfl
                      · refine Ew_of (pc' := 240) (fun _ => x_bipush (z := -4) rfl (by decide)) ?_
                        exact w_ireturn rfl (k ((-4)) σ _ _ H (SF_trans (SF_trans (SF_trans (SF_trans (SF_trans (SF_refl) hS_c36 (any_sub rfl)) hS25 (any_sub rfl)) hS_79 (any_sub rfl)) hS_181 (any_sub rfl)) hS39 (any_sub rfl)) (SA_upd (SA_trans (SA_trans (SA_trans (SA_trans (SA_trans (SA_refl) hA_c36 (any_subA rfl)) hA26 (any_subA rfl)) hA_79 (any_subA rfl)) hA_181 (any_subA rfl)) hA40 (any_subA rfl)) rfl) (u5_4) (((((((hS39 5 4 rfl).trans (hS_181 5 4 rfl)).trans (hS_79 5 4 rfl)).trans (hS25 5 4 rfl)).trans (hS_c36 5 4 rfl)).trans (eu5_4))) (w27) ((funext (hA40 27 rfl)).trans ((funext (hA_181 27 rfl)).trans ((funext (hA_79 27 rfl)).trans ((funext (hA26 27 rfl)).trans ((funext (hA_c36 27 rfl)).trans (ew27)))))) (w28) ((funext (hA40 28 rfl)).trans ((funext (hA_181 28 rfl)).trans ((funext (hA_79 28 rfl)).trans ((funext (hA26 28 rfl)).trans ((funext (hA_c36 28 rfl)).trans (ew28)))))) (w29) ((funext (hA40 29 rfl)).trans ((funext (hA_181 29 rfl)).trans ((funext (hA_79 29 rfl)).trans ((funext (hA26 29 rfl)).trans ((funext (hA_c36 29 rfl)).trans (ew29)))))) (w30) ((funext (hA40 30 rfl)).trans ((funext (hA_181 30 rfl)).trans ((funext (hA_79 30 rfl)).trans ((funext (hA26 30 rfl)).trans ((funext (hA_c36 30 rfl)).trans (ew30)))))) (w79_34) ((funext (hA40 34 rfl)).trans ((funext (hA_181 34 rfl)).trans (ew79_34))) (w79_35) ((funext (hA40 35 rfl)).trans ((funext (hA_181 35 rfl)).trans (ew79_35))) (w79_36) ((funext (hA40 36 rfl)).trans ((funext (hA_181 36 rfl)).trans (ew79_36))) (w79_37) ((funext (hA40 37 rfl)).trans ((funext (hA_181 37 rfl)).trans (ew79_37))) (show inr ((-4)) by omega) (show RT ((w79_35)) ((w79_36)) ((w79_37)) ((w79_34)) by assumption) (show DI ((u5_4)) ((w27)) ((w28)) ((w29)) ((w30)) by assumption) (show 0 ≤ (u5_4) ∧ (u5_4) ≤ 1 by omega))
              · refine Ew_of (pc' := 172) (fun _ => x_iconst rfl) ?_
                exact w_ireturn rfl (k ((-1)) σ _ _ H (SF_trans (SF_trans (SF_trans (SF_refl) hS_c36 (any_sub rfl)) hS25 (any_sub rfl)) hS_79 (any_sub rfl)) (SA_trans (SA_trans (SA_trans (SA_refl) hA_c36 (any_subA rfl)) hA26 (any_subA rfl)) hA_79 (any_subA rfl)) (u5_4) (((((hS_79 5 4 rfl).trans (hS25 5 4 rfl)).trans (hS_c36 5 4 rfl)).trans (eu5_4))) (w27) ((funext (hA_79 27 rfl)).trans ((funext (hA26 27 rfl)).trans ((funext (hA_c36 27 rfl)).trans (ew27)))) (w28) ((funext (hA_79 28 rfl)).trans ((funext (hA26 28 rfl)).trans ((funext (hA_c36 28 rfl)).trans (ew28)))) (w29) ((funext (hA_79 29 rfl)).trans ((funext (hA26 29 rfl)).trans ((funext (hA_c36 29 rfl)).trans (ew29)))) (w30) ((funext (hA_79 30 rfl)).trans ((funext (hA26 30 rfl)).trans ((funext (hA_c36 30 rfl)).trans (ew30)))) (w79_34) (ew79_34) (w79_35) (ew79_35) (w79_36) (ew79_36) (w79_37) (ew79_37) (show inr ((-1)) by omega) (show RT ((w79_35)) ((w79_36)) ((w79_37)) ((w79_34)) by assumption) (show DI ((u5_4)) ((w27)) ((w28)) ((w29)) ((w30)) by assumption) (show 0 ≤ (u5_4) ∧ (u5_4) ≤ 1 by omega))
            · refine Ew_of (pc' := 87) (fun _ => x_iload rfl l79_4) ?_
              have hc105 : ∀ (tc105_0 : Int), ∀ (ls : rO) (σ : rS) (F_c105 : hF) (A_c105 : hA) , rlook ls 0 = some (.ref (D 5)) → rlook ls 2 = some (I (tc36_0)) → rlook ls 3 = some (I (x79_3)) → rlook ls 4 = some (I (x79_4)) → HS σ0 σ D N F_c105 A_c105 → SF [] F_79 F_c105 → SA [] A_79 A_c105 → (inr (tc105_0)) → (((x79_4) ≠ (0) ∧ (x79_4) ≠ (1) ∧ (tc105_0) = (0)) ∨ ((x79_4) ≠ (0) ∧ (x79_4) = (1) ∧ (tc105_0) = (2)) ∨ ((x79_4) = (0) ∧ (tc105_0) = (1))) → Ew 275 (d + 4) 105 ls [I (tc105_0)] σ c s Q := by
               as_aux_lemma =>
                intro tc105_0 ls σ F_c105 A_c105  lc105_0 lc105_2 lc105_3 lc105_4 H hS_c105 hA_c105   jc105_0 jc105_1
                refine Ew_of (pc' := 107) (fun _ => x_istore rfl) ?_
                refine Ew_of (pc' := 108) (fun _ => x_aload_n rfl (rk_o (lc105_0) rfl rfl)) ?_
                refine Ew_of (pc' := 109) (fun _ => x_iload_n rfl (rk_o (lc105_3) rfl rfl)) ?_
                refine Ew_of (pc' := 110) (fun _ => x_aload_n rfl (rk_o (lc105_0) rfl rfl)) ?_
                refine w_gT H (o := 5) (t := 1) rfl (H.perm 5 rfl) rfl rfl rfl rfl rfl rfl ?_
                refine w_gI H (o := 1) (w := F 1 1) rfl (H.perm 1 rfl) rfl rfl rfl (fun _ => rfl) ((((hS_c105 1 1 rfl).trans (hS_79 1 1 rfl)).trans (hS25 1 1 rfl)).trans (hS_c36 1 1 rfl)) ?_
                refine Ew_of (pc' := 118) (fun _ => x_iload rfl rk_s) ?_
                refine Ew_of (pc' := 119) (fun _ => x_iconst rfl) ?_
                have hc129 : ∀ (tc129_0 : Int), ∀ (ls : rO) (σ : rS) (F_c129 : hF) (A_c129 : hA) , rlook ls 0 = some (.ref (D 5)) → rlook ls 2 = some (I (tc36_0)) → rlook ls 4 = some (I (x79_4)) → rlook ls 5 = some (I (tc105_0)) → HS σ0 σ D N F_c129 A_c129 → SF [] F_c105 F_c129 → SA [] A_c105 A_c129 → (inr (tc129_0)) → (((tc105_0) ≠ (1) ∧ (tc129_0) = (9)) ∨ ((tc105_0) = (1) ∧ (tc129_0) = (8))) → Ew 275 (d + 4) 129 ls [I (tc129_0), I (F 1 1), I (x79_3), .ref (D 5)] σ c s Q := by
                 as_aux_lemma =>
                  intro tc129_0 ls σ F_c129 A_c129  lc129_0 lc129_2 lc129_4 lc129_5 H hS_c129 hA_c129   jc129_0 jc129_1
                  refine Ew_of (pc' := 131) (fun _ => x_iload rfl lc129_5) ?_
                  refine w_stat24 rfl rfl (by rfl) (M276 H (show inr (tc105_0) by omega) (show 0 ≤ (tc105_0) ∧ (tc105_0) ≤ 2 by omega) (fun z52 σ F48 A49 H hS50 hA51 pz52_0 pz52_1 pz52_2 => ⟨rfl, ?_⟩))
                  refine w_inv H (o := 5) rfl rfl rfl (H.perm 5 rfl) rfl rfl (by rfl) (M261 H (show inr (x79_3) by omega) (show inr (F 1 1) by omega) (show inr (tc129_0) by omega) (show inr (z52) by omega) (show 0 ≤ (x79_3) ∧ (x79_3) ≤ 65536 ∧ (F 1 1) ≤ 65536 ∧ 0 ≤ (F 1 1) by omega) (show 6 ≤ (tc129_0) ∧ (tc129_0) ≤ 9 ∧ 0 ≤ (z52) ∧ (z52) ≤ 63 by omega) (fun z57 σ F53 A54 H hS55 hA56 y58 ey59 wq60 ewq61 pz57_0 pz57_1 pz57_2 => ⟨rfl, ?_⟩))
                  have r62 : (0 : Int) ≤ y58 ∧ y58 ≤ 20 := by have h1 : (0 : Int) ≤ F53 5 19 ∧ F53 5 19 ≤ 20 := H.frng 5 19; rw [show F53 5 19 = y58 from (ey59)] at h1; exact h1
                  refine Ew_of (pc' := 138) (fun _ => x_istore_n rfl) ?_
                  refine Ew_of (pc' := 139) (fun _ => x_iload_n rfl rk_s) ?_
                  refine w_ifge (t := 145) rfl rfl (show inr (z57) by omega) (fun b63 => ?_) (fun b63 => ?_)
                  · have hsh := pz57_2 (by omega)
                    rw [pz52_1] at hsh
                    refine Ew_of (pc' := 146) (fun _ => x_aload_n rfl (rk_o (lc129_0) rfl rfl)) ?_
                    refine Ew_of (pc' := 148) (fun _ => x_iload rfl (rk_o (lc129_5) rfl rfl)) ?_
                    refine w_inv H (o := 5) rfl rfl rfl (H.perm 5 rfl) rfl rfl (by rfl) (M264 H (y58) ((ey59)) (w79_33) ((funext (hA56 33 rfl)).trans ((funext (hA51 33 rfl)).trans ((funext (hA_c129 33 rfl)).trans ((funext (hA_c105 33 rfl)).trans (ew79_33))))) (w79_34) ((funext (hA56 34 rfl)).trans ((funext (hA51 34 rfl)).trans ((funext (hA_c129 34 rfl)).trans ((funext (hA_c105 34 rfl)).trans (ew79_34))))) (w79_35) ((funext (hA56 35 rfl)).trans ((funext (hA51 35 rfl)).trans ((funext (hA_c129 35 rfl)).trans ((funext (hA_c105 35 rfl)).trans (ew79_35))))) (w79_36) ((funext (hA56 36 rfl)).trans ((funext (hA51 36 rfl)).trans ((funext (hA_c129 36 rfl)).trans ((funext (hA_c105 36 rfl)).trans (ew79_36))))) (w79_37) ((funext (hA56 37 rfl)).trans ((funext (hA51 37 rfl)).trans ((funext (hA_c129 37 rfl)).trans ((funext (hA_c105 37 rfl)).trans (ew79_37))))) (wq60) (ewq61) (show inr (tc105_0) by omega) (show 0 ≤ (tc105_0) ∧ (tc105_0) ≤ 2 by omega) (show SH ((wq60)) 0 64 ((y58)) (lastOf ((tc105_0))) by assumption) (show RT ((w79_35)) ((w79_36)) ((w79_37)) ((w79_34)) by assumption) (fun σ F64 A65 H hS66 hA67 wq69 ewq70 wq71 ewq72 wq73 ewq74 wq75 ewq76 wq77 ewq78 pz68_0 pz68_1 pz68_2 pz68_3 => ⟨rfl, ?_⟩))
                    refine Ew_of (pc' := 154) (fun _ => x_iinc (len := 3) rfl (rk_o (lc129_4) rfl rfl)) ?_
                    refine Ew_of (pc' := 79) (fun _ => x_goto rfl rfl) ?_
                    have hl5 : ((x79_4 + 1)) - 1 = 0 ∧ (tc105_0) = 1 ∨ ((x79_4 + 1)) - 1 = 1 ∧ (tc105_0) = 2 ∨ ((x79_4 + 1)) - 1 = 2 ∧ (tc105_0) = 0 := by omega
                    have : 0 < ((x79_4 + 1)) → PS ((wq69)) ((wq71)) 1 := fun q => by by_cases e : (tc105_0) = 1; rw [← e]; exact pz68_1; exact PS_frm (j79_5 (by omega)) pz68_2 pz68_3 (by omega)
                    have : 1 < ((x79_4 + 1)) → PS ((wq69)) ((wq71)) 2 := fun q => by by_cases e : (tc105_0) = 2; rw [← e]; exact pz68_1; exact PS_frm (j79_6 (by omega)) pz68_2 pz68_3 (by omega)
                    have : 2 < ((x79_4 + 1)) → PS ((wq69)) ((wq71)) 0 := fun q => by by_cases e : (tc105_0) = 0; rw [← e]; exact pz68_1; exact PS_frm (j79_7 (by omega)) pz68_2 pz68_3 (by omega)
                    exact ih79 _ (by omega) _ σ _ _ (z57) ((x79_4 + 1)) (rk_o (rk_o (lc129_0) rfl rfl) rfl rfl) (rk_o (rk_o (lc129_2) rfl rfl) rfl rfl) (rk_o (rk_s) rfl rfl) (rk_s) H (SF_trans (SF_trans (SF_trans (SF_trans (SF_trans (hS_79) hS_c105 (any_sub rfl)) hS_c129 (any_sub rfl)) hS50 (any_sub rfl)) hS55 (any_sub rfl)) hS66 (any_sub rfl)) (SA_trans (SA_trans (SA_trans (SA_trans (SA_trans (hA_79) hA_c105 (any_subA rfl)) hA_c129 (any_subA rfl)) hA51 (any_subA rfl)) hA56 (any_subA rfl)) hA67 (any_subA rfl))  (wq69) (ewq70) (wq71) (ewq72) (wq73) (ewq74) (wq75) (ewq76) (wq77) (ewq78) (show inr (z57) by omega) (show inr ((x79_4 + 1)) by omega) (show 0 ≤ ((x79_4 + 1)) ∧ ((x79_4 + 1)) ≤ 3 by omega) (show 8 ≤ (z57) ∧ (z57) ≤ (F 1 1) by omega) (show RT ((wq73)) ((wq75)) ((wq77)) ((wq71)) by assumption) (show 0 < ((x79_4 + 1)) → PS ((wq69)) ((wq71)) 1 by assumption) (show 1 < ((x79_4 + 1)) → PS ((wq69)) ((wq71)) 2 by assumption) (show 2 < ((x79_4 + 1)) → PS ((wq69)) ((wq71)) 0 by assumption) rfl
                  · refine Ew_of (pc' := 144) (fun _ => x_bipush (z := -3) rfl (by decide)) ?_
                    exact w_ireturn rfl (k ((-3)) σ _ _ H (SF_trans (SF_trans (SF_trans (SF_trans (SF_trans (SF_trans (SF_trans (SF_refl) hS_c36 (any_sub rfl)) hS25 (any_sub rfl)) hS_79 (any_sub rfl)) hS_c105 (any_sub rfl)) hS_c129 (any_sub rfl)) hS50 (any_sub rfl)) hS55 (any_sub rfl)) (SA_trans (SA_trans (SA_trans (SA_trans (SA_trans (SA_trans (SA_trans (SA_refl) hA_c36 (any_subA rfl)) hA26 (any_subA rfl)) hA_79 (any_subA rfl)) hA_c105 (any_subA rfl)) hA_c129 (any_subA rfl)) hA51 (any_subA rfl)) hA56 (any_subA rfl)) (u5_4) (((((((((hS55 5 4 rfl).trans (hS50 5 4 rfl)).trans (hS_c129 5 4 rfl)).trans (hS_c105 5 4 rfl)).trans (hS_79 5 4 rfl)).trans (hS25 5 4 rfl)).trans (hS_c36 5 4 rfl)).trans (eu5_4))) (w27) ((funext (hA56 27 rfl)).trans ((funext (hA51 27 rfl)).trans ((funext (hA_c129 27 rfl)).trans ((funext (hA_c105 27 rfl)).trans ((funext (hA_79 27 rfl)).trans ((funext (hA26 27 rfl)).trans ((funext (hA_c36 27 rfl)).trans (ew27)))))))) (w28) ((funext (hA56 28 rfl)).trans ((funext (hA51 28 rfl)).trans ((funext (hA_c129 28 rfl)).trans ((funext (hA_c105 28 rfl)).trans ((funext (hA_79 28 rfl)).trans ((funext (hA26 28 rfl)).trans ((funext (hA_c36 28 rfl)).trans (ew28)))))))) (w29) ((funext (hA56 29 rfl)).trans ((funext (hA51 29 rfl)).trans ((funext (hA_c129 29 rfl)).trans ((funext (hA_c105 29 rfl)).trans ((funext (hA_79 29 rfl)).trans ((funext (hA26 29 rfl)).trans ((funext (hA_c36 29 rfl)).trans (ew29)))))))) (w30) ((funext (hA56 30 rfl)).trans ((funext (hA51 30 rfl)).trans ((funext (hA_c129 30 rfl)).trans ((funext (hA_c105 30 rfl)).trans ((funext (hA_79 30 rfl)).trans ((funext (hA26 30 rfl)).trans ((funext (hA_c36 30 rfl)).trans (ew30)))))))) (w79_34) ((funext (hA56 34 rfl)).trans ((funext (hA51 34 rfl)).trans ((funext (hA_c129 34 rfl)).trans ((funext (hA_c105 34 rfl)).trans (ew79_34))))) (w79_35) ((funext (hA56 35 rfl)).trans ((funext (hA51 35 rfl)).trans ((funext (hA_c129 35 rfl)).trans ((funext (hA_c105 35 rfl)).trans (ew79_35))))) (w79_36) ((funext (hA56 36 rfl)).trans ((funext (hA51 36 rfl)).trans ((funext (hA_c129 36 rfl)).trans ((funext (hA_c105 36 rfl)).trans (ew79_36))))) (w79_37) ((funext (hA56 37 rfl)).trans ((funext (hA51 37 rfl)).trans ((funext (hA_c129 37 rfl)).trans ((funext (hA_c105 37 rfl)).trans (ew79_37))))) (show inr ((-3)) by omega) (show RT ((w79_35)) ((w79_36)) ((w79_37)) ((w79_34)) by assumption) (show DI ((u5_4)) ((w27)) ((w28)) ((w29)) ((w30)) by assumption) (show 0 ≤ (u5_4) ∧ (u5_4) ≤ 1 by omega))
                refine w_icmpne (t := 127) rfl rfl (show inr (tc105_0) by omega) (show inr (1) by omega) (fun b79 => ?_) (fun b79 => ?_)
                · refine Ew_of (pc' := 129) (fun _ => x_bipush (z := 9) rfl (by decide)) ?_
                  exact hc129 (9) _ σ _ _  (rk_o (lc105_0) rfl rfl) (rk_o (lc105_2) rfl rfl) (rk_o (lc105_4) rfl rfl) (rk_s) H (SF_refl) (SA_refl)   (show inr (9) by omega) (show ((tc105_0) ≠ (1) ∧ (9) = (9)) ∨ ((tc105_0) = (1) ∧ (9) = (8)) by omega)
                · refine Ew_of (pc' := 124) (fun _ => x_bipush (z := 8) rfl (by decide)) ?_
                  refine Ew_of (pc' := 129) (fun _ => x_goto rfl rfl) ?_
                  exact hc129 (8) _ σ _ _  (rk_o (lc105_0) rfl rfl) (rk_o (lc105_2) rfl rfl) (rk_o (lc105_4) rfl rfl) (rk_s) H (SF_refl) (SA_refl)   (show inr (8) by omega) (show ((tc105_0) ≠ (1) ∧ (8) = (9)) ∨ ((tc105_0) = (1) ∧ (8) = (8)) by omega)
              refine w_ifne (t := 94) rfl rfl (show inr (x79_4) by omega) (fun b80 => ?_) (fun b80 => ?_)
              · refine Ew_of (pc' := 96) (fun _ => x_iload rfl l79_4) ?_
                refine Ew_of (pc' := 97) (fun _ => x_iconst rfl) ?_
                refine w_icmpne (t := 104) rfl rfl (show inr (x79_4) by omega) (show inr (1) by omega) (fun b81 => ?_) (fun b81 => ?_)
                · refine Ew_of (pc' := 105) (fun _ => x_iconst rfl) ?_
                  exact hc105 (0) _ σ _ _  (l79_0) (l79_2) (l79_3) (l79_4) H (SF_refl) (SA_refl)   (show inr (0) by omega) (show ((x79_4) ≠ (0) ∧ (x79_4) ≠ (1) ∧ (0) = (0)) ∨ ((x79_4) ≠ (0) ∧ (x79_4) = (1) ∧ (0) = (2)) ∨ ((x79_4) = (0) ∧ (0) = (1)) by omega)
                · refine Ew_of (pc' := 101) (fun _ => x_iconst rfl) ?_
                  refine Ew_of (pc' := 105) (fun _ => x_goto rfl rfl) ?_
                  exact hc105 (2) _ σ _ _  (l79_0) (l79_2) (l79_3) (l79_4) H (SF_refl) (SA_refl)   (show inr (2) by omega) (show ((x79_4) ≠ (0) ∧ (x79_4) ≠ (1) ∧ (2) = (0)) ∨ ((x79_4) ≠ (0) ∧ (x79_4) = (1) ∧ (2) = (2)) ∨ ((x79_4) = (0) ∧ (2) = (1)) by omega)
              · refine Ew_of (pc' := 91) (fun _ => x_iconst rfl) ?_
                refine Ew_of (pc' := 105) (fun _ => x_goto rfl rfl) ?_
                exact hc105 (1) _ σ _ _  (l79_0) (l79_2) (l79_3) (l79_4) H (SF_refl) (SA_refl)   (show inr (1) by omega) (show ((x79_4) ≠ (0) ∧ (x79_4) ≠ (1) ∧ (1) = (0)) ∨ ((x79_4) ≠ (0) ∧ (x79_4) = (1) ∧ (1) = (2)) ∨ ((x79_4) = (0) ∧ (1) = (1)) by omega)
        · refine Ew_of (pc' := 75) (fun _ => x_bipush (z := -2) rfl (by decide)) ?_
          exact w_ireturn rfl (k ((-2)) σ _ _ H (SF_trans (SF_trans (SF_refl) hS_c36 (any_sub rfl)) hS25 (any_sub rfl)) (SA_trans (SA_trans (SA_refl) hA_c36 (any_subA rfl)) hA26 (any_subA rfl)) (u5_4) ((((hS25 5 4 rfl).trans (hS_c36 5 4 rfl)).trans (eu5_4))) (w27) ((funext (hA26 27 rfl)).trans ((funext (hA_c36 27 rfl)).trans (ew27))) (w28) ((funext (hA26 28 rfl)).trans ((funext (hA_c36 28 rfl)).trans (ew28))) (w29) ((funext (hA26 29 rfl)).trans ((funext (hA_c36 29 rfl)).trans (ew29))) (w30) ((funext (hA26 30 rfl)).trans ((funext (hA_c36 30 rfl)).trans (ew30))) (w34) ((funext (hA26 34 rfl)).trans ((funext (hA_c36 34 rfl)).trans (ew34))) (w35) ((funext (hA26 35 rfl)).trans ((funext (hA_c36 35 rfl)).trans (ew35))) (w36) ((funext (hA26 36 rfl)).trans ((funext (hA_c36 36 rfl)).trans (ew36))) (w37) ((funext (hA26 37 rfl)).trans ((funext (hA_c36 37 rfl)).trans (ew37))) (show inr ((-2)) by omega) (show RT ((w35)) ((w36)) ((w37)) ((w34)) by assumption) (show DI ((u5_4)) ((w27)) ((w28)) ((w29)) ((w30)) by assumption) (show 0 ≤ (u5_4) ∧ (u5_4) ≤ 1 by omega))
      · refine Ew_of (pc' := 54) (fun _ => x_iconst rfl) ?_
        exact w_ireturn rfl (k ((-1)) σ _ _ H (SF_trans (SF_refl) hS_c36 (any_sub rfl)) (SA_trans (SA_refl) hA_c36 (any_subA rfl)) (u5_4) (((hS_c36 5 4 rfl).trans (eu5_4))) (w27) ((funext (hA_c36 27 rfl)).trans (ew27)) (w28) ((funext (hA_c36 28 rfl)).trans (ew28)) (w29) ((funext (hA_c36 29 rfl)).trans (ew29)) (w30) ((funext (hA_c36 30 rfl)).trans (ew30)) (w34) ((funext (hA_c36 34 rfl)).trans (ew34)) (w35) ((funext (hA_c36 35 rfl)).trans (ew35)) (w36) ((funext (hA_c36 36 rfl)).trans (ew36)) (w37) ((funext (hA_c36 37 rfl)).trans (ew37)) (show inr ((-1)) by omega) (show RT ((w35)) ((w36)) ((w37)) ((w34)) by assumption) (show DI ((u5_4)) ((w27)) ((w28)) ((w29)) ((w30)) by assumption) (show 0 ≤ (u5_4) ∧ (u5_4) ≤ 1 by omega))
  refine Ew_of (pc' := 3) (fun _ => x_aload_n rfl (rk_o (rfl) rfl rfl)) ?_
  refine w_gT H (o := 5) (t := 1) rfl (H.perm 5 rfl) rfl rfl rfl rfl rfl rfl ?_
  refine w_gI H (o := 1) (w := F 1 1) rfl (H.perm 1 rfl) rfl rfl rfl (fun _ => rfl) rfl ?_
  refine Ew_of (pc' := 10) (fun _ => x_iconst rfl) ?_
  refine w_icmplt (t := 35) rfl rfl (show inr (F 1 1) by omega) (show inr (4) by omega) (fun b82 => ?_) (fun b82 => ?_)
  · refine Ew_of (pc' := 36) (fun _ => x_iconst rfl) ?_
    exact hc36 (0) _ σ _ _  (rk_o (rfl) rfl rfl) (rk_s) H (SF_refl) (SA_refl)   (show inr (0) by omega) (show (0) = 0 ∨ (0) = 1 ∧ 4 ≤ (F 1 1) by omega)
  · refine Ew_of (pc' := 14) (fun _ => x_aload_n rfl (rk_o (rfl) rfl rfl)) ?_
    refine Ew_of (pc' := 15) (fun _ => x_iconst rfl) ?_
    refine Ew_of (pc' := 17) (fun _ => x_bipush (z := 55) rfl (by decide)) ?_
    refine Ew_of (pc' := 20) (fun _ => x_sipush (z := 164) rfl (by decide)) ?_
    refine Ew_of (pc' := 22) (fun _ => x_bipush (z := 48) rfl (by decide)) ?_
    refine Ew_of (pc' := 25) (fun _ => x_sipush (z := 236) rfl (by decide)) ?_
    refine w_inv H (o := 5) rfl rfl rfl (H.perm 5 rfl) rfl rfl (by rfl) (M258 H (show inr (0) by omega) (show inr (55) by omega) (show inr (164) by omega) (show inr (48) by omega) (show inr (236) by omega) (show 0 ≤ (0) ∧ (0) ≤ 65532 by omega) (fun z87 σ F83 A84 H hS85 hA86 pz87_0 => ⟨rretB rfl pz87_0, ?_⟩))
    refine w_ifeq (t := 35) rfl rfl (show inr (z87) by omega) (fun b88 => ?_) (fun b88 => ?_)
    · refine Ew_of (pc' := 36) (fun _ => x_iconst rfl) ?_
      exact hc36 (0) _ σ _ _  (rk_o (rfl) rfl rfl) (rk_s) H (SF_trans (SF_refl) hS85 (any_sub rfl)) (SA_trans (SA_refl) hA86 (any_subA rfl))   (show inr (0) by omega) (show (0) = 0 ∨ (0) = 1 ∧ 4 ≤ (F 1 1) by omega)
    · refine Ew_of (pc' := 32) (fun _ => x_iconst rfl) ?_
      refine Ew_of (pc' := 36) (fun _ => x_goto rfl rfl) ?_
      exact hc36 (1) _ σ _ _  (rk_o (rfl) rfl rfl) (rk_s) H (SF_trans (SF_refl) hS85 (any_sub rfl)) (SA_trans (SA_refl) hA86 (any_subA rfl))   (show inr (1) by omega) (show (1) = 0 ∨ (1) = 1 ∧ 4 ≤ (F 1 1) by omega)
