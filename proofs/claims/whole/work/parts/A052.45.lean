theorem M285 {σ0 σ : rS} {D N : Nat → Nat} {F : hF} {A : hA} {d c s : Nat} {Q : wQ} (H : HS σ0 σ D N F A)  (u1_1 : Int) (eu1_1 : F 1 1 = u1_1) (u5_2 : Int) (eu5_2 : F 5 2 = u5_2) (u5_3 : Int) (eu5_3 : F 5 3 = u5_3) (u5_4 : Int) (eu5_4 : F 5 4 = u5_4) (u5_25 : Int) (eu5_25 : F 5 25 = u5_25) (u5_26 : Int) (eu5_26 : F 5 26 = u5_26) (u5_27 : Int) (eu5_27 : F 5 27 = u5_27) (u5_32 : Int) (eu5_32 : F 5 32 = u5_32) (u5_33 : Int) (eu5_33 : F 5 33 = u5_33) (u5_34 : Int) (eu5_34 : F 5 34 = u5_34) (u5_36 : Int) (eu5_36 : F 5 36 = u5_36) (w14 : Int → Int) (ew14 : A 14 = w14) (w26 : Int → Int) (ew26 : A 26 = w26) (w27 : Int → Int) (ew27 : A 27 = w27) (w28 : Int → Int) (ew28 : A 28 = w28) (w29 : Int → Int) (ew29 : A 29 = w29) (w30 : Int → Int) (ew30 : A 30 = w30) (w34 : Int → Int) (ew34 : A 34 = w34) (w35 : Int → Int) (ew35 : A 35 = w35) (w36 : Int → Int) (ew36 : A 36 = w36) (w37 : Int → Int) (ew37 : A 37 = w37) (w45 : Int → Int) (ew45 : A 45 = w45) (Dc : DcS) (h0 : (u5_25) < (u1_1)) (h1 : RT ((w35)) ((w36)) ((w37)) ((w34))) (h2 : DI ((u5_4)) ((w27)) ((w28)) ((w29)) ((w30))) (h3 : (u5_27) ≤ (u5_26)) (h4 : 0 ≤ (u5_32) ∧ (u5_32) ≤ (u5_25)) (h5 : 0 ≤ (u5_33) ∧ (u5_33) ≤ (u5_25)) (h6 : 0 ≤ (u5_34) ∧ (u5_34) ≤ (u5_27)) (h7 : RDI Dc ((u5_4)) ((u5_3)) ((w26)) ((u5_2)) ((w27)) ((w28)) ((w29)) ((w30))) (k : ∀ (z : Int) σ Fₚ Aₚ, HS σ0 σ D N Fₚ Aₚ → SF [(5, 10), (5, 19), (5, 25), (5, 27), (5, 28), (5, 29), (5, 30), (5, 31), (5, 32), (5, 33), (5, 34), (5, 35), (5, 36), (5, 39), (5, 40), (5, 41), (5, 42), (5, 43), (5, 44), (5, 45)] F Fₚ → SA [31, 32, 33, 34, 35, 36, 37, 38, 39, 40, 41, 42, 43, 44, 45, 46, 47] A Aₚ → ∀ y5_25 : Int, Fₚ 5 25 = y5_25 → ∀ y5_27 : Int, Fₚ 5 27 = y5_27 → ∀ y5_30 : Int, Fₚ 5 30 = y5_30 → ∀ y5_31 : Int, Fₚ 5 31 = y5_31 → ∀ y5_32 : Int, Fₚ 5 32 = y5_32 → ∀ y5_33 : Int, Fₚ 5 33 = y5_33 → ∀ y5_34 : Int, Fₚ 5 34 = y5_34 → ∀ y5_36 : Int, Fₚ 5 36 = y5_36 → ∀ v34 : Int → Int, Aₚ 34 = v34 → ∀ v35 : Int → Int, Aₚ 35 = v35 → ∀ v36 : Int → Int, Aₚ 36 = v36 → ∀ v37 : Int → Int, Aₚ 37 = v37 → ∀ v45 : Int → Int, Aₚ 45 = v45 → ((z) = 0 ∨ (z) = 1) → (RT ((v35)) ((v36)) ((v37)) ((v34))) → ((u5_27) ≤ (y5_27) ∧ (y5_27) ≤ (u5_26)) → ((z) = 1 → (u5_25) + 4 ≤ (y5_25) ∧ (y5_25) ≤ (u1_1)) → (0 ≤ (y5_32) ∧ ((z) = 0 ∨ (y5_32) ≤ (y5_25))) → (0 ≤ (y5_33) ∧ ((z) = 0 ∨ (y5_33) ≤ (y5_25))) → (0 ≤ (y5_34) ∧ (y5_34) ≤ (y5_27)) → (RFA (UNs ((w14)) ((u1_1)) ((u5_26)) Dc ((u5_25), sc ((w45)) 0 ((u5_27)), (u5_32), (u5_33), (u5_34), (u5_36))) ((z)) ((y5_30)) ((y5_31)) ((y5_25)) (sc ((v45)) 0 ((y5_27))) ((y5_32)) ((y5_33)) ((y5_34)) ((y5_36))) → Q (some (I z)) σ c s) : Ew 285 (d + 9) 0 (rargs 0 [.ref (D 5)]) [] σ c s Q := by
  have r1 : (0 : Int) ≤ u1_1 ∧ u1_1 ≤ 65536 := rngE (show (0 : Int) ≤ F 1 1 ∧ F 1 1 ≤ 65536 from H.frng 1 1) (show F 1 1 = u1_1 from (eu1_1))
  have r2 : (0 : Int) ≤ u5_2 ∧ u5_2 ≤ 65536 := rngE (show (0 : Int) ≤ F 5 2 ∧ F 5 2 ≤ 65536 from H.frng 5 2) (show F 5 2 = u5_2 from (eu5_2))
  have r3 : (-2147483648 : Int) ≤ u5_3 ∧ u5_3 ≤ 2147483647 := rngE (show (-2147483648 : Int) ≤ F 5 3 ∧ F 5 3 ≤ 2147483647 from H.frng 5 3) (show F 5 3 = u5_3 from (eu5_3))
  have r4 : (0 : Int) ≤ u5_4 ∧ u5_4 ≤ 1 := rngE (show (0 : Int) ≤ F 5 4 ∧ F 5 4 ≤ 1 from H.frng 5 4) (show F 5 4 = u5_4 from (eu5_4))
  have r5 : (0 : Int) ≤ u5_25 ∧ u5_25 ≤ 65536 := rngE (show (0 : Int) ≤ F 5 25 ∧ F 5 25 ≤ 65536 from H.frng 5 25) (show F 5 25 = u5_25 from (eu5_25))
  have r6 : (0 : Int) ≤ u5_26 ∧ u5_26 ≤ 65536 := rngE (show (0 : Int) ≤ F 5 26 ∧ F 5 26 ≤ 65536 from H.frng 5 26) (show F 5 26 = u5_26 from (eu5_26))
  have r7 : (0 : Int) ≤ u5_27 ∧ u5_27 ≤ 65536 := rngE (show (0 : Int) ≤ F 5 27 ∧ F 5 27 ≤ 65536 from H.frng 5 27) (show F 5 27 = u5_27 from (eu5_27))
  have r8 : (-2147483648 : Int) ≤ u5_32 ∧ u5_32 ≤ 2147483647 := rngE (show (-2147483648 : Int) ≤ F 5 32 ∧ F 5 32 ≤ 2147483647 from H.frng 5 32) (show F 5 32 = u5_32 from (eu5_32))
  have r9 : (-2147483648 : Int) ≤ u5_33 ∧ u5_33 ≤ 2147483647 := rngE (show (-2147483648 : Int) ≤ F 5 33 ∧ F 5 33 ≤ 2147483647 from H.frng 5 33) (show F 5 33 = u5_33 from (eu5_33))
  have r10 : (-2147483648 : Int) ≤ u5_34 ∧ u5_34 ≤ 2147483647 := rngE (show (-2147483648 : Int) ≤ F 5 34 ∧ F 5 34 ≤ 2147483647 from H.frng 5 34) (show F 5 34 = u5_34 from (eu5_34))
  have r11 : (-2147483648 : Int) ≤ u5_36 ∧ u5_36 ≤ 2147483647 := rngE (show (-2147483648 : Int) ≤ F 5 36 ∧ F 5 36 ≤ 2147483647 from H.frng 5 36) (show F 5 36 = u5_36 from (eu5_36))
  have hB : ∀ i, (0 : Int) ≤ (w14) i ∧ (w14) i ≤ 255 := fun i => by have h1 : (0 : Int) ≤ A 14 i ∧ A 14 i ≤ 255 := H.arng 14 i; rw [show A 14 = w14 from ew14] at h1; exact h1
  have h4 := nvl_4v hB (a := (u5_25))
  have b0_ := hB ((u5_25))
  have b1_ := hB ((u5_25) + 1)
  have b2_ := hB ((u5_25) + 2)
  have b3_ := hB ((u5_25) + 3)
  refine Ew_of (pcₚ := 1) (fun _ => x_aload_n rfl rfl) ?_
  refine Ew_of (pcₚ := 2) (fun _ => x_iconst rfl) ?_
  refine w_inv H (o := 5) rfl rfl rfl (H.perm 5 rfl) rfl rfl (by rfl) (M283 H (u1_1) ((eu1_1)) (u5_25) ((eu5_25)) (show inr (4) from q_216) (show 0 ≤ (4) ∧ (4) ≤ 1000000 from q_1852) (fun z16 σ F12 A13 H hS14 hA15 y17 ey18 y19 ey20 pz16_0 pz16_1 pz16_2 => ⟨rretB rfl pz16_0, ?_⟩))
  have r21 : (0 : Int) ≤ y17 ∧ y17 ≤ 20 := rngE (show (0 : Int) ≤ F12 5 30 ∧ F12 5 30 ≤ 20 from H.frng 5 30) (show F12 5 30 = y17 from (ey18))
  have r22 : (0 : Int) ≤ y19 ∧ y19 ≤ 65536 := rngE (show (0 : Int) ≤ F12 5 31 ∧ F12 5 31 ≤ 65536 from H.frng 5 31) (show F12 5 31 = y19 from (ey20))
  refine w_ifne (t := 10) rfl rfl (show inr (z16) from q_138 pz16_0) (fun b23 => ?_) (fun b23 => ?_)
  · refine Ew_of (pcₚ := 11) (fun _ => x_aload_n rfl rfl) ?_
    refine Ew_of (pcₚ := 12) (fun _ => x_aload_n rfl rfl) ?_
    refine w_gI H (o := 5) (w := u5_25) rfl (H.perm 5 rfl) rfl rfl rfl (fun _ => rfl) ((hS14 5 25 rfl).trans (eu5_25)) ?_
    refine Ew_of (pcₚ := 17) (fun _ => x_bipush (z := 40) rfl (by decide)) ?_
    refine Ew_of (pcₚ := 20) (fun _ => x_sipush (z := 181) rfl (by decide)) ?_
    refine Ew_of (pcₚ := 22) (fun _ => x_bipush (z := 47) rfl (by decide)) ?_
    refine Ew_of (pcₚ := 25) (fun _ => x_sipush (z := 253) rfl (by decide)) ?_
    refine w_inv H (o := 5) rfl rfl rfl (H.perm 5 rfl) rfl rfl (by rfl) (M258 H (w14) ((funext (hA15 14 rfl)).trans (ew14)) (show inr (u5_25) from q_286 r5) (show inr (40) from q_1531) (show inr (181) from q_1919) (show inr (47) from q_1918) (show inr (253) from q_1917) (show 0 ≤ (u5_25) ∧ (u5_25) ≤ 65532 from q_1916 b23 pz16_0 pz16_1 r1 r5) (show 0 ≤ (40) ∧ (40) ≤ 255 ∧ 0 ≤ (181) ∧ (181) ≤ 255 ∧ 0 ≤ (47) ∧ (47) ≤ 255 ∧ 0 ≤ (253) ∧ (253) ≤ 255 from q_1915) (fun z28 σ F24 A25 H hS26 hA27 pz28_0 pz28_1 => ⟨rretB rfl pz28_0, ?_⟩))
    refine w_ifeq (t := 36) rfl rfl (show inr (z28) from q_138 pz28_0) (fun b29 => ?_) (fun b29 => ?_)
    · refine Ew_of (pcₚ := 37) (fun _ => x_aload_n rfl rfl) ?_
      refine w_gT H (o := 5) (t := 1) rfl (H.perm 5 rfl) rfl rfl rfl rfl rfl rfl ?_
      refine w_gT H (o := 1) (t := 14) rfl (H.perm 1 rfl) rfl rfl rfl rfl rfl rfl ?_
      refine Ew_of (pcₚ := 44) (fun _ => x_aload_n rfl rfl) ?_
      refine w_gI H (o := 5) (w := u5_25) rfl (H.perm 5 rfl) rfl rfl rfl (fun _ => rfl) (((hS26 5 25 rfl).trans (hS14 5 25 rfl)).trans (eu5_25)) ?_
      refine w_lI H (o := 14) (n := 65536) rfl (H.perm 14 rfl) rfl rfl (H.fix 14 rfl rfl) (show 0 ≤ u5_25 ∧ u5_25 < ((65536 : Nat) : Int) from q_1920 h0 r1 r5) (by decide) (fun v30 ev30 qv30 => ?_)
      have qv30 : (0 : Int) ≤ v30 ∧ v30 ≤ 255 := qv30
      have ev30 : (w14) (u5_25) = v30 := (congrFun ((funext (hA27 14 rfl)).trans ((funext (hA15 14 rfl)).trans (ew14))) (u5_25)).symm.trans ev30
      have hc1 := ev30
      refine Ew_of (pcₚ := 50) (fun _ => x_bipush (z := 80) rfl (by decide)) ?_
      refine w_icmplt (t := 99) rfl rfl (show inr (v30) from q_299 qv30) (show inr (80) from q_332) (fun b31 => ?_) (fun b31 => ?_)
      · refine Ew_of (pcₚ := 100) (fun _ => x_aload_n rfl rfl) ?_
        refine Ew_of (pcₚ := 101) (fun _ => x_iconst rfl) ?_
        refine Ew_of (pcₚ := 102) (fun _ => x_aload_n rfl rfl) ?_
        refine w_gI H (o := 5) (w := u5_25) rfl (H.perm 5 rfl) rfl rfl rfl (fun _ => rfl) (((hS26 5 25 rfl).trans (hS14 5 25 rfl)).trans (eu5_25)) ?_
        refine w_inv H (o := 5) rfl rfl rfl (H.perm 5 rfl) rfl rfl (by rfl) (M282 H (show inr (2) from q_122) (show inr (u5_25) from q_286 r5) (show 0 ≤ (2) ∧ (2) ≤ 20 from q_1921) (show 0 ≤ (u5_25) ∧ (u5_25) ≤ 65536 from r5) (fun z36 σ F32 A33 H hS34 hA35 y37 ey38 y39 ey40 pz36_0 pz36_1 pz36_2 pz36_3 => ⟨rretB rfl pz36_0, ?_⟩))
        have r41 : (0 : Int) ≤ y37 ∧ y37 ≤ 20 := rngE (show (0 : Int) ≤ F32 5 30 ∧ F32 5 30 ≤ 20 from H.frng 5 30) (show F32 5 30 = y37 from (ey38))
        have r42 : (0 : Int) ≤ y39 ∧ y39 ≤ 65536 := rngE (show (0 : Int) ≤ F32 5 31 ∧ F32 5 31 ≤ 65536 from H.frng 5 31) (show F32 5 31 = y39 from (ey40))
        have : RFA (UNs ((w14)) ((u1_1)) ((u5_26)) Dc ((u5_25), sc ((w45)) 0 ((u5_27)), (u5_32), (u5_33), (u5_34), (u5_36))) ((z36)) ((y37)) ((y39)) ((u5_25)) (sc ((w45)) 0 ((u5_27))) ((u5_32)) ((u5_33)) ((u5_34)) ((u5_36)) := RFA_f (UN_2 (by omega) (by omega) (by omega)) (by decide) (by omega) (by omega) (by omega) rfl rfl rfl rfl rfl
        exact w_ireturn rfl (k (z36) σ _ _ H (SF_trans (SF_trans (SF_trans (SF_refl) hS14 (any_sub rfl)) hS26 (any_sub rfl)) hS34 (any_sub rfl)) (SA_trans (SA_trans (SA_trans (SA_refl) hA15 (any_subA rfl)) hA27 (any_subA rfl)) hA35 (any_subA rfl)) (u5_25) (((((hS34 5 25 rfl).trans (hS26 5 25 rfl)).trans (hS14 5 25 rfl)).trans (eu5_25))) (u5_27) (((((hS34 5 27 rfl).trans (hS26 5 27 rfl)).trans (hS14 5 27 rfl)).trans (eu5_27))) (y37) ((ey38)) (y39) ((ey40)) (u5_32) (((((hS34 5 32 rfl).trans (hS26 5 32 rfl)).trans (hS14 5 32 rfl)).trans (eu5_32))) (u5_33) (((((hS34 5 33 rfl).trans (hS26 5 33 rfl)).trans (hS14 5 33 rfl)).trans (eu5_33))) (u5_34) (((((hS34 5 34 rfl).trans (hS26 5 34 rfl)).trans (hS14 5 34 rfl)).trans (eu5_34))) (u5_36) (((((hS34 5 36 rfl).trans (hS26 5 36 rfl)).trans (hS14 5 36 rfl)).trans (eu5_36))) (w34) ((funext (hA35 34 rfl)).trans ((funext (hA27 34 rfl)).trans ((funext (hA15 34 rfl)).trans (ew34)))) (w35) ((funext (hA35 35 rfl)).trans ((funext (hA27 35 rfl)).trans ((funext (hA15 35 rfl)).trans (ew35)))) (w36) ((funext (hA35 36 rfl)).trans ((funext (hA27 36 rfl)).trans ((funext (hA15 36 rfl)).trans (ew36)))) (w37) ((funext (hA35 37 rfl)).trans ((funext (hA27 37 rfl)).trans ((funext (hA15 37 rfl)).trans (ew37)))) (w45) ((funext (hA35 45 rfl)).trans ((funext (hA27 45 rfl)).trans ((funext (hA15 45 rfl)).trans (ew45)))) (show (z36) = 0 ∨ (z36) = 1 from pz36_0) (h1) (show (u5_27) ≤ (u5_27) ∧ (u5_27) ≤ (u5_26) from q_1839 h3) (show (z36) = 1 → (u5_25) + 4 ≤ (u5_25) ∧ (u5_25) ≤ (u1_1) from q_1922 h0 pz36_1) (show 0 ≤ (u5_32) ∧ ((z36) = 0 ∨ (u5_32) ≤ (u5_25)) by omega) (show 0 ≤ (u5_33) ∧ ((z36) = 0 ∨ (u5_33) ≤ (u5_25)) from q_1858 h5 pz36_1) (show 0 ≤ (u5_34) ∧ (u5_34) ≤ (u5_27) from h6) (show RFA (UNs ((w14)) ((u1_1)) ((u5_26)) Dc ((u5_25), sc ((w45)) 0 ((u5_27)), (u5_32), (u5_33), (u5_34), (u5_36))) ((z36)) ((y37)) ((y39)) ((u5_25)) (sc ((w45)) 0 ((u5_27))) ((u5_32)) ((u5_33)) ((u5_34)) ((u5_36)) by assumption))
      · refine Ew_of (pcₚ := 54) (fun _ => x_aload_n rfl rfl) ?_
        refine w_gT H (o := 5) (t := 1) rfl (H.perm 5 rfl) rfl rfl rfl rfl rfl rfl ?_
        refine w_gT H (o := 1) (t := 14) rfl (H.perm 1 rfl) rfl rfl rfl rfl rfl rfl ?_
        refine Ew_of (pcₚ := 61) (fun _ => x_aload_n rfl rfl) ?_
        refine w_gI H (o := 5) (w := u5_25) rfl (H.perm 5 rfl) rfl rfl rfl (fun _ => rfl) (((hS26 5 25 rfl).trans (hS14 5 25 rfl)).trans (eu5_25)) ?_
        refine w_lI H (o := 14) (n := 65536) rfl (H.perm 14 rfl) rfl rfl (H.fix 14 rfl rfl) (show 0 ≤ u5_25 ∧ u5_25 < ((65536 : Nat) : Int) from q_1920 h0 r1 r5) (by decide) (fun v43 ev43 qv43 => ?_)
        have qv43 : (0 : Int) ≤ v43 ∧ v43 ≤ 255 := qv43
        have ev43 : (w14) (u5_25) = v43 := (congrFun ((funext (hA27 14 rfl)).trans ((funext (hA15 14 rfl)).trans (ew14))) (u5_25)).symm.trans ev43
        have hc2 := ev43
        refine Ew_of (pcₚ := 67) (fun _ => x_bipush (z := 95) rfl (by decide)) ?_
        refine w_icmpgt (t := 99) rfl rfl (show inr (v43) from q_299 qv43) (show inr (95) from q_1923) (fun b44 => ?_) (fun b44 => ?_)
        · refine Ew_of (pcₚ := 100) (fun _ => x_aload_n rfl rfl) ?_
          refine Ew_of (pcₚ := 101) (fun _ => x_iconst rfl) ?_
          refine Ew_of (pcₚ := 102) (fun _ => x_aload_n rfl rfl) ?_
          refine w_gI H (o := 5) (w := u5_25) rfl (H.perm 5 rfl) rfl rfl rfl (fun _ => rfl) (((hS26 5 25 rfl).trans (hS14 5 25 rfl)).trans (eu5_25)) ?_
          refine w_inv H (o := 5) rfl rfl rfl (H.perm 5 rfl) rfl rfl (by rfl) (M282 H (show inr (2) from q_122) (show inr (u5_25) from q_286 r5) (show 0 ≤ (2) ∧ (2) ≤ 20 from q_1921) (show 0 ≤ (u5_25) ∧ (u5_25) ≤ 65536 from r5) (fun z49 σ F45 A46 H hS47 hA48 y50 ey51 y52 ey53 pz49_0 pz49_1 pz49_2 pz49_3 => ⟨rretB rfl pz49_0, ?_⟩))
          have r54 : (0 : Int) ≤ y50 ∧ y50 ≤ 20 := rngE (show (0 : Int) ≤ F45 5 30 ∧ F45 5 30 ≤ 20 from H.frng 5 30) (show F45 5 30 = y50 from (ey51))
          have r55 : (0 : Int) ≤ y52 ∧ y52 ≤ 65536 := rngE (show (0 : Int) ≤ F45 5 31 ∧ F45 5 31 ≤ 65536 from H.frng 5 31) (show F45 5 31 = y52 from (ey53))
          have : RFA (UNs ((w14)) ((u1_1)) ((u5_26)) Dc ((u5_25), sc ((w45)) 0 ((u5_27)), (u5_32), (u5_33), (u5_34), (u5_36))) ((z49)) ((y50)) ((y52)) ((u5_25)) (sc ((w45)) 0 ((u5_27))) ((u5_32)) ((u5_33)) ((u5_34)) ((u5_36)) := RFA_f (UN_2 (by omega) (by omega) (by omega)) (by decide) (by omega) (by omega) (by omega) rfl rfl rfl rfl rfl
          exact w_ireturn rfl (k (z49) σ _ _ H (SF_trans (SF_trans (SF_trans (SF_refl) hS14 (any_sub rfl)) hS26 (any_sub rfl)) hS47 (any_sub rfl)) (SA_trans (SA_trans (SA_trans (SA_refl) hA15 (any_subA rfl)) hA27 (any_subA rfl)) hA48 (any_subA rfl)) (u5_25) (((((hS47 5 25 rfl).trans (hS26 5 25 rfl)).trans (hS14 5 25 rfl)).trans (eu5_25))) (u5_27) (((((hS47 5 27 rfl).trans (hS26 5 27 rfl)).trans (hS14 5 27 rfl)).trans (eu5_27))) (y50) ((ey51)) (y52) ((ey53)) (u5_32) (((((hS47 5 32 rfl).trans (hS26 5 32 rfl)).trans (hS14 5 32 rfl)).trans (eu5_32))) (u5_33) (((((hS47 5 33 rfl).trans (hS26 5 33 rfl)).trans (hS14 5 33 rfl)).trans (eu5_33))) (u5_34) (((((hS47 5 34 rfl).trans (hS26 5 34 rfl)).trans (hS14 5 34 rfl)).trans (eu5_34))) (u5_36) (((((hS47 5 36 rfl).trans (hS26 5 36 rfl)).trans (hS14 5 36 rfl)).trans (eu5_36))) (w34) ((funext (hA48 34 rfl)).trans ((funext (hA27 34 rfl)).trans ((funext (hA15 34 rfl)).trans (ew34)))) (w35) ((funext (hA48 35 rfl)).trans ((funext (hA27 35 rfl)).trans ((funext (hA15 35 rfl)).trans (ew35)))) (w36) ((funext (hA48 36 rfl)).trans ((funext (hA27 36 rfl)).trans ((funext (hA15 36 rfl)).trans (ew36)))) (w37) ((funext (hA48 37 rfl)).trans ((funext (hA27 37 rfl)).trans ((funext (hA15 37 rfl)).trans (ew37)))) (w45) ((funext (hA48 45 rfl)).trans ((funext (hA27 45 rfl)).trans ((funext (hA15 45 rfl)).trans (ew45)))) (show (z49) = 0 ∨ (z49) = 1 from pz49_0) (h1) (show (u5_27) ≤ (u5_27) ∧ (u5_27) ≤ (u5_26) from q_1839 h3) (show (z49) = 1 → (u5_25) + 4 ≤ (u5_25) ∧ (u5_25) ≤ (u1_1) from q_1922 h0 pz49_1) (show 0 ≤ (u5_32) ∧ ((z49) = 0 ∨ (u5_32) ≤ (u5_25)) by omega) (show 0 ≤ (u5_33) ∧ ((z49) = 0 ∨ (u5_33) ≤ (u5_25)) from q_1858 h5 pz49_1) (show 0 ≤ (u5_34) ∧ (u5_34) ≤ (u5_27) from h6) (show RFA (UNs ((w14)) ((u1_1)) ((u5_26)) Dc ((u5_25), sc ((w45)) 0 ((u5_27)), (u5_32), (u5_33), (u5_34), (u5_36))) ((z49)) ((y50)) ((y52)) ((u5_25)) (sc ((w45)) 0 ((u5_27))) ((u5_32)) ((u5_33)) ((u5_34)) ((u5_36)) by assumption))
        · refine Ew_of (pcₚ := 71) (fun _ => x_aload_n rfl rfl) ?_
          refine Ew_of (pcₚ := 72) (fun _ => x_aload_n rfl rfl) ?_
          refine w_gI H (o := 5) (w := u5_25) rfl (H.perm 5 rfl) rfl rfl rfl (fun _ => rfl) (((hS26 5 25 rfl).trans (hS14 5 25 rfl)).trans (eu5_25)) ?_
          refine Ew_of (pcₚ := 76) (fun _ => x_aload_n rfl rfl) ?_
          refine w_gT H (o := 5) (t := 1) rfl (H.perm 5 rfl) rfl rfl rfl rfl rfl rfl ?_
          refine w_gT H (o := 1) (t := 14) rfl (H.perm 1 rfl) rfl rfl rfl rfl rfl rfl ?_
          refine Ew_of (pcₚ := 83) (fun _ => x_aload_n rfl rfl) ?_
          refine w_gI H (o := 5) (w := u5_25) rfl (H.perm 5 rfl) rfl rfl rfl (fun _ => rfl) (((hS26 5 25 rfl).trans (hS14 5 25 rfl)).trans (eu5_25)) ?_
          refine w_lI H (o := 14) (n := 65536) rfl (H.perm 14 rfl) rfl rfl (H.fix 14 rfl rfl) (show 0 ≤ u5_25 ∧ u5_25 < ((65536 : Nat) : Int) from q_1920 h0 r1 r5) (by decide) (fun v56 ev56 qv56 => ?_)
          have qv56 : (0 : Int) ≤ v56 ∧ v56 ≤ 255 := qv56
          have ev56 : (w14) (u5_25) = v56 := (congrFun ((funext (hA27 14 rfl)).trans ((funext (hA15 14 rfl)).trans (ew14))) (u5_25)).symm.trans ev56
          have hc3 := ev56
          refine Ew_of (pcₚ := 89) (fun _ => x_bipush (z := 42) rfl (by decide)) ?_
          refine Ew_of (pcₚ := 91) (fun _ => x_bipush (z := 77) rfl (by decide)) ?_
          refine Ew_of (pcₚ := 93) (fun _ => x_bipush (z := 24) rfl (by decide)) ?_
          refine w_inv H (o := 5) rfl rfl rfl (H.perm 5 rfl) rfl rfl (by rfl) (M258 H (w14) ((funext (hA27 14 rfl)).trans ((funext (hA15 14 rfl)).trans (ew14))) (show inr (u5_25) from q_286 r5) (show inr (v56) from q_299 qv56) (show inr (42) from q_1532) (show inr (77) from q_1925) (show inr (24) from q_1514) (show 0 ≤ (u5_25) ∧ (u5_25) ≤ 65532 from q_1916 b23 pz16_0 pz16_1 r1 r5) (show 0 ≤ (v56) ∧ (v56) ≤ 255 ∧ 0 ≤ (42) ∧ (42) ≤ 255 ∧ 0 ≤ (77) ∧ (77) ≤ 255 ∧ 0 ≤ (24) ∧ (24) ≤ 255 from q_1924 qv56) (fun z61 σ F57 A58 H hS59 hA60 pz61_0 pz61_1 => ⟨rretB rfl pz61_0, ?_⟩))
          refine w_ifne (t := 109) rfl rfl (show inr (z61) from q_138 pz61_0) (fun b62 => ?_) (fun b62 => ?_)
          · refine Ew_of (pcₚ := 110) (fun _ => x_aload_n rfl rfl) ?_
            refine Ew_of (pcₚ := 111) (fun _ => x_dup rfl rfl) ?_
            refine w_gI H (o := 5) (w := u5_25) rfl (H.perm 5 rfl) rfl rfl rfl (fun _ => rfl) ((((hS59 5 25 rfl).trans (hS26 5 25 rfl)).trans (hS14 5 25 rfl)).trans (eu5_25)) ?_
            refine Ew_of (pcₚ := 115) (fun _ => x_iconst rfl) ?_
            refine w_iadd rfl ?_
            refine w_pI H (o := 5) rfl rfl (H.perm 5 rfl) rfl rfl rfl (fun _ => rfl) rfl (show (0 : Int) ≤ (u5_25 + 4) ∧ (u5_25 + 4) ≤ 65536 from q_1855 b23 pz16_0 pz16_1 r1 r5) (fun σ H => ?_)
            refine Ew_of (pcₚ := 120) (fun _ => x_aload_n rfl rfl) ?_
            refine Ew_of (pcₚ := 121) (fun _ => x_iconst rfl) ?_
            refine w_inv H (o := 5) rfl rfl rfl (H.perm 5 rfl) rfl rfl (by rfl) (M283 H (u1_1) (((((hS59 1 1 rfl).trans (hS26 1 1 rfl)).trans (hS14 1 1 rfl)).trans (eu1_1))) ((u5_25 + 4)) (rfl) (show inr (4) from q_216) (show 0 ≤ (4) ∧ (4) ≤ 1000000 from q_1852) (fun z67 σ F63 A64 H hS65 hA66 y68 ey69 y70 ey71 pz67_0 pz67_1 pz67_2 => ⟨rretB rfl pz67_0, ?_⟩))
            have r72 : (0 : Int) ≤ y68 ∧ y68 ≤ 20 := rngE (show (0 : Int) ≤ F63 5 30 ∧ F63 5 30 ≤ 20 from H.frng 5 30) (show F63 5 30 = y68 from (ey69))
            have r73 : (0 : Int) ≤ y70 ∧ y70 ≤ 65536 := rngE (show (0 : Int) ≤ F63 5 31 ∧ F63 5 31 ≤ 65536 from H.frng 5 31) (show F63 5 31 = y70 from (ey71))
            refine w_ifne (t := 129) rfl rfl (show inr (z67) from q_138 pz67_0) (fun b74 => ?_) (fun b74 => ?_)
            · refine Ew_of (pcₚ := 130) (fun _ => x_aload_n rfl rfl) ?_
              refine Ew_of (pcₚ := 131) (fun _ => x_aload_n rfl rfl) ?_
              refine w_gI H (o := 5) (w := (u5_25 + 4)) rfl (H.perm 5 rfl) rfl rfl rfl (fun _ => rfl) (hS65 5 25 rfl) ?_
              refine Ew_of (pcₚ := 135) (fun _ => x_iconst rfl) ?_
              refine w_inv H (o := 5) rfl rfl rfl (H.perm 5 rfl) rfl rfl (by rfl) (M257 H (w14) ((funext (hA66 14 rfl)).trans ((funext (hA60 14 rfl)).trans ((funext (hA27 14 rfl)).trans ((funext (hA15 14 rfl)).trans (ew14))))) (show inr ((u5_25 + 4)) from q_1597 r5) (show inr (4) from q_216) (show 0 ≤ ((u5_25 + 4)) ∧ 0 ≤ (4) ∧ (4) ≤ 8 ∧ ((u5_25 + 4)) + (4) ≤ 65536 from q_1926 b74 pz67_0 pz67_1 r1 r5) (fun z79 σ F75 A76 H hS77 hA78 pz79_0 pz79_1 pz79_2 pz79_3 pz79_4 pz79_5 pz79_6 pz79_7 pz79_8 pz79_9 => ⟨rfl, ?_⟩))
              replace pz79_1 := pz79_1.resolve_left (by decide)
              replace pz79_2 := pz79_2.resolve_right (by decide)
              replace pz79_3 := pz79_3 (by decide)
              (try clear pz79_4)
              (try clear pz79_5)
              (try clear pz79_6)
              (try clear pz79_7)
              replace pz79_8 := pz79_8 (by decide)
              have hN : z79 = nvl ((w14)) ((u5_25) + 4) 4 := nmb_nn pz79_9 (by omega) pz79_0
              refine Ew_of (pcₚ := 139) (fun _ => x_lstore_n rfl) ?_
              refine Ew_of (pcₚ := 140) (fun _ => x_aload_n rfl (rk2_o (rfl) rfl rfl)) ?_
              refine Ew_of (pcₚ := 141) (fun _ => x_dup rfl rfl) ?_
              refine w_gI H (o := 5) (w := (u5_25 + 4)) rfl (H.perm 5 rfl) rfl rfl rfl (fun _ => rfl) ((hS77 5 25 rfl).trans (hS65 5 25 rfl)) ?_
              refine Ew_of (pcₚ := 145) (fun _ => x_iconst rfl) ?_
              refine w_iadd rfl ?_
              refine w_pI H (o := 5) rfl rfl (H.perm 5 rfl) rfl rfl rfl (fun _ => rfl) rfl (show (0 : Int) ≤ ((u5_25 + 4) + 4) ∧ ((u5_25 + 4) + 4) ≤ 65536 from q_1927 b74 pz67_0 pz67_1 r1 r5) (fun σ H => ?_)
              refine Ew_of (pcₚ := 150) (fun _ => x_lload_n rfl rk2_s) ?_
              refine Ew_of (pcₚ := 151) (fun _ => x_aload_n rfl (rk2_o (rfl) rfl rfl)) ?_
              refine w_gT H (o := 5) (t := 1) rfl (H.perm 5 rfl) rfl rfl rfl rfl rfl rfl ?_
              refine w_gI H (o := 1) (w := u1_1) rfl (H.perm 1 rfl) rfl rfl rfl (fun _ => rfl) ((((((hS77 1 1 rfl).trans (hS65 1 1 rfl)).trans (hS59 1 1 rfl)).trans (hS26 1 1 rfl)).trans (hS14 1 1 rfl)).trans (eu1_1)) ?_
              refine Ew_of (pcₚ := 158) (fun _ => x_aload_n rfl (rk2_o (rfl) rfl rfl)) ?_
              refine w_gI H (o := 5) (w := ((u5_25 + 4) + 4)) rfl (H.perm 5 rfl) rfl rfl rfl (fun _ => rfl) rfl ?_
              refine w_isub rfl ?_
              refine w_i2l rfl (show inr ((u1_1 - ((u5_25 + 4) + 4))) from q_1928 h0 r1 r5) ?_
              refine w_lcmp rfl (show inrJ (z79) from pz79_0) (show inrJ ((u1_1 - ((u5_25 + 4) + 4))) from q_1929 h0 r1 r5) (fun z80 gz80 gaz80 gbz80 => ?_)
              refine w_ifle (t := 180) rfl rfl (show inr (z80) from gz80) (fun b81 => ?_) (fun b81 => ?_)
              · refine Ew_of (pcₚ := 181) (fun _ => x_aload_n rfl (rk2_o (rfl) rfl rfl)) ?_
                refine Ew_of (pcₚ := 182) (fun _ => x_dup rfl rfl) ?_
                refine w_gI H (o := 5) (w := ((u5_25 + 4) + 4)) rfl (H.perm 5 rfl) rfl rfl rfl (fun _ => rfl) rfl ?_
                refine Ew_of (pcₚ := 186) (fun _ => x_lload_n rfl rk2_s) ?_
                refine w_l2i rfl ?_
                refine w_iadd rfl ?_
                refine w_pI H (o := 5) rfl rfl (H.perm 5 rfl) rfl rfl rfl (fun _ => rfl) rfl (show (0 : Int) ≤ (((u5_25 + 4) + 4) + z79) ∧ (((u5_25 + 4) + 4) + z79) ≤ 65536 by omega) (fun σ H => ?_)
                refine Ew_of (pcₚ := 192) (fun _ => x_iconst rfl) ?_
                have : RFA (UNs ((w14)) ((u1_1)) ((u5_26)) Dc ((u5_25), sc ((w45)) 0 ((u5_27)), (u5_32), (u5_33), (u5_34), (u5_36))) ((1)) ((y68)) ((y70)) (((((u5_25 + 4) + 4) + z79))) (sc ((w45)) 0 ((u5_27))) ((u5_32)) ((u5_33)) ((u5_34)) ((u5_36)) := RFA_y (UN_s (by omega) (by omega) (by omega)) (by omega) rfl rfl rfl rfl rfl rfl
                exact w_ireturn rfl (k (1) σ _ _ H (SF_upd (SF_upd (SF_trans (SF_trans (SF_upd (SF_trans (SF_trans (SF_trans (SF_refl) hS14 (any_sub rfl)) hS26 (any_sub rfl)) hS59 (any_sub rfl)) rfl) hS65 (any_sub rfl)) hS77 (any_sub rfl)) rfl) rfl) (SA_trans (SA_trans (SA_trans (SA_trans (SA_trans (SA_refl) hA15 (any_subA rfl)) hA27 (any_subA rfl)) hA60 (any_subA rfl)) hA66 (any_subA rfl)) hA78 (any_subA rfl)) ((((u5_25 + 4) + 4) + z79)) (rfl) (u5_27) (((((((hS77 5 27 rfl).trans (hS65 5 27 rfl)).trans (hS59 5 27 rfl)).trans (hS26 5 27 rfl)).trans (hS14 5 27 rfl)).trans (eu5_27))) (y68) (((hS77 5 30 rfl).trans (ey69))) (y70) (((hS77 5 31 rfl).trans (ey71))) (u5_32) (((((((hS77 5 32 rfl).trans (hS65 5 32 rfl)).trans (hS59 5 32 rfl)).trans (hS26 5 32 rfl)).trans (hS14 5 32 rfl)).trans (eu5_32))) (u5_33) (((((((hS77 5 33 rfl).trans (hS65 5 33 rfl)).trans (hS59 5 33 rfl)).trans (hS26 5 33 rfl)).trans (hS14 5 33 rfl)).trans (eu5_33))) (u5_34) (((((((hS77 5 34 rfl).trans (hS65 5 34 rfl)).trans (hS59 5 34 rfl)).trans (hS26 5 34 rfl)).trans (hS14 5 34 rfl)).trans (eu5_34))) (u5_36) (((((((hS77 5 36 rfl).trans (hS65 5 36 rfl)).trans (hS59 5 36 rfl)).trans (hS26 5 36 rfl)).trans (hS14 5 36 rfl)).trans (eu5_36))) (w34) ((funext (hA78 34 rfl)).trans ((funext (hA66 34 rfl)).trans ((funext (hA60 34 rfl)).trans ((funext (hA27 34 rfl)).trans ((funext (hA15 34 rfl)).trans (ew34)))))) (w35) ((funext (hA78 35 rfl)).trans ((funext (hA66 35 rfl)).trans ((funext (hA60 35 rfl)).trans ((funext (hA27 35 rfl)).trans ((funext (hA15 35 rfl)).trans (ew35)))))) (w36) ((funext (hA78 36 rfl)).trans ((funext (hA66 36 rfl)).trans ((funext (hA60 36 rfl)).trans ((funext (hA27 36 rfl)).trans ((funext (hA15 36 rfl)).trans (ew36)))))) (w37) ((funext (hA78 37 rfl)).trans ((funext (hA66 37 rfl)).trans ((funext (hA60 37 rfl)).trans ((funext (hA27 37 rfl)).trans ((funext (hA15 37 rfl)).trans (ew37)))))) (w45) ((funext (hA78 45 rfl)).trans ((funext (hA66 45 rfl)).trans ((funext (hA60 45 rfl)).trans ((funext (hA27 45 rfl)).trans ((funext (hA15 45 rfl)).trans (ew45)))))) (show (1) = 0 ∨ (1) = 1 by first | exact q_49 | omega) (h1) (show (u5_27) ≤ (u5_27) ∧ (u5_27) ≤ (u5_26) from q_1839 h3) (show (1) = 1 → (u5_25) + 4 ≤ ((((u5_25 + 4) + 4) + z79)) ∧ ((((u5_25 + 4) + 4) + z79)) ≤ (u1_1) by omega) (show 0 ≤ (u5_32) ∧ ((1) = 0 ∨ (u5_32) ≤ ((((u5_25 + 4) + 4) + z79))) by omega) (show 0 ≤ (u5_33) ∧ ((1) = 0 ∨ (u5_33) ≤ ((((u5_25 + 4) + 4) + z79))) by omega) (show 0 ≤ (u5_34) ∧ (u5_34) ≤ (u5_27) from h6) (show RFA (UNs ((w14)) ((u1_1)) ((u5_26)) Dc ((u5_25), sc ((w45)) 0 ((u5_27)), (u5_32), (u5_33), (u5_34), (u5_36))) ((1)) ((y68)) ((y70)) (((((u5_25 + 4) + 4) + z79))) (sc ((w45)) 0 ((u5_27))) ((u5_32)) ((u5_33)) ((u5_34)) ((u5_36)) by assumption))
              · refine Ew_of (pcₚ := 168) (fun _ => x_aload_n rfl (rk2_o (rfl) rfl rfl)) ?_
                refine Ew_of (pcₚ := 169) (fun _ => x_iconst rfl) ?_
                refine Ew_of (pcₚ := 170) (fun _ => x_aload_n rfl (rk2_o (rfl) rfl rfl)) ?_
                refine w_gT H (o := 5) (t := 1) rfl (H.perm 5 rfl) rfl rfl rfl rfl rfl rfl ?_
                refine w_gI H (o := 1) (w := u1_1) rfl (H.perm 1 rfl) rfl rfl rfl (fun _ => rfl) ((((((hS77 1 1 rfl).trans (hS65 1 1 rfl)).trans (hS59 1 1 rfl)).trans (hS26 1 1 rfl)).trans (hS14 1 1 rfl)).trans (eu1_1)) ?_
                refine w_inv H (o := 5) rfl rfl rfl (H.perm 5 rfl) rfl rfl (by rfl) (M282 H (show inr (1) from q_135) (show inr (u1_1) from q_286 r1) (show 0 ≤ (1) ∧ (1) ≤ 20 from q_1494) (show 0 ≤ (u1_1) ∧ (u1_1) ≤ 65536 from r1) (fun z86 σ F82 A83 H hS84 hA85 y87 ey88 y89 ey90 pz86_0 pz86_1 pz86_2 pz86_3 => ⟨rretB rfl pz86_0, ?_⟩))
                have r91 : (0 : Int) ≤ y87 ∧ y87 ≤ 20 := rngE (show (0 : Int) ≤ F82 5 30 ∧ F82 5 30 ≤ 20 from H.frng 5 30) (show F82 5 30 = y87 from (ey88))
                have r92 : (0 : Int) ≤ y89 ∧ y89 ≤ 65536 := rngE (show (0 : Int) ≤ F82 5 31 ∧ F82 5 31 ≤ 65536 from H.frng 5 31) (show F82 5 31 = y89 from (ey90))
                have : RFA (UNs ((w14)) ((u1_1)) ((u5_26)) Dc ((u5_25), sc ((w45)) 0 ((u5_27)), (u5_32), (u5_33), (u5_34), (u5_36))) ((z86)) ((y87)) ((y89)) ((((u5_25 + 4) + 4))) (sc ((w45)) 0 ((u5_27))) ((u5_32)) ((u5_33)) ((u5_34)) ((u5_36)) := RFA_f (UN_s1 (by omega) (by omega) (.inr (by omega))) (by decide) (by omega) (by omega) (by omega) rfl rfl rfl rfl rfl
                exact w_ireturn rfl (k (z86) σ _ _ H (SF_trans (SF_upd (SF_trans (SF_trans (SF_upd (SF_trans (SF_trans (SF_trans (SF_refl) hS14 (any_sub rfl)) hS26 (any_sub rfl)) hS59 (any_sub rfl)) rfl) hS65 (any_sub rfl)) hS77 (any_sub rfl)) rfl) hS84 (any_sub rfl)) (SA_trans (SA_trans (SA_trans (SA_trans (SA_trans (SA_trans (SA_refl) hA15 (any_subA rfl)) hA27 (any_subA rfl)) hA60 (any_subA rfl)) hA66 (any_subA rfl)) hA78 (any_subA rfl)) hA85 (any_subA rfl)) (((u5_25 + 4) + 4)) ((hS84 5 25 rfl)) (u5_27) ((((((((hS84 5 27 rfl).trans (hS77 5 27 rfl)).trans (hS65 5 27 rfl)).trans (hS59 5 27 rfl)).trans (hS26 5 27 rfl)).trans (hS14 5 27 rfl)).trans (eu5_27))) (y87) ((ey88)) (y89) ((ey90)) (u5_32) ((((((((hS84 5 32 rfl).trans (hS77 5 32 rfl)).trans (hS65 5 32 rfl)).trans (hS59 5 32 rfl)).trans (hS26 5 32 rfl)).trans (hS14 5 32 rfl)).trans (eu5_32))) (u5_33) ((((((((hS84 5 33 rfl).trans (hS77 5 33 rfl)).trans (hS65 5 33 rfl)).trans (hS59 5 33 rfl)).trans (hS26 5 33 rfl)).trans (hS14 5 33 rfl)).trans (eu5_33))) (u5_34) ((((((((hS84 5 34 rfl).trans (hS77 5 34 rfl)).trans (hS65 5 34 rfl)).trans (hS59 5 34 rfl)).trans (hS26 5 34 rfl)).trans (hS14 5 34 rfl)).trans (eu5_34))) (u5_36) ((((((((hS84 5 36 rfl).trans (hS77 5 36 rfl)).trans (hS65 5 36 rfl)).trans (hS59 5 36 rfl)).trans (hS26 5 36 rfl)).trans (hS14 5 36 rfl)).trans (eu5_36))) (w34) ((funext (hA85 34 rfl)).trans ((funext (hA78 34 rfl)).trans ((funext (hA66 34 rfl)).trans ((funext (hA60 34 rfl)).trans ((funext (hA27 34 rfl)).trans ((funext (hA15 34 rfl)).trans (ew34))))))) (w35) ((funext (hA85 35 rfl)).trans ((funext (hA78 35 rfl)).trans ((funext (hA66 35 rfl)).trans ((funext (hA60 35 rfl)).trans ((funext (hA27 35 rfl)).trans ((funext (hA15 35 rfl)).trans (ew35))))))) (w36) ((funext (hA85 36 rfl)).trans ((funext (hA78 36 rfl)).trans ((funext (hA66 36 rfl)).trans ((funext (hA60 36 rfl)).trans ((funext (hA27 36 rfl)).trans ((funext (hA15 36 rfl)).trans (ew36))))))) (w37) ((funext (hA85 37 rfl)).trans ((funext (hA78 37 rfl)).trans ((funext (hA66 37 rfl)).trans ((funext (hA60 37 rfl)).trans ((funext (hA27 37 rfl)).trans ((funext (hA15 37 rfl)).trans (ew37))))))) (w45) ((funext (hA85 45 rfl)).trans ((funext (hA78 45 rfl)).trans ((funext (hA66 45 rfl)).trans ((funext (hA60 45 rfl)).trans ((funext (hA27 45 rfl)).trans ((funext (hA15 45 rfl)).trans (ew45))))))) (show (z86) = 0 ∨ (z86) = 1 from pz86_0) (h1) (show (u5_27) ≤ (u5_27) ∧ (u5_27) ≤ (u5_26) from q_1839 h3) (show (z86) = 1 → (u5_25) + 4 ≤ (((u5_25 + 4) + 4)) ∧ (((u5_25 + 4) + 4)) ≤ (u1_1) from q_1931 h0 pz86_1) (show 0 ≤ (u5_32) ∧ ((z86) = 0 ∨ (u5_32) ≤ (((u5_25 + 4) + 4))) by omega) (show 0 ≤ (u5_33) ∧ ((z86) = 0 ∨ (u5_33) ≤ (((u5_25 + 4) + 4))) from q_1930 h5 pz86_1) (show 0 ≤ (u5_34) ∧ (u5_34) ≤ (u5_27) from h6) (show RFA (UNs ((w14)) ((u1_1)) ((u5_26)) Dc ((u5_25), sc ((w45)) 0 ((u5_27)), (u5_32), (u5_33), (u5_34), (u5_36))) ((z86)) ((y87)) ((y89)) ((((u5_25 + 4) + 4))) (sc ((w45)) 0 ((u5_27))) ((u5_32)) ((u5_33)) ((u5_34)) ((u5_36)) by assumption))
            · refine Ew_of (pcₚ := 128) (fun _ => x_iconst rfl) ?_
              have : RFA (UNs ((w14)) ((u1_1)) ((u5_26)) Dc ((u5_25), sc ((w45)) 0 ((u5_27)), (u5_32), (u5_33), (u5_34), (u5_36))) ((0)) ((y68)) ((y70)) (((u5_25 + 4))) (sc ((w45)) 0 ((u5_27))) ((u5_32)) ((u5_33)) ((u5_34)) ((u5_36)) := RFA_f (UN_s1 (by omega) (by omega) (.inl (by omega))) (by decide) (by omega) (by omega) (by omega) rfl rfl rfl rfl rfl
              exact w_ireturn rfl (k (0) σ _ _ H (SF_trans (SF_upd (SF_trans (SF_trans (SF_trans (SF_refl) hS14 (any_sub rfl)) hS26 (any_sub rfl)) hS59 (any_sub rfl)) rfl) hS65 (any_sub rfl)) (SA_trans (SA_trans (SA_trans (SA_trans (SA_refl) hA15 (any_subA rfl)) hA27 (any_subA rfl)) hA60 (any_subA rfl)) hA66 (any_subA rfl)) ((u5_25 + 4)) ((hS65 5 25 rfl)) (u5_27) ((((((hS65 5 27 rfl).trans (hS59 5 27 rfl)).trans (hS26 5 27 rfl)).trans (hS14 5 27 rfl)).trans (eu5_27))) (y68) ((ey69)) (y70) ((ey71)) (u5_32) ((((((hS65 5 32 rfl).trans (hS59 5 32 rfl)).trans (hS26 5 32 rfl)).trans (hS14 5 32 rfl)).trans (eu5_32))) (u5_33) ((((((hS65 5 33 rfl).trans (hS59 5 33 rfl)).trans (hS26 5 33 rfl)).trans (hS14 5 33 rfl)).trans (eu5_33))) (u5_34) ((((((hS65 5 34 rfl).trans (hS59 5 34 rfl)).trans (hS26 5 34 rfl)).trans (hS14 5 34 rfl)).trans (eu5_34))) (u5_36) ((((((hS65 5 36 rfl).trans (hS59 5 36 rfl)).trans (hS26 5 36 rfl)).trans (hS14 5 36 rfl)).trans (eu5_36))) (w34) ((funext (hA66 34 rfl)).trans ((funext (hA60 34 rfl)).trans ((funext (hA27 34 rfl)).trans ((funext (hA15 34 rfl)).trans (ew34))))) (w35) ((funext (hA66 35 rfl)).trans ((funext (hA60 35 rfl)).trans ((funext (hA27 35 rfl)).trans ((funext (hA15 35 rfl)).trans (ew35))))) (w36) ((funext (hA66 36 rfl)).trans ((funext (hA60 36 rfl)).trans ((funext (hA27 36 rfl)).trans ((funext (hA15 36 rfl)).trans (ew36))))) (w37) ((funext (hA66 37 rfl)).trans ((funext (hA60 37 rfl)).trans ((funext (hA27 37 rfl)).trans ((funext (hA15 37 rfl)).trans (ew37))))) (w45) ((funext (hA66 45 rfl)).trans ((funext (hA60 45 rfl)).trans ((funext (hA27 45 rfl)).trans ((funext (hA15 45 rfl)).trans (ew45))))) (show (0) = 0 ∨ (0) = 1 by first | exact q_45 | omega) (h1) (show (u5_27) ≤ (u5_27) ∧ (u5_27) ≤ (u5_26) from q_1839 h3) (show (0) = 1 → (u5_25) + 4 ≤ ((u5_25 + 4)) ∧ ((u5_25 + 4)) ≤ (u1_1) by first | exact q_1932 h0 | omega) (show 0 ≤ (u5_32) ∧ ((0) = 0 ∨ (u5_32) ≤ ((u5_25 + 4))) by omega) (show 0 ≤ (u5_33) ∧ ((0) = 0 ∨ (u5_33) ≤ ((u5_25 + 4))) by first | exact q_1912 h5 | omega) (show 0 ≤ (u5_34) ∧ (u5_34) ≤ (u5_27) from h6) (show RFA (UNs ((w14)) ((u1_1)) ((u5_26)) Dc ((u5_25), sc ((w45)) 0 ((u5_27)), (u5_32), (u5_33), (u5_34), (u5_36))) ((0)) ((y68)) ((y70)) (((u5_25 + 4))) (sc ((w45)) 0 ((u5_27))) ((u5_32)) ((u5_33)) ((u5_34)) ((u5_36)) by assumption))
          · refine Ew_of (pcₚ := 100) (fun _ => x_aload_n rfl rfl) ?_
            refine Ew_of (pcₚ := 101) (fun _ => x_iconst rfl) ?_
            refine Ew_of (pcₚ := 102) (fun _ => x_aload_n rfl rfl) ?_
            refine w_gI H (o := 5) (w := u5_25) rfl (H.perm 5 rfl) rfl rfl rfl (fun _ => rfl) ((((hS59 5 25 rfl).trans (hS26 5 25 rfl)).trans (hS14 5 25 rfl)).trans (eu5_25)) ?_
            refine w_inv H (o := 5) rfl rfl rfl (H.perm 5 rfl) rfl rfl (by rfl) (M282 H (show inr (2) from q_122) (show inr (u5_25) from q_286 r5) (show 0 ≤ (2) ∧ (2) ≤ 20 from q_1921) (show 0 ≤ (u5_25) ∧ (u5_25) ≤ 65536 from r5) (fun z97 σ F93 A94 H hS95 hA96 y98 ey99 y100 ey101 pz97_0 pz97_1 pz97_2 pz97_3 => ⟨rretB rfl pz97_0, ?_⟩))
            have r102 : (0 : Int) ≤ y98 ∧ y98 ≤ 20 := rngE (show (0 : Int) ≤ F93 5 30 ∧ F93 5 30 ≤ 20 from H.frng 5 30) (show F93 5 30 = y98 from (ey99))
            have r103 : (0 : Int) ≤ y100 ∧ y100 ≤ 65536 := rngE (show (0 : Int) ≤ F93 5 31 ∧ F93 5 31 ≤ 65536 from H.frng 5 31) (show F93 5 31 = y100 from (ey101))
            have : RFA (UNs ((w14)) ((u1_1)) ((u5_26)) Dc ((u5_25), sc ((w45)) 0 ((u5_27)), (u5_32), (u5_33), (u5_34), (u5_36))) ((z97)) ((y98)) ((y100)) ((u5_25)) (sc ((w45)) 0 ((u5_27))) ((u5_32)) ((u5_33)) ((u5_34)) ((u5_36)) := RFA_f (UN_2 (by omega) (by omega) (by omega)) (by decide) (by omega) (by omega) (by omega) rfl rfl rfl rfl rfl
            exact w_ireturn rfl (k (z97) σ _ _ H (SF_trans (SF_trans (SF_trans (SF_trans (SF_refl) hS14 (any_sub rfl)) hS26 (any_sub rfl)) hS59 (any_sub rfl)) hS95 (any_sub rfl)) (SA_trans (SA_trans (SA_trans (SA_trans (SA_refl) hA15 (any_subA rfl)) hA27 (any_subA rfl)) hA60 (any_subA rfl)) hA96 (any_subA rfl)) (u5_25) ((((((hS95 5 25 rfl).trans (hS59 5 25 rfl)).trans (hS26 5 25 rfl)).trans (hS14 5 25 rfl)).trans (eu5_25))) (u5_27) ((((((hS95 5 27 rfl).trans (hS59 5 27 rfl)).trans (hS26 5 27 rfl)).trans (hS14 5 27 rfl)).trans (eu5_27))) (y98) ((ey99)) (y100) ((ey101)) (u5_32) ((((((hS95 5 32 rfl).trans (hS59 5 32 rfl)).trans (hS26 5 32 rfl)).trans (hS14 5 32 rfl)).trans (eu5_32))) (u5_33) ((((((hS95 5 33 rfl).trans (hS59 5 33 rfl)).trans (hS26 5 33 rfl)).trans (hS14 5 33 rfl)).trans (eu5_33))) (u5_34) ((((((hS95 5 34 rfl).trans (hS59 5 34 rfl)).trans (hS26 5 34 rfl)).trans (hS14 5 34 rfl)).trans (eu5_34))) (u5_36) ((((((hS95 5 36 rfl).trans (hS59 5 36 rfl)).trans (hS26 5 36 rfl)).trans (hS14 5 36 rfl)).trans (eu5_36))) (w34) ((funext (hA96 34 rfl)).trans ((funext (hA60 34 rfl)).trans ((funext (hA27 34 rfl)).trans ((funext (hA15 34 rfl)).trans (ew34))))) (w35) ((funext (hA96 35 rfl)).trans ((funext (hA60 35 rfl)).trans ((funext (hA27 35 rfl)).trans ((funext (hA15 35 rfl)).trans (ew35))))) (w36) ((funext (hA96 36 rfl)).trans ((funext (hA60 36 rfl)).trans ((funext (hA27 36 rfl)).trans ((funext (hA15 36 rfl)).trans (ew36))))) (w37) ((funext (hA96 37 rfl)).trans ((funext (hA60 37 rfl)).trans ((funext (hA27 37 rfl)).trans ((funext (hA15 37 rfl)).trans (ew37))))) (w45) ((funext (hA96 45 rfl)).trans ((funext (hA60 45 rfl)).trans ((funext (hA27 45 rfl)).trans ((funext (hA15 45 rfl)).trans (ew45))))) (show (z97) = 0 ∨ (z97) = 1 from pz97_0) (h1) (show (u5_27) ≤ (u5_27) ∧ (u5_27) ≤ (u5_26) from q_1839 h3) (show (z97) = 1 → (u5_25) + 4 ≤ (u5_25) ∧ (u5_25) ≤ (u1_1) from q_1922 h0 pz97_1) (show 0 ≤ (u5_32) ∧ ((z97) = 0 ∨ (u5_32) ≤ (u5_25)) by omega) (show 0 ≤ (u5_33) ∧ ((z97) = 0 ∨ (u5_33) ≤ (u5_25)) from q_1858 h5 pz97_1) (show 0 ≤ (u5_34) ∧ (u5_34) ≤ (u5_27) from h6) (show RFA (UNs ((w14)) ((u1_1)) ((u5_26)) Dc ((u5_25), sc ((w45)) 0 ((u5_27)), (u5_32), (u5_33), (u5_34), (u5_36))) ((z97)) ((y98)) ((y100)) ((u5_25)) (sc ((w45)) 0 ((u5_27))) ((u5_32)) ((u5_33)) ((u5_34)) ((u5_36)) by assumption))
    · refine Ew_of (pcₚ := 32) (fun _ => x_aload_n rfl rfl) ?_
      refine w_inv H (o := 5) rfl rfl rfl (H.perm 5 rfl) rfl rfl (by rfl) (M286 H (u1_1) ((((hS26 1 1 rfl).trans (hS14 1 1 rfl)).trans (eu1_1))) (u5_2) ((((hS26 5 2 rfl).trans (hS14 5 2 rfl)).trans (eu5_2))) (u5_3) ((((hS26 5 3 rfl).trans (hS14 5 3 rfl)).trans (eu5_3))) (u5_4) ((((hS26 5 4 rfl).trans (hS14 5 4 rfl)).trans (eu5_4))) (u5_25) ((((hS26 5 25 rfl).trans (hS14 5 25 rfl)).trans (eu5_25))) (u5_26) ((((hS26 5 26 rfl).trans (hS14 5 26 rfl)).trans (eu5_26))) (u5_27) ((((hS26 5 27 rfl).trans (hS14 5 27 rfl)).trans (eu5_27))) (u5_32) ((((hS26 5 32 rfl).trans (hS14 5 32 rfl)).trans (eu5_32))) (u5_33) ((((hS26 5 33 rfl).trans (hS14 5 33 rfl)).trans (eu5_33))) (u5_34) ((((hS26 5 34 rfl).trans (hS14 5 34 rfl)).trans (eu5_34))) (u5_36) ((((hS26 5 36 rfl).trans (hS14 5 36 rfl)).trans (eu5_36))) (w14) ((funext (hA27 14 rfl)).trans ((funext (hA15 14 rfl)).trans (ew14))) (w26) ((funext (hA27 26 rfl)).trans ((funext (hA15 26 rfl)).trans (ew26))) (w27) ((funext (hA27 27 rfl)).trans ((funext (hA15 27 rfl)).trans (ew27))) (w28) ((funext (hA27 28 rfl)).trans ((funext (hA15 28 rfl)).trans (ew28))) (w29) ((funext (hA27 29 rfl)).trans ((funext (hA15 29 rfl)).trans (ew29))) (w30) ((funext (hA27 30 rfl)).trans ((funext (hA15 30 rfl)).trans (ew30))) (w34) ((funext (hA27 34 rfl)).trans ((funext (hA15 34 rfl)).trans (ew34))) (w35) ((funext (hA27 35 rfl)).trans ((funext (hA15 35 rfl)).trans (ew35))) (w36) ((funext (hA27 36 rfl)).trans ((funext (hA15 36 rfl)).trans (ew36))) (w37) ((funext (hA27 37 rfl)).trans ((funext (hA15 37 rfl)).trans (ew37))) (w45) ((funext (hA27 45 rfl)).trans ((funext (hA15 45 rfl)).trans (ew45))) (Dc) (show (u5_25) + 4 ≤ (u1_1) from q_1933 b23 pz16_0 pz16_1) (h1) (show DI ((u5_4)) ((w27)) ((w28)) ((w29)) ((w30)) by assumption) (show (u5_27) ≤ (u5_26) from h3) (show 0 ≤ (u5_32) ∧ (u5_32) ≤ (u5_25) by omega) (show 0 ≤ (u5_33) ∧ (u5_33) ≤ (u5_25) from h5) (show 0 ≤ (u5_34) ∧ (u5_34) ≤ (u5_27) from h6) (h7) (fun z108 σ F104 A105 H hS106 hA107 y109 ey110 y111 ey112 y113 ey114 y115 ey116 y117 ey118 y119 ey120 y121 ey122 y123 ey124 wq125 ewq126 wq127 ewq128 wq129 ewq130 wq131 ewq132 wq133 ewq134 pz108_0 pz108_1 pz108_2 pz108_3 pz108_4 pz108_5 pz108_6 pz108_7 => ⟨rretB rfl pz108_0, ?_⟩))
      have r135 : (0 : Int) ≤ y109 ∧ y109 ≤ 65536 := rngE (show (0 : Int) ≤ F104 5 25 ∧ F104 5 25 ≤ 65536 from H.frng 5 25) (show F104 5 25 = y109 from (ey110))
      have r136 : (0 : Int) ≤ y111 ∧ y111 ≤ 65536 := rngE (show (0 : Int) ≤ F104 5 27 ∧ F104 5 27 ≤ 65536 from H.frng 5 27) (show F104 5 27 = y111 from (ey112))
      have r137 : (0 : Int) ≤ y113 ∧ y113 ≤ 20 := rngE (show (0 : Int) ≤ F104 5 30 ∧ F104 5 30 ≤ 20 from H.frng 5 30) (show F104 5 30 = y113 from (ey114))
      have r138 : (0 : Int) ≤ y115 ∧ y115 ≤ 65536 := rngE (show (0 : Int) ≤ F104 5 31 ∧ F104 5 31 ≤ 65536 from H.frng 5 31) (show F104 5 31 = y115 from (ey116))
      have r139 : (-2147483648 : Int) ≤ y117 ∧ y117 ≤ 2147483647 := rngE (show (-2147483648 : Int) ≤ F104 5 32 ∧ F104 5 32 ≤ 2147483647 from H.frng 5 32) (show F104 5 32 = y117 from (ey118))
      have r140 : (-2147483648 : Int) ≤ y119 ∧ y119 ≤ 2147483647 := rngE (show (-2147483648 : Int) ≤ F104 5 33 ∧ F104 5 33 ≤ 2147483647 from H.frng 5 33) (show F104 5 33 = y119 from (ey120))
      have r141 : (-2147483648 : Int) ≤ y121 ∧ y121 ≤ 2147483647 := rngE (show (-2147483648 : Int) ≤ F104 5 34 ∧ F104 5 34 ≤ 2147483647 from H.frng 5 34) (show F104 5 34 = y121 from (ey122))
      have r142 : (-2147483648 : Int) ≤ y123 ∧ y123 ≤ 2147483647 := rngE (show (-2147483648 : Int) ≤ F104 5 36 ∧ F104 5 36 ≤ 2147483647 from H.frng 5 36) (show F104 5 36 = y123 from (ey124))
      have : RFA (UNs ((w14)) ((u1_1)) ((u5_26)) Dc ((u5_25), sc ((w45)) 0 ((u5_27)), (u5_32), (u5_33), (u5_34), (u5_36))) ((z108)) ((y113)) ((y115)) ((y109)) (sc ((wq133)) 0 ((y111))) ((y117)) ((y119)) ((y121)) ((y123)) := RFA_e (UN_f (by omega) (by omega)) pz108_7
      exact w_ireturn rfl (k (z108) σ _ _ H (SF_trans (SF_trans (SF_trans (SF_refl) hS14 (any_sub rfl)) hS26 (any_sub rfl)) hS106 (any_sub rfl)) (SA_trans (SA_trans (SA_trans (SA_refl) hA15 (any_subA rfl)) hA27 (any_subA rfl)) hA107 (any_subA rfl)) (y109) ((ey110)) (y111) ((ey112)) (y113) ((ey114)) (y115) ((ey116)) (y117) ((ey118)) (y119) ((ey120)) (y121) ((ey122)) (y123) ((ey124)) (wq125) (ewq126) (wq127) (ewq128) (wq129) (ewq130) (wq131) (ewq132) (wq133) (ewq134) (show (z108) = 0 ∨ (z108) = 1 from pz108_0) (pz108_1) (show (u5_27) ≤ (y111) ∧ (y111) ≤ (u5_26) from pz108_2) (show (z108) = 1 → (u5_25) + 4 ≤ (y109) ∧ (y109) ≤ (u1_1) from pz108_3) (show 0 ≤ (y117) ∧ ((z108) = 0 ∨ (y117) ≤ (y109)) by omega) (show 0 ≤ (y119) ∧ ((z108) = 0 ∨ (y119) ≤ (y109)) from pz108_5) (show 0 ≤ (y121) ∧ (y121) ≤ (y111) from pz108_6) (show RFA (UNs ((w14)) ((u1_1)) ((u5_26)) Dc ((u5_25), sc ((w45)) 0 ((u5_27)), (u5_32), (u5_33), (u5_34), (u5_36))) ((z108)) ((y113)) ((y115)) ((y109)) (sc ((wq133)) 0 ((y111))) ((y117)) ((y119)) ((y121)) ((y123)) by assumption))
  · refine Ew_of (pcₚ := 9) (fun _ => x_iconst rfl) ?_
    have : RFA (UNs ((w14)) ((u1_1)) ((u5_26)) Dc ((u5_25), sc ((w45)) 0 ((u5_27)), (u5_32), (u5_33), (u5_34), (u5_36))) ((0)) ((y17)) ((y19)) ((u5_25)) (sc ((w45)) 0 ((u5_27))) ((u5_32)) ((u5_33)) ((u5_34)) ((u5_36)) := RFA_f (UN_1 (by omega) (by omega)) (by decide) (by omega) (by omega) (by omega) rfl rfl rfl rfl rfl
    exact w_ireturn rfl (k (0) σ _ _ H (SF_trans (SF_refl) hS14 (any_sub rfl)) (SA_trans (SA_refl) hA15 (any_subA rfl)) (u5_25) (((hS14 5 25 rfl).trans (eu5_25))) (u5_27) (((hS14 5 27 rfl).trans (eu5_27))) (y17) ((ey18)) (y19) ((ey20)) (u5_32) (((hS14 5 32 rfl).trans (eu5_32))) (u5_33) (((hS14 5 33 rfl).trans (eu5_33))) (u5_34) (((hS14 5 34 rfl).trans (eu5_34))) (u5_36) (((hS14 5 36 rfl).trans (eu5_36))) (w34) ((funext (hA15 34 rfl)).trans (ew34)) (w35) ((funext (hA15 35 rfl)).trans (ew35)) (w36) ((funext (hA15 36 rfl)).trans (ew36)) (w37) ((funext (hA15 37 rfl)).trans (ew37)) (w45) ((funext (hA15 45 rfl)).trans (ew45)) (show (0) = 0 ∨ (0) = 1 by first | exact q_45 | omega) (h1) (show (u5_27) ≤ (u5_27) ∧ (u5_27) ≤ (u5_26) from q_1839 h3) (show (0) = 1 → (u5_25) + 4 ≤ (u5_25) ∧ (u5_25) ≤ (u1_1) by first | exact q_1934 h0 | omega) (show 0 ≤ (u5_32) ∧ ((0) = 0 ∨ (u5_32) ≤ (u5_25)) by omega) (show 0 ≤ (u5_33) ∧ ((0) = 0 ∨ (u5_33) ≤ (u5_25)) by first | exact q_1860 h5 | omega) (show 0 ≤ (u5_34) ∧ (u5_34) ≤ (u5_27) from h6) (show RFA (UNs ((w14)) ((u1_1)) ((u5_26)) Dc ((u5_25), sc ((w45)) 0 ((u5_27)), (u5_32), (u5_33), (u5_34), (u5_36))) ((0)) ((y17)) ((y19)) ((u5_25)) (sc ((w45)) 0 ((u5_27))) ((u5_32)) ((u5_33)) ((u5_34)) ((u5_36)) by assumption))

theorem M284 {σ0 σ : rS} {D N : Nat → Nat} {F : hF} {A : hA} {d c s : Nat} {Q : wQ} (H : HS σ0 σ D N F A) {a1 : Int} (u1_1 : Int) (eu1_1 : F 1 1 = u1_1) (u5_2 : Int) (eu5_2 : F 5 2 = u5_2) (u5_3 : Int) (eu5_3 : F 5 3 = u5_3) (u5_4 : Int) (eu5_4 : F 5 4 = u5_4) (w14 : Int → Int) (ew14 : A 14 = w14) (w26 : Int → Int) (ew26 : A 26 = w26) (w27 : Int → Int) (ew27 : A 27 = w27) (w28 : Int → Int) (ew28 : A 28 = w28) (w29 : Int → Int) (ew29 : A 29 = w29) (w30 : Int → Int) (ew30 : A 30 = w30) (w34 : Int → Int) (ew34 : A 34 = w34) (w35 : Int → Int) (ew35 : A 35 = w35) (w36 : Int → Int) (ew36 : A 36 = w36) (w37 : Int → Int) (ew37 : A 37 = w37) (Dc : DcS) (h0 : inr (a1)) (h1 : 0 ≤ (a1) ∧ (a1) ≤ 65536) (h2 : RT ((w35)) ((w36)) ((w37)) ((w34))) (h3 : DI ((u5_4)) ((w27)) ((w28)) ((w29)) ((w30))) (h4 : RDI Dc ((u5_4)) ((u5_3)) ((w26)) ((u5_2)) ((w27)) ((w28)) ((w29)) ((w30))) (k : ∀ (z : Int) σ Fₚ Aₚ, HS σ0 σ D N Fₚ Aₚ → SF [(1, 3), (5, 10), (5, 19), (5, 25), (5, 26), (5, 27), (5, 28), (5, 29), (5, 30), (5, 31), (5, 32), (5, 33), (5, 34), (5, 35), (5, 36), (5, 39), (5, 40), (5, 41), (5, 42), (5, 43), (5, 44), (5, 45)] F Fₚ → SA [15, 31, 32, 33, 34, 35, 36, 37, 38, 39, 40, 41, 42, 43, 44, 45, 46, 47] A Aₚ → ∀ y1_3 : Int, Fₚ 1 3 = y1_3 → ∀ y5_27 : Int, Fₚ 5 27 = y5_27 → ∀ y5_31 : Int, Fₚ 5 31 = y5_31 → ∀ y5_32 : Int, Fₚ 5 32 = y5_32 → ∀ y5_33 : Int, Fₚ 5 33 = y5_33 → ∀ y5_34 : Int, Fₚ 5 34 = y5_34 → ∀ y5_36 : Int, Fₚ 5 36 = y5_36 → ∀ v15 : Int → Int, Aₚ 15 = v15 → ∀ v34 : Int → Int, Aₚ 34 = v34 → ∀ v35 : Int → Int, Aₚ 35 = v35 → ∀ v36 : Int → Int, Aₚ 36 = v36 → ∀ v37 : Int → Int, Aₚ 37 = v37 → ∀ v45 : Int → Int, Aₚ 45 = v45 → (inr (z)) → (RT ((v35)) ((v36)) ((v37)) ((v34))) → (RDA (RDS ((w14)) ((u1_1)) ((a1)) Dc) ((z)) ((y5_31)) ((u1_1)) ((y1_3)) ((v15)) (sc ((v45)) 0 ((y5_27))) ((y5_27)) ((y5_32)) ((y5_33)) ((y5_34)) ((y5_36))) → ((z) < 0 ∨ (z) = (y1_3)) → Q (some (I z)) σ c s) : Ew 284 (d + 10) 0 (rargs 0 [.ref (D 5), I a1]) [] σ c s Q := by
  have r1 : (0 : Int) ≤ u1_1 ∧ u1_1 ≤ 65536 := rngE (show (0 : Int) ≤ F 1 1 ∧ F 1 1 ≤ 65536 from H.frng 1 1) (show F 1 1 = u1_1 from (eu1_1))
  have r2 : (0 : Int) ≤ u5_2 ∧ u5_2 ≤ 65536 := rngE (show (0 : Int) ≤ F 5 2 ∧ F 5 2 ≤ 65536 from H.frng 5 2) (show F 5 2 = u5_2 from (eu5_2))
  have r3 : (-2147483648 : Int) ≤ u5_3 ∧ u5_3 ≤ 2147483647 := rngE (show (-2147483648 : Int) ≤ F 5 3 ∧ F 5 3 ≤ 2147483647 from H.frng 5 3) (show F 5 3 = u5_3 from (eu5_3))
  have r4 : (0 : Int) ≤ u5_4 ∧ u5_4 ≤ 1 := rngE (show (0 : Int) ≤ F 5 4 ∧ F 5 4 ≤ 1 from H.frng 5 4) (show F 5 4 = u5_4 from (eu5_4))
  refine Ew_of (pcₚ := 1) (fun _ => x_aload_n rfl rfl) ?_
  refine Ew_of (pcₚ := 2) (fun _ => x_iconst rfl) ?_
  refine w_pI H (o := 5) rfl rfl (H.perm 5 rfl) rfl rfl rfl (fun _ => rfl) rfl (show (0 : Int) ≤ 0 ∧ 0 ≤ 65536 from q_300) (fun σ H => ?_)
  refine Ew_of (pcₚ := 6) (fun _ => x_aload_n rfl rfl) ?_
  refine Ew_of (pcₚ := 7) (fun _ => x_iload_n rfl rfl) ?_
  refine w_pI H (o := 5) rfl rfl (H.perm 5 rfl) rfl rfl rfl (fun _ => rfl) rfl (show (0 : Int) ≤ a1 ∧ a1 ≤ 65536 from h1) (fun σ H => ?_)
  refine Ew_of (pcₚ := 11) (fun _ => x_aload_n rfl rfl) ?_
  refine Ew_of (pcₚ := 12) (fun _ => x_iconst rfl) ?_
  refine w_pI H (o := 5) rfl rfl (H.perm 5 rfl) rfl rfl rfl (fun _ => rfl) rfl (show (0 : Int) ≤ 0 ∧ 0 ≤ 65536 from q_300) (fun σ H => ?_)
  refine Ew_of (pcₚ := 16) (fun _ => x_aload_n rfl rfl) ?_
  refine Ew_of (pcₚ := 17) (fun _ => x_iconst rfl) ?_
  refine w_pI H (o := 5) rfl rfl (H.perm 5 rfl) rfl rfl rfl (fun _ => rfl) rfl (show (-2147483648 : Int) ≤ 0 ∧ 0 ≤ 2147483647 from q_22) (fun σ H => ?_)
  refine Ew_of (pcₚ := 21) (fun _ => x_aload_n rfl rfl) ?_
  refine Ew_of (pcₚ := 22) (fun _ => x_iconst rfl) ?_
  refine w_pI H (o := 5) rfl rfl (H.perm 5 rfl) rfl rfl rfl (fun _ => rfl) rfl (show (-2147483648 : Int) ≤ 0 ∧ 0 ≤ 2147483647 from q_22) (fun σ H => ?_)
  refine Ew_of (pcₚ := 26) (fun _ => x_aload_n rfl rfl) ?_
  refine Ew_of (pcₚ := 27) (fun _ => x_iconst rfl) ?_
  refine w_pI H (o := 5) rfl rfl (H.perm 5 rfl) rfl rfl rfl (fun _ => rfl) rfl (show (-2147483648 : Int) ≤ 0 ∧ 0 ≤ 2147483647 from q_22) (fun σ H => ?_)
  refine Ew_of (pcₚ := 31) (fun _ => x_aload_n rfl rfl) ?_
  refine Ew_of (pcₚ := 32) (fun _ => x_iconst rfl) ?_
  refine w_pI H (o := 5) rfl rfl (H.perm 5 rfl) rfl rfl rfl (fun _ => rfl) rfl (show (-2147483648 : Int) ≤ 0 ∧ 0 ≤ 2147483647 from q_22) (fun σ H => ?_)
  refine Ew_of (pcₚ := 36) (fun _ => x_iconst rfl) ?_
  refine Ew_of (pcₚ := 37) (fun _ => x_istore_n rfl) ?_
  have r5 : (0 : Int) ≤ F 5 30 ∧ F 5 30 ≤ 20 := H.frng 5 30
  have r6 : (0 : Int) ≤ F 5 31 ∧ F 5 31 ≤ 65536 := H.frng 5 31
  have : RDJ (RDS ((w14)) ((u1_1)) ((a1)) Dc) ((w14)) ((u1_1)) ((a1)) Dc ((1 : Int)) ((F 5 30)) ((F 5 31)) ((0)) (sc ((A 45)) 0 ((0))) ((0)) ((0)) ((0)) ((0)) := .inl ⟨rfl, by rw [sc_nil (f := (A 45)) (Int.le_refl 0)]; rfl⟩
  suffices hl37 : ∀ (m : Nat), ∀ (ls : rO) (σ : rS) (F_37 : hF) (A_37 : hA) (x37_2 : Int), rlook ls 0 = some (.ref (D 5)) → rlook ls 2 = some (I (x37_2)) → HS σ0 σ D N F_37 A_37 → SF [(5, 10), (5, 19), (5, 25), (5, 27), (5, 28), (5, 29), (5, 30), (5, 31), (5, 32), (5, 33), (5, 34), (5, 35), (5, 36), (5, 39), (5, 40), (5, 41), (5, 42), (5, 43), (5, 44), (5, 45)] (updF (updF (updF (updF (updF (updF (updF F 5 25 (0)) 5 26 (a1)) 5 27 (0)) 5 32 (0)) 5 33 (0)) 5 34 (0)) 5 36 (0)) F_37 → SA [31, 32, 33, 34, 35, 36, 37, 38, 39, 40, 41, 42, 43, 44, 45, 46, 47] A A_37 → ∀ y37_5_25 : Int, F_37 5 25 = y37_5_25 → ∀ y37_5_27 : Int, F_37 5 27 = y37_5_27 → ∀ y37_5_30 : Int, F_37 5 30 = y37_5_30 → ∀ y37_5_31 : Int, F_37 5 31 = y37_5_31 → ∀ y37_5_32 : Int, F_37 5 32 = y37_5_32 → ∀ y37_5_33 : Int, F_37 5 33 = y37_5_33 → ∀ y37_5_34 : Int, F_37 5 34 = y37_5_34 → ∀ y37_5_36 : Int, F_37 5 36 = y37_5_36 → ∀ w37_34 : Int → Int, A_37 34 = w37_34 → ∀ w37_35 : Int → Int, A_37 35 = w37_35 → ∀ w37_36 : Int → Int, A_37 36 = w37_36 → ∀ w37_37 : Int → Int, A_37 37 = w37_37 → ∀ w37_45 : Int → Int, A_37 45 = w37_45 → (inr (x37_2)) → ((x37_2) = 0 ∨ (x37_2) = 1) → ((x37_2) = 0 ∨ (y37_5_25) ≤ (u1_1)) → (0 ≤ (y37_5_27) ∧ (y37_5_27) ≤ (a1)) → (RT ((w37_35)) ((w37_36)) ((w37_37)) ((w37_34))) → ((a1) = (a1)) → ((x37_2) = 0 ∨ 0 ≤ (y37_5_32) ∧ (y37_5_32) ≤ (y37_5_25) ∧ 0 ≤ (y37_5_33) ∧ (y37_5_33) ≤ (y37_5_25)) → (0 ≤ (y37_5_34) ∧ (y37_5_34) ≤ (y37_5_27)) → (RDJ (RDS ((w14)) ((u1_1)) ((a1)) Dc) ((w14)) ((u1_1)) ((a1)) Dc ((x37_2)) ((y37_5_30)) ((y37_5_31)) ((y37_5_25)) (sc ((w37_45)) 0 ((y37_5_27))) ((y37_5_32)) ((y37_5_33)) ((y37_5_34)) ((y37_5_36))) → (if (x37_2) = 1 then (u1_1) - (y37_5_25) + 1 else 0).toNat = m → Ew 284 (d + 10) 37 ls [] σ c s Q from
    hl37 _ _ σ _ _ (1) (rk_o (rfl) rfl rfl) (rk_s) H (SF_refl) (SA_refl) (0) (rfl) (0) (rfl) (F 5 30) (rfl) (F 5 31) (rfl) (0) (rfl) (0) (rfl) (0) (rfl) (0) (rfl) (w34) (ew34) (w35) (ew35) (w36) (ew36) (w37) (ew37) (A 45) (rfl) (show inr (1) from q_135) (show (1) = 0 ∨ (1) = 1 from q_49) (show (1) = 0 ∨ (0) ≤ (u1_1) from q_1936 r1) (show 0 ≤ (0) ∧ (0) ≤ (a1) from q_1172 h1) (h2) (show (a1) = (a1) from q_303) (show (1) = 0 ∨ 0 ≤ (0) ∧ (0) ≤ (0) ∧ 0 ≤ (0) ∧ (0) ≤ (0) from q_1935) (show 0 ≤ (0) ∧ (0) ≤ (0) from q_4) (show RDJ (RDS ((w14)) ((u1_1)) ((a1)) Dc) ((w14)) ((u1_1)) ((a1)) Dc ((1)) ((F 5 30)) ((F 5 31)) ((0)) (sc ((A 45)) 0 ((0))) ((0)) ((0)) ((0)) ((0)) by assumption) rfl
  as_aux_lemma =>
  intro m
  induction m using Nat.strongRecOn with
  | _ m ih37 =>
    intro ls σ F_37 A_37 x37_2 l37_0 l37_2 H hS_37 hA_37 y37_5_25 ey37_5_25 y37_5_27 ey37_5_27 y37_5_30 ey37_5_30 y37_5_31 ey37_5_31 y37_5_32 ey37_5_32 y37_5_33 ey37_5_33 y37_5_34 ey37_5_34 y37_5_36 ey37_5_36 w37_34 ew37_34 w37_35 ew37_35 w37_36 ew37_36 w37_37 ew37_37 w37_45 ew37_45 j37_0 j37_1 j37_2 j37_3 j37_4 j37_5 j37_6 j37_7 j37_8 hm37
    have r7 : (0 : Int) ≤ y37_5_25 ∧ y37_5_25 ≤ 65536 := rngE (show (0 : Int) ≤ F_37 5 25 ∧ F_37 5 25 ≤ 65536 from H.frng 5 25) (show F_37 5 25 = y37_5_25 from (ey37_5_25))
    have r8 : (0 : Int) ≤ y37_5_27 ∧ y37_5_27 ≤ 65536 := rngE (show (0 : Int) ≤ F_37 5 27 ∧ F_37 5 27 ≤ 65536 from H.frng 5 27) (show F_37 5 27 = y37_5_27 from (ey37_5_27))
    have r9 : (0 : Int) ≤ y37_5_30 ∧ y37_5_30 ≤ 20 := rngE (show (0 : Int) ≤ F_37 5 30 ∧ F_37 5 30 ≤ 20 from H.frng 5 30) (show F_37 5 30 = y37_5_30 from (ey37_5_30))
    have r10 : (0 : Int) ≤ y37_5_31 ∧ y37_5_31 ≤ 65536 := rngE (show (0 : Int) ≤ F_37 5 31 ∧ F_37 5 31 ≤ 65536 from H.frng 5 31) (show F_37 5 31 = y37_5_31 from (ey37_5_31))
    have r11 : (-2147483648 : Int) ≤ y37_5_32 ∧ y37_5_32 ≤ 2147483647 := rngE (show (-2147483648 : Int) ≤ F_37 5 32 ∧ F_37 5 32 ≤ 2147483647 from H.frng 5 32) (show F_37 5 32 = y37_5_32 from (ey37_5_32))
    have r12 : (-2147483648 : Int) ≤ y37_5_33 ∧ y37_5_33 ≤ 2147483647 := rngE (show (-2147483648 : Int) ≤ F_37 5 33 ∧ F_37 5 33 ≤ 2147483647 from H.frng 5 33) (show F_37 5 33 = y37_5_33 from (ey37_5_33))
    have r13 : (-2147483648 : Int) ≤ y37_5_34 ∧ y37_5_34 ≤ 2147483647 := rngE (show (-2147483648 : Int) ≤ F_37 5 34 ∧ F_37 5 34 ≤ 2147483647 from H.frng 5 34) (show F_37 5 34 = y37_5_34 from (ey37_5_34))
    have r14 : (-2147483648 : Int) ≤ y37_5_36 ∧ y37_5_36 ≤ 2147483647 := rngE (show (-2147483648 : Int) ≤ F_37 5 36 ∧ F_37 5 36 ≤ 2147483647 from H.frng 5 36) (show F_37 5 36 = y37_5_36 from (ey37_5_36))
    have j37_j : RDJ (RDS ((w14)) ((u1_1)) ((a1)) Dc) ((w14)) ((u1_1)) ((a1)) Dc ((x37_2)) ((y37_5_30)) ((y37_5_31)) ((y37_5_25)) (sc ((w37_45)) 0 ((y37_5_27))) ((y37_5_32)) ((y37_5_33)) ((y37_5_34)) ((y37_5_36)) := j37_8
    refine Ew_of (pcₚ := 38) (fun _ => x_iload_n rfl l37_2) ?_
    have hc63 : ∀ (ls : rO) (σ : rS) (F_c63 : hF) (A_c63 : hA) , rlook ls 0 = some (.ref (D 5)) → rlook ls 2 = some (I (x37_2)) → HS σ0 σ D N F_c63 A_c63 → SF [] F_37 F_c63 → SA [] A_37 A_c63 → (((x37_2) = (0)) ∨ ((x37_2) ≠ (0) ∧ (y37_5_25) ≥ (u1_1))) → Ew 284 (d + 10) 63 ls [] σ c s Q := by
     as_aux_lemma =>
      intro  ls σ F_c63 A_c63  lc63_0 lc63_2 H hS_c63 hA_c63   jc63_0
      refine Ew_of (pcₚ := 64) (fun _ => x_iload_n rfl lc63_2) ?_
      refine w_ifne (t := 73) rfl rfl (show inr (x37_2) from j37_0) (fun b15 => ?_) (fun b15 => ?_)
      · refine Ew_of (pcₚ := 74) (fun _ => x_aload_n rfl lc63_0) ?_
        refine Ew_of (pcₚ := 75) (fun _ => x_aload_n rfl lc63_0) ?_
        refine w_gT H (o := 5) (t := 1) rfl (H.perm 5 rfl) rfl rfl rfl rfl rfl rfl ?_
        refine w_gI H (o := 1) (w := u1_1) rfl (H.perm 1 rfl) rfl rfl rfl (fun _ => rfl) (((hS_c63 1 1 rfl).trans (hS_37 1 1 rfl)).trans (eu1_1)) ?_
        refine w_pI H (o := 5) rfl rfl (H.perm 5 rfl) rfl rfl rfl (fun _ => rfl) rfl (show (0 : Int) ≤ u1_1 ∧ u1_1 ≤ 65536 from r1) (fun σ H => ?_)
        refine Ew_of (pcₚ := 85) (fun _ => x_aload_n rfl lc63_0) ?_
        refine w_gT H (o := 5) (t := 1) rfl (H.perm 5 rfl) rfl rfl rfl rfl rfl rfl ?_
        refine Ew_of (pcₚ := 89) (fun _ => x_aload_n rfl lc63_0) ?_
        refine w_gI H (o := 5) (w := y37_5_27) rfl (H.perm 5 rfl) rfl rfl rfl (fun _ => rfl) ((hS_c63 5 27 rfl).trans (ey37_5_27)) ?_
        refine w_pI H (o := 1) rfl rfl (H.perm 1 rfl) rfl rfl rfl (fun _ => rfl) rfl (show (0 : Int) ≤ y37_5_27 ∧ y37_5_27 ≤ 65536 from r8) (fun σ H => ?_)
        refine Ew_of (pcₚ := 96) (fun _ => x_iconst rfl) ?_
        refine Ew_of (pcₚ := 97) (fun _ => x_istore_n rfl) ?_
        have : CPY ((w37_45)) ((A 15)) 0 0 (0) := CPY_0
        suffices hl97 : ∀ (m : Nat), ∀ (ls : rO) (σ : rS) (F_97 : hF) (A_97 : hA) (x97_3 : Int), rlook ls 0 = some (.ref (D 5)) → rlook ls 3 = some (I (x97_3)) → HS σ0 σ D N F_97 A_97 → SF [] (updF (updF F_c63 5 31 (u1_1)) 1 3 (y37_5_27)) F_97 → SA [15] A_c63 A_97 → ∀ w97_15 : Int → Int, A_97 15 = w97_15 → (inr (x97_3)) → ((0) ≤ (x97_3)) → ((x97_3) ≤ (0) ∨ (x97_3) ≤ ((y37_5_27))) → (CPY ((w37_45)) ((w97_15)) 0 0 ((x97_3))) → (((y37_5_27)) - (x97_3)).toNat = m → Ew 284 (d + 10) 97 ls [] σ c s Q from
          hl97 _ _ σ _ _ (0) (rk_o (lc63_0) rfl rfl) (rk_s) H (SF_refl) (SA_refl)  (A 15) ((funext (hA_c63 15 rfl)).trans (funext (hA_37 15 rfl))) (show inr (0) from q_2) (show (0) ≤ (0) from q_1) (show (0) ≤ (0) ∨ (0) ≤ ((y37_5_27)) from q_5) (show CPY ((w37_45)) ((A 15)) 0 0 ((0)) by assumption) rfl
        as_aux_lemma =>
        intro m
        induction m using Nat.strongRecOn with
        | _ m ih97 =>
          intro ls σ F_97 A_97 x97_3 l97_0 l97_3 H hS_97 hA_97  w97_15 ew97_15 j97_0 j97_1 j97_2 j97_3 hm97
          have j97_c : CPY ((w37_45)) ((w97_15)) 0 0 ((x97_3)) := j97_3
          refine Ew_of (pcₚ := 98) (fun _ => x_iload_n rfl l97_3) ?_
          refine Ew_of (pcₚ := 99) (fun _ => x_aload_n rfl l97_0) ?_
          refine w_gI H (o := 5) (w := y37_5_27) rfl (H.perm 5 rfl) rfl rfl rfl (fun _ => rfl) (((hS_97 5 27 rfl).trans (hS_c63 5 27 rfl)).trans (ey37_5_27)) ?_
          refine w_icmpge (t := 126) rfl rfl (show inr (x97_3) from j97_0) (show inr (y37_5_27) from q_286 r8) (fun b16 => ?_) (fun b16 => ?_)
          · refine Ew_of (pcₚ := 127) (fun _ => x_aload_n rfl l97_0) ?_
            refine w_gI H (o := 5) (w := y37_5_27) rfl (H.perm 5 rfl) rfl rfl rfl (fun _ => rfl) (((hS_97 5 27 rfl).trans (hS_c63 5 27 rfl)).trans (ey37_5_27)) ?_
            have : RDA (RDS ((w14)) ((u1_1)) ((a1)) Dc) ((y37_5_27)) ((u1_1)) ((u1_1)) ((y37_5_27)) ((w97_15)) (sc ((w37_45)) 0 ((y37_5_27))) ((y37_5_27)) ((y37_5_32)) ((y37_5_33)) ((y37_5_34)) ((y37_5_36)) := RDA_y j37_j (by omega) (by omega) rfl rfl rfl (CPY_sc j97_c (by omega) (by omega))
            exact w_ireturn rfl (k (y37_5_27) σ _ _ H (SF_trans (SF_upd (SF_upd (SF_trans (SF_trans (SF_upd (SF_upd (SF_upd (SF_upd (SF_upd (SF_upd (SF_upd (SF_refl) rfl) rfl) rfl) rfl) rfl) rfl) rfl) hS_37 (any_sub rfl)) hS_c63 (any_sub rfl)) rfl) rfl) hS_97 (any_sub rfl)) (SA_trans (SA_trans (SA_trans (SA_refl) hA_37 (any_subA rfl)) hA_c63 (any_subA rfl)) hA_97 (any_subA rfl)) (y37_5_27) ((hS_97 1 3 rfl)) (y37_5_27) ((((hS_97 5 27 rfl).trans (hS_c63 5 27 rfl)).trans (ey37_5_27))) (u1_1) ((hS_97 5 31 rfl)) (y37_5_32) ((((hS_97 5 32 rfl).trans (hS_c63 5 32 rfl)).trans (ey37_5_32))) (y37_5_33) ((((hS_97 5 33 rfl).trans (hS_c63 5 33 rfl)).trans (ey37_5_33))) (y37_5_34) ((((hS_97 5 34 rfl).trans (hS_c63 5 34 rfl)).trans (ey37_5_34))) (y37_5_36) ((((hS_97 5 36 rfl).trans (hS_c63 5 36 rfl)).trans (ey37_5_36))) (w97_15) (ew97_15) (w37_34) ((funext (hA_97 34 rfl)).trans ((funext (hA_c63 34 rfl)).trans (ew37_34))) (w37_35) ((funext (hA_97 35 rfl)).trans ((funext (hA_c63 35 rfl)).trans (ew37_35))) (w37_36) ((funext (hA_97 36 rfl)).trans ((funext (hA_c63 36 rfl)).trans (ew37_36))) (w37_37) ((funext (hA_97 37 rfl)).trans ((funext (hA_c63 37 rfl)).trans (ew37_37))) (w37_45) ((funext (hA_97 45 rfl)).trans ((funext (hA_c63 45 rfl)).trans (ew37_45))) (show inr (y37_5_27) from q_286 r8) (j37_4) (show RDA (RDS ((w14)) ((u1_1)) (a1) Dc) ((y37_5_27)) ((u1_1)) ((u1_1)) ((y37_5_27)) ((w97_15)) (sc ((w37_45)) 0 ((y37_5_27))) ((y37_5_27)) ((y37_5_32)) ((y37_5_33)) ((y37_5_34)) ((y37_5_36)) by assumption) (show (y37_5_27) < 0 ∨ (y37_5_27) = (y37_5_27) from q_1937))
          · refine Ew_of (pcₚ := 106) (fun _ => x_aload_n rfl l97_0) ?_
            refine w_gT H (o := 5) (t := 1) rfl (H.perm 5 rfl) rfl rfl rfl rfl rfl rfl ?_
            refine w_gT H (o := 1) (t := 15) rfl (H.perm 1 rfl) rfl rfl rfl rfl rfl rfl ?_
            refine Ew_of (pcₚ := 113) (fun _ => x_iload_n rfl l97_3) ?_
            refine Ew_of (pcₚ := 114) (fun _ => x_aload_n rfl l97_0) ?_
            refine w_gT H (o := 5) (t := 45) rfl (H.perm 5 rfl) rfl rfl rfl rfl rfl rfl ?_
            refine Ew_of (pcₚ := 118) (fun _ => x_iload_n rfl l97_3) ?_
            refine w_lI H (o := 45) (n := 65536) rfl (H.perm 45 rfl) rfl rfl (H.fix 45 rfl rfl) (show 0 ≤ x97_3 ∧ x97_3 < ((65536 : Nat) : Int) from q_294 b16 j97_1 r8) (by decide) (fun v17 ev17 qv17 => ?_)
            have qv17 : (0 : Int) ≤ v17 ∧ v17 ≤ 255 := qv17
            have ev17 : (w37_45) (x97_3) = v17 := (congrFun ((funext (hA_97 45 rfl)).trans ((funext (hA_c63 45 rfl)).trans (ew37_45))) (x97_3)).symm.trans ev17
            have hv := ev17
            refine w_sI H (o := 15) (n := 65536) rfl (H.perm 15 rfl) rfl rfl (H.fix 15 rfl rfl) (show 0 ≤ x97_3 ∧ x97_3 < ((65536 : Nat) : Int) from q_294 b16 j97_1 r8) (by decide) (show (0 : Int) ≤ v17 ∧ v17 ≤ 255 from qv17) (fun σ H => ?_)
            refine Ew_of (pcₚ := 123) (fun _ => x_iinc (len := 3) rfl (l97_3)) ?_
            refine Ew_of (pcₚ := 97) (fun _ => x_goto rfl rfl) ?_
            have : CPY ((w37_45)) ((upd1 (w97_15) (x97_3) (v17))) 0 0 (((x97_3 + 1))) := CPY_s j97_c hv (by omega) (by omega) rfl
            exact ih97 _ (msE hm97 q_16 (q_17 b16)) _ σ _ _ ((x97_3 + 1)) (rk_o (l97_0) rfl rfl) (rk_s) H (hS_97) (SA_upd (hA_97) rfl)  (upd1 (w97_15) (x97_3) (v17)) (congrArg (fun q => upd1 q (x97_3) (v17)) (ew97_15)) (show inr ((x97_3 + 1)) from q_296 b16 j97_1 r8) (show (0) ≤ ((x97_3 + 1)) from q_14 j97_1) (show ((x97_3 + 1)) ≤ (0) ∨ ((x97_3 + 1)) ≤ ((y37_5_27)) from q_13 b16) (show CPY ((w37_45)) ((upd1 (w97_15) (x97_3) (v17))) 0 0 (((x97_3 + 1))) by assumption) rfl
      · refine Ew_of (pcₚ := 68) (fun _ => x_aload_n rfl lc63_0) ?_
        refine w_gI H (o := 5) (w := y37_5_30) rfl (H.perm 5 rfl) rfl rfl rfl (fun _ => rfl) ((hS_c63 5 30 rfl).trans (ey37_5_30)) ?_
        refine w_ineg rfl ?_
        have hfz := RDJ_z j37_j (by omega)
        have r18 : (0 : Int) ≤ F 1 3 ∧ F 1 3 ≤ 65536 := rngE (show (0 : Int) ≤ F_c63 1 3 ∧ F_c63 1 3 ≤ 65536 from H.frng 1 3) (show F_c63 1 3 = F 1 3 from ((hS_c63 1 3 rfl).trans (hS_37 1 3 rfl)))
        have : RDA (RDS ((w14)) ((u1_1)) ((a1)) Dc) (((-y37_5_30))) ((y37_5_31)) ((u1_1)) ((F 1 3)) ((A 15)) (sc ((w37_45)) 0 ((y37_5_27))) ((y37_5_27)) ((y37_5_32)) ((y37_5_33)) ((y37_5_34)) ((y37_5_36)) := RDA_f j37_j (by omega) rfl
        exact w_ireturn rfl (k ((-y37_5_30)) σ _ _ H (SF_trans (SF_trans (SF_upd (SF_upd (SF_upd (SF_upd (SF_upd (SF_upd (SF_upd (SF_refl) rfl) rfl) rfl) rfl) rfl) rfl) rfl) hS_37 (any_sub rfl)) hS_c63 (any_sub rfl)) (SA_trans (SA_trans (SA_refl) hA_37 (any_subA rfl)) hA_c63 (any_subA rfl)) (F 1 3) (((hS_c63 1 3 rfl).trans (hS_37 1 3 rfl))) (y37_5_27) (((hS_c63 5 27 rfl).trans (ey37_5_27))) (y37_5_31) (((hS_c63 5 31 rfl).trans (ey37_5_31))) (y37_5_32) (((hS_c63 5 32 rfl).trans (ey37_5_32))) (y37_5_33) (((hS_c63 5 33 rfl).trans (ey37_5_33))) (y37_5_34) (((hS_c63 5 34 rfl).trans (ey37_5_34))) (y37_5_36) (((hS_c63 5 36 rfl).trans (ey37_5_36))) (A 15) ((funext (hA_c63 15 rfl)).trans (funext (hA_37 15 rfl))) (w37_34) ((funext (hA_c63 34 rfl)).trans (ew37_34)) (w37_35) ((funext (hA_c63 35 rfl)).trans (ew37_35)) (w37_36) ((funext (hA_c63 36 rfl)).trans (ew37_36)) (w37_37) ((funext (hA_c63 37 rfl)).trans (ew37_37)) (w37_45) ((funext (hA_c63 45 rfl)).trans (ew37_45)) (show inr ((-y37_5_30)) from q_1159 r9) (j37_4) (show RDA (RDS ((w14)) ((u1_1)) (a1) Dc) (((-y37_5_30))) ((y37_5_31)) ((u1_1)) ((F 1 3)) ((A 15)) (sc ((w37_45)) 0 ((y37_5_27))) ((y37_5_27)) ((y37_5_32)) ((y37_5_33)) ((y37_5_34)) ((y37_5_36)) by assumption) (show ((-y37_5_30)) < 0 ∨ ((-y37_5_30)) = (F 1 3) by omega))
    refine w_ifeq (t := 63) rfl rfl (show inr (x37_2) from j37_0) (fun b19 => ?_) (fun b19 => ?_)
    · exact hc63  _ σ _ _  (l37_0) (l37_2) H (SF_refl) (SA_refl)   (show ((x37_2) = (0)) ∨ ((x37_2) ≠ (0) ∧ (y37_5_25) ≥ (u1_1)) from q_1938 b19)
    · refine Ew_of (pcₚ := 42) (fun _ => x_aload_n rfl l37_0) ?_
      refine w_gI H (o := 5) (w := y37_5_25) rfl (H.perm 5 rfl) rfl rfl rfl (fun _ => rfl) (ey37_5_25) ?_
      refine Ew_of (pcₚ := 46) (fun _ => x_aload_n rfl l37_0) ?_
      refine w_gT H (o := 5) (t := 1) rfl (H.perm 5 rfl) rfl rfl rfl rfl rfl rfl ?_
      refine w_gI H (o := 1) (w := u1_1) rfl (H.perm 1 rfl) rfl rfl rfl (fun _ => rfl) ((hS_37 1 1 rfl).trans (eu1_1)) ?_
      refine w_icmpge (t := 63) rfl rfl (show inr (y37_5_25) from q_286 r7) (show inr (u1_1) from q_286 r1) (fun b20 => ?_) (fun b20 => ?_)
      · exact hc63  _ σ _ _  (l37_0) (l37_2) H (SF_refl) (SA_refl)   (show ((x37_2) = (0)) ∨ ((x37_2) ≠ (0) ∧ (y37_5_25) ≥ (u1_1)) from q_1939 b19 b20)
      · refine Ew_of (pcₚ := 56) (fun _ => x_aload_n rfl l37_0) ?_
        have hmst : (a1) = (a1) := j37_5
        refine w_inv H (o := 5) rfl rfl rfl (H.perm 5 rfl) rfl rfl (by rfl) (M285 H (u1_1) (((hS_37 1 1 rfl).trans (eu1_1))) (u5_2) (((hS_37 5 2 rfl).trans (eu5_2))) (u5_3) (((hS_37 5 3 rfl).trans (eu5_3))) (u5_4) (((hS_37 5 4 rfl).trans (eu5_4))) (y37_5_25) ((ey37_5_25)) (a1) ((hS_37 5 26 rfl)) (y37_5_27) ((ey37_5_27)) (y37_5_32) ((ey37_5_32)) (y37_5_33) ((ey37_5_33)) (y37_5_34) ((ey37_5_34)) (y37_5_36) ((ey37_5_36)) (w14) ((funext (hA_37 14 rfl)).trans (ew14)) (w26) ((funext (hA_37 26 rfl)).trans (ew26)) (w27) ((funext (hA_37 27 rfl)).trans (ew27)) (w28) ((funext (hA_37 28 rfl)).trans (ew28)) (w29) ((funext (hA_37 29 rfl)).trans (ew29)) (w30) ((funext (hA_37 30 rfl)).trans (ew30)) (w37_34) (ew37_34) (w37_35) (ew37_35) (w37_36) (ew37_36) (w37_37) (ew37_37) (w37_45) (ew37_45) (Dc) (show (y37_5_25) < (u1_1) from b20) (j37_4) (h3) (show (y37_5_27) ≤ (a1) from q_1940 j37_3) (show 0 ≤ (y37_5_32) ∧ (y37_5_32) ≤ (y37_5_25) by omega) (show 0 ≤ (y37_5_33) ∧ (y37_5_33) ≤ (y37_5_25) by omega) (show 0 ≤ (y37_5_34) ∧ (y37_5_34) ≤ (y37_5_27) from j37_7) (h4) (fun z25 σ F21 A22 H hS23 hA24 y26 ey27 y28 ey29 y30 ey31 y32 ey33 y34 ey35 y36 ey37 y38 ey39 y40 ey41 wq42 ewq43 wq44 ewq45 wq46 ewq47 wq48 ewq49 wq50 ewq51 pz25_0 pz25_1 pz25_2 pz25_3 pz25_4 pz25_5 pz25_6 pz25_7 => ⟨rretB rfl pz25_0, ?_⟩))
        have r52 : (0 : Int) ≤ y26 ∧ y26 ≤ 65536 := rngE (show (0 : Int) ≤ F21 5 25 ∧ F21 5 25 ≤ 65536 from H.frng 5 25) (show F21 5 25 = y26 from (ey27))
        have r53 : (0 : Int) ≤ y28 ∧ y28 ≤ 65536 := rngE (show (0 : Int) ≤ F21 5 27 ∧ F21 5 27 ≤ 65536 from H.frng 5 27) (show F21 5 27 = y28 from (ey29))
        have r54 : (0 : Int) ≤ y30 ∧ y30 ≤ 20 := rngE (show (0 : Int) ≤ F21 5 30 ∧ F21 5 30 ≤ 20 from H.frng 5 30) (show F21 5 30 = y30 from (ey31))
        have r55 : (0 : Int) ≤ y32 ∧ y32 ≤ 65536 := rngE (show (0 : Int) ≤ F21 5 31 ∧ F21 5 31 ≤ 65536 from H.frng 5 31) (show F21 5 31 = y32 from (ey33))
        have r56 : (-2147483648 : Int) ≤ y34 ∧ y34 ≤ 2147483647 := rngE (show (-2147483648 : Int) ≤ F21 5 32 ∧ F21 5 32 ≤ 2147483647 from H.frng 5 32) (show F21 5 32 = y34 from (ey35))
        have r57 : (-2147483648 : Int) ≤ y36 ∧ y36 ≤ 2147483647 := rngE (show (-2147483648 : Int) ≤ F21 5 33 ∧ F21 5 33 ≤ 2147483647 from H.frng 5 33) (show F21 5 33 = y36 from (ey37))
        have r58 : (-2147483648 : Int) ≤ y38 ∧ y38 ≤ 2147483647 := rngE (show (-2147483648 : Int) ≤ F21 5 34 ∧ F21 5 34 ≤ 2147483647 from H.frng 5 34) (show F21 5 34 = y38 from (ey39))
        have r59 : (-2147483648 : Int) ≤ y40 ∧ y40 ≤ 2147483647 := rngE (show (-2147483648 : Int) ≤ F21 5 36 ∧ F21 5 36 ≤ 2147483647 from H.frng 5 36) (show F21 5 36 = y40 from (ey41))
        have hun := pz25_7
        rw [hmst] at hun
        refine Ew_of (pcₚ := 60) (fun _ => x_istore_n rfl) ?_
        refine Ew_of (pcₚ := 37) (fun _ => x_goto rfl rfl) ?_
        have : RDJ (RDS ((w14)) ((u1_1)) ((a1)) Dc) ((w14)) ((u1_1)) ((a1)) Dc ((z25)) ((y30)) ((y32)) ((y26)) (sc ((wq50)) 0 ((y28))) ((y34)) ((y36)) ((y38)) ((y40)) := RDJ_s j37_j (by omega) hun
        exact ih37 _ (by omega) _ σ _ _ (z25) (rk_o (l37_0) rfl rfl) (rk_s) H (SF_trans (hS_37) hS23 (any_sub rfl)) (SA_trans (hA_37) hA24 (any_subA rfl)) (y26) ((ey27)) (y28) ((ey29)) (y30) ((ey31)) (y32) ((ey33)) (y34) ((ey35)) (y36) ((ey37)) (y38) ((ey39)) (y40) ((ey41)) (wq42) (ewq43) (wq44) (ewq45) (wq46) (ewq47) (wq48) (ewq49) (wq50) (ewq51) (show inr (z25) from q_138 pz25_0) (show (z25) = 0 ∨ (z25) = 1 from pz25_0) (show (z25) = 0 ∨ (y26) ≤ (u1_1) by omega) (show 0 ≤ (y28) ∧ (y28) ≤ (a1) from q_1028 pz25_2 r53) (pz25_1) (show (a1) = (a1) from hmst) (show (z25) = 0 ∨ 0 ≤ (y34) ∧ (y34) ≤ (y26) ∧ 0 ≤ (y36) ∧ (y36) ≤ (y26) by omega) (show 0 ≤ (y38) ∧ (y38) ≤ (y28) from pz25_6) (show RDJ (RDS ((w14)) ((u1_1)) ((a1)) Dc) ((w14)) ((u1_1)) ((a1)) Dc ((z25)) ((y30)) ((y32)) ((y26)) (sc ((wq50)) 0 ((y28))) ((y34)) ((y36)) ((y38)) ((y40)) by assumption) rfl
set_option maxHeartbeats 16000000 in
theorem M275 {σ0 σ : rS} {D N : Nat → Nat} {F : hF} {A : hA} {d c s : Nat} {Q : wQ} (H : HS σ0 σ D N F A)  (u1_1 : Int) (eu1_1 : F 1 1 = u1_1) (u5_2 : Int) (eu5_2 : F 5 2 = u5_2) (u5_3 : Int) (eu5_3 : F 5 3 = u5_3) (u5_4 : Int) (eu5_4 : F 5 4 = u5_4) (w14 : Int → Int) (ew14 : A 14 = w14) (w26 : Int → Int) (ew26 : A 26 = w26) (w27 : Int → Int) (ew27 : A 27 = w27) (w28 : Int → Int) (ew28 : A 28 = w28) (w29 : Int → Int) (ew29 : A 29 = w29) (w30 : Int → Int) (ew30 : A 30 = w30) (w34 : Int → Int) (ew34 : A 34 = w34) (w35 : Int → Int) (ew35 : A 35 = w35) (w36 : Int → Int) (ew36 : A 36 = w36) (w37 : Int → Int) (ew37 : A 37 = w37) (Dc : DcS) (h0 : RT ((w35)) ((w36)) ((w37)) ((w34))) (h1 : DI ((u5_4)) ((w27)) ((w28)) ((w29)) ((w30))) (h2 : RDI Dc ((u5_4)) ((u5_3)) ((w26)) ((u5_2)) ((w27)) ((w28)) ((w29)) ((w30))) (k : ∀ (z : Int) σ Fₚ Aₚ, HS σ0 σ D N Fₚ Aₚ → SF [(5, 2), (5, 3), (5, 4), (5, 10), (5, 19), (5, 44), (5, 45)] F Fₚ → SA [26, 27, 28, 29, 30, 31, 32, 33, 34, 35, 36, 37, 38, 39, 40, 41, 42, 43, 44] A Aₚ → ∀ y5_2 : Int, Fₚ 5 2 = y5_2 → ∀ y5_3 : Int, Fₚ 5 3 = y5_3 → ∀ y5_4 : Int, Fₚ 5 4 = y5_4 → ∀ v26 : Int → Int, Aₚ 26 = v26 → ∀ v27 : Int → Int, Aₚ 27 = v27 → ∀ v28 : Int → Int, Aₚ 28 = v28 → ∀ v29 : Int → Int, Aₚ 29 = v29 → ∀ v30 : Int → Int, Aₚ 30 = v30 → ∀ v34 : Int → Int, Aₚ 34 = v34 → ∀ v35 : Int → Int, Aₚ 35 = v35 → ∀ v36 : Int → Int, Aₚ 36 = v36 → ∀ v37 : Int → Int, Aₚ 37 = v37 → (inr (z)) → (RT ((v35)) ((v36)) ((v37)) ((v34))) → (DI ((y5_4)) ((v27)) ((v28)) ((v29)) ((v30))) → (0 ≤ (y5_4) ∧ (y5_4) ≤ 1) → (LNA ((w14)) ((u1_1)) Dc ((z)) ((y5_4)) ((y5_3)) ((v26)) ((y5_2)) ((v27)) ((v28)) ((v29)) ((v30))) → (IMP (((z) : Int) < 0) (((y5_4), (y5_3), (y5_2), (v26), (v27), (v28), (v29), (v30)) = ((u5_4), (u5_3), (u5_2), (w26), (w27), (w28), (w29), (w30)))) → Q (some (I z)) σ c s) : Ew 275 (d + 4) 0 (rargs 0 [.ref (D 5)]) [] σ c s Q := by
  have r1 : (0 : Int) ≤ u1_1 ∧ u1_1 ≤ 65536 := rngE (show (0 : Int) ≤ F 1 1 ∧ F 1 1 ≤ 65536 from H.frng 1 1) (show F 1 1 = u1_1 from (eu1_1))
  have r2 : (0 : Int) ≤ u5_2 ∧ u5_2 ≤ 65536 := rngE (show (0 : Int) ≤ F 5 2 ∧ F 5 2 ≤ 65536 from H.frng 5 2) (show F 5 2 = u5_2 from (eu5_2))
  have r3 : (-2147483648 : Int) ≤ u5_3 ∧ u5_3 ≤ 2147483647 := rngE (show (-2147483648 : Int) ≤ F 5 3 ∧ F 5 3 ≤ 2147483647 from H.frng 5 3) (show F 5 3 = u5_3 from (eu5_3))
  have r4 : (0 : Int) ≤ u5_4 ∧ u5_4 ≤ 1 := rngE (show (0 : Int) ≤ F 5 4 ∧ F 5 4 ≤ 1 from H.frng 5 4) (show F 5 4 = u5_4 from (eu5_4))
  have hrdi : RDI Dc ((u5_4)) ((u5_3)) ((w26)) ((u5_2)) ((w27)) ((w28)) ((w29)) ((w30)) := h2
  refine Ew_of (pcₚ := 1) (fun _ => x_iconst rfl) ?_
  refine Ew_of (pcₚ := 2) (fun _ => x_istore_n rfl) ?_
  have hc36 : ∀ (tc36_0 : Int), ∀ (ls : rO) (σ : rS) (F_c36 : hF) (A_c36 : hA) , rlook ls 0 = some (.ref (D 5)) → rlook ls 1 = some (I (0)) → HS σ0 σ D N F_c36 A_c36 → SF [] F F_c36 → SA [] A A_c36 → (inr (tc36_0)) → ((tc36_0) = 0 ∨ (tc36_0) = 1 ∧ 4 ≤ (u1_1)) → ((((tc36_0) : Int) = 0 ∧ ((u1_1) < 4 ∨ nvl ((w14)) 0 4 ≠ 3962610743)) ∨ (((tc36_0) : Int) = 1 ∧ 4 ≤ (u1_1) ∧ nvl ((w14)) 0 4 = 3962610743)) → Ew 275 (d + 4) 36 ls [I (tc36_0)] σ c s Q := by
   as_aux_lemma =>
    intro tc36_0 ls σ F_c36 A_c36  lc36_0 lc36_1 H hS_c36 hA_c36   jc36_0 jc36_1 jc36_2
    refine Ew_of (pcₚ := 37) (fun _ => x_istore_n rfl) ?_
    have r5 : (0 : Int) ≤ F 5 10 ∧ F 5 10 ≤ 11 := rngE (show (0 : Int) ≤ F_c36 5 10 ∧ F_c36 5 10 ≤ 11 from H.frng 5 10) (show F_c36 5 10 = F 5 10 from (hS_c36 5 10 rfl))
    have hc247 : ∀ (ls : rO) (σ : rS) (F_c247 : hF) (A_c247 : hA) (xc247_1 : Int), rlook ls 0 = some (.ref (D 5)) → rlook ls 1 = some (I (xc247_1)) → rlook ls 2 = some (I (tc36_0)) → HS σ0 σ D N F_c247 A_c247 → SF [(5, 10), (5, 19), (5, 44), (5, 45)] F_c36 F_c247 → SA [31, 32, 33, 34, 35, 36, 37, 38, 39, 40, 41, 42, 43, 44] A_c36 A_c247 → ∀ yc247_5_10 : Int, F_c247 5 10 = yc247_5_10 → ∀ wc247_31 : Int → Int, A_c247 31 = wc247_31 → ∀ wc247_33 : Int → Int, A_c247 33 = wc247_33 → ∀ wc247_34 : Int → Int, A_c247 34 = wc247_34 → ∀ wc247_35 : Int → Int, A_c247 35 = wc247_35 → ∀ wc247_36 : Int → Int, A_c247 36 = wc247_36 → ∀ wc247_37 : Int → Int, A_c247 37 = wc247_37 → ∀ wc247_38 : Int → Int, A_c247 38 = wc247_38 → (inr (xc247_1)) → (0 ≤ (xc247_1) ∧ (xc247_1) ≤ (u1_1)) → ((tc36_0) = 1 → 8 ≤ (u1_1)) → ((tc36_0) = 0 → (xc247_1) = 0) → (RT ((wc247_35)) ((wc247_36)) ((wc247_37)) ((wc247_34))) → ((tc36_0) = 1 → CI ((wc247_31)) ((yc247_5_10))) → ((tc36_0) = 1 → PS ((wc247_33)) ((wc247_34)) 0) → ((tc36_0) = 1 → PS ((wc247_33)) ((wc247_34)) 1) → ((tc36_0) = 1 → PS ((wc247_33)) ((wc247_34)) 2) → ((tc36_0) = 1 → 1 ≤ ((wc247_38)) 0 ∧ 1 ≤ ((wc247_38)) 1 ∧ 1 ≤ ((wc247_38)) 2) → (IMP ((tc36_0) = 1) (LNR ((w14)) ((u1_1)) ((xc247_1)) ((wc247_31)) ((wc247_33)) ((wc247_34)) ((wc247_38)))) → (IMP ((tc36_0) = 0) (LNF ((w14)) ((u1_1)) = ((u1_1), DCN ((w14)) ((u1_1))))) → Ew 275 (d + 4) 247 ls [] σ c s Q := by
     as_aux_lemma =>
      intro  ls σ F_c247 A_c247 xc247_1 lc247_0 lc247_1 lc247_2 H hS_c247 hA_c247 yc247_5_10 eyc247_5_10 wc247_31 ewc247_31 wc247_33 ewc247_33 wc247_34 ewc247_34 wc247_35 ewc247_35 wc247_36 ewc247_36 wc247_37 ewc247_37 wc247_38 ewc247_38 jc247_0 jc247_1 jc247_2 jc247_3 jc247_4 jc247_5 jc247_6 jc247_7 jc247_8 jc247_9 jc247_10 jc247_11
      have r6 : (0 : Int) ≤ yc247_5_10 ∧ yc247_5_10 ≤ 11 := rngE (show (0 : Int) ≤ F_c247 5 10 ∧ F_c247 5 10 ≤ 11 from H.frng 5 10) (show F_c247 5 10 = yc247_5_10 from (eyc247_5_10))
      have jc247_CI : (tc36_0) = 1 → CI ((wc247_31)) ((yc247_5_10)) := jc247_5
      have jc247_0 : (tc36_0) = 1 → PS ((wc247_33)) ((wc247_34)) 0 := jc247_6
      have jc247_1 : (tc36_0) = 1 → PS ((wc247_33)) ((wc247_34)) 1 := jc247_7
      have jc247_2 : (tc36_0) = 1 → PS ((wc247_33)) ((wc247_34)) 2 := jc247_8
      have jc247_r : IMP ((tc36_0) = 1) (LNR ((w14)) ((u1_1)) ((xc247_1)) ((wc247_31)) ((wc247_33)) ((wc247_34)) ((wc247_38))) := jc247_10
      have jc247_n : IMP ((tc36_0) = 0) (LNF ((w14)) ((u1_1)) = ((u1_1), DCN ((w14)) ((u1_1)))) := by assumption
      refine Ew_of (pcₚ := 248) (fun _ => x_aload_n rfl lc247_0) ?_
      refine Ew_of (pcₚ := 249) (fun _ => x_iload_n rfl lc247_2) ?_
      refine w_pI H (o := 5) rfl rfl (H.perm 5 rfl) rfl rfl rfl (fun _ => rfl) (rfit_b (by omega)) (show (0 : Int) ≤ tc36_0 ∧ tc36_0 ≤ 1 from q_1941 jc36_2) (fun σ H => ?_)
      refine Ew_of (pcₚ := 253) (fun _ => x_aload_n rfl lc247_0) ?_
      have hc268 : ∀ (tc268_0 : Int), ∀ (ls : rO) (σ : rS) (F_c268 : hF) (A_c268 : hA) , rlook ls 0 = some (.ref (D 5)) → rlook ls 1 = some (I (xc247_1)) → HS σ0 σ D N F_c268 A_c268 → SF [] (updF F_c247 5 4 (tc36_0)) F_c268 → SA [] A_c247 A_c268 → (inr (tc268_0)) → (((tc36_0) = 0 ∧ ((tc268_0) : Int) = 0) ∨ ((tc36_0) = 1 ∧ ((tc268_0) : Int) % 4294967296 = nvl ((w14)) 4 4)) → Ew 275 (d + 4) 268 ls [I (tc268_0), .ref (D 5)] σ c s Q := by
       as_aux_lemma =>
        intro tc268_0 ls σ F_c268 A_c268  lc268_0 lc268_1 H hS_c268 hA_c268   jc268_0 jc268_1
        refine w_pI H (o := 5) rfl rfl (H.perm 5 rfl) rfl rfl rfl (fun _ => rfl) rfl (show (-2147483648 : Int) ≤ tc268_0 ∧ tc268_0 ≤ 2147483647 from q_31 jc268_0) (fun σ H => ?_)
        refine Ew_of (pcₚ := 272) (fun _ => x_aload_n rfl lc268_0) ?_
        refine Ew_of (pcₚ := 273) (fun _ => x_aload_n rfl lc268_0) ?_
        refine w_gT H (o := 5) (t := 1) rfl (H.perm 5 rfl) rfl rfl rfl rfl rfl rfl ?_
        refine w_gI H (o := 1) (w := u1_1) rfl (H.perm 1 rfl) rfl rfl rfl (fun _ => rfl) ((((hS_c268 1 1 rfl).trans (hS_c247 1 1 rfl)).trans (hS_c36 1 1 rfl)).trans (eu1_1)) ?_
        refine Ew_of (pcₚ := 280) (fun _ => x_iload_n rfl lc268_1) ?_
        refine w_isub rfl ?_
        refine w_pI H (o := 5) rfl rfl (H.perm 5 rfl) rfl rfl rfl (fun _ => rfl) rfl (show (0 : Int) ≤ (u1_1 - xc247_1) ∧ (u1_1 - xc247_1) ≤ 65536 by omega) (fun σ H => ?_)
        refine Ew_of (pcₚ := 285) (fun _ => x_iconst rfl) ?_
        refine Ew_of (pcₚ := 286) (fun _ => x_istore_n rfl) ?_
        have : CPY ((w14)) ((w26)) ((xc247_1)) 0 ((0 : Int)) := CPY_0
        suffices hl286 : ∀ (m : Nat), ∀ (ls : rO) (σ : rS) (F_286 : hF) (A_286 : hA) (x286_3 : Int), rlook ls 0 = some (.ref (D 5)) → rlook ls 1 = some (I (xc247_1)) → rlook ls 3 = some (I (x286_3)) → HS σ0 σ D N F_286 A_286 → SF [] (updF (updF F_c268 5 3 (tc268_0)) 5 2 ((u1_1 - xc247_1))) F_286 → SA [26] A_c268 A_286 → ∀ w286_26 : Int → Int, A_286 26 = w286_26 → (inr (x286_3)) → ((0) ≤ (x286_3)) → ((x286_3) ≤ (0) ∨ (x286_3) ≤ (((u1_1 - xc247_1)))) → (CPY ((w14)) ((w286_26)) ((xc247_1)) 0 ((x286_3))) → ((((u1_1 - xc247_1))) - (x286_3)).toNat = m → Ew 275 (d + 4) 286 ls [] σ c s Q from
          hl286 _ _ σ _ _ (0) (rk_o (lc268_0) rfl rfl) (rk_o (lc268_1) rfl rfl) (rk_s) H (SF_refl) (SA_refl)  (w26) ((funext (hA_c268 26 rfl)).trans ((funext (hA_c247 26 rfl)).trans ((funext (hA_c36 26 rfl)).trans (ew26)))) (show inr (0) from q_2) (show (0) ≤ (0) from q_1) (show (0) ≤ (0) ∨ (0) ≤ (((u1_1 - xc247_1))) from q_562) (show CPY ((w14)) ((w26)) ((xc247_1)) 0 ((0)) by assumption) rfl
        as_aux_lemma =>
        intro m
        induction m using Nat.strongRecOn with
        | _ m ih286 =>
          intro ls σ F_286 A_286 x286_3 l286_0 l286_1 l286_3 H hS_286 hA_286  w286_26 ew286_26 j286_0 j286_1 j286_2 j286_3 hm286
          have j286_c : CPY ((w14)) ((w286_26)) ((xc247_1)) 0 ((x286_3)) := j286_3
          refine Ew_of (pcₚ := 287) (fun _ => x_iload_n rfl l286_3) ?_
          refine Ew_of (pcₚ := 288) (fun _ => x_aload_n rfl l286_0) ?_
          refine w_gI H (o := 5) (w := (u1_1 - xc247_1)) rfl (H.perm 5 rfl) rfl rfl rfl (fun _ => rfl) (hS_286 5 2 rfl) ?_
          refine w_icmpge (t := 317) rfl rfl (show inr (x286_3) from j286_0) (show inr ((u1_1 - xc247_1)) by omega) (fun b7 => ?_) (fun b7 => ?_)
          · have hcpd : CPY ((w14)) ((w286_26)) ((xc247_1)) 0 (((u1_1 - xc247_1))) := by rw [show ((u1_1 - xc247_1)) = (x286_3) by omega]; exact j286_c
            refine Ew_of (pcₚ := 318) (fun _ => x_iconst rfl) ?_
            refine Ew_of (pcₚ := 319) (fun _ => x_istore_n rfl) ?_
            have : ∀ i, (0 : Int) ≤ i → i < 0 → ((w27)) i = ((wc247_31)) i := fun i a b => absurd b (by omega)
            suffices hl319 : ∀ (m : Nat), ∀ (ls : rO) (σ : rS) (F_319 : hF) (A_319 : hA) (x319_3 : Int), rlook ls 0 = some (.ref (D 5)) → rlook ls 3 = some (I (x319_3)) → HS σ0 σ D N F_319 A_319 → SF [] F_286 F_319 → SA [27] A_286 A_319 → ∀ w319_27 : Int → Int, A_319 27 = w319_27 → (inr (x319_3)) → ((0) ≤ (x319_3)) → ((x319_3) ≤ (0) ∨ (x319_3) ≤ ((256))) → (∀ i, 0 ≤ i → i < (x319_3) → ((w319_27)) i = ((wc247_31)) i) → (((256)) - (x319_3)).toNat = m → Ew 275 (d + 4) 319 ls [] σ c s Q from
              hl319 _ _ σ _ _ (0) (rk_o (l286_0) rfl rfl) (rk_s) H (SF_refl) (SA_refl)  (w27) ((funext (hA_286 27 rfl)).trans ((funext (hA_c268 27 rfl)).trans ((funext (hA_c247 27 rfl)).trans ((funext (hA_c36 27 rfl)).trans (ew27))))) (show inr (0) from q_2) (show (0) ≤ (0) from q_1) (show (0) ≤ (0) ∨ (0) ≤ ((256)) from q_0) (show ∀ i, 0 ≤ i → i < (0) → ((w27)) i = ((wc247_31)) i by assumption) rfl
            as_aux_lemma =>
            intro m
            induction m using Nat.strongRecOn with
            | _ m ih319 =>
              intro ls σ F_319 A_319 x319_3 l319_0 l319_3 H hS_319 hA_319  w319_27 ew319_27 j319_0 j319_1 j319_2 j319_3 hm319
              refine Ew_of (pcₚ := 320) (fun _ => x_iload_n rfl l319_3) ?_
              refine Ew_of (pcₚ := 323) (fun _ => x_sipush (z := 256) rfl (by decide)) ?_
              refine w_icmpge (t := 344) rfl rfl (show inr (x319_3) from j319_0) (show inr (256) from q_3) (fun b8 => ?_) (fun b8 => ?_)
              · refine Ew_of (pcₚ := 345) (fun _ => x_iconst rfl) ?_
                refine Ew_of (pcₚ := 346) (fun _ => x_istore_n rfl) ?_
                have : ∀ i, (0 : Int) ≤ i → i < 0 → ((w28)) i = ((wc247_33)) i := fun i a b => absurd b (by omega)
                suffices hl346 : ∀ (m : Nat), ∀ (ls : rO) (σ : rS) (F_346 : hF) (A_346 : hA) (x346_3 : Int), rlook ls 0 = some (.ref (D 5)) → rlook ls 3 = some (I (x346_3)) → HS σ0 σ D N F_346 A_346 → SF [] F_319 F_346 → SA [28] A_319 A_346 → ∀ w346_28 : Int → Int, A_346 28 = w346_28 → (inr (x346_3)) → ((0) ≤ (x346_3)) → ((x346_3) ≤ (0) ∨ (x346_3) ≤ ((192))) → (∀ i, 0 ≤ i → i < (x346_3) → ((w346_28)) i = ((wc247_33)) i) → (((192)) - (x346_3)).toNat = m → Ew 275 (d + 4) 346 ls [] σ c s Q from
                  hl346 _ _ σ _ _ (0) (rk_o (l319_0) rfl rfl) (rk_s) H (SF_refl) (SA_refl)  (w28) ((funext (hA_319 28 rfl)).trans ((funext (hA_286 28 rfl)).trans ((funext (hA_c268 28 rfl)).trans ((funext (hA_c247 28 rfl)).trans ((funext (hA_c36 28 rfl)).trans (ew28)))))) (show inr (0) from q_2) (show (0) ≤ (0) from q_1) (show (0) ≤ (0) ∨ (0) ≤ ((192)) from q_1795) (show ∀ i, 0 ≤ i → i < (0) → ((w28)) i = ((wc247_33)) i by assumption) rfl
                as_aux_lemma =>
                intro m
                induction m using Nat.strongRecOn with
                | _ m ih346 =>
                  intro ls σ F_346 A_346 x346_3 l346_0 l346_3 H hS_346 hA_346  w346_28 ew346_28 j346_0 j346_1 j346_2 j346_3 hm346
                  refine Ew_of (pcₚ := 347) (fun _ => x_iload_n rfl l346_3) ?_
                  refine Ew_of (pcₚ := 350) (fun _ => x_sipush (z := 192) rfl (by decide)) ?_
                  refine w_icmpge (t := 371) rfl rfl (show inr (x346_3) from j346_0) (show inr (192) from q_1796) (fun b9 => ?_) (fun b9 => ?_)
                  · refine Ew_of (pcₚ := 372) (fun _ => x_iconst rfl) ?_
                    refine Ew_of (pcₚ := 373) (fun _ => x_istore_n rfl) ?_
                    have : ∀ i, (0 : Int) ≤ i → i < 0 → ((w29)) i = ((wc247_34)) i := fun i a b => absurd b (by omega)
                    suffices hl373 : ∀ (m : Nat), ∀ (ls : rO) (σ : rS) (F_373 : hF) (A_373 : hA) (x373_3 : Int), rlook ls 0 = some (.ref (D 5)) → rlook ls 3 = some (I (x373_3)) → HS σ0 σ D N F_373 A_373 → SF [] F_346 F_373 → SA [29, 30] A_346 A_373 → ∀ w373_29 : Int → Int, A_373 29 = w373_29 → ∀ w373_30 : Int → Int, A_373 30 = w373_30 → (inr (x373_3)) → ((0) ≤ (x373_3)) → ((x373_3) ≤ (0) ∨ (x373_3) ≤ (3)) → (∀ i, 0 ≤ i → i < (x373_3) → ((w373_29)) i = ((wc247_34)) i) → (0 < (x373_3) → ((w373_30)) 0 = ((wc247_38)) 0) → (1 < (x373_3) → ((w373_30)) 1 = ((wc247_38)) 1) → (2 < (x373_3) → ((w373_30)) 2 = ((wc247_38)) 2) → ((3) - (x373_3)).toNat = m → Ew 275 (d + 4) 373 ls [] σ c s Q from
                      hl373 _ _ σ _ _ (0) (rk_o (l346_0) rfl rfl) (rk_s) H (SF_refl) (SA_refl)  (w29) ((funext (hA_346 29 rfl)).trans ((funext (hA_319 29 rfl)).trans ((funext (hA_286 29 rfl)).trans ((funext (hA_c268 29 rfl)).trans ((funext (hA_c247 29 rfl)).trans ((funext (hA_c36 29 rfl)).trans (ew29))))))) (w30) ((funext (hA_346 30 rfl)).trans ((funext (hA_319 30 rfl)).trans ((funext (hA_286 30 rfl)).trans ((funext (hA_c268 30 rfl)).trans ((funext (hA_c247 30 rfl)).trans ((funext (hA_c36 30 rfl)).trans (ew30))))))) (show inr (0) from q_2) (show (0) ≤ (0) from q_1) (show (0) ≤ (0) ∨ (0) ≤ (3) from q_1793) (show ∀ i, 0 ≤ i → i < (0) → ((w29)) i = ((wc247_34)) i by assumption) (show 0 < (0) → ((w30)) 0 = ((wc247_38)) 0 from q_1944) (show 1 < (0) → ((w30)) 1 = ((wc247_38)) 1 from q_1943) (show 2 < (0) → ((w30)) 2 = ((wc247_38)) 2 from q_1942) rfl
                    as_aux_lemma =>
                    intro m
                    induction m using Nat.strongRecOn with
                    | _ m ih373 =>
                      intro ls σ F_373 A_373 x373_3 l373_0 l373_3 H hS_373 hA_373  w373_29 ew373_29 w373_30 ew373_30 j373_0 j373_1 j373_2 j373_3 j373_4 j373_5 j373_6 hm373
                      refine Ew_of (pcₚ := 374) (fun _ => x_iload_n rfl l373_3) ?_
                      refine Ew_of (pcₚ := 375) (fun _ => x_iconst rfl) ?_
                      refine w_icmpge (t := 408) rfl rfl (show inr (x373_3) from j373_0) (show inr (3) from q_246) (fun b10 => ?_) (fun b10 => ?_)
                      · have : DI ((tc36_0)) ((w319_27)) ((w346_28)) ((w373_29)) ((w373_30)) := fun q => ⟨⟨_, CI_congr (jc247_CI (by omega)) (fun i a b => j319_3 i a (by omega))⟩, fun t a b => PS_congr (by rcases (show t = 0 ∨ t = 1 ∨ t = 2 by omega) with e | e | e <;> rw [e]; exact jc247_0 (by omega); exact jc247_1 (by omega); exact jc247_2 (by omega)) (by omega) (fun i a b => j346_3 i a (by omega)) (j373_3 t a (by omega)), by omega, by omega, by omega⟩
                        refine Ew_of (pcₚ := 409) (fun _ => x_aload_n rfl l373_0) ?_
                        refine w_gI H (o := 5) (w := (u1_1 - xc247_1)) rfl (H.perm 5 rfl) rfl rfl rfl (fun _ => rfl) ((((hS_373 5 2 rfl).trans (hS_346 5 2 rfl)).trans (hS_319 5 2 rfl)).trans (hS_286 5 2 rfl)) ?_
                        have : IMP ((((u1_1 - xc247_1)) : Int) < 0) (((tc36_0), (tc268_0), ((u1_1 - xc247_1)), (w286_26), (w319_27), (w346_28), (w373_29), (w373_30)) = ((u5_4), (u5_3), (u5_2), (w26), (w27), (w28), (w29), (w30))) := fun q => absurd q (by omega)
                        have : LNA ((w14)) ((u1_1)) Dc (((u1_1 - xc247_1))) ((tc36_0)) ((tc268_0)) ((w286_26)) (((u1_1 - xc247_1))) ((w319_27)) ((w346_28)) ((w373_29)) ((w373_30)) := by rcases (show (tc36_0) = 1 ∨ (tc36_0) = 0 by omega) with z | z; (exact LNA_y (jc247_r (by omega)) (by omega) (by omega) z (by omega) (by omega) hcpd (by omega) (fun i a b => j319_3 i a (by omega)) (fun i a b => j346_3 i a (by omega)) (fun i a b => j373_3 i a (by omega)) ⟨by omega, by omega, by omega⟩); (exact LNA_n (jc247_n (by omega)) (by omega) (by omega) z (by omega) (by omega) hcpd (by omega) (by omega))
                        exact w_ireturn rfl (k ((u1_1 - xc247_1)) σ _ _ H (SF_trans (SF_trans (SF_trans (SF_trans (SF_upd (SF_upd (SF_trans (SF_upd (SF_trans (SF_trans (SF_refl) hS_c36 (any_sub rfl)) hS_c247 (any_sub rfl)) rfl) hS_c268 (any_sub rfl)) rfl) rfl) hS_286 (any_sub rfl)) hS_319 (any_sub rfl)) hS_346 (any_sub rfl)) hS_373 (any_sub rfl)) (SA_trans (SA_trans (SA_trans (SA_trans (SA_trans (SA_trans (SA_trans (SA_refl) hA_c36 (any_subA rfl)) hA_c247 (any_subA rfl)) hA_c268 (any_subA rfl)) hA_286 (any_subA rfl)) hA_319 (any_subA rfl)) hA_346 (any_subA rfl)) hA_373 (any_subA rfl)) ((u1_1 - xc247_1)) (((((hS_373 5 2 rfl).trans (hS_346 5 2 rfl)).trans (hS_319 5 2 rfl)).trans (hS_286 5 2 rfl))) (tc268_0) (((((hS_373 5 3 rfl).trans (hS_346 5 3 rfl)).trans (hS_319 5 3 rfl)).trans (hS_286 5 3 rfl))) (tc36_0) ((((((hS_373 5 4 rfl).trans (hS_346 5 4 rfl)).trans (hS_319 5 4 rfl)).trans (hS_286 5 4 rfl)).trans (hS_c268 5 4 rfl))) (w286_26) ((funext (hA_373 26 rfl)).trans ((funext (hA_346 26 rfl)).trans ((funext (hA_319 26 rfl)).trans (ew286_26)))) (w319_27) ((funext (hA_373 27 rfl)).trans ((funext (hA_346 27 rfl)).trans (ew319_27))) (w346_28) ((funext (hA_373 28 rfl)).trans (ew346_28)) (w373_29) (ew373_29) (w373_30) (ew373_30) (wc247_34) ((funext (hA_373 34 rfl)).trans ((funext (hA_346 34 rfl)).trans ((funext (hA_319 34 rfl)).trans ((funext (hA_286 34 rfl)).trans ((funext (hA_c268 34 rfl)).trans (ewc247_34)))))) (wc247_35) ((funext (hA_373 35 rfl)).trans ((funext (hA_346 35 rfl)).trans ((funext (hA_319 35 rfl)).trans ((funext (hA_286 35 rfl)).trans ((funext (hA_c268 35 rfl)).trans (ewc247_35)))))) (wc247_36) ((funext (hA_373 36 rfl)).trans ((funext (hA_346 36 rfl)).trans ((funext (hA_319 36 rfl)).trans ((funext (hA_286 36 rfl)).trans ((funext (hA_c268 36 rfl)).trans (ewc247_36)))))) (wc247_37) ((funext (hA_373 37 rfl)).trans ((funext (hA_346 37 rfl)).trans ((funext (hA_319 37 rfl)).trans ((funext (hA_286 37 rfl)).trans ((funext (hA_c268 37 rfl)).trans (ewc247_37)))))) (show inr ((u1_1 - xc247_1)) by omega) (jc247_4) (show DI ((tc36_0)) ((w319_27)) ((w346_28)) ((w373_29)) ((w373_30)) by assumption) (show 0 ≤ (tc36_0) ∧ (tc36_0) ≤ 1 from q_1945 jc268_1) (show LNA ((w14)) ((u1_1)) Dc (((u1_1 - xc247_1))) ((tc36_0)) ((tc268_0)) ((w286_26)) (((u1_1 - xc247_1))) ((w319_27)) ((w346_28)) ((w373_29)) ((w373_30)) by assumption) (show IMP ((((u1_1 - xc247_1)) : Int) < 0) (((tc36_0), (tc268_0), ((u1_1 - xc247_1)), (w286_26), (w319_27), (w346_28), (w373_29), (w373_30)) = ((u5_4), (u5_3), (u5_2), (w26), (w27), (w28), (w29), (w30))) by assumption))
                      · have hx0 : (x373_3) = 0 → ((wc247_38)) ((x373_3)) = ((wc247_38)) 0 := fun e => by rw [e]
                        have hx1 : (x373_3) = 1 → ((wc247_38)) ((x373_3)) = ((wc247_38)) 1 := fun e => by rw [e]
                        have hx2 : (x373_3) = 2 → ((wc247_38)) ((x373_3)) = ((wc247_38)) 2 := fun e => by rw [e]
                        refine Ew_of (pcₚ := 379) (fun _ => x_aload_n rfl l373_0) ?_
                        refine w_gT H (o := 5) (t := 29) rfl (H.perm 5 rfl) rfl rfl rfl rfl rfl rfl ?_
                        refine Ew_of (pcₚ := 383) (fun _ => x_iload_n rfl l373_3) ?_
                        refine Ew_of (pcₚ := 384) (fun _ => x_aload_n rfl l373_0) ?_
                        refine w_gT H (o := 5) (t := 34) rfl (H.perm 5 rfl) rfl rfl rfl rfl rfl rfl ?_
                        refine Ew_of (pcₚ := 388) (fun _ => x_iload_n rfl l373_3) ?_
                        refine w_lI H (o := 34) (n := 3) rfl (H.perm 34 rfl) rfl rfl (H.fix 34 rfl rfl) (show 0 ≤ x373_3 ∧ x373_3 < ((3 : Nat) : Int) from q_1801 b10 j373_1) (by decide) (fun v11 ev11 qv11 => ?_)
                        have qv11 : (-1 : Int) ≤ v11 ∧ v11 ≤ 9 := qv11
                        have ev11 : (wc247_34) (x373_3) = v11 := (congrFun ((funext (hA_373 34 rfl)).trans ((funext (hA_346 34 rfl)).trans ((funext (hA_319 34 rfl)).trans ((funext (hA_286 34 rfl)).trans ((funext (hA_c268 34 rfl)).trans (ewc247_34)))))) (x373_3)).symm.trans ev11
                        refine w_sI H (o := 29) (n := 3) rfl (H.perm 29 rfl) rfl rfl (H.fix 29 rfl rfl) (show 0 ≤ x373_3 ∧ x373_3 < ((3 : Nat) : Int) from q_1801 b10 j373_1) (by decide) (show (-1 : Int) ≤ v11 ∧ v11 ≤ 9 from qv11) (fun σ H => ?_)
                        refine Ew_of (pcₚ := 391) (fun _ => x_aload_n rfl l373_0) ?_
                        refine w_gT H (o := 5) (t := 30) rfl (H.perm 5 rfl) rfl rfl rfl rfl rfl rfl ?_
                        refine Ew_of (pcₚ := 395) (fun _ => x_iload_n rfl l373_3) ?_
                        refine Ew_of (pcₚ := 396) (fun _ => x_aload_n rfl l373_0) ?_
                        refine w_gT H (o := 5) (t := 38) rfl (H.perm 5 rfl) rfl rfl rfl rfl rfl rfl ?_
                        refine Ew_of (pcₚ := 400) (fun _ => x_iload_n rfl l373_3) ?_
                        refine w_lJ H (o := 38) (n := 3) rfl (H.perm 38 rfl) rfl rfl (H.fix 38 rfl rfl) (show 0 ≤ x373_3 ∧ x373_3 < ((3 : Nat) : Int) from q_1801 b10 j373_1) (by decide) (fun v12 ev12 qv12 => ?_)
                        have qv12 : (-9223372036854775808 : Int) ≤ v12 ∧ v12 ≤ 9223372036854775807 := qv12
                        have ev12 : (wc247_38) (x373_3) = v12 := (congrFun ((funext (hA_373 38 rfl)).trans ((funext (hA_346 38 rfl)).trans ((funext (hA_319 38 rfl)).trans ((funext (hA_286 38 rfl)).trans ((funext (hA_c268 38 rfl)).trans (ewc247_38)))))) (x373_3)).symm.trans ev12
                        refine w_sJ H (o := 30) (n := 3) rfl (H.perm 30 rfl) rfl rfl (H.fix 30 rfl rfl) (show 0 ≤ x373_3 ∧ x373_3 < ((3 : Nat) : Int) from q_1801 b10 j373_1) (by decide) (show (-9223372036854775808 : Int) ≤ v12 ∧ v12 ≤ 9223372036854775807 from qv12) (fun σ H => ?_)
                        refine Ew_of (pcₚ := 405) (fun _ => x_iinc (len := 3) rfl (l373_3)) ?_
                        refine Ew_of (pcₚ := 373) (fun _ => x_goto rfl rfl) ?_
                        have : ∀ i, (0 : Int) ≤ i → i < ((x373_3 + 1)) → ((upd1 (w373_29) (x373_3) (v11))) i = ((wc247_34)) i := pt_copy j373_3 (by omega)
                        have hu0 : 0 < ((x373_3 + 1)) → ((upd1 (w373_30) (x373_3) (v12))) 0 = ((wc247_38)) 0 := by simp only [upd1]; omega
                        have hu1 : 1 < ((x373_3 + 1)) → ((upd1 (w373_30) (x373_3) (v12))) 1 = ((wc247_38)) 1 := by simp only [upd1]; omega
                        have hu2 : 2 < ((x373_3 + 1)) → ((upd1 (w373_30) (x373_3) (v12))) 2 = ((wc247_38)) 2 := by simp only [upd1]; omega
                        exact ih373 _ (msE hm373 q_813 (q_814 b10)) _ σ _ _ ((x373_3 + 1)) (rk_o (l373_0) rfl rfl) (rk_s) H (hS_373) (SA_upd (SA_upd (hA_373) rfl) rfl)  (upd1 (w373_29) (x373_3) (v11)) (congrArg (fun q => upd1 q (x373_3) (v11)) (ew373_29)) (upd1 (w373_30) (x373_3) (v12)) (congrArg (fun q => upd1 q (x373_3) (v12)) (ew373_30)) (show inr ((x373_3 + 1)) from q_1804 b10 j373_1) (show (0) ≤ ((x373_3 + 1)) from q_14 j373_1) (show ((x373_3 + 1)) ≤ (0) ∨ ((x373_3 + 1)) ≤ (3) from q_1803 b10) (show ∀ i, 0 ≤ i → i < ((x373_3 + 1)) → ((upd1 (w373_29) (x373_3) (v11))) i = ((wc247_34)) i by assumption) (show 0 < ((x373_3 + 1)) → ((upd1 (w373_30) (x373_3) (v12))) 0 = ((wc247_38)) 0 from hu0) (show 1 < ((x373_3 + 1)) → ((upd1 (w373_30) (x373_3) (v12))) 1 = ((wc247_38)) 1 from hu1) (show 2 < ((x373_3 + 1)) → ((upd1 (w373_30) (x373_3) (v12))) 2 = ((wc247_38)) 2 from hu2) rfl
                  · refine Ew_of (pcₚ := 354) (fun _ => x_aload_n rfl l346_0) ?_
                    refine w_gT H (o := 5) (t := 28) rfl (H.perm 5 rfl) rfl rfl rfl rfl rfl rfl ?_
                    refine Ew_of (pcₚ := 358) (fun _ => x_iload_n rfl l346_3) ?_
                    refine Ew_of (pcₚ := 359) (fun _ => x_aload_n rfl l346_0) ?_
                    refine w_gT H (o := 5) (t := 33) rfl (H.perm 5 rfl) rfl rfl rfl rfl rfl rfl ?_
                    refine Ew_of (pcₚ := 363) (fun _ => x_iload_n rfl l346_3) ?_
                    refine w_lI H (o := 33) (n := 192) rfl (H.perm 33 rfl) rfl rfl (H.fix 33 rfl rfl) (show 0 ≤ x346_3 ∧ x346_3 < ((192 : Nat) : Int) from q_1805 b9 j346_1) (by decide) (fun v13 ev13 qv13 => ?_)
                    have qv13 : (-1 : Int) ≤ v13 ∧ v13 ≤ 512 := qv13
                    have ev13 : (wc247_33) (x346_3) = v13 := (congrFun ((funext (hA_346 33 rfl)).trans ((funext (hA_319 33 rfl)).trans ((funext (hA_286 33 rfl)).trans ((funext (hA_c268 33 rfl)).trans (ewc247_33))))) (x346_3)).symm.trans ev13
                    refine w_sI H (o := 28) (n := 192) rfl (H.perm 28 rfl) rfl rfl (H.fix 28 rfl rfl) (show 0 ≤ x346_3 ∧ x346_3 < ((192 : Nat) : Int) from q_1805 b9 j346_1) (by decide) (show (-1 : Int) ≤ v13 ∧ v13 ≤ 512 from qv13) (fun σ H => ?_)
                    refine Ew_of (pcₚ := 368) (fun _ => x_iinc (len := 3) rfl (l346_3)) ?_
                    refine Ew_of (pcₚ := 346) (fun _ => x_goto rfl rfl) ?_
                    have : ∀ i, (0 : Int) ≤ i → i < ((x346_3 + 1)) → ((upd1 (w346_28) (x346_3) (v13))) i = ((wc247_33)) i := pt_copy j346_3 (by omega)
                    exact ih346 _ (msE hm346 q_1808 (q_1809 b9)) _ σ _ _ ((x346_3 + 1)) (rk_o (l346_0) rfl rfl) (rk_s) H (hS_346) (SA_upd (hA_346) rfl)  (upd1 (w346_28) (x346_3) (v13)) (congrArg (fun q => upd1 q (x346_3) (v13)) (ew346_28)) (show inr ((x346_3 + 1)) from q_1807 b9 j346_1) (show (0) ≤ ((x346_3 + 1)) from q_14 j346_1) (show ((x346_3 + 1)) ≤ (0) ∨ ((x346_3 + 1)) ≤ ((192)) from q_1806 b9) (show ∀ i, 0 ≤ i → i < ((x346_3 + 1)) → ((upd1 (w346_28) (x346_3) (v13))) i = ((wc247_33)) i by assumption) rfl
              · refine Ew_of (pcₚ := 327) (fun _ => x_aload_n rfl l319_0) ?_
                refine w_gT H (o := 5) (t := 27) rfl (H.perm 5 rfl) rfl rfl rfl rfl rfl rfl ?_
                refine Ew_of (pcₚ := 331) (fun _ => x_iload_n rfl l319_3) ?_
                refine Ew_of (pcₚ := 332) (fun _ => x_aload_n rfl l319_0) ?_
                refine w_gT H (o := 5) (t := 31) rfl (H.perm 5 rfl) rfl rfl rfl rfl rfl rfl ?_
                refine Ew_of (pcₚ := 336) (fun _ => x_iload_n rfl l319_3) ?_
                refine w_lI H (o := 31) (n := 256) rfl (H.perm 31 rfl) rfl rfl (H.fix 31 rfl rfl) (show 0 ≤ x319_3 ∧ x319_3 < ((256 : Nat) : Int) from q_23 b8 j319_1) (by decide) (fun v14 ev14 qv14 => ?_)
                have qv14 : (0 : Int) ≤ v14 ∧ v14 ≤ 11 := qv14
                have ev14 : (wc247_31) (x319_3) = v14 := (congrFun ((funext (hA_319 31 rfl)).trans ((funext (hA_286 31 rfl)).trans ((funext (hA_c268 31 rfl)).trans (ewc247_31)))) (x319_3)).symm.trans ev14
                refine w_sI H (o := 27) (n := 256) rfl (H.perm 27 rfl) rfl rfl (H.fix 27 rfl rfl) (show 0 ≤ x319_3 ∧ x319_3 < ((256 : Nat) : Int) from q_23 b8 j319_1) (by decide) (show (0 : Int) ≤ v14 ∧ v14 ≤ 11 from qv14) (fun σ H => ?_)
                refine Ew_of (pcₚ := 341) (fun _ => x_iinc (len := 3) rfl (l319_3)) ?_
                refine Ew_of (pcₚ := 319) (fun _ => x_goto rfl rfl) ?_
                have : ∀ i, (0 : Int) ≤ i → i < ((x319_3 + 1)) → ((upd1 (w319_27) (x319_3) (v14))) i = ((wc247_31)) i := pt_copy j319_3 (by omega)
                exact ih319 _ (msE hm319 q_26 (q_27 b8)) _ σ _ _ ((x319_3 + 1)) (rk_o (l319_0) rfl rfl) (rk_s) H (hS_319) (SA_upd (hA_319) rfl)  (upd1 (w319_27) (x319_3) (v14)) (congrArg (fun q => upd1 q (x319_3) (v14)) (ew319_27)) (show inr ((x319_3 + 1)) from q_25 b8 j319_1) (show (0) ≤ ((x319_3 + 1)) from q_14 j319_1) (show ((x319_3 + 1)) ≤ (0) ∨ ((x319_3 + 1)) ≤ ((256)) from q_24 b8) (show ∀ i, 0 ≤ i → i < ((x319_3 + 1)) → ((upd1 (w319_27) (x319_3) (v14))) i = ((wc247_31)) i by assumption) rfl
          · refine Ew_of (pcₚ := 295) (fun _ => x_aload_n rfl l286_0) ?_
            refine w_gT H (o := 5) (t := 26) rfl (H.perm 5 rfl) rfl rfl rfl rfl rfl rfl ?_
            refine Ew_of (pcₚ := 299) (fun _ => x_iload_n rfl l286_3) ?_
            refine Ew_of (pcₚ := 300) (fun _ => x_aload_n rfl l286_0) ?_
            refine w_gT H (o := 5) (t := 1) rfl (H.perm 5 rfl) rfl rfl rfl rfl rfl rfl ?_
            refine w_gT H (o := 1) (t := 14) rfl (H.perm 1 rfl) rfl rfl rfl rfl rfl rfl ?_
            refine Ew_of (pcₚ := 307) (fun _ => x_iload_n rfl l286_1) ?_
            refine Ew_of (pcₚ := 308) (fun _ => x_iload_n rfl l286_3) ?_
            refine w_iadd rfl ?_
            refine w_lI H (o := 14) (n := 65536) rfl (H.perm 14 rfl) rfl rfl (H.fix 14 rfl rfl) (show 0 ≤ (xc247_1 + x286_3) ∧ (xc247_1 + x286_3) < ((65536 : Nat) : Int) by omega) (by decide) (fun v15 ev15 qv15 => ?_)
            have qv15 : (0 : Int) ≤ v15 ∧ v15 ≤ 255 := qv15
            have ev15 : (w14) ((xc247_1 + x286_3)) = v15 := (congrFun ((funext (hA_286 14 rfl)).trans ((funext (hA_c268 14 rfl)).trans ((funext (hA_c247 14 rfl)).trans ((funext (hA_c36 14 rfl)).trans (ew14))))) ((xc247_1 + x286_3))).symm.trans ev15
            have hv9 := ev15
            refine w_sI H (o := 26) (n := 65536) rfl (H.perm 26 rfl) rfl rfl (H.fix 26 rfl rfl) (show 0 ≤ x286_3 ∧ x286_3 < ((65536 : Nat) : Int) by omega) (by decide) (show (0 : Int) ≤ v15 ∧ v15 ≤ 255 from qv15) (fun σ H => ?_)
            refine Ew_of (pcₚ := 314) (fun _ => x_iinc (len := 3) rfl (l286_3)) ?_
            refine Ew_of (pcₚ := 286) (fun _ => x_goto rfl rfl) ?_
            have : CPY ((w14)) ((upd1 (w286_26) (x286_3) (v15))) ((xc247_1)) 0 (((x286_3 + 1))) := CPY_s j286_c hv9 (by omega) (by omega) (by omega)
            exact ih286 _ (msE hm286 q_101 (q_568 b7)) _ σ _ _ ((x286_3 + 1)) (rk_o (l286_0) rfl rfl) (rk_o (l286_1) rfl rfl) (rk_s) H (hS_286) (SA_upd (hA_286) rfl)  (upd1 (w286_26) (x286_3) (v15)) (congrArg (fun q => upd1 q (x286_3) (v15)) (ew286_26)) (show inr ((x286_3 + 1)) by omega) (show (0) ≤ ((x286_3 + 1)) from q_14 j286_1) (show ((x286_3 + 1)) ≤ (0) ∨ ((x286_3 + 1)) ≤ (((u1_1 - xc247_1))) from q_566 b7) (show CPY ((w14)) ((upd1 (w286_26) (x286_3) (v15))) ((xc247_1)) 0 (((x286_3 + 1))) by assumption) rfl
      refine Ew_of (pcₚ := 254) (fun _ => x_iload_n rfl lc247_2) ?_
      refine w_ifeq (t := 267) rfl rfl (show inr (tc36_0) from jc36_0) (fun b16 => ?_) (fun b16 => ?_)
      · refine Ew_of (pcₚ := 268) (fun _ => x_iconst rfl) ?_
        have : ((tc36_0) = 0 ∧ ((0) : Int) = 0) ∨ ((tc36_0) = 1 ∧ ((0) : Int) % 4294967296 = nvl ((w14)) 4 4) := by first | exact .inr ⟨by omega, hid9 trivial⟩ | exact .inl ⟨by omega, by omega⟩
        exact hc268 (0) _ σ _ _  (lc247_0) (lc247_1) H (SF_refl) (SA_refl)   (show inr (0) from q_2) (show ((tc36_0) = 0 ∧ ((0) : Int) = 0) ∨ ((tc36_0) = 1 ∧ ((0) : Int) % 4294967296 = nvl ((w14)) 4 4) from q_1946 b16)
      · refine Ew_of (pcₚ := 258) (fun _ => x_aload_n rfl lc247_0) ?_
        refine Ew_of (pcₚ := 259) (fun _ => x_iconst rfl) ?_
        refine Ew_of (pcₚ := 260) (fun _ => x_iconst rfl) ?_
        refine w_inv H (o := 5) rfl rfl rfl (H.perm 5 rfl) rfl rfl (by rfl) (M257 H (w14) ((funext (hA_c247 14 rfl)).trans ((funext (hA_c36 14 rfl)).trans (ew14))) (show inr (4) from q_216) (show inr (4) from q_216) (show 0 ≤ (4) ∧ 0 ≤ (4) ∧ (4) ≤ 8 ∧ (4) + (4) ≤ 65536 from q_1947) (fun z21 σ F17 A18 H hS19 hA20 pz21_0 pz21_1 pz21_2 pz21_3 pz21_4 pz21_5 pz21_6 pz21_7 pz21_8 pz21_9 => ⟨rfl, ?_⟩))
        replace pz21_1 := pz21_1.resolve_left (by decide)
        replace pz21_2 := pz21_2.resolve_right (by decide)
        replace pz21_3 := pz21_3 (by decide)
        (try clear pz21_4)
        (try clear pz21_5)
        (try clear pz21_6)
        (try clear pz21_7)
        replace pz21_8 := pz21_8 (by decide)
        have hN9 : z21 = nvl ((w14)) 4 4 := nmb_nn pz21_9 (by omega) pz21_0
        have hz9 : 0 ≤ z21 ∧ z21 < 4294967296 := by omega
        have hid9 : IMP True (w32 (z21) % 4294967296 = nvl ((w14)) 4 4) := fun _ => by rw [w32_m, ← hN9]; exact Int.emod_eq_of_lt hz9.1 hz9.2
        (try clear hN9)
        refine w_l2iW rfl ?_
        have g22 : inr (w32 (z21)) := w32_r _
        obtain ⟨qid, hqid⟩ : ∃ q : Int, q = ((w32 (z21))) := ⟨_, rfl⟩
        rw [← hqid]
        have gqid : inr qid := by rw [hqid]; first | assumption | omega
        replace hqid : IMP True (qid = ((w32 (z21)))) := fun _ => hqid
        rw [← hqid trivial] at hid9
        refine Ew_of (pcₚ := 268) (fun _ => x_goto rfl rfl) ?_
        have : ((tc36_0) = 0 ∧ ((qid) : Int) = 0) ∨ ((tc36_0) = 1 ∧ ((qid) : Int) % 4294967296 = nvl ((w14)) 4 4) := by first | exact .inr ⟨by omega, hid9 trivial⟩ | exact .inl ⟨by omega, by omega⟩
        exact hc268 (qid) _ σ _ _  (lc247_0) (lc247_1) H (SF_trans (SF_refl) hS19 (any_sub rfl)) (SA_trans (SA_refl) hA20 (any_subA rfl))   (show inr (qid) from gqid) (show ((tc36_0) = 0 ∧ ((qid) : Int) = 0) ∨ ((tc36_0) = 1 ∧ ((qid) : Int) % 4294967296 = nvl ((w14)) 4 4) by omega)
    refine Ew_of (pcₚ := 38) (fun _ => x_iload_n rfl rk_s) ?_
    refine w_ifeq (t := 247) rfl rfl (show inr (tc36_0) from jc36_0) (fun b23 => ?_) (fun b23 => ?_)
    · have : (tc36_0) = 1 → CI ((A 31)) ((F 5 10)) := by first | exact (fun q => absurd q (by omega)) | exact (fun _ => by first | exact hci | assumption)
      have : (tc36_0) = 1 → PS ((A 33)) ((w34)) 0 := by first | exact (fun q => absurd q (by omega)) | exact (fun _ => j79_7 (by omega))
      have : (tc36_0) = 1 → PS ((A 33)) ((w34)) 1 := by first | exact (fun q => absurd q (by omega)) | exact (fun _ => j79_5 (by omega))
      have : (tc36_0) = 1 → PS ((A 33)) ((w34)) 2 := by first | exact (fun q => absurd q (by omega)) | exact (fun _ => j79_6 (by omega))
      have : IMP ((tc36_0) = 1) (LNR ((w14)) ((u1_1)) ((0)) ((A 31)) ((A 33)) ((w34)) ((A 38))) := by first | exact (fun q => absurd q (by omega)) | exact (fun _ => LNR_of hL4 hLN rfl (by omega) j181_l (by omega) hds (by omega) hci (j79_7 (by omega)) (j79_5 (by omega)) (j79_6 (by omega)) (by omega))
      have : IMP ((tc36_0) = 0) (LNF ((w14)) ((u1_1)) = ((u1_1), DCN ((w14)) ((u1_1)))) := by first | exact (fun q => absurd q (by omega)) | exact (fun _ => LN_n (by omega))
      exact hc247  _ σ _ _ (0) (rk_o (lc36_0) rfl rfl) (rk_o (lc36_1) rfl rfl) (rk_s) H (SF_refl) (SA_refl) (F 5 10) ((hS_c36 5 10 rfl)) (A 31) (funext (hA_c36 31 rfl)) (A 33) (funext (hA_c36 33 rfl)) (w34) ((funext (hA_c36 34 rfl)).trans (ew34)) (w35) ((funext (hA_c36 35 rfl)).trans (ew35)) (w36) ((funext (hA_c36 36 rfl)).trans (ew36)) (w37) ((funext (hA_c36 37 rfl)).trans (ew37)) (A 38) (funext (hA_c36 38 rfl)) (show inr (0) from q_2) (show 0 ≤ (0) ∧ (0) ≤ (u1_1) from q_1172 r1) (show (tc36_0) = 1 → 8 ≤ (u1_1) from q_1949 b23 r1) (show (tc36_0) = 0 → (0) = 0 from q_1948) (h0) (show (tc36_0) = 1 → CI ((A 31)) ((F 5 10)) by first | assumption | exact fun h => absurd rfl h | exact fun h => absurd h (by decide) | omega) (show (tc36_0) = 1 → PS ((A 33)) ((w34)) 0 by first | assumption | exact fun h => absurd rfl h | exact fun h => absurd h (by decide) | omega) (show (tc36_0) = 1 → PS ((A 33)) ((w34)) 1 by first | assumption | exact fun h => absurd rfl h | exact fun h => absurd h (by decide) | omega) (show (tc36_0) = 1 → PS ((A 33)) ((w34)) 2 by first | assumption | exact fun h => absurd rfl h | exact fun h => absurd h (by decide) | omega) (show (tc36_0) = 1 → 1 ≤ ((A 38)) 0 ∧ 1 ≤ ((A 38)) 1 ∧ 1 ≤ ((A 38)) 2 from q_1727 b23) (show IMP ((tc36_0) = 1) (LNR ((w14)) ((u1_1)) ((0)) ((A 31)) ((A 33)) ((w34)) ((A 38))) by assumption) (show IMP ((tc36_0) = 0) (LNF ((w14)) ((u1_1)) = ((u1_1), DCN ((w14)) ((u1_1)))) by assumption)
    · refine Ew_of (pcₚ := 42) (fun _ => x_aload_n rfl (rk_o (lc36_0) rfl rfl)) ?_
      refine w_gT H (o := 5) (t := 1) rfl (H.perm 5 rfl) rfl rfl rfl rfl rfl rfl ?_
      refine w_gI H (o := 1) (w := u1_1) rfl (H.perm 1 rfl) rfl rfl rfl (fun _ => rfl) ((hS_c36 1 1 rfl).trans (eu1_1)) ?_
      refine Ew_of (pcₚ := 50) (fun _ => x_bipush (z := 8) rfl (by decide)) ?_
      refine w_icmpge (t := 55) rfl rfl (show inr (u1_1) from q_286 r1) (show inr (8) from q_141) (fun b24 => ?_) (fun b24 => ?_)
      · have hB : ∀ i, (0 : Int) ≤ (w14) i ∧ (w14) i ≤ 255 := fun i => by have h1 : (0 : Int) ≤ A_c36 14 i ∧ A_c36 14 i ≤ 255 := H.arng 14 i; rw [show A_c36 14 = w14 from (funext (hA_c36 14 rfl)).trans (ew14)] at h1; exact h1
        have hB8 := hB 8
        refine Ew_of (pcₚ := 56) (fun _ => x_aload_n rfl (rk_o (lc36_0) rfl rfl)) ?_
        refine Ew_of (pcₚ := 58) (fun _ => x_bipush (z := 8) rfl (by decide)) ?_
        refine Ew_of (pcₚ := 59) (fun _ => x_aload_n rfl (rk_o (lc36_0) rfl rfl)) ?_
        refine w_gT H (o := 5) (t := 1) rfl (H.perm 5 rfl) rfl rfl rfl rfl rfl rfl ?_
        refine w_gI H (o := 1) (w := u1_1) rfl (H.perm 1 rfl) rfl rfl rfl (fun _ => rfl) ((hS_c36 1 1 rfl).trans (eu1_1)) ?_
        refine w_inv H (o := 5) rfl rfl rfl (H.perm 5 rfl) rfl rfl (by rfl) (M271 H (w14) ((funext (hA_c36 14 rfl)).trans (ew14)) (show inr (8) from q_141) (show inr (u1_1) from q_1951 b24 r1) (show 0 ≤ (8) ∧ (8) ≤ 65536 ∧ 0 ≤ (u1_1) ∧ (u1_1) ≤ 65536 from q_1950 r1) (fun z29 σ F25 A26 H hS27 hA28 y30 ey31 wq32 ewq33 wq34 ewq35 pz29_0 pz29_1 pz29_2 pz29_3 pz29_4 => ⟨rfl, ?_⟩))
        have r36 : (0 : Int) ≤ y30 ∧ y30 ≤ 11 := rngE (show (0 : Int) ≤ F25 5 10 ∧ F25 5 10 ≤ 11 from H.frng 5 10) (show F25 5 10 = y30 from (ey31))
        have hds := pz29_3
        refine Ew_of (pcₚ := 69) (fun _ => x_istore_n rfl) ?_
        refine Ew_of (pcₚ := 70) (fun _ => x_iload_n rfl rk_s) ?_
        refine w_ifge (t := 76) rfl rfl (show inr (z29) from pz29_0) (fun b37 => ?_) (fun b37 => ?_)
        · have hci : CI ((wq32)) ((y30)) := pz29_2 (by omega)
          refine Ew_of (pcₚ := 77) (fun _ => x_iconst rfl) ?_
          refine Ew_of (pcₚ := 79) (fun _ => x_istore rfl) ?_
          have : (0 : Int) < 0 → PS ((A 33)) ((w34)) 1 := fun q => absurd q (by decide)
          have : (1 : Int) < 0 → PS ((A 33)) ((w34)) 2 := fun q => absurd q (by decide)
          have : (2 : Int) < 0 → PS ((A 33)) ((w34)) 0 := fun q => absurd q (by decide)
          have : LNI ((w14)) ((u1_1)) ((0 : Int)) ((z29)) ((A 33)) ((w34)) := LNI_0 pz29_3 (by omega)
          suffices hl79 : ∀ (m : Nat), ∀ (ls : rO) (σ : rS) (F_79 : hF) (A_79 : hA) (x79_3 : Int) (x79_4 : Int), rlook ls 0 = some (.ref (D 5)) → rlook ls 2 = some (I (tc36_0)) → rlook ls 3 = some (I (x79_3)) → rlook ls 4 = some (I (x79_4)) → HS σ0 σ D N F_79 A_79 → SF [(5, 19)] F25 F_79 → SA [33, 34, 35, 36, 37, 39, 41] A26 A_79 → ∀ w79_33 : Int → Int, A_79 33 = w79_33 → ∀ w79_34 : Int → Int, A_79 34 = w79_34 → ∀ w79_35 : Int → Int, A_79 35 = w79_35 → ∀ w79_36 : Int → Int, A_79 36 = w79_36 → ∀ w79_37 : Int → Int, A_79 37 = w79_37 → (inr (x79_3)) → (inr (x79_4)) → (0 ≤ (x79_4) ∧ (x79_4) ≤ 3) → (8 ≤ (x79_3) ∧ (x79_3) ≤ (u1_1)) → (RT ((w79_35)) ((w79_36)) ((w79_37)) ((w79_34))) → (0 < (x79_4) → PS ((w79_33)) ((w79_34)) 1) → (1 < (x79_4) → PS ((w79_33)) ((w79_34)) 2) → (2 < (x79_4) → PS ((w79_33)) ((w79_34)) 0) → (LNI ((w14)) ((u1_1)) ((x79_4)) ((x79_3)) ((w79_33)) ((w79_34))) → (3 - (x79_4)).toNat = m → Ew 275 (d + 4) 79 ls [] σ c s Q from
            hl79 _ _ σ _ _ (z29) (0) (rk_o (rk_o (rk_o (lc36_0) rfl rfl) rfl rfl) rfl rfl) (rk_o (rk_o (rk_s) rfl rfl) rfl rfl) (rk_o (rk_s) rfl rfl) (rk_s) H (SF_refl) (SA_refl)  (A 33) ((funext (hA28 33 rfl)).trans (funext (hA_c36 33 rfl))) (w34) ((funext (hA28 34 rfl)).trans ((funext (hA_c36 34 rfl)).trans (ew34))) (w35) ((funext (hA28 35 rfl)).trans ((funext (hA_c36 35 rfl)).trans (ew35))) (w36) ((funext (hA28 36 rfl)).trans ((funext (hA_c36 36 rfl)).trans (ew36))) (w37) ((funext (hA28 37 rfl)).trans ((funext (hA_c36 37 rfl)).trans (ew37))) (show inr (z29) from pz29_0) (show inr (0) from q_2) (show 0 ≤ (0) ∧ (0) ≤ 3 from q_548) (show 8 ≤ (z29) ∧ (z29) ≤ (u1_1) from q_1952 b24 b37 pz29_1 pz29_2) (h0) (show 0 < (0) → PS ((A 33)) ((w34)) 1 by assumption) (show 1 < (0) → PS ((A 33)) ((w34)) 2 by assumption) (show 2 < (0) → PS ((A 33)) ((w34)) 0 by assumption) (show LNI ((w14)) ((u1_1)) ((0)) ((z29)) ((A 33)) ((w34)) by assumption) rfl
          as_aux_lemma =>
          intro m
          induction m using Nat.strongRecOn with
          | _ m ih79 =>
            intro ls σ F_79 A_79 x79_3 x79_4 l79_0 l79_2 l79_3 l79_4 H hS_79 hA_79  w79_33 ew79_33 w79_34 ew79_34 w79_35 ew79_35 w79_36 ew79_36 w79_37 ew79_37 j79_0 j79_1 j79_2 j79_3 j79_4 j79_5 j79_6 j79_7 j79_8 hm79
            have j79_l : LNI ((w14)) ((u1_1)) ((x79_4)) ((x79_3)) ((w79_33)) ((w79_34)) := j79_8
            obtain ⟨q4, hq4⟩ : ∃ q : Int, q = (x79_4) := ⟨_, rfl⟩
            obtain ⟨q3, hq3⟩ : ∃ q : Int, q = (x79_3) := ⟨_, rfl⟩
            refine Ew_of (pcₚ := 81) (fun _ => x_iload rfl l79_4) ?_
            refine Ew_of (pcₚ := 82) (fun _ => x_iconst rfl) ?_
            refine w_icmpge (t := 157) rfl rfl (show inr (x79_4) from j79_1) (show inr (3) from q_246) (fun b38 => ?_) (fun b38 => ?_)
            · have hLN : LNI ((w14)) ((u1_1)) (3) ((x79_3)) ((w79_33)) ((w79_34)) := by have h := j79_l; rw [show (x79_4) = 3 by omega] at h; exact h
              have hL4 := LN_4 (by omega) (by omega) hLN rfl
              refine Ew_of (pcₚ := 158) (fun _ => x_aload_n rfl l79_0) ?_
              refine w_gT H (o := 5) (t := 1) rfl (H.perm 5 rfl) rfl rfl rfl rfl rfl rfl ?_
              refine w_gI H (o := 1) (w := u1_1) rfl (H.perm 1 rfl) rfl rfl rfl (fun _ => rfl) ((((hS_79 1 1 rfl).trans (hS27 1 1 rfl)).trans (hS_c36 1 1 rfl)).trans (eu1_1)) ?_
              refine Ew_of (pcₚ := 165) (fun _ => x_iload_n rfl l79_3) ?_
              refine Ew_of (pcₚ := 167) (fun _ => x_bipush (z := 12) rfl (by decide)) ?_
              refine w_iadd rfl ?_
              refine w_icmpge (t := 173) rfl rfl (show inr (u1_1) from q_1951 b24 r1) (show inr ((x79_3 + 12)) from q_1953 j79_3 r1) (fun b39 => ?_) (fun b39 => ?_)
              · refine Ew_of (pcₚ := 174) (fun _ => x_iload_n rfl l79_3) ?_
                refine Ew_of (pcₚ := 176) (fun _ => x_bipush (z := 12) rfl (by decide)) ?_
                refine w_iadd rfl ?_
                refine Ew_of (pcₚ := 178) (fun _ => x_istore_n rfl) ?_
                refine Ew_of (pcₚ := 179) (fun _ => x_iconst rfl) ?_
                refine Ew_of (pcₚ := 181) (fun _ => x_istore rfl) ?_
                have : LNL ((w14)) ((u1_1)) ((x79_3)) ((0 : Int)) ((A 38)) := LNL_0
                suffices hl181 : ∀ (m : Nat), ∀ (ls : rO) (σ : rS) (F_181 : hF) (A_181 : hA) (x181_4 : Int), rlook ls 0 = some (.ref (D 5)) → rlook ls 1 = some (I ((x79_3 + 12))) → rlook ls 2 = some (I (tc36_0)) → rlook ls 3 = some (I (x79_3)) → rlook ls 4 = some (I (x181_4)) → HS σ0 σ D N F_181 A_181 → SF [] F_79 F_181 → SA [38] A_79 A_181 → ∀ w181_38 : Int → Int, A_181 38 = w181_38 → (inr (x181_4)) → (0 ≤ (x181_4) ∧ (x181_4) ≤ 3) → (0 < (x181_4) → 1 ≤ ((w181_38)) 0) → (1 < (x181_4) → 1 ≤ ((w181_38)) 1) → (2 < (x181_4) → 1 ≤ ((w181_38)) 2) → (LNL ((w14)) ((u1_1)) ((x79_3)) ((x181_4)) ((w181_38))) → (3 - (x181_4)).toNat = m → Ew 275 (d + 4) 181 ls [] σ c s Q from
                  hl181 _ _ σ _ _ (0) (rk_o (rk_o (l79_0) rfl rfl) rfl rfl) (rk_o (rk_s) rfl rfl) (rk_o (rk_o (l79_2) rfl rfl) rfl rfl) (rk_o (rk_o (l79_3) rfl rfl) rfl rfl) (rk_s) H (SF_refl) (SA_refl)  (A 38) ((funext (hA_79 38 rfl)).trans ((funext (hA28 38 rfl)).trans (funext (hA_c36 38 rfl)))) (show inr (0) from q_2) (show 0 ≤ (0) ∧ (0) ≤ 3 from q_548) (show 0 < (0) → 1 ≤ ((A 38)) 0 from q_1956) (show 1 < (0) → 1 ≤ ((A 38)) 1 from q_1955) (show 2 < (0) → 1 ≤ ((A 38)) 2 from q_1954) (show LNL ((w14)) ((u1_1)) ((x79_3)) ((0)) ((A 38)) by assumption) rfl
                as_aux_lemma =>
                intro m
                induction m using Nat.strongRecOn with
                | _ m ih181 =>
                  intro ls σ F_181 A_181 x181_4 l181_0 l181_1 l181_2 l181_3 l181_4 H hS_181 hA_181  w181_38 ew181_38 j181_0 j181_1 j181_2 j181_3 j181_4 j181_5 hm181
                  have j181_l : LNL ((w14)) ((u1_1)) ((x79_3)) ((x181_4)) ((w181_38)) := j181_5
                  refine Ew_of (pcₚ := 183) (fun _ => x_iload rfl l181_4) ?_
                  refine Ew_of (pcₚ := 184) (fun _ => x_iconst rfl) ?_
                  refine w_icmpge (t := 247) rfl rfl (show inr (x181_4) from j181_0) (show inr (3) from q_246) (fun b40 => ?_) (fun b40 => ?_)
                  · have : (tc36_0) = 1 → CI ((wq32)) ((y30)) := by first | exact (fun q => absurd q (by omega)) | exact (fun _ => by first | exact hci | assumption)
                    have : (tc36_0) = 1 → PS ((w79_33)) ((w79_34)) 0 := by first | exact (fun q => absurd q (by omega)) | exact (fun _ => j79_7 (by omega))
                    have : (tc36_0) = 1 → PS ((w79_33)) ((w79_34)) 1 := by first | exact (fun q => absurd q (by omega)) | exact (fun _ => j79_5 (by omega))
                    have : (tc36_0) = 1 → PS ((w79_33)) ((w79_34)) 2 := by first | exact (fun q => absurd q (by omega)) | exact (fun _ => j79_6 (by omega))
                    have : IMP ((tc36_0) = 1) (LNR ((w14)) ((u1_1)) (((x79_3 + 12))) ((wq32)) ((w79_33)) ((w79_34)) ((w181_38))) := by first | exact (fun q => absurd q (by omega)) | exact (fun _ => LNR_of hL4 hLN rfl (by omega) j181_l (by omega) hds (by omega) hci (j79_7 (by omega)) (j79_5 (by omega)) (j79_6 (by omega)) (by omega))
                    have : IMP ((tc36_0) = 0) (LNF ((w14)) ((u1_1)) = ((u1_1), DCN ((w14)) ((u1_1)))) := by first | exact (fun q => absurd q (by omega)) | exact (fun _ => LN_n (by omega))
                    exact hc247  _ σ _ _ ((x79_3 + 12)) (l181_0) (l181_1) (l181_2) H (SF_trans (SF_trans (SF_trans (SF_refl) hS27 (any_sub rfl)) hS_79 (any_sub rfl)) hS_181 (any_sub rfl)) (SA_trans (SA_trans (SA_trans (SA_refl) hA28 (any_subA rfl)) hA_79 (any_subA rfl)) hA_181 (any_subA rfl)) (y30) ((((hS_181 5 10 rfl).trans (hS_79 5 10 rfl)).trans (ey31))) (wq32) ((funext (hA_181 31 rfl)).trans ((funext (hA_79 31 rfl)).trans (ewq33))) (w79_33) ((funext (hA_181 33 rfl)).trans (ew79_33)) (w79_34) ((funext (hA_181 34 rfl)).trans (ew79_34)) (w79_35) ((funext (hA_181 35 rfl)).trans (ew79_35)) (w79_36) ((funext (hA_181 36 rfl)).trans (ew79_36)) (w79_37) ((funext (hA_181 37 rfl)).trans (ew79_37)) (w181_38) (ew181_38) (show inr ((x79_3 + 12)) from q_1960 b39 j79_3 r1) (show 0 ≤ ((x79_3 + 12)) ∧ ((x79_3 + 12)) ≤ (u1_1) from q_1959 b39 j79_3) (show (tc36_0) = 1 → 8 ≤ (u1_1) from q_1958 b24) (show (tc36_0) = 0 → ((x79_3 + 12)) = 0 by omega) (j79_4) (show (tc36_0) = 1 → CI ((wq32)) ((y30)) by first | assumption | exact fun h => absurd rfl h | exact fun h => absurd h (by decide) | omega) (show (tc36_0) = 1 → PS ((w79_33)) ((w79_34)) 0 by first | assumption | exact fun h => absurd rfl h | exact fun h => absurd h (by decide) | omega) (show (tc36_0) = 1 → PS ((w79_33)) ((w79_34)) 1 by first | assumption | exact fun h => absurd rfl h | exact fun h => absurd h (by decide) | omega) (show (tc36_0) = 1 → PS ((w79_33)) ((w79_34)) 2 by first | assumption | exact fun h => absurd rfl h | exact fun h => absurd h (by decide) | omega) (show (tc36_0) = 1 → 1 ≤ ((w181_38)) 0 ∧ 1 ≤ ((w181_38)) 1 ∧ 1 ≤ ((w181_38)) 2 from q_1957 b40 j181_2 j181_3 j181_4) (show IMP ((tc36_0) = 1) (LNR ((w14)) ((u1_1)) (((x79_3 + 12))) ((wq32)) ((w79_33)) ((w79_34)) ((w181_38))) by assumption) (show IMP ((tc36_0) = 0) (LNF ((w14)) ((u1_1)) = ((u1_1), DCN ((w14)) ((u1_1)))) by assumption)
                  · refine Ew_of (pcₚ := 188) (fun _ => x_aload_n rfl l181_0) ?_
                    refine w_gT H (o := 5) (t := 38) rfl (H.perm 5 rfl) rfl rfl rfl rfl rfl rfl ?_
                    refine Ew_of (pcₚ := 193) (fun _ => x_iload rfl l181_4) ?_
                    refine Ew_of (pcₚ := 194) (fun _ => x_aload_n rfl l181_0) ?_
                    refine Ew_of (pcₚ := 195) (fun _ => x_iload_n rfl l181_3) ?_
                    refine Ew_of (pcₚ := 196) (fun _ => x_iconst rfl) ?_
                    refine Ew_of (pcₚ := 198) (fun _ => x_iload rfl l181_4) ?_
                    refine w_imul rfl ?_
                    refine w_iadd rfl ?_
                    refine Ew_of (pcₚ := 201) (fun _ => x_iconst rfl) ?_
                    refine w_inv H (o := 5) rfl rfl rfl (H.perm 5 rfl) rfl rfl (by rfl) (M257 H (w14) ((funext (hA_181 14 rfl)).trans ((funext (hA_79 14 rfl)).trans ((funext (hA28 14 rfl)).trans ((funext (hA_c36 14 rfl)).trans (ew14))))) (show inr ((x79_3 + (4 * x181_4))) from q_1962 b39 b40 j181_1 j79_3 r1) (show inr (4) from q_216) (show 0 ≤ ((x79_3 + (4 * x181_4))) ∧ 0 ≤ (4) ∧ (4) ≤ 8 ∧ ((x79_3 + (4 * x181_4))) + (4) ≤ 65536 from q_1961 b39 b40 j181_1 j79_3 r1) (fun z45 σ F41 A42 H hS43 hA44 pz45_0 pz45_1 pz45_2 pz45_3 pz45_4 pz45_5 pz45_6 pz45_7 pz45_8 pz45_9 => ⟨rfl, ?_⟩))
                    replace pz45_1 := pz45_1.resolve_left (by decide)
                    replace pz45_2 := pz45_2.resolve_right (by decide)
                    replace pz45_3 := pz45_3 (by decide)
                    (try clear pz45_4)
                    (try clear pz45_5)
                    (try clear pz45_6)
                    (try clear pz45_7)
                    replace pz45_8 := pz45_8 (by decide)
                    have hN4 : z45 = nvl ((w14)) ((x79_3) + 4 * (x181_4)) 4 := nmb_nn pz45_9 (by omega) pz45_0
                    refine w_sJ H (o := 38) (n := 3) rfl (H.perm 38 rfl) rfl rfl (H.fix 38 rfl rfl) (show 0 ≤ x181_4 ∧ x181_4 < ((3 : Nat) : Int) from q_1672 b40 j181_1) (by decide) (show (-9223372036854775808 : Int) ≤ z45 ∧ z45 ≤ 9223372036854775807 by omega) (fun σ H => ?_)
                    refine Ew_of (pcₚ := 206) (fun _ => x_aload_n rfl l181_0) ?_
                    refine w_gT H (o := 5) (t := 38) rfl (H.perm 5 rfl) rfl rfl rfl rfl rfl rfl ?_
                    refine Ew_of (pcₚ := 211) (fun _ => x_iload rfl l181_4) ?_
                    refine w_lJ H (o := 38) (n := 3) rfl (H.perm 38 rfl) rfl rfl (H.fix 38 rfl rfl) (show 0 ≤ x181_4 ∧ x181_4 < ((3 : Nat) : Int) from q_1672 b40 j181_1) (by decide) (fun v46 ev46 qv46 => ?_)
                    have qv46 : (-9223372036854775808 : Int) ≤ v46 ∧ v46 ≤ 9223372036854775807 := qv46
                    have ev46 : (upd1 (w181_38) (x181_4) (z45)) (x181_4) = v46 := (congrFun (congrArg (fun q => upd1 q (x181_4) (z45)) ((funext (hA44 38 rfl)).trans (ew181_38))) (x181_4)).symm.trans ev46
                    have hq := ev46
                    rw [upd1_s] at hq
                    refine Ew_of (pcₚ := 213) (fun _ => x_lconst (z := 0) rfl (by decide)) ?_
                    refine w_lcmp rfl (show inrJ (v46) by omega) (show inrJ (0) from q_340) (fun z47 gz47 gaz47 gbz47 => ?_)
                    refine w_ifeq (t := 238) rfl rfl (show inr (z47) from gz47) (fun b48 => ?_) (fun b48 => ?_)
                    · refine Ew_of (pcₚ := 240) (fun _ => x_bipush (z := -4) rfl (by decide)) ?_
                      have : LNA ((w14)) ((u1_1)) Dc (((-4))) ((u5_4)) ((u5_3)) ((w26)) ((u5_2)) ((w27)) ((w28)) ((w29)) ((w30)) := LNA_f (LN_44 hL4 (by omega) (by omega) hN4 (by omega)) (by decide) (by omega) hrdi
                      have : IMP ((((-4)) : Int) < 0) (((u5_4), (u5_3), (u5_2), (w26), (w27), (w28), (w29), (w30)) = ((u5_4), (u5_3), (u5_2), (w26), (w27), (w28), (w29), (w30))) := fun _ => rfl
                      exact w_ireturn rfl (k ((-4)) σ _ _ H (SF_trans (SF_trans (SF_trans (SF_trans (SF_trans (SF_refl) hS_c36 (any_sub rfl)) hS27 (any_sub rfl)) hS_79 (any_sub rfl)) hS_181 (any_sub rfl)) hS43 (any_sub rfl)) (SA_upd (SA_trans (SA_trans (SA_trans (SA_trans (SA_trans (SA_refl) hA_c36 (any_subA rfl)) hA28 (any_subA rfl)) hA_79 (any_subA rfl)) hA_181 (any_subA rfl)) hA44 (any_subA rfl)) rfl) (u5_2) (((((((hS43 5 2 rfl).trans (hS_181 5 2 rfl)).trans (hS_79 5 2 rfl)).trans (hS27 5 2 rfl)).trans (hS_c36 5 2 rfl)).trans (eu5_2))) (u5_3) (((((((hS43 5 3 rfl).trans (hS_181 5 3 rfl)).trans (hS_79 5 3 rfl)).trans (hS27 5 3 rfl)).trans (hS_c36 5 3 rfl)).trans (eu5_3))) (u5_4) (((((((hS43 5 4 rfl).trans (hS_181 5 4 rfl)).trans (hS_79 5 4 rfl)).trans (hS27 5 4 rfl)).trans (hS_c36 5 4 rfl)).trans (eu5_4))) (w26) ((funext (hA44 26 rfl)).trans ((funext (hA_181 26 rfl)).trans ((funext (hA_79 26 rfl)).trans ((funext (hA28 26 rfl)).trans ((funext (hA_c36 26 rfl)).trans (ew26)))))) (w27) ((funext (hA44 27 rfl)).trans ((funext (hA_181 27 rfl)).trans ((funext (hA_79 27 rfl)).trans ((funext (hA28 27 rfl)).trans ((funext (hA_c36 27 rfl)).trans (ew27)))))) (w28) ((funext (hA44 28 rfl)).trans ((funext (hA_181 28 rfl)).trans ((funext (hA_79 28 rfl)).trans ((funext (hA28 28 rfl)).trans ((funext (hA_c36 28 rfl)).trans (ew28)))))) (w29) ((funext (hA44 29 rfl)).trans ((funext (hA_181 29 rfl)).trans ((funext (hA_79 29 rfl)).trans ((funext (hA28 29 rfl)).trans ((funext (hA_c36 29 rfl)).trans (ew29)))))) (w30) ((funext (hA44 30 rfl)).trans ((funext (hA_181 30 rfl)).trans ((funext (hA_79 30 rfl)).trans ((funext (hA28 30 rfl)).trans ((funext (hA_c36 30 rfl)).trans (ew30)))))) (w79_34) ((funext (hA44 34 rfl)).trans ((funext (hA_181 34 rfl)).trans (ew79_34))) (w79_35) ((funext (hA44 35 rfl)).trans ((funext (hA_181 35 rfl)).trans (ew79_35))) (w79_36) ((funext (hA44 36 rfl)).trans ((funext (hA_181 36 rfl)).trans (ew79_36))) (w79_37) ((funext (hA44 37 rfl)).trans ((funext (hA_181 37 rfl)).trans (ew79_37))) (show inr ((-4)) from q_558) (j79_4) (h1) (show 0 ≤ (u5_4) ∧ (u5_4) ≤ 1 from r4) (show LNA ((w14)) ((u1_1)) Dc (((-4))) ((u5_4)) ((u5_3)) ((w26)) ((u5_2)) ((w27)) ((w28)) ((w29)) ((w30)) by assumption) (show IMP ((((-4)) : Int) < 0) (((u5_4), (u5_3), (u5_2), (w26), (w27), (w28), (w29), (w30)) = ((u5_4), (u5_3), (u5_2), (w26), (w27), (w28), (w29), (w30))) by assumption))
                    · refine Ew_of (pcₚ := 218) (fun _ => x_aload_n rfl l181_0) ?_
                      refine w_gT H (o := 5) (t := 38) rfl (H.perm 5 rfl) rfl rfl rfl rfl rfl rfl ?_
                      refine Ew_of (pcₚ := 223) (fun _ => x_iload rfl l181_4) ?_
                      refine w_lJ H (o := 38) (n := 3) rfl (H.perm 38 rfl) rfl rfl (H.fix 38 rfl rfl) (show 0 ≤ x181_4 ∧ x181_4 < ((3 : Nat) : Int) from q_1672 b40 j181_1) (by decide) (fun v49 ev49 qv49 => ?_)
                      have qv49 : (-9223372036854775808 : Int) ≤ v49 ∧ v49 ≤ 9223372036854775807 := qv49
                      have ev49 : (upd1 (w181_38) (x181_4) (z45)) (x181_4) = v49 := (congrFun (congrArg (fun q => upd1 q (x181_4) (z45)) ((funext (hA44 38 rfl)).trans (ew181_38))) (x181_4)).symm.trans ev49
                      refine Ew_of (pcₚ := 225) (fun _ => x_aload_n rfl l181_0) ?_
                      refine w_gT H (o := 5) (t := 1) rfl (H.perm 5 rfl) rfl rfl rfl rfl rfl rfl ?_
                      refine w_gI H (o := 1) (w := u1_1) rfl (H.perm 1 rfl) rfl rfl rfl (fun _ => rfl) ((((((hS43 1 1 rfl).trans (hS_181 1 1 rfl)).trans (hS_79 1 1 rfl)).trans (hS27 1 1 rfl)).trans (hS_c36 1 1 rfl)).trans (eu1_1)) ?_
                      refine Ew_of (pcₚ := 232) (fun _ => x_iload_n rfl l181_1) ?_
                      refine w_isub rfl ?_
                      refine w_i2l rfl (show inr ((u1_1 - (x79_3 + 12))) from q_1963 b39 j79_3 r1) ?_
                      have hq2 := ev49
                      rw [upd1_s] at hq2
                      refine w_lcmp rfl (show inrJ (v49) by omega) (show inrJ ((u1_1 - (x79_3 + 12))) from q_1964 b39 j79_3 r1) (fun z50 gz50 gaz50 gbz50 => ?_)
                      refine w_ifle (t := 241) rfl rfl (show inr (z50) from gz50) (fun b51 => ?_) (fun b51 => ?_)
                      · refine Ew_of (pcₚ := 244) (fun _ => x_iinc (len := 3) rfl (l181_4)) ?_
                        refine Ew_of (pcₚ := 181) (fun _ => x_goto rfl rfl) ?_
                        have hu0 : 0 < ((x181_4 + 1)) → 1 ≤ ((upd1 (w181_38) (x181_4) (z45))) 0 := by simp only [upd1]; omega
                        have hu1 : 1 < ((x181_4 + 1)) → 1 ≤ ((upd1 (w181_38) (x181_4) (z45))) 1 := by simp only [upd1]; omega
                        have hu2 : 2 < ((x181_4 + 1)) → 1 ≤ ((upd1 (w181_38) (x181_4) (z45))) 2 := by simp only [upd1]; omega
                        have : LNL ((w14)) ((u1_1)) ((x79_3)) (((x181_4 + 1))) ((upd1 (w181_38) (x181_4) (z45))) := LNL_s j181_l hN4 (by omega) (by omega) (by omega)
                        exact ih181 _ (msE hm181 q_813 (q_814 b40)) _ σ _ _ ((x181_4 + 1)) (rk_o (l181_0) rfl rfl) (rk_o (l181_1) rfl rfl) (rk_o (l181_2) rfl rfl) (rk_o (l181_3) rfl rfl) (rk_s) H (SF_trans (hS_181) hS43 (any_sub rfl)) (SA_upd (SA_trans (hA_181) hA44 (any_subA rfl)) rfl)  (upd1 (w181_38) (x181_4) (z45)) (congrArg (fun q => upd1 q (x181_4) (z45)) ((funext (hA44 38 rfl)).trans (ew181_38))) (show inr ((x181_4 + 1)) from q_812 b40 j181_1) (show 0 ≤ ((x181_4 + 1)) ∧ ((x181_4 + 1)) ≤ 3 from q_811 b40 j181_1) (show 0 < ((x181_4 + 1)) → 1 ≤ ((upd1 (w181_38) (x181_4) (z45))) 0 from hu0) (show 1 < ((x181_4 + 1)) → 1 ≤ ((upd1 (w181_38) (x181_4) (z45))) 1 from hu1) (show 2 < ((x181_4 + 1)) → 1 ≤ ((upd1 (w181_38) (x181_4) (z45))) 2 from hu2) (show LNL ((w14)) ((u1_1)) ((x79_3)) (((x181_4 + 1))) ((upd1 (w181_38) (x181_4) (z45))) by assumption) rfl
                      · refine Ew_of (pcₚ := 240) (fun _ => x_bipush (z := -4) rfl (by decide)) ?_
                        have : LNA ((w14)) ((u1_1)) Dc (((-4))) ((u5_4)) ((u5_3)) ((w26)) ((u5_2)) ((w27)) ((w28)) ((w29)) ((w30)) := LNA_f (LN_44 hL4 (by omega) (by omega) hN4 (by omega)) (by decide) (by omega) hrdi
                        have : IMP ((((-4)) : Int) < 0) (((u5_4), (u5_3), (u5_2), (w26), (w27), (w28), (w29), (w30)) = ((u5_4), (u5_3), (u5_2), (w26), (w27), (w28), (w29), (w30))) := fun _ => rfl
                        exact w_ireturn rfl (k ((-4)) σ _ _ H (SF_trans (SF_trans (SF_trans (SF_trans (SF_trans (SF_refl) hS_c36 (any_sub rfl)) hS27 (any_sub rfl)) hS_79 (any_sub rfl)) hS_181 (any_sub rfl)) hS43 (any_sub rfl)) (SA_upd (SA_trans (SA_trans (SA_trans (SA_trans (SA_trans (SA_refl) hA_c36 (any_subA rfl)) hA28 (any_subA rfl)) hA_79 (any_subA rfl)) hA_181 (any_subA rfl)) hA44 (any_subA rfl)) rfl) (u5_2) (((((((hS43 5 2 rfl).trans (hS_181 5 2 rfl)).trans (hS_79 5 2 rfl)).trans (hS27 5 2 rfl)).trans (hS_c36 5 2 rfl)).trans (eu5_2))) (u5_3) (((((((hS43 5 3 rfl).trans (hS_181 5 3 rfl)).trans (hS_79 5 3 rfl)).trans (hS27 5 3 rfl)).trans (hS_c36 5 3 rfl)).trans (eu5_3))) (u5_4) (((((((hS43 5 4 rfl).trans (hS_181 5 4 rfl)).trans (hS_79 5 4 rfl)).trans (hS27 5 4 rfl)).trans (hS_c36 5 4 rfl)).trans (eu5_4))) (w26) ((funext (hA44 26 rfl)).trans ((funext (hA_181 26 rfl)).trans ((funext (hA_79 26 rfl)).trans ((funext (hA28 26 rfl)).trans ((funext (hA_c36 26 rfl)).trans (ew26)))))) (w27) ((funext (hA44 27 rfl)).trans ((funext (hA_181 27 rfl)).trans ((funext (hA_79 27 rfl)).trans ((funext (hA28 27 rfl)).trans ((funext (hA_c36 27 rfl)).trans (ew27)))))) (w28) ((funext (hA44 28 rfl)).trans ((funext (hA_181 28 rfl)).trans ((funext (hA_79 28 rfl)).trans ((funext (hA28 28 rfl)).trans ((funext (hA_c36 28 rfl)).trans (ew28)))))) (w29) ((funext (hA44 29 rfl)).trans ((funext (hA_181 29 rfl)).trans ((funext (hA_79 29 rfl)).trans ((funext (hA28 29 rfl)).trans ((funext (hA_c36 29 rfl)).trans (ew29)))))) (w30) ((funext (hA44 30 rfl)).trans ((funext (hA_181 30 rfl)).trans ((funext (hA_79 30 rfl)).trans ((funext (hA28 30 rfl)).trans ((funext (hA_c36 30 rfl)).trans (ew30)))))) (w79_34) ((funext (hA44 34 rfl)).trans ((funext (hA_181 34 rfl)).trans (ew79_34))) (w79_35) ((funext (hA44 35 rfl)).trans ((funext (hA_181 35 rfl)).trans (ew79_35))) (w79_36) ((funext (hA44 36 rfl)).trans ((funext (hA_181 36 rfl)).trans (ew79_36))) (w79_37) ((funext (hA44 37 rfl)).trans ((funext (hA_181 37 rfl)).trans (ew79_37))) (show inr ((-4)) from q_558) (j79_4) (h1) (show 0 ≤ (u5_4) ∧ (u5_4) ≤ 1 from r4) (show LNA ((w14)) ((u1_1)) Dc (((-4))) ((u5_4)) ((u5_3)) ((w26)) ((u5_2)) ((w27)) ((w28)) ((w29)) ((w30)) by assumption) (show IMP ((((-4)) : Int) < 0) (((u5_4), (u5_3), (u5_2), (w26), (w27), (w28), (w29), (w30)) = ((u5_4), (u5_3), (u5_2), (w26), (w27), (w28), (w29), (w30))) by assumption))
              · refine Ew_of (pcₚ := 172) (fun _ => x_iconst rfl) ?_
                have : LNA ((w14)) ((u1_1)) Dc (((-1))) ((u5_4)) ((u5_3)) ((w26)) ((u5_2)) ((w27)) ((w28)) ((w29)) ((w30)) := LNA_f (LN_41 hL4 (by omega)) (by decide) (by omega) hrdi
                have : IMP ((((-1)) : Int) < 0) (((u5_4), (u5_3), (u5_2), (w26), (w27), (w28), (w29), (w30)) = ((u5_4), (u5_3), (u5_2), (w26), (w27), (w28), (w29), (w30))) := fun _ => rfl
                exact w_ireturn rfl (k ((-1)) σ _ _ H (SF_trans (SF_trans (SF_trans (SF_refl) hS_c36 (any_sub rfl)) hS27 (any_sub rfl)) hS_79 (any_sub rfl)) (SA_trans (SA_trans (SA_trans (SA_refl) hA_c36 (any_subA rfl)) hA28 (any_subA rfl)) hA_79 (any_subA rfl)) (u5_2) (((((hS_79 5 2 rfl).trans (hS27 5 2 rfl)).trans (hS_c36 5 2 rfl)).trans (eu5_2))) (u5_3) (((((hS_79 5 3 rfl).trans (hS27 5 3 rfl)).trans (hS_c36 5 3 rfl)).trans (eu5_3))) (u5_4) (((((hS_79 5 4 rfl).trans (hS27 5 4 rfl)).trans (hS_c36 5 4 rfl)).trans (eu5_4))) (w26) ((funext (hA_79 26 rfl)).trans ((funext (hA28 26 rfl)).trans ((funext (hA_c36 26 rfl)).trans (ew26)))) (w27) ((funext (hA_79 27 rfl)).trans ((funext (hA28 27 rfl)).trans ((funext (hA_c36 27 rfl)).trans (ew27)))) (w28) ((funext (hA_79 28 rfl)).trans ((funext (hA28 28 rfl)).trans ((funext (hA_c36 28 rfl)).trans (ew28)))) (w29) ((funext (hA_79 29 rfl)).trans ((funext (hA28 29 rfl)).trans ((funext (hA_c36 29 rfl)).trans (ew29)))) (w30) ((funext (hA_79 30 rfl)).trans ((funext (hA28 30 rfl)).trans ((funext (hA_c36 30 rfl)).trans (ew30)))) (w79_34) (ew79_34) (w79_35) (ew79_35) (w79_36) (ew79_36) (w79_37) (ew79_37) (show inr ((-1)) from q_63) (j79_4) (h1) (show 0 ≤ (u5_4) ∧ (u5_4) ≤ 1 from r4) (show LNA ((w14)) ((u1_1)) Dc (((-1))) ((u5_4)) ((u5_3)) ((w26)) ((u5_2)) ((w27)) ((w28)) ((w29)) ((w30)) by assumption) (show IMP ((((-1)) : Int) < 0) (((u5_4), (u5_3), (u5_2), (w26), (w27), (w28), (w29), (w30)) = ((u5_4), (u5_3), (u5_2), (w26), (w27), (w28), (w29), (w30))) by assumption))
            · refine Ew_of (pcₚ := 87) (fun _ => x_iload rfl l79_4) ?_
              have hc105 : ∀ (tc105_0 : Int), ∀ (ls : rO) (σ : rS) (F_c105 : hF) (A_c105 : hA) , rlook ls 0 = some (.ref (D 5)) → rlook ls 2 = some (I (tc36_0)) → rlook ls 3 = some (I (x79_3)) → rlook ls 4 = some (I (x79_4)) → HS σ0 σ D N F_c105 A_c105 → SF [] F_79 F_c105 → SA [] A_79 A_c105 → (inr (tc105_0)) → (((x79_4) ≠ (0) ∧ (x79_4) ≠ (1) ∧ (tc105_0) = (0)) ∨ ((x79_4) ≠ (0) ∧ (x79_4) = (1) ∧ (tc105_0) = (2)) ∨ ((x79_4) = (0) ∧ (tc105_0) = (1))) → Ew 275 (d + 4) 105 ls [I (tc105_0)] σ c s Q := by
               as_aux_lemma =>
                intro tc105_0 ls σ F_c105 A_c105  lc105_0 lc105_2 lc105_3 lc105_4 H hS_c105 hA_c105   jc105_0 jc105_1
                refine Ew_of (pcₚ := 107) (fun _ => x_istore rfl) ?_
                refine Ew_of (pcₚ := 108) (fun _ => x_aload_n rfl (rk_o (lc105_0) rfl rfl)) ?_
                refine Ew_of (pcₚ := 109) (fun _ => x_iload_n rfl (rk_o (lc105_3) rfl rfl)) ?_
                refine Ew_of (pcₚ := 110) (fun _ => x_aload_n rfl (rk_o (lc105_0) rfl rfl)) ?_
                refine w_gT H (o := 5) (t := 1) rfl (H.perm 5 rfl) rfl rfl rfl rfl rfl rfl ?_
                refine w_gI H (o := 1) (w := u1_1) rfl (H.perm 1 rfl) rfl rfl rfl (fun _ => rfl) (((((hS_c105 1 1 rfl).trans (hS_79 1 1 rfl)).trans (hS27 1 1 rfl)).trans (hS_c36 1 1 rfl)).trans (eu1_1)) ?_
                refine Ew_of (pcₚ := 118) (fun _ => x_iload rfl rk_s) ?_
                refine Ew_of (pcₚ := 119) (fun _ => x_iconst rfl) ?_
                have hc129 : ∀ (tc129_0 : Int), ∀ (ls : rO) (σ : rS) (F_c129 : hF) (A_c129 : hA) , rlook ls 0 = some (.ref (D 5)) → rlook ls 2 = some (I (tc36_0)) → rlook ls 4 = some (I (x79_4)) → rlook ls 5 = some (I (tc105_0)) → HS σ0 σ D N F_c129 A_c129 → SF [] F_c105 F_c129 → SA [] A_c105 A_c129 → (inr (tc129_0)) → (((tc105_0) ≠ (1) ∧ (tc129_0) = (9)) ∨ ((tc105_0) = (1) ∧ (tc129_0) = (8))) → Ew 275 (d + 4) 129 ls [I (tc129_0), I (u1_1), I (x79_3), .ref (D 5)] σ c s Q := by
                 as_aux_lemma =>
                  intro tc129_0 ls σ F_c129 A_c129  lc129_0 lc129_2 lc129_4 lc129_5 H hS_c129 hA_c129   jc129_0 jc129_1
                  refine Ew_of (pcₚ := 131) (fun _ => x_iload rfl lc129_5) ?_
                  refine w_stat24 rfl rfl (by rfl) (M276 H (show inr (tc105_0) from jc105_0) (show 0 ≤ (tc105_0) ∧ (tc105_0) ≤ 2 from q_1965 jc105_1) (fun z56 σ F52 A53 H hS54 hA55 pz56_0 pz56_1 pz56_2 => ⟨rfl, ?_⟩))
                  have hlt5 : (tc105_0) = lnT ((x79_4)) := by have := lnT_eq ((x79_4)); omega
                  have hgr5 : (tc129_0) = lnG ((tc105_0)) := by have := lnG_eq ((tc105_0)); omega
                  refine w_inv H (o := 5) rfl rfl rfl (H.perm 5 rfl) rfl rfl (by rfl) (M261 H (w14) ((funext (hA55 14 rfl)).trans ((funext (hA_c129 14 rfl)).trans ((funext (hA_c105 14 rfl)).trans ((funext (hA_79 14 rfl)).trans ((funext (hA28 14 rfl)).trans ((funext (hA_c36 14 rfl)).trans (ew14))))))) (show inr (x79_3) from j79_0) (show inr (u1_1) from q_1951 b24 r1) (show inr (tc129_0) from jc129_0) (show inr (z56) from pz56_0) (show 0 ≤ (x79_3) ∧ (x79_3) ≤ 65536 ∧ (u1_1) ≤ 65536 ∧ 0 ≤ (u1_1) from q_1966 j79_3 r1) (show 6 ≤ (tc129_0) ∧ (tc129_0) ≤ 9 ∧ 0 ≤ (z56) ∧ (z56) ≤ 63 from q_1675 jc129_1 pz56_2) (fun z61 σ F57 A58 H hS59 hA60 y62 ey63 wq64 ewq65 pz61_0 pz61_1 pz61_2 pz61_3 => ⟨rfl, ?_⟩))
                  have r66 : (0 : Int) ≤ y62 ∧ y62 ≤ 20 := rngE (show (0 : Int) ≤ F57 5 19 ∧ F57 5 19 ≤ 20 from H.frng 5 19) (show F57 5 19 = y62 from (ey63))
                  have hla5 := pz56_1
                  have hsa5 := pz61_3
                  refine Ew_of (pcₚ := 138) (fun _ => x_istore_n rfl) ?_
                  refine Ew_of (pcₚ := 139) (fun _ => x_iload_n rfl rk_s) ?_
                  refine w_ifge (t := 145) rfl rfl (show inr (z61) from pz61_0) (fun b67 => ?_) (fun b67 => ?_)
                  · have hsh := pz61_2 (by omega)
                    rw [pz56_1] at hsh
                    refine Ew_of (pcₚ := 146) (fun _ => x_aload_n rfl (rk_o (lc129_0) rfl rfl)) ?_
                    refine Ew_of (pcₚ := 148) (fun _ => x_iload rfl (rk_o (lc129_5) rfl rfl)) ?_
                    refine w_inv H (o := 5) rfl rfl rfl (H.perm 5 rfl) rfl rfl (by rfl) (M264 H (y62) ((ey63)) (w79_33) ((funext (hA60 33 rfl)).trans ((funext (hA55 33 rfl)).trans ((funext (hA_c129 33 rfl)).trans ((funext (hA_c105 33 rfl)).trans (ew79_33))))) (w79_34) ((funext (hA60 34 rfl)).trans ((funext (hA55 34 rfl)).trans ((funext (hA_c129 34 rfl)).trans ((funext (hA_c105 34 rfl)).trans (ew79_34))))) (w79_35) ((funext (hA60 35 rfl)).trans ((funext (hA55 35 rfl)).trans ((funext (hA_c129 35 rfl)).trans ((funext (hA_c105 35 rfl)).trans (ew79_35))))) (w79_36) ((funext (hA60 36 rfl)).trans ((funext (hA55 36 rfl)).trans ((funext (hA_c129 36 rfl)).trans ((funext (hA_c105 36 rfl)).trans (ew79_36))))) (w79_37) ((funext (hA60 37 rfl)).trans ((funext (hA55 37 rfl)).trans ((funext (hA_c129 37 rfl)).trans ((funext (hA_c105 37 rfl)).trans (ew79_37))))) (wq64) (ewq65) (show inr (tc105_0) from jc105_0) (show 0 ≤ (tc105_0) ∧ (tc105_0) ≤ 2 from q_1965 jc105_1) (show SH ((wq64)) 0 64 ((y62)) (lastOf ((tc105_0))) by assumption) (j79_4) (fun σ F68 A69 H hS70 hA71 wq73 ewq74 wq75 ewq76 wq77 ewq78 wq79 ewq80 wq81 ewq82 pz72_0 pz72_1 pz72_2 pz72_3 pz72_4 pz72_5 pz72_6 pz72_7 pz72_8 pz72_9 => ⟨rfl, ?_⟩))
                    refine Ew_of (pcₚ := 154) (fun _ => x_iinc (len := 3) rfl (rk_o (lc129_4) rfl rfl)) ?_
                    refine Ew_of (pcₚ := 79) (fun _ => x_goto rfl rfl) ?_
                    have hl5 : ((x79_4 + 1)) - 1 = 0 ∧ (tc105_0) = 1 ∨ ((x79_4 + 1)) - 1 = 1 ∧ (tc105_0) = 2 ∨ ((x79_4 + 1)) - 1 = 2 ∧ (tc105_0) = 0 := by omega
                    have : 0 < ((x79_4 + 1)) → PS ((wq73)) ((wq75)) 1 := fun q => by by_cases e : (tc105_0) = 1; rw [← e]; exact pz72_1; exact PS_frm (j79_5 (by omega)) pz72_2 pz72_3 (by omega)
                    have : 1 < ((x79_4 + 1)) → PS ((wq73)) ((wq75)) 2 := fun q => by by_cases e : (tc105_0) = 2; rw [← e]; exact pz72_1; exact PS_frm (j79_6 (by omega)) pz72_2 pz72_3 (by omega)
                    have : 2 < ((x79_4 + 1)) → PS ((wq73)) ((wq75)) 0 := fun q => by by_cases e : (tc105_0) = 0; rw [← e]; exact pz72_1; exact PS_frm (j79_7 (by omega)) pz72_2 pz72_3 (by omega)
                    have : LNI ((w14)) ((u1_1)) (((x79_4 + 1))) ((z61)) ((wq73)) ((wq75)) := LNI_s j79_l (by omega) hlt5 hgr5 hla5 hsa5 (by omega) pz72_2 pz72_3 pz72_5 pz72_6 (by omega)
                    exact ih79 _ (msE hm79 q_813 (q_814 b38)) _ σ _ _ (z61) ((x79_4 + 1)) (rk_o (rk_o (lc129_0) rfl rfl) rfl rfl) (rk_o (rk_o (lc129_2) rfl rfl) rfl rfl) (rk_o (rk_s) rfl rfl) (rk_s) H (SF_trans (SF_trans (SF_trans (SF_trans (SF_trans (hS_79) hS_c105 (any_sub rfl)) hS_c129 (any_sub rfl)) hS54 (any_sub rfl)) hS59 (any_sub rfl)) hS70 (any_sub rfl)) (SA_trans (SA_trans (SA_trans (SA_trans (SA_trans (hA_79) hA_c105 (any_subA rfl)) hA_c129 (any_subA rfl)) hA55 (any_subA rfl)) hA60 (any_subA rfl)) hA71 (any_subA rfl))  (wq73) (ewq74) (wq75) (ewq76) (wq77) (ewq78) (wq79) (ewq80) (wq81) (ewq82) (show inr (z61) from pz61_0) (show inr ((x79_4 + 1)) from q_812 b38 j79_2) (show 0 ≤ ((x79_4 + 1)) ∧ ((x79_4 + 1)) ≤ 3 from q_811 b38 j79_2) (show 8 ≤ (z61) ∧ (z61) ≤ (u1_1) from q_1967 b24 b67 j79_3 pz61_1 pz61_2) (pz72_0) (show 0 < ((x79_4 + 1)) → PS ((wq73)) ((wq75)) 1 by assumption) (show 1 < ((x79_4 + 1)) → PS ((wq73)) ((wq75)) 2 by assumption) (show 2 < ((x79_4 + 1)) → PS ((wq73)) ((wq75)) 0 by assumption) (show LNI ((w14)) ((u1_1)) (((x79_4 + 1))) ((z61)) ((wq73)) ((wq75)) by assumption) rfl
                  · refine Ew_of (pcₚ := 144) (fun _ => x_bipush (z := -3) rfl (by decide)) ?_
                    have : LNA ((w14)) ((u1_1)) Dc (((-3))) ((u5_4)) ((u5_3)) ((w26)) ((u5_2)) ((w27)) ((w28)) ((w29)) ((w30)) := LNA_f (LN_3 (by omega) (by omega) j79_l (by omega) hlt5 hgr5 hla5 hsa5 (by omega)) (by decide) (by omega) hrdi
                    have : IMP ((((-3)) : Int) < 0) (((u5_4), (u5_3), (u5_2), (w26), (w27), (w28), (w29), (w30)) = ((u5_4), (u5_3), (u5_2), (w26), (w27), (w28), (w29), (w30))) := fun _ => rfl
                    exact w_ireturn rfl (k ((-3)) σ _ _ H (SF_trans (SF_trans (SF_trans (SF_trans (SF_trans (SF_trans (SF_trans (SF_refl) hS_c36 (any_sub rfl)) hS27 (any_sub rfl)) hS_79 (any_sub rfl)) hS_c105 (any_sub rfl)) hS_c129 (any_sub rfl)) hS54 (any_sub rfl)) hS59 (any_sub rfl)) (SA_trans (SA_trans (SA_trans (SA_trans (SA_trans (SA_trans (SA_trans (SA_refl) hA_c36 (any_subA rfl)) hA28 (any_subA rfl)) hA_79 (any_subA rfl)) hA_c105 (any_subA rfl)) hA_c129 (any_subA rfl)) hA55 (any_subA rfl)) hA60 (any_subA rfl)) (u5_2) (((((((((hS59 5 2 rfl).trans (hS54 5 2 rfl)).trans (hS_c129 5 2 rfl)).trans (hS_c105 5 2 rfl)).trans (hS_79 5 2 rfl)).trans (hS27 5 2 rfl)).trans (hS_c36 5 2 rfl)).trans (eu5_2))) (u5_3) (((((((((hS59 5 3 rfl).trans (hS54 5 3 rfl)).trans (hS_c129 5 3 rfl)).trans (hS_c105 5 3 rfl)).trans (hS_79 5 3 rfl)).trans (hS27 5 3 rfl)).trans (hS_c36 5 3 rfl)).trans (eu5_3))) (u5_4) (((((((((hS59 5 4 rfl).trans (hS54 5 4 rfl)).trans (hS_c129 5 4 rfl)).trans (hS_c105 5 4 rfl)).trans (hS_79 5 4 rfl)).trans (hS27 5 4 rfl)).trans (hS_c36 5 4 rfl)).trans (eu5_4))) (w26) ((funext (hA60 26 rfl)).trans ((funext (hA55 26 rfl)).trans ((funext (hA_c129 26 rfl)).trans ((funext (hA_c105 26 rfl)).trans ((funext (hA_79 26 rfl)).trans ((funext (hA28 26 rfl)).trans ((funext (hA_c36 26 rfl)).trans (ew26)))))))) (w27) ((funext (hA60 27 rfl)).trans ((funext (hA55 27 rfl)).trans ((funext (hA_c129 27 rfl)).trans ((funext (hA_c105 27 rfl)).trans ((funext (hA_79 27 rfl)).trans ((funext (hA28 27 rfl)).trans ((funext (hA_c36 27 rfl)).trans (ew27)))))))) (w28) ((funext (hA60 28 rfl)).trans ((funext (hA55 28 rfl)).trans ((funext (hA_c129 28 rfl)).trans ((funext (hA_c105 28 rfl)).trans ((funext (hA_79 28 rfl)).trans ((funext (hA28 28 rfl)).trans ((funext (hA_c36 28 rfl)).trans (ew28)))))))) (w29) ((funext (hA60 29 rfl)).trans ((funext (hA55 29 rfl)).trans ((funext (hA_c129 29 rfl)).trans ((funext (hA_c105 29 rfl)).trans ((funext (hA_79 29 rfl)).trans ((funext (hA28 29 rfl)).trans ((funext (hA_c36 29 rfl)).trans (ew29)))))))) (w30) ((funext (hA60 30 rfl)).trans ((funext (hA55 30 rfl)).trans ((funext (hA_c129 30 rfl)).trans ((funext (hA_c105 30 rfl)).trans ((funext (hA_79 30 rfl)).trans ((funext (hA28 30 rfl)).trans ((funext (hA_c36 30 rfl)).trans (ew30)))))))) (w79_34) ((funext (hA60 34 rfl)).trans ((funext (hA55 34 rfl)).trans ((funext (hA_c129 34 rfl)).trans ((funext (hA_c105 34 rfl)).trans (ew79_34))))) (w79_35) ((funext (hA60 35 rfl)).trans ((funext (hA55 35 rfl)).trans ((funext (hA_c129 35 rfl)).trans ((funext (hA_c105 35 rfl)).trans (ew79_35))))) (w79_36) ((funext (hA60 36 rfl)).trans ((funext (hA55 36 rfl)).trans ((funext (hA_c129 36 rfl)).trans ((funext (hA_c105 36 rfl)).trans (ew79_36))))) (w79_37) ((funext (hA60 37 rfl)).trans ((funext (hA55 37 rfl)).trans ((funext (hA_c129 37 rfl)).trans ((funext (hA_c105 37 rfl)).trans (ew79_37))))) (show inr ((-3)) from q_1968) (j79_4) (h1) (show 0 ≤ (u5_4) ∧ (u5_4) ≤ 1 from r4) (show LNA ((w14)) ((u1_1)) Dc (((-3))) ((u5_4)) ((u5_3)) ((w26)) ((u5_2)) ((w27)) ((w28)) ((w29)) ((w30)) by assumption) (show IMP ((((-3)) : Int) < 0) (((u5_4), (u5_3), (u5_2), (w26), (w27), (w28), (w29), (w30)) = ((u5_4), (u5_3), (u5_2), (w26), (w27), (w28), (w29), (w30))) by assumption))
                refine w_icmpne (t := 127) rfl rfl (show inr (tc105_0) from jc105_0) (show inr (1) from q_135) (fun b83 => ?_) (fun b83 => ?_)
                · refine Ew_of (pcₚ := 129) (fun _ => x_bipush (z := 9) rfl (by decide)) ?_
                  exact hc129 (9) _ σ _ _  (rk_o (lc105_0) rfl rfl) (rk_o (lc105_2) rfl rfl) (rk_o (lc105_4) rfl rfl) (rk_s) H (SF_refl) (SA_refl)   (show inr (9) from q_291) (show ((tc105_0) ≠ (1) ∧ (9) = (9)) ∨ ((tc105_0) = (1) ∧ (9) = (8)) from q_1679 b83)
                · refine Ew_of (pcₚ := 124) (fun _ => x_bipush (z := 8) rfl (by decide)) ?_
                  refine Ew_of (pcₚ := 129) (fun _ => x_goto rfl rfl) ?_
                  exact hc129 (8) _ σ _ _  (rk_o (lc105_0) rfl rfl) (rk_o (lc105_2) rfl rfl) (rk_o (lc105_4) rfl rfl) (rk_s) H (SF_refl) (SA_refl)   (show inr (8) from q_141) (show ((tc105_0) ≠ (1) ∧ (8) = (9)) ∨ ((tc105_0) = (1) ∧ (8) = (8)) from q_1680 b83)
              refine w_ifne (t := 94) rfl rfl (show inr (x79_4) from j79_1) (fun b84 => ?_) (fun b84 => ?_)
              · refine Ew_of (pcₚ := 96) (fun _ => x_iload rfl l79_4) ?_
                refine Ew_of (pcₚ := 97) (fun _ => x_iconst rfl) ?_
                refine w_icmpne (t := 104) rfl rfl (show inr (x79_4) from j79_1) (show inr (1) from q_135) (fun b85 => ?_) (fun b85 => ?_)
                · refine Ew_of (pcₚ := 105) (fun _ => x_iconst rfl) ?_
                  exact hc105 (0) _ σ _ _  (l79_0) (l79_2) (l79_3) (l79_4) H (SF_refl) (SA_refl)   (show inr (0) from q_2) (show ((x79_4) ≠ (0) ∧ (x79_4) ≠ (1) ∧ (0) = (0)) ∨ ((x79_4) ≠ (0) ∧ (x79_4) = (1) ∧ (0) = (2)) ∨ ((x79_4) = (0) ∧ (0) = (1)) from q_1969 b84 b85)
                · refine Ew_of (pcₚ := 101) (fun _ => x_iconst rfl) ?_
                  refine Ew_of (pcₚ := 105) (fun _ => x_goto rfl rfl) ?_
                  exact hc105 (2) _ σ _ _  (l79_0) (l79_2) (l79_3) (l79_4) H (SF_refl) (SA_refl)   (show inr (2) from q_122) (show ((x79_4) ≠ (0) ∧ (x79_4) ≠ (1) ∧ (2) = (0)) ∨ ((x79_4) ≠ (0) ∧ (x79_4) = (1) ∧ (2) = (2)) ∨ ((x79_4) = (0) ∧ (2) = (1)) from q_1970 b84 b85)
              · refine Ew_of (pcₚ := 91) (fun _ => x_iconst rfl) ?_
                refine Ew_of (pcₚ := 105) (fun _ => x_goto rfl rfl) ?_
                exact hc105 (1) _ σ _ _  (l79_0) (l79_2) (l79_3) (l79_4) H (SF_refl) (SA_refl)   (show inr (1) from q_135) (show ((x79_4) ≠ (0) ∧ (x79_4) ≠ (1) ∧ (1) = (0)) ∨ ((x79_4) ≠ (0) ∧ (x79_4) = (1) ∧ (1) = (2)) ∨ ((x79_4) = (0) ∧ (1) = (1)) from q_1971 b84)
        · refine Ew_of (pcₚ := 75) (fun _ => x_bipush (z := -2) rfl (by decide)) ?_
          have : LNA ((w14)) ((u1_1)) Dc (((-2))) ((u5_4)) ((u5_3)) ((w26)) ((u5_2)) ((w27)) ((w28)) ((w29)) ((w30)) := LNA_f (LN_2 (by omega) (by omega) hds (by omega) hB8.1) (by decide) (by omega) hrdi
          have : IMP ((((-2)) : Int) < 0) (((u5_4), (u5_3), (u5_2), (w26), (w27), (w28), (w29), (w30)) = ((u5_4), (u5_3), (u5_2), (w26), (w27), (w28), (w29), (w30))) := fun _ => rfl
          exact w_ireturn rfl (k ((-2)) σ _ _ H (SF_trans (SF_trans (SF_refl) hS_c36 (any_sub rfl)) hS27 (any_sub rfl)) (SA_trans (SA_trans (SA_refl) hA_c36 (any_subA rfl)) hA28 (any_subA rfl)) (u5_2) ((((hS27 5 2 rfl).trans (hS_c36 5 2 rfl)).trans (eu5_2))) (u5_3) ((((hS27 5 3 rfl).trans (hS_c36 5 3 rfl)).trans (eu5_3))) (u5_4) ((((hS27 5 4 rfl).trans (hS_c36 5 4 rfl)).trans (eu5_4))) (w26) ((funext (hA28 26 rfl)).trans ((funext (hA_c36 26 rfl)).trans (ew26))) (w27) ((funext (hA28 27 rfl)).trans ((funext (hA_c36 27 rfl)).trans (ew27))) (w28) ((funext (hA28 28 rfl)).trans ((funext (hA_c36 28 rfl)).trans (ew28))) (w29) ((funext (hA28 29 rfl)).trans ((funext (hA_c36 29 rfl)).trans (ew29))) (w30) ((funext (hA28 30 rfl)).trans ((funext (hA_c36 30 rfl)).trans (ew30))) (w34) ((funext (hA28 34 rfl)).trans ((funext (hA_c36 34 rfl)).trans (ew34))) (w35) ((funext (hA28 35 rfl)).trans ((funext (hA_c36 35 rfl)).trans (ew35))) (w36) ((funext (hA28 36 rfl)).trans ((funext (hA_c36 36 rfl)).trans (ew36))) (w37) ((funext (hA28 37 rfl)).trans ((funext (hA_c36 37 rfl)).trans (ew37))) (show inr ((-2)) from q_362) (h0) (show DI ((u5_4)) ((w27)) ((w28)) ((w29)) ((w30)) by assumption) (show 0 ≤ (u5_4) ∧ (u5_4) ≤ 1 from r4) (show LNA ((w14)) ((u1_1)) Dc (((-2))) ((u5_4)) ((u5_3)) ((w26)) ((u5_2)) ((w27)) ((w28)) ((w29)) ((w30)) by assumption) (show IMP ((((-2)) : Int) < 0) (((u5_4), (u5_3), (u5_2), (w26), (w27), (w28), (w29), (w30)) = ((u5_4), (u5_3), (u5_2), (w26), (w27), (w28), (w29), (w30))) by assumption))
      · refine Ew_of (pcₚ := 54) (fun _ => x_iconst rfl) ?_
        have : LNA ((w14)) ((u1_1)) Dc (((-1))) ((u5_4)) ((u5_3)) ((w26)) ((u5_2)) ((w27)) ((w28)) ((w29)) ((w30)) := LNA_f (LN_1 (by omega) (by omega) (by omega)) (by decide) (by omega) hrdi
        have : IMP ((((-1)) : Int) < 0) (((u5_4), (u5_3), (u5_2), (w26), (w27), (w28), (w29), (w30)) = ((u5_4), (u5_3), (u5_2), (w26), (w27), (w28), (w29), (w30))) := fun _ => rfl
        exact w_ireturn rfl (k ((-1)) σ _ _ H (SF_trans (SF_refl) hS_c36 (any_sub rfl)) (SA_trans (SA_refl) hA_c36 (any_subA rfl)) (u5_2) (((hS_c36 5 2 rfl).trans (eu5_2))) (u5_3) (((hS_c36 5 3 rfl).trans (eu5_3))) (u5_4) (((hS_c36 5 4 rfl).trans (eu5_4))) (w26) ((funext (hA_c36 26 rfl)).trans (ew26)) (w27) ((funext (hA_c36 27 rfl)).trans (ew27)) (w28) ((funext (hA_c36 28 rfl)).trans (ew28)) (w29) ((funext (hA_c36 29 rfl)).trans (ew29)) (w30) ((funext (hA_c36 30 rfl)).trans (ew30)) (w34) ((funext (hA_c36 34 rfl)).trans (ew34)) (w35) ((funext (hA_c36 35 rfl)).trans (ew35)) (w36) ((funext (hA_c36 36 rfl)).trans (ew36)) (w37) ((funext (hA_c36 37 rfl)).trans (ew37)) (show inr ((-1)) from q_63) (h0) (show DI ((u5_4)) ((w27)) ((w28)) ((w29)) ((w30)) by assumption) (show 0 ≤ (u5_4) ∧ (u5_4) ≤ 1 from r4) (show LNA ((w14)) ((u1_1)) Dc (((-1))) ((u5_4)) ((u5_3)) ((w26)) ((u5_2)) ((w27)) ((w28)) ((w29)) ((w30)) by assumption) (show IMP ((((-1)) : Int) < 0) (((u5_4), (u5_3), (u5_2), (w26), (w27), (w28), (w29), (w30)) = ((u5_4), (u5_3), (u5_2), (w26), (w27), (w28), (w29), (w30))) by assumption))
  refine Ew_of (pcₚ := 3) (fun _ => x_aload_n rfl (rk_o (rfl) rfl rfl)) ?_
  refine w_gT H (o := 5) (t := 1) rfl (H.perm 5 rfl) rfl rfl rfl rfl rfl rfl ?_
  refine w_gI H (o := 1) (w := u1_1) rfl (H.perm 1 rfl) rfl rfl rfl (fun _ => rfl) (eu1_1) ?_
  refine Ew_of (pcₚ := 10) (fun _ => x_iconst rfl) ?_
  refine w_icmplt (t := 35) rfl rfl (show inr (u1_1) from q_286 r1) (show inr (4) from q_216) (fun b86 => ?_) (fun b86 => ?_)
  · refine Ew_of (pcₚ := 36) (fun _ => x_iconst rfl) ?_
    exact hc36 (0) _ σ _ _  (rk_o (rfl) rfl rfl) (rk_s) H (SF_refl) (SA_refl)   (show inr (0) from q_2) (show (0) = 0 ∨ (0) = 1 ∧ 4 ≤ (u1_1) from q_1973) (show (((0) : Int) = 0 ∧ ((u1_1) < 4 ∨ nvl ((w14)) 0 4 ≠ 3962610743)) ∨ (((0) : Int) = 1 ∧ 4 ≤ (u1_1) ∧ nvl ((w14)) 0 4 = 3962610743) from q_1972 b86)
  · refine Ew_of (pcₚ := 14) (fun _ => x_aload_n rfl (rk_o (rfl) rfl rfl)) ?_
    refine Ew_of (pcₚ := 15) (fun _ => x_iconst rfl) ?_
    refine Ew_of (pcₚ := 17) (fun _ => x_bipush (z := 55) rfl (by decide)) ?_
    refine Ew_of (pcₚ := 20) (fun _ => x_sipush (z := 164) rfl (by decide)) ?_
    refine Ew_of (pcₚ := 22) (fun _ => x_bipush (z := 48) rfl (by decide)) ?_
    refine Ew_of (pcₚ := 25) (fun _ => x_sipush (z := 236) rfl (by decide)) ?_
    refine w_inv H (o := 5) rfl rfl rfl (H.perm 5 rfl) rfl rfl (by rfl) (M258 H (w14) (ew14) (show inr (0) from q_2) (show inr (55) from q_1978) (show inr (164) from q_1977) (show inr (48) from q_1517) (show inr (236) from q_1976) (show 0 ≤ (0) ∧ (0) ≤ 65532 from q_1975) (show 0 ≤ (55) ∧ (55) ≤ 255 ∧ 0 ≤ (164) ∧ (164) ≤ 255 ∧ 0 ≤ (48) ∧ (48) ≤ 255 ∧ 0 ≤ (236) ∧ (236) ≤ 255 from q_1974) (fun z91 σ F87 A88 H hS89 hA90 pz91_0 pz91_1 => ⟨rretB rfl pz91_0, ?_⟩))
    refine w_ifeq (t := 35) rfl rfl (show inr (z91) from q_138 pz91_0) (fun b92 => ?_) (fun b92 => ?_)
    · refine Ew_of (pcₚ := 36) (fun _ => x_iconst rfl) ?_
      exact hc36 (0) _ σ _ _  (rk_o (rfl) rfl rfl) (rk_s) H (SF_trans (SF_refl) hS89 (any_sub rfl)) (SA_trans (SA_refl) hA90 (any_subA rfl))   (show inr (0) from q_2) (show (0) = 0 ∨ (0) = 1 ∧ 4 ≤ (u1_1) from q_1973) (show (((0) : Int) = 0 ∧ ((u1_1) < 4 ∨ nvl ((w14)) 0 4 ≠ 3962610743)) ∨ (((0) : Int) = 1 ∧ 4 ≤ (u1_1) ∧ nvl ((w14)) 0 4 = 3962610743) by omega)
    · refine Ew_of (pcₚ := 32) (fun _ => x_iconst rfl) ?_
      refine Ew_of (pcₚ := 36) (fun _ => x_goto rfl rfl) ?_
      exact hc36 (1) _ σ _ _  (rk_o (rfl) rfl rfl) (rk_s) H (SF_trans (SF_refl) hS89 (any_sub rfl)) (SA_trans (SA_refl) hA90 (any_subA rfl))   (show inr (1) from q_135) (show (1) = 0 ∨ (1) = 1 ∧ 4 ≤ (u1_1) from q_1979 b86) (show (((1) : Int) = 0 ∧ ((u1_1) < 4 ∨ nvl ((w14)) 0 4 ≠ 3962610743)) ∨ (((1) : Int) = 1 ∧ 4 ≤ (u1_1) ∧ nvl ((w14)) 0 4 = 3962610743) by omega)

