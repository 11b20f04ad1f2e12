/-- Writer.rule -/
theorem M387p {σ0 σ : rS} {D N : Nat → Nat} {F : hF} {A : hA} {d c s : Nat} {Q : wQ} (H : HS σ0 σ D N F A) {a1 a2 : Int} (h0 : inr (a1)) (h1 : inr (a2)) (h2 : 0 ≤ (a1) ∧ (a1) ≤ 3 ∧ 0 ≤ (a2) ∧ (a2) ≤ 8) (k : ∀ σ F' A', HS σ0 σ D N F' A' → SF [(6, 1), (6, 2)] F F' → SA [] A A' → ∀ y6_1 : Int, F' 6 1 = y6_1 → ∀ y6_2 : Int, F' 6 2 = y6_2 → ((y6_2) = (a2)) → ((y6_1) = (a1)) → Q none σ c s) : Ew 387 (d + 0) 0 (rargs 0 [.ref (D 6), I a1, I a2]) [] σ c s Q := by
  refine Ew_of (pc' := 1) (fun _ => x_aload_n rfl rfl) ?_
  refine Ew_of (pc' := 2) (fun _ => x_iload_n rfl rfl) ?_
  refine w_pI H (o := 6) rfl rfl (H.perm 6 rfl) rfl rfl rfl (fun _ => rfl) rfl (show (0 : Int) ≤ a1 ∧ a1 ≤ 3 by omega) (fun σ H => ?_)
  refine Ew_of (pc' := 6) (fun _ => x_aload_n rfl rfl) ?_
  refine Ew_of (pc' := 7) (fun _ => x_iload_n rfl rfl) ?_
  refine w_pI H (o := 6) rfl rfl (H.perm 6 rfl) rfl rfl rfl (fun _ => rfl) rfl (show (0 : Int) ≤ a2 ∧ a2 ≤ 8 by omega) (fun σ H => ?_)
  exact w_ret rfl (k σ _ _ H (SF_upd (SF_upd (SF_refl) rfl) rfl) (SA_refl) (a1) (rfl) (a2) (rfl) (show (a2) = a2 by omega) (show (a1) = a1 by omega))
/-- Model.written -/
theorem M80p {σ0 σ : rS} {D N : Nat → Nat} {F : hF} {A : hA} {d c s : Nat} {Q : wQ} (H : HS σ0 σ D N F A) {a1 : Int} (u1_1 : Int) (eu1_1 : F 1 1 = u1_1) (u3_2 : Int) (eu3_2 : F 3 2 = u3_2) (u4_5 : Int) (eu4_5 : F 4 5 = u4_5) (u5_2 : Int) (eu5_2 : F 5 2 = u5_2) (u5_3 : Int) (eu5_3 : F 5 3 = u5_3) (u5_4 : Int) (eu5_4 : F 5 4 = u5_4) (u6_1 : Int) (eu6_1 : F 6 1 = u6_1) (u6_2 : Int) (eu6_2 : F 6 2 = u6_2) (u6_4 : Int) (eu6_4 : F 6 4 = u6_4) (u6_5 : Int) (eu6_5 : F 6 5 = u6_5) (u6_6 : Int) (eu6_6 : F 6 6 = u6_6) (u6_35 : Int) (eu6_35 : F 6 35 = u6_35) (w12 : Int → Int) (ew12 : A 12 = w12) (w14 : Int → Int) (ew14 : A 14 = w14) (w16 : Int → Int) (ew16 : A 16 = w16) (w24 : Int → Int) (ew24 : A 24 = w24) (w25 : Int → Int) (ew25 : A 25 = w25) (w26 : Int → Int) (ew26 : A 26 = w26) (w27 : Int → Int) (ew27 : A 27 = w27) (w28 : Int → Int) (ew28 : A 28 = w28) (w29 : Int → Int) (ew29 : A 29 = w29) (w30 : Int → Int) (ew30 : A 30 = w30) (w48 : Int → Int) (ew48 : A 48 = w48) (w49 : Int → Int) (ew49 : A 49 = w49) (w50 : Int → Int) (ew50 : A 50 = w50) (w51 : Int → Int) (ew51 : A 51 = w51) (w52 : Int → Int) (ew52 : A 52 = w52) (w69 : Int → Int) (ew69 : A 69 = w69) (w88 : Int → Int) (ew88 : A 88 = w88) (Dc : DcS) (h0 : inr (a1)) (h1 : 0 ≤ (a1) ∧ (a1) ≤ 5) (h2 : SE ((w12))) (h3 : andI (((w12)) 3) 2 = 0) (h4 : 3 ≤ (u6_2)) (h5 : DW ((u6_6)) ((w49)) ((w50)) ((w51))) (h6 : (a1) < 2 → (u3_2) + (u1_1) ≤ 16384) (h7 : (u1_1) ≤ 16384) (h8 : (a1) = 4 → (u6_4) + (u1_1) ≤ 16384) (h9 : KQ bN ((w24)) ((u4_5))) (h10 : KQ bF ((w25)) ((u4_5))) (h11 : RDI Dc ((u5_4)) ((u5_3)) ((w26)) ((u5_2)) ((w27)) ((w28)) ((w29)) ((w30))) (h12 : WEQ ((u6_6)) ((u6_5)) ((u6_4)) ((w48)) ((w49)) ((w50)) ((w51)) ((w52)) ((u5_4)) ((u5_3)) ((u5_2)) ((w26)) ((w27)) ((w28)) ((w29)) ((w30))) (h13 : MDX ((w69)) ((u6_35))) (h14 : (u6_2) = ((w12)) 1) (h15 : (u6_1) = ((w12)) 0) (h16 : (u6_6) = 0 ∨ 1 ≤ ((w52)) 0 ∧ 1 ≤ ((w52)) 1 ∧ 1 ≤ ((w52)) 2) (k : ∀ (z : Int) σ F' A', HS σ0 σ D N F' A' → SF [(1, 3), (3, 5), (3, 6), (3, 8), (3, 10), (4, 2), (4, 5), (4, 6), (4, 7), (6, 12), (6, 17), (6, 22), (6, 23), (6, 24), (6, 28), (6, 30), (6, 35), (6, 37), (6, 49), (6, 53)] F F' → SA [15, 17, 18, 19, 20, 23, 24, 25, 53, 54, 55, 56, 57, 58, 59, 60, 61, 62, 63, 64, 65, 66, 67, 68, 69, 70, 71, 72, 73, 74, 75, 76, 77, 78, 79, 80, 81, 82, 83, 84, 85, 86, 87, 88] A A' → ∀ y1_3 : Int, F' 1 3 = y1_3 → ∀ y4_5 : Int, F' 4 5 = y4_5 → ∀ y6_35 : Int, F' 6 35 = y6_35 → ∀ v15 : Int → Int, A' 15 = v15 → ∀ v24 : Int → Int, A' 24 = v24 → ∀ v25 : Int → Int, A' 25 = v25 → ∀ v69 : Int → Int, A' 69 = v69 → ∀ v88 : Int → Int, A' 88 = v88 → (inr (z)) → (KQ bN ((v24)) ((y4_5))) → (KQ bF ((v25)) ((y4_5))) → (WRX ((a1)) ((w12)) (sc ((w14)) 0 ((u1_1))) (sc ((w16)) 0 ((u3_2))) Dc (bgS ((u6_6)) ((w49)) ((w50)) ((w51)) ((w52)) (fun _ => 0)) ((z)) (sc ((v15)) 0 ((y1_3)))) → (MDX ((v69)) ((y6_35))) → (IMP (((a1) : Int) = 4 ∧ (0 : Int) ≤ (z)) (∀ i, 0 ≤ i → i < 12 → ((v88)) i = (frD ((w12)) (sc ((w14)) 0 ((u1_1))) Dc (bgS ((u6_6)) ((w49)) ((w50)) ((w51)) ((w52)) (fun _ => 0))).2.2.2.2 i)) → (IMP (((a1) : Int) ≠ 4 ∨ (z) < 0) (∀ i, 0 ≤ i → i < 12 → ((v88)) i = ((w88)) i)) → (-1 ≤ (z) ∧ (z) ≤ 65536) → ((z) < 0 ∨ (z) = (y1_3)) → Q (some (I z)) σ c s) : Ew 80 (d + 9) 0 (rargs 0 [.ref (D 0), I a1]) [] σ c s Q := by
  have r1 : (0 : Int) ≤ u1_1 ∧ u1_1 ≤ 65536 := by have h1 : (0 : Int) ≤ F 1 1 ∧ F 1 1 ≤ 65536 := H.frng 1 1; rw [show F 1 1 = u1_1 from (eu1_1)] at h1; exact h1
  have r2 : (0 : Int) ≤ u3_2 ∧ u3_2 ≤ 65536 := by have h1 : (0 : Int) ≤ F 3 2 ∧ F 3 2 ≤ 65536 := H.frng 3 2; rw [show F 3 2 = u3_2 from (eu3_2)] at h1; exact h1
  have r3 : (0 : Int) ≤ u4_5 ∧ u4_5 ≤ 16384 := by have h1 : (0 : Int) ≤ F 4 5 ∧ F 4 5 ≤ 16384 := H.frng 4 5; rw [show F 4 5 = u4_5 from (eu4_5)] at h1; exact h1
  have r4 : (0 : Int) ≤ u5_2 ∧ u5_2 ≤ 65536 := by have h1 : (0 : Int) ≤ F 5 2 ∧ F 5 2 ≤ 65536 := H.frng 5 2; rw [show F 5 2 = u5_2 from (eu5_2)] at h1; exact h1
  have r5 : (-2147483648 : Int) ≤ u5_3 ∧ u5_3 ≤ 2147483647 := by have h1 : (-2147483648 : Int) ≤ F 5 3 ∧ F 5 3 ≤ 2147483647 := H.frng 5 3; rw [show F 5 3 = u5_3 from (eu5_3)] at h1; exact h1
  have r6 : (0 : Int) ≤ u5_4 ∧ u5_4 ≤ 1 := by have h1 : (0 : Int) ≤ F 5 4 ∧ F 5 4 ≤ 1 := H.frng 5 4; rw [show F 5 4 = u5_4 from (eu5_4)] at h1; exact h1
  have r7 : (0 : Int) ≤ u6_1 ∧ u6_1 ≤ 3 := by have h1 : (0 : Int) ≤ F 6 1 ∧ F 6 1 ≤ 3 := H.frng 6 1; rw [show F 6 1 = u6_1 from (eu6_1)] at h1; exact h1
  have r8 : (0 : Int) ≤ u6_2 ∧ u6_2 ≤ 8 := by have h1 : (0 : Int) ≤ F 6 2 ∧ F 6 2 ≤ 8 := H.frng 6 2; rw [show F 6 2 = u6_2 from (eu6_2)] at h1; exact h1
  have r9 : (0 : Int) ≤ u6_4 ∧ u6_4 ≤ 65536 := by have h1 : (0 : Int) ≤ F 6 4 ∧ F 6 4 ≤ 65536 := H.frng 6 4; rw [show F 6 4 = u6_4 from (eu6_4)] at h1; exact h1
  have r10 : (-2147483648 : Int) ≤ u6_5 ∧ u6_5 ≤ 2147483647 := by have h1 : (-2147483648 : Int) ≤ F 6 5 ∧ F 6 5 ≤ 2147483647 := H.frng 6 5; rw [show F 6 5 = u6_5 from (eu6_5)] at h1; exact h1
  have r11 : (0 : Int) ≤ u6_6 ∧ u6_6 ≤ 1 := by have h1 : (0 : Int) ≤ F 6 6 ∧ F 6 6 ≤ 1 := H.frng 6 6; rw [show F 6 6 = u6_6 from (eu6_6)] at h1; exact h1
  have r12 : (0 : Int) ≤ u6_35 ∧ u6_35 ≤ 100000000 := by have h1 : (0 : Int) ≤ F 6 35 ∧ F 6 35 ≤ 100000000 := H.frng 6 35; rw [show F 6 35 = u6_35 from (eu6_35)] at h1; exact h1
  have hse : SE ((w12)) := by assumption
  unfold SE at hse
  have hmd : MDX ((w69)) ((u6_35)) := by assumption
  have hdw := DC_w (by assumption : WEQ ((u6_6)) ((u6_5)) ((u6_4)) ((w48)) ((w49)) ((w50)) ((w51)) ((w52)) ((u5_4)) ((u5_3)) ((u5_2)) ((w26)) ((w27)) ((w28)) ((w29)) ((w30))) (by assumption : RDI Dc ((u5_4)) ((u5_3)) ((w26)) ((u5_2)) ((w27)) ((w28)) ((w29)) ((w30)))
  have hhl : ((sc ((w16)) 0 ((u3_2))).length : Int) = (u3_2) := by rw [sc_lenI (by omega)]; omega
  refine Ew_of (pc' := 1) (fun _ => x_iload_n rfl rfl) ?_
  by_cases b13 : a1 = 0
  · refine w_tsk 0 36 rfl (show inr (a1) by omega) (by omega) (by decide) rfl rfl ?_
    refine Ew_of (pc' := 37) (fun _ => x_aload_n rfl rfl) ?_
    refine w_gT H (o := 0) (t := 3) rfl (H.perm 0 rfl) rfl rfl rfl rfl rfl rfl ?_
    refine Ew_of (pc' := 41) (fun _ => x_aload_n rfl rfl) ?_
    refine w_gT H (o := 0) (t := 12) rfl (H.perm 0 rfl) rfl rfl rfl rfl rfl rfl ?_
    refine Ew_of (pc' := 45) (fun _ => x_iconst rfl) ?_
    refine w_lI H (o := 12) (n := 10) rfl (H.perm 12 rfl) rfl rfl (H.fix 12 rfl rfl) (show 0 ≤ 0 ∧ 0 < ((10 : Nat) : Int) by omega) (by decide) (fun v14 ev14 qv14 => ?_)
    have qv14 : (-2147483648 : Int) ≤ v14 ∧ v14 ≤ 2147483647 := qv14
    have ev14 : (w12) (0) = v14 := (congrFun (ew12) (0)).symm.trans ev14
    have hv0 := ev14
    refine w_inv H (o := 3) rfl rfl rfl (H.perm 3 rfl) rfl rfl (by rfl) (M370 H (u1_1) ((eu1_1)) (u3_2) ((eu3_2)) (w14) (ew14) (w16) (ew16) (show inr (v14) by omega) (show (u3_2) + (u1_1) ≤ 16384 by omega) (show 0 ≤ (v14) ∧ (v14) ≤ 3 by omega) (fun z19 σ F15 A16 H hS17 hA18 y20 ey21 wq22 ewq23 pz19_0 pz19_1 => ⟨rfl, ?_⟩))
    have r24 : (0 : Int) ≤ y20 ∧ y20 ≤ 65536 := by have h1 : (0 : Int) ≤ F15 1 3 ∧ F15 1 3 ≤ 65536 := H.frng 1 3; rw [show F15 1 3 = y20 from (ey21)] at h1; exact h1
    have : WRX ((a1)) ((w12)) (sc ((w14)) 0 ((u1_1))) (sc ((w16)) 0 ((u3_2))) Dc (bgS ((u6_6)) ((w49)) ((w50)) ((w51)) ((w52)) (fun _ => 0)) ((z19)) (sc ((wq22)) 0 ((y20))) := by rw [show ((a1) : Int) = 0 by omega]; exact WRX_0 (by rw [hhl, hv0]; exact pz19_1)
    have : IMP (((a1) : Int) = 4 ∧ (0 : Int) ≤ (z19)) (∀ i, 0 ≤ i → i < 12 → ((w88)) i = (frD ((w12)) (sc ((w14)) 0 ((u1_1))) Dc (bgS ((u6_6)) ((w49)) ((w50)) ((w51)) ((w52)) (fun _ => 0))).2.2.2.2 i) := fun q => absurd q.1 (by omega)
    have : IMP (((a1) : Int) ≠ 4 ∨ (z19) < 0) (∀ i, 0 ≤ i → i < 12 → ((w88)) i = ((w88)) i) := fun _ _ _ _ => rfl
    have hwn := WRT_n2 pz19_1
    exact w_ireturn rfl (k (z19) σ _ _ H (SF_trans (SF_refl) hS17 (any_sub rfl)) (SA_trans (SA_refl) hA18 (any_subA rfl)) (y20) ((ey21)) (u4_5) (((hS17 4 5 rfl).trans (eu4_5))) (u6_35) (((hS17 6 35 rfl).trans (eu6_35))) (wq22) (ewq23) (w24) ((funext (hA18 24 rfl)).trans (ew24)) (w25) ((funext (hA18 25 rfl)).trans (ew25)) (w69) ((funext (hA18 69 rfl)).trans (ew69)) (w88) ((funext (hA18 88 rfl)).trans (ew88)) (show inr (z19) by omega) (show KQ bN ((w24)) ((u4_5)) by assumption) (show KQ bF ((w25)) ((u4_5)) by assumption) (show WRX (a1) ((w12)) (sc ((w14)) 0 ((u1_1))) (sc ((w16)) 0 ((u3_2))) Dc (bgS ((u6_6)) ((w49)) ((w50)) ((w51)) ((w52)) (fun _ => 0)) ((z19)) (sc ((wq22)) 0 ((y20))) by assumption) (show MDX ((w69)) ((u6_35)) by assumption) (show IMP ((a1 : Int) = 4 ∧ (0 : Int) ≤ (z19)) (∀ i, 0 ≤ i → i < 12 → ((w88)) i = (frD ((w12)) (sc ((w14)) 0 ((u1_1))) Dc (bgS ((u6_6)) ((w49)) ((w50)) ((w51)) ((w52)) (fun _ => 0))).2.2.2.2 i) by assumption) (show IMP ((a1 : Int) ≠ 4 ∨ (z19) < 0) (∀ i, 0 ≤ i → i < 12 → ((w88)) i = ((w88)) i) by assumption) (show -1 ≤ (z19) ∧ (z19) ≤ 65536 by omega) (show (z19) < 0 ∨ (z19) = (y20) by omega))
  ·
    by_cases b25 : a1 = 1
    · refine w_tsk 1 50 rfl (show inr (a1) by omega) (by omega) (by decide) rfl rfl ?_
      refine Ew_of (pc' := 51) (fun _ => x_aload_n rfl rfl) ?_
      refine w_gT H (o := 0) (t := 3) rfl (H.perm 0 rfl) rfl rfl rfl rfl rfl rfl ?_
      refine Ew_of (pc' := 55) (fun _ => x_aload_n rfl rfl) ?_
      refine w_gT H (o := 0) (t := 12) rfl (H.perm 0 rfl) rfl rfl rfl rfl rfl rfl ?_
      refine Ew_of (pc' := 59) (fun _ => x_iconst rfl) ?_
      refine w_lI H (o := 12) (n := 10) rfl (H.perm 12 rfl) rfl rfl (H.fix 12 rfl rfl) (show 0 ≤ 3 ∧ 3 < ((10 : Nat) : Int) by omega) (by decide) (fun v26 ev26 qv26 => ?_)
      have qv26 : (-2147483648 : Int) ≤ v26 ∧ v26 ≤ 2147483647 := qv26
      have ev26 : (w12) (3) = v26 := (congrFun (ew12) (3)).symm.trans ev26
      have hw3 := ev26
      have hf3 : andI ((v26)) 2 = 0 := by rw [← hw3]; omega
      refine Ew_of (pc' := 61) (fun _ => x_aload_n rfl rfl) ?_
      refine w_gT H (o := 0) (t := 12) rfl (H.perm 0 rfl) rfl rfl rfl rfl rfl rfl ?_
      refine Ew_of (pc' := 65) (fun _ => x_iconst rfl) ?_
      refine w_lI H (o := 12) (n := 10) rfl (H.perm 12 rfl) rfl rfl (H.fix 12 rfl rfl) (show 0 ≤ 4 ∧ 4 < ((10 : Nat) : Int) by omega) (by decide) (fun v27 ev27 qv27 => ?_)
      have qv27 : (-2147483648 : Int) ≤ v27 ∧ v27 ≤ 2147483647 := qv27
      have ev27 : (w12) (4) = v27 := (congrFun (ew12) (4)).symm.trans ev27
      have hw4 := ev27
      refine Ew_of (pc' := 67) (fun _ => x_aload_n rfl rfl) ?_
      refine w_gT H (o := 0) (t := 12) rfl (H.perm 0 rfl) rfl rfl rfl rfl rfl rfl ?_
      refine Ew_of (pc' := 71) (fun _ => x_iconst rfl) ?_
      refine w_lI H (o := 12) (n := 10) rfl (H.perm 12 rfl) rfl rfl (H.fix 12 rfl rfl) (show 0 ≤ 5 ∧ 5 < ((10 : Nat) : Int) by omega) (by decide) (fun v28 ev28 qv28 => ?_)
      have qv28 : (-2147483648 : Int) ≤ v28 ∧ v28 ≤ 2147483647 := qv28
      have ev28 : (w12) (5) = v28 := (congrFun (ew12) (5)).symm.trans ev28
      have hw5 := ev28
      refine Ew_of (pc' := 73) (fun _ => x_aload_n rfl rfl) ?_
      refine w_gT H (o := 0) (t := 12) rfl (H.perm 0 rfl) rfl rfl rfl rfl rfl rfl ?_
      refine Ew_of (pc' := 77) (fun _ => x_iconst rfl) ?_
      refine w_lI H (o := 12) (n := 10) rfl (H.perm 12 rfl) rfl rfl (H.fix 12 rfl rfl) (show 0 ≤ 2 ∧ 2 < ((10 : Nat) : Int) by omega) (by decide) (fun v29 ev29 qv29 => ?_)
      have qv29 : (-2147483648 : Int) ≤ v29 ∧ v29 ≤ 2147483647 := qv29
      have ev29 : (w12) (2) = v29 := (congrFun (ew12) (2)).symm.trans ev29
      have hw2 := ev29
      refine Ew_of (pc' := 79) (fun _ => x_aload_n rfl rfl) ?_
      refine w_gT H (o := 0) (t := 12) rfl (H.perm 0 rfl) rfl rfl rfl rfl rfl rfl ?_
      refine Ew_of (pc' := 83) (fun _ => x_iconst rfl) ?_
      refine w_lI H (o := 12) (n := 10) rfl (H.perm 12 rfl) rfl rfl (H.fix 12 rfl rfl) (show 0 ≤ 0 ∧ 0 < ((10 : Nat) : Int) by omega) (by decide) (fun v30 ev30 qv30 => ?_)
      have qv30 : (-2147483648 : Int) ≤ v30 ∧ v30 ≤ 2147483647 := qv30
      have ev30 : (w12) (0) = v30 := (congrFun (ew12) (0)).symm.trans ev30
      have hw0 := ev30
      refine w_inv H (o := 3) rfl rfl rfl (H.perm 3 rfl) rfl rfl (by rfl) (M378 H (u1_1) ((eu1_1)) (u3_2) ((eu3_2)) (w14) (ew14) (w16) (ew16) (show inr (v26) by omega) (show inr (v27) by omega) (show inr (v28) by omega) (show inr (v29) by omega) (show inr (v30) by omega) (show (u3_2) + (u1_1) ≤ 16384 by omega) (show 64 ≤ (v26) ∧ (v26) < 128 by omega) (show andI ((v26)) 2 = 0 by omega) (show 4 ≤ (v27) ∧ (v27) ≤ 7 by omega) (show 1 ≤ (v29) ∧ (v29) ≤ 65536 by omega) (show 0 ≤ (v30) ∧ (v30) ≤ 3 by omega) (fun z35 σ F31 A32 H hS33 hA34 y36 ey37 wq38 ewq39 pz35_0 pz35_1 => ⟨rfl, ?_⟩))
      have r40 : (0 : Int) ≤ y36 ∧ y36 ≤ 65536 := by have h1 : (0 : Int) ≤ F31 1 3 ∧ F31 1 3 ≤ 65536 := H.frng 1 3; rw [show F31 1 3 = y36 from (ey37)] at h1; exact h1
      have : WRX ((a1)) ((w12)) (sc ((w14)) 0 ((u1_1))) (sc ((w16)) 0 ((u3_2))) Dc (bgS ((u6_6)) ((w49)) ((w50)) ((w51)) ((w52)) (fun _ => 0)) ((z35)) (sc ((wq38)) 0 ((y36))) := by rw [show ((a1) : Int) = 1 by omega]; have h := pz35_1; rw [← hw3, ← hw4, ← hw5, ← hw2, ← hw0] at h; exact WRX_1 h
      have : IMP (((a1) : Int) = 4 ∧ (0 : Int) ≤ (z35)) (∀ i, 0 ≤ i → i < 12 → ((w88)) i = (frD ((w12)) (sc ((w14)) 0 ((u1_1))) Dc (bgS ((u6_6)) ((w49)) ((w50)) ((w51)) ((w52)) (fun _ => 0))).2.2.2.2 i) := fun q => absurd q.1 (by omega)
      have : IMP (((a1) : Int) ≠ 4 ∨ (z35) < 0) (∀ i, 0 ≤ i → i < 12 → ((w88)) i = ((w88)) i) := fun _ _ _ _ => rfl
      have hwn := WRT_n2 pz35_1
      exact w_ireturn rfl (k (z35) σ _ _ H (SF_trans (SF_refl) hS33 (any_sub rfl)) (SA_trans (SA_refl) hA34 (any_subA rfl)) (y36) ((ey37)) (u4_5) (((hS33 4 5 rfl).trans (eu4_5))) (u6_35) (((hS33 6 35 rfl).trans (eu6_35))) (wq38) (ewq39) (w24) ((funext (hA34 24 rfl)).trans (ew24)) (w25) ((funext (hA34 25 rfl)).trans (ew25)) (w69) ((funext (hA34 69 rfl)).trans (ew69)) (w88) ((funext (hA34 88 rfl)).trans (ew88)) (show inr (z35) by omega) (show KQ bN ((w24)) ((u4_5)) by assumption) (show KQ bF ((w25)) ((u4_5)) by assumption) (show WRX (a1) ((w12)) (sc ((w14)) 0 ((u1_1))) (sc ((w16)) 0 ((u3_2))) Dc (bgS ((u6_6)) ((w49)) ((w50)) ((w51)) ((w52)) (fun _ => 0)) ((z35)) (sc ((wq38)) 0 ((y36))) by assumption) (show MDX ((w69)) ((u6_35)) by assumption) (show IMP ((a1 : Int) = 4 ∧ (0 : Int) ≤ (z35)) (∀ i, 0 ≤ i → i < 12 → ((w88)) i = (frD ((w12)) (sc ((w14)) 0 ((u1_1))) Dc (bgS ((u6_6)) ((w49)) ((w50)) ((w51)) ((w52)) (fun _ => 0))).2.2.2.2 i) by assumption) (show IMP ((a1 : Int) ≠ 4 ∨ (z35) < 0) (∀ i, 0 ≤ i → i < 12 → ((w88)) i = ((w88)) i) by assumption) (show -1 ≤ (z35) ∧ (z35) ≤ 65536 by omega) (show (z35) < 0 ∨ (z35) = (y36) by omega))
    ·
      by_cases b41 : a1 = 2
      · refine w_tsk 2 88 rfl (show inr (a1) by omega) (by omega) (by decide) rfl rfl ?_
        refine Ew_of (pc' := 89) (fun _ => x_aload_n rfl rfl) ?_
        refine w_gT H (o := 0) (t := 4) rfl (H.perm 0 rfl) rfl rfl rfl rfl rfl rfl ?_
        refine Ew_of (pc' := 93) (fun _ => x_aload_n rfl rfl) ?_
        refine w_gT H (o := 0) (t := 12) rfl (H.perm 0 rfl) rfl rfl rfl rfl rfl rfl ?_
        refine Ew_of (pc' := 97) (fun _ => x_iconst rfl) ?_
        refine w_lI H (o := 12) (n := 10) rfl (H.perm 12 rfl) rfl rfl (H.fix 12 rfl rfl) (show 0 ≤ 0 ∧ 0 < ((10 : Nat) : Int) by omega) (by decide) (fun v42 ev42 qv42 => ?_)
        have qv42 : (-2147483648 : Int) ≤ v42 ∧ v42 ≤ 2147483647 := qv42
        have ev42 : (w12) (0) = v42 := (congrFun (ew12) (0)).symm.trans ev42
        have hv0 := ev42
        refine w_inv H (o := 4) rfl rfl rfl (H.perm 4 rfl) rfl rfl (by rfl) (M334 H (u1_1) ((eu1_1)) (u4_5) ((eu4_5)) (w14) (ew14) (w24) (ew24) (w25) (ew25) (show inr (v42) by omega) (show 0 ≤ (v42) ∧ (v42) ≤ 3 by omega) (show (u1_1) ≤ 16384 by omega) (show KQ bN ((w24)) ((u4_5)) by assumption) (show KQ bF ((w25)) ((u4_5)) by assumption) (fun z47 σ F43 A44 H hS45 hA46 y48 ey49 y50 ey51 wq52 ewq53 wq54 ewq55 wq56 ewq57 pz47_0 pz47_1 pz47_2 pz47_3 => ⟨rfl, ?_⟩))
        have r58 : (0 : Int) ≤ y48 ∧ y48 ≤ 65536 := by have h1 : (0 : Int) ≤ F43 1 3 ∧ F43 1 3 ≤ 65536 := H.frng 1 3; rw [show F43 1 3 = y48 from (ey49)] at h1; exact h1
        have r59 : (0 : Int) ≤ y50 ∧ y50 ≤ 16384 := by have h1 : (0 : Int) ≤ F43 4 5 ∧ F43 4 5 ≤ 16384 := H.frng 4 5; rw [show F43 4 5 = y50 from (ey51)] at h1; exact h1
        have : WRX ((a1)) ((w12)) (sc ((w14)) 0 ((u1_1))) (sc ((w16)) 0 ((u3_2))) Dc (bgS ((u6_6)) ((w49)) ((w50)) ((w51)) ((w52)) (fun _ => 0)) ((z47)) (sc ((wq52)) 0 ((y48))) := by rw [show ((a1) : Int) = 2 by omega]; have h := pz47_3; rw [← hv0] at h; exact WRX_2 h
        have : IMP (((a1) : Int) = 4 ∧ (0 : Int) ≤ (z47)) (∀ i, 0 ≤ i → i < 12 → ((w88)) i = (frD ((w12)) (sc ((w14)) 0 ((u1_1))) Dc (bgS ((u6_6)) ((w49)) ((w50)) ((w51)) ((w52)) (fun _ => 0))).2.2.2.2 i) := fun q => absurd q.1 (by omega)
        have : IMP (((a1) : Int) ≠ 4 ∨ (z47) < 0) (∀ i, 0 ≤ i → i < 12 → ((w88)) i = ((w88)) i) := fun _ _ _ _ => rfl
        have hwn := WRT_n2 pz47_3
        exact w_ireturn rfl (k (z47) σ _ _ H (SF_trans (SF_refl) hS45 (any_sub rfl)) (SA_trans (SA_refl) hA46 (any_subA rfl)) (y48) ((ey49)) (y50) ((ey51)) (u6_35) (((hS45 6 35 rfl).trans (eu6_35))) (wq52) (ewq53) (wq54) (ewq55) (wq56) (ewq57) (w69) ((funext (hA46 69 rfl)).trans (ew69)) (w88) ((funext (hA46 88 rfl)).trans (ew88)) (show inr (z47) by omega) (show KQ bN ((wq54)) ((y50)) by assumption) (show KQ bF ((wq56)) ((y50)) by assumption) (show WRX (a1) ((w12)) (sc ((w14)) 0 ((u1_1))) (sc ((w16)) 0 ((u3_2))) Dc (bgS ((u6_6)) ((w49)) ((w50)) ((w51)) ((w52)) (fun _ => 0)) ((z47)) (sc ((wq52)) 0 ((y48))) by assumption) (show MDX ((w69)) ((u6_35)) by assumption) (show IMP ((a1 : Int) = 4 ∧ (0 : Int) ≤ (z47)) (∀ i, 0 ≤ i → i < 12 → ((w88)) i = (frD ((w12)) (sc ((w14)) 0 ((u1_1))) Dc (bgS ((u6_6)) ((w49)) ((w50)) ((w51)) ((w52)) (fun _ => 0))).2.2.2.2 i) by assumption) (show IMP ((a1 : Int) ≠ 4 ∨ (z47) < 0) (∀ i, 0 ≤ i → i < 12 → ((w88)) i = ((w88)) i) by assumption) (show -1 ≤ (z47) ∧ (z47) ≤ 65536 by omega) (show (z47) < 0 ∨ (z47) = (y48) by omega))
      ·
        by_cases b60 : a1 = 3
        · refine w_tsk 3 102 rfl (show inr (a1) by omega) (by omega) (by decide) rfl rfl ?_
          refine Ew_of (pc' := 103) (fun _ => x_aload_n rfl rfl) ?_
          refine w_gT H (o := 0) (t := 4) rfl (H.perm 0 rfl) rfl rfl rfl rfl rfl rfl ?_
          refine Ew_of (pc' := 107) (fun _ => x_aload_n rfl rfl) ?_
          refine w_gT H (o := 0) (t := 12) rfl (H.perm 0 rfl) rfl rfl rfl rfl rfl rfl ?_
          refine Ew_of (pc' := 111) (fun _ => x_iconst rfl) ?_
          refine w_lI H (o := 12) (n := 10) rfl (H.perm 12 rfl) rfl rfl (H.fix 12 rfl rfl) (show 0 ≤ 2 ∧ 2 < ((10 : Nat) : Int) by omega) (by decide) (fun v61 ev61 qv61 => ?_)
          have qv61 : (-2147483648 : Int) ≤ v61 ∧ v61 ≤ 2147483647 := qv61
          have ev61 : (w12) (2) = v61 := (congrFun (ew12) (2)).symm.trans ev61
          have hw2 := ev61
          refine Ew_of (pc' := 113) (fun _ => x_aload_n rfl rfl) ?_
          refine w_gT H (o := 0) (t := 12) rfl (H.perm 0 rfl) rfl rfl rfl rfl rfl rfl ?_
          refine Ew_of (pc' := 117) (fun _ => x_iconst rfl) ?_
          refine w_lI H (o := 12) (n := 10) rfl (H.perm 12 rfl) rfl rfl (H.fix 12 rfl rfl) (show 0 ≤ 0 ∧ 0 < ((10 : Nat) : Int) by omega) (by decide) (fun v62 ev62 qv62 => ?_)
          have qv62 : (-2147483648 : Int) ≤ v62 ∧ v62 ≤ 2147483647 := qv62
          have ev62 : (w12) (0) = v62 := (congrFun (ew12) (0)).symm.trans ev62
          have hw0 := ev62
          refine Ew_of (pc' := 119) (fun _ => x_aload_n rfl rfl) ?_
          refine w_gT H (o := 0) (t := 12) rfl (H.perm 0 rfl) rfl rfl rfl rfl rfl rfl ?_
          refine Ew_of (pc' := 124) (fun _ => x_bipush (z := 6) rfl (by decide)) ?_
          refine w_lI H (o := 12) (n := 10) rfl (H.perm 12 rfl) rfl rfl (H.fix 12 rfl rfl) (show 0 ≤ 6 ∧ 6 < ((10 : Nat) : Int) by omega) (by decide) (fun v63 ev63 qv63 => ?_)
          have qv63 : (-2147483648 : Int) ≤ v63 ∧ v63 ≤ 2147483647 := qv63
          have ev63 : (w12) (6) = v63 := (congrFun (ew12) (6)).symm.trans ev63
          have hw6 := ev63
          refine w_inv H (o := 4) rfl rfl rfl (H.perm 4 rfl) rfl rfl (by rfl) (M348 H (u1_1) ((eu1_1)) (u4_5) ((eu4_5)) (w14) (ew14) (w24) (ew24) (w25) (ew25) (show inr (v61) by omega) (show inr (v62) by omega) (show inr (v63) by omega) (show 1 ≤ (v61) ∧ (v61) ≤ 65536 by omega) (show 0 ≤ (v62) ∧ (v62) ≤ 3 by omega) (show 0 ≤ (v63) ∧ (v63) ≤ 255 by omega) (show (u1_1) ≤ 16384 by omega) (show KQ bN ((w24)) ((u4_5)) by assumption) (show KQ bF ((w25)) ((u4_5)) by assumption) (fun z68 σ F64 A65 H hS66 hA67 y69 ey70 y71 ey72 wq73 ewq74 wq75 ewq76 wq77 ewq78 pz68_0 pz68_1 pz68_2 pz68_3 => ⟨rfl, ?_⟩))
          have r79 : (0 : Int) ≤ y69 ∧ y69 ≤ 65536 := by have h1 : (0 : Int) ≤ F64 1 3 ∧ F64 1 3 ≤ 65536 := H.frng 1 3; rw [show F64 1 3 = y69 from (ey70)] at h1; exact h1
          have r80 : (0 : Int) ≤ y71 ∧ y71 ≤ 16384 := by have h1 : (0 : Int) ≤ F64 4 5 ∧ F64 4 5 ≤ 16384 := H.frng 4 5; rw [show F64 4 5 = y71 from (ey72)] at h1; exact h1
          have : WRX ((a1)) ((w12)) (sc ((w14)) 0 ((u1_1))) (sc ((w16)) 0 ((u3_2))) Dc (bgS ((u6_6)) ((w49)) ((w50)) ((w51)) ((w52)) (fun _ => 0)) ((z68)) (sc ((wq73)) 0 ((y69))) := by rw [show ((a1) : Int) = 3 by omega]; have h := pz68_3; rw [← hw2, ← hw0, ← hw6] at h; exact WRX_3 h
          have : IMP (((a1) : Int) = 4 ∧ (0 : Int) ≤ (z68)) (∀ i, 0 ≤ i → i < 12 → ((w88)) i = (frD ((w12)) (sc ((w14)) 0 ((u1_1))) Dc (bgS ((u6_6)) ((w49)) ((w50)) ((w51)) ((w52)) (fun _ => 0))).2.2.2.2 i) := fun q => absurd q.1 (by omega)
          have : IMP (((a1) : Int) ≠ 4 ∨ (z68) < 0) (∀ i, 0 ≤ i → i < 12 → ((w88)) i = ((w88)) i) := fun _ _ _ _ => rfl
          have hwn := WRT_n2 pz68_3
          exact w_ireturn rfl (k (z68) σ _ _ H (SF_trans (SF_refl) hS66 (any_sub rfl)) (SA_trans (SA_refl) hA67 (any_subA rfl)) (y69) ((ey70)) (y71) ((ey72)) (u6_35) (((hS66 6 35 rfl).trans (eu6_35))) (wq73) (ewq74) (wq75) (ewq76) (wq77) (ewq78) (w69) ((funext (hA67 69 rfl)).trans (ew69)) (w88) ((funext (hA67 88 rfl)).trans (ew88)) (show inr (z68) by omega) (show KQ bN ((wq75)) ((y71)) by assumption) (show KQ bF ((wq77)) ((y71)) by assumption) (show WRX (a1) ((w12)) (sc ((w14)) 0 ((u1_1))) (sc ((w16)) 0 ((u3_2))) Dc (bgS ((u6_6)) ((w49)) ((w50)) ((w51)) ((w52)) (fun _ => 0)) ((z68)) (sc ((wq73)) 0 ((y69))) by assumption) (show MDX ((w69)) ((u6_35)) by assumption) (show IMP ((a1 : Int) = 4 ∧ (0 : Int) ≤ (z68)) (∀ i, 0 ≤ i → i < 12 → ((w88)) i = (frD ((w12)) (sc ((w14)) 0 ((u1_1))) Dc (bgS ((u6_6)) ((w49)) ((w50)) ((w51)) ((w52)) (fun _ => 0))).2.2.2.2 i) by assumption) (show IMP ((a1 : Int) ≠ 4 ∨ (z68) < 0) (∀ i, 0 ≤ i → i < 12 → ((w88)) i = ((w88)) i) by assumption) (show -1 ≤ (z68) ∧ (z68) ≤ 65536 by omega) (show (z68) < 0 ∨ (z68) = (y69) by omega))
        ·
          by_cases b81 : a1 = 4
          · refine w_tsk 4 129 rfl (show inr (a1) by omega) (by omega) (by decide) rfl rfl ?_
            refine Ew_of (pc' := 130) (fun _ => x_aload_n rfl rfl) ?_
            refine w_gT H (o := 0) (t := 6) rfl (H.perm 0 rfl) rfl rfl rfl rfl rfl rfl ?_
            refine Ew_of (pc' := 134) (fun _ => x_aload_n rfl rfl) ?_
            refine w_gT H (o := 0) (t := 12) rfl (H.perm 0 rfl) rfl rfl rfl rfl rfl rfl ?_
            refine Ew_of (pc' := 139) (fun _ => x_bipush (z := 7) rfl (by decide)) ?_
            refine w_lI H (o := 12) (n := 10) rfl (H.perm 12 rfl) rfl rfl (H.fix 12 rfl rfl) (show 0 ≤ 7 ∧ 7 < ((10 : Nat) : Int) by omega) (by decide) (fun v82 ev82 qv82 => ?_)
            have qv82 : (-2147483648 : Int) ≤ v82 ∧ v82 ≤ 2147483647 := qv82
            have ev82 : (w12) (7) = v82 := (congrFun (ew12) (7)).symm.trans ev82
            have hw7 := ev82
            refine Ew_of (pc' := 141) (fun _ => x_aload_n rfl rfl) ?_
            refine w_gT H (o := 0) (t := 12) rfl (H.perm 0 rfl) rfl rfl rfl rfl rfl rfl ?_
            refine Ew_of (pc' := 146) (fun _ => x_bipush (z := 8) rfl (by decide)) ?_
            refine w_lI H (o := 12) (n := 10) rfl (H.perm 12 rfl) rfl rfl (H.fix 12 rfl rfl) (show 0 ≤ 8 ∧ 8 < ((10 : Nat) : Int) by omega) (by decide) (fun v83 ev83 qv83 => ?_)
            have qv83 : (-2147483648 : Int) ≤ v83 ∧ v83 ≤ 2147483647 := qv83
            have ev83 : (w12) (8) = v83 := (congrFun (ew12) (8)).symm.trans ev83
            have hw8 := ev83
            refine Ew_of (pc' := 148) (fun _ => x_aload_n rfl rfl) ?_
            refine w_gT H (o := 0) (t := 12) rfl (H.perm 0 rfl) rfl rfl rfl rfl rfl rfl ?_
            refine Ew_of (pc' := 152) (fun _ => x_iconst rfl) ?_
            refine w_lI H (o := 12) (n := 10) rfl (H.perm 12 rfl) rfl rfl (H.fix 12 rfl rfl) (show 0 ≤ 2 ∧ 2 < ((10 : Nat) : Int) by omega) (by decide) (fun v84 ev84 qv84 => ?_)
            have qv84 : (-2147483648 : Int) ≤ v84 ∧ v84 ≤ 2147483647 := qv84
            have ev84 : (w12) (2) = v84 := (congrFun (ew12) (2)).symm.trans ev84
            have hw2 := ev84
            refine w_inv H (o := 6) rfl rfl rfl (H.perm 6 rfl) rfl rfl (by rfl) (M450 H (u1_1) ((eu1_1)) (u6_1) ((eu6_1)) (u6_2) ((eu6_2)) (u6_4) ((eu6_4)) (u6_5) ((eu6_5)) (u6_6) ((eu6_6)) (u6_35) ((eu6_35)) (w14) (ew14) (w48) (ew48) (w49) (ew49) (w50) (ew50) (w51) (ew51) (w52) (ew52) (w69) (ew69) (w88) (ew88) (show inr (v82) by omega) (show inr (v83) by omega) (show inr (v84) by omega) (show 0 ≤ (v82) ∧ (v82) ≤ 15 by omega) (show 0 ≤ (v83) ∧ (v83) ≤ 11 by omega) (show 1 ≤ (v84) ∧ (v84) ≤ 65536 by omega) (show 3 ≤ (u6_2) by omega) (show 0 ≤ (u6_4) ∧ (u6_4) + (u1_1) ≤ 16384 by omega) (show DW ((u6_6)) ((w49)) ((w50)) ((w51)) by assumption) (show (u6_2) ≤ 8 ∧ 0 ≤ (u6_1) ∧ (u6_1) ≤ 3 by omega) (show (u6_6) = 0 ∨ 1 ≤ ((w52)) 0 ∧ 1 ≤ ((w52)) 1 ∧ 1 ≤ ((w52)) 2 by omega) (fun z89 σ F85 A86 H hS87 hA88 y90 ey91 y92 ey93 wq94 ewq95 wq96 ewq97 wq98 ewq99 pz89_0 pz89_1 pz89_2 pz89_3 => ⟨rfl, ?_⟩))
            have r100 : (0 : Int) ≤ y90 ∧ y90 ≤ 65536 := by have h1 : (0 : Int) ≤ F85 1 3 ∧ F85 1 3 ≤ 65536 := H.frng 1 3; rw [show F85 1 3 = y90 from (ey91)] at h1; exact h1
            have r101 : (0 : Int) ≤ y92 ∧ y92 ≤ 100000000 := by have h1 : (0 : Int) ≤ F85 6 35 ∧ F85 6 35 ≤ 100000000 := H.frng 6 35; rw [show F85 6 35 = y92 from (ey93)] at h1; exact h1
            have hpq : PRQ (frD ((w12)) (sc ((w14)) 0 ((u1_1))) Dc (bgS ((u6_6)) ((w49)) ((w50)) ((w51)) ((w52)) (fun _ => 0))) ((z89)) ((y90)) ((wq94)) ((wq98)) := by have h := (pz89_2 hmd).1; rw [← hw7, ← hw8, ← hw2, anM, ← hdw.1, ← hdw.2, show (u6_2) = ((w12)) 1 by omega, show (u6_1) = ((w12)) 0 by omega] at h; exact h
            have : WRX ((a1)) ((w12)) (sc ((w14)) 0 ((u1_1))) (sc ((w16)) 0 ((u3_2))) Dc (bgS ((u6_6)) ((w49)) ((w50)) ((w51)) ((w52)) (fun _ => 0)) ((z89)) (sc ((wq94)) 0 ((y90))) := by rw [show ((a1) : Int) = 4 by omega]; exact WRX_4 hpq
            have : IMP (((a1) : Int) = 4 ∧ (0 : Int) ≤ (z89)) (∀ i, 0 ≤ i → i < 12 → ((wq98)) i = (frD ((w12)) (sc ((w14)) 0 ((u1_1))) Dc (bgS ((u6_6)) ((w49)) ((w50)) ((w51)) ((w52)) (fun _ => 0))).2.2.2.2 i) := fun q => hpq.2 q.2
            have : IMP (((a1) : Int) ≠ 4 ∨ (z89) < 0) (∀ i, 0 ≤ i → i < 12 → ((wq98)) i = ((w88)) i) := fun q => by rcases q with q | q; (exact absurd q (by omega)); (rw [pz89_3 q]; exact fun _ _ _ => rfl)
            have hm2 := (pz89_2 hmd).2
            have hwn := PRQ_n hpq
            have hsh := pz89_3
            exact w_ireturn rfl (k (z89) σ _ _ H (SF_trans (SF_refl) hS87 (any_sub rfl)) (SA_trans (SA_refl) hA88 (any_subA rfl)) (y90) ((ey91)) (u4_5) (((hS87 4 5 rfl).trans (eu4_5))) (y92) ((ey93)) (wq94) (ewq95) (w24) ((funext (hA88 24 rfl)).trans (ew24)) (w25) ((funext (hA88 25 rfl)).trans (ew25)) (wq96) (ewq97) (wq98) (ewq99) (show inr (z89) by omega) (show KQ bN ((w24)) ((u4_5)) by assumption) (show KQ bF ((w25)) ((u4_5)) by assumption) (show WRX (a1) ((w12)) (sc ((w14)) 0 ((u1_1))) (sc ((w16)) 0 ((u3_2))) Dc (bgS ((u6_6)) ((w49)) ((w50)) ((w51)) ((w52)) (fun _ => 0)) ((z89)) (sc ((wq94)) 0 ((y90))) by assumption) (show MDX ((wq96)) ((y92)) by assumption) (show IMP ((a1 : Int) = 4 ∧ (0 : Int) ≤ (z89)) (∀ i, 0 ≤ i → i < 12 → ((wq98)) i = (frD ((w12)) (sc ((w14)) 0 ((u1_1))) Dc (bgS ((u6_6)) ((w49)) ((w50)) ((w51)) ((w52)) (fun _ => 0))).2.2.2.2 i) by assumption) (show IMP ((a1 : Int) ≠ 4 ∨ (z89) < 0) (∀ i, 0 ≤ i → i < 12 → ((wq98)) i = ((w88)) i) by assumption) (show -1 ≤ (z89) ∧ (z89) ≤ 65536 by omega) (show (z89) < 0 ∨ (z89) = (y90) by omega))
          ·
            refine w_tsd 157 rfl (show inr (a1) by omega) (by omega) rfl ?_
            refine Ew_of (pc' := 158) (fun _ => x_aload_n rfl rfl) ?_
            refine w_gT H (o := 0) (t := 6) rfl (H.perm 0 rfl) rfl rfl rfl rfl rfl rfl ?_
            refine Ew_of (pc' := 162) (fun _ => x_aload_n rfl rfl) ?_
            refine w_gT H (o := 0) (t := 12) rfl (H.perm 0 rfl) rfl rfl rfl rfl rfl rfl ?_
            refine Ew_of (pc' := 167) (fun _ => x_bipush (z := 9) rfl (by decide)) ?_
            refine w_lI H (o := 12) (n := 10) rfl (H.perm 12 rfl) rfl rfl (H.fix 12 rfl rfl) (show 0 ≤ 9 ∧ 9 < ((10 : Nat) : Int) by omega) (by decide) (fun v102 ev102 qv102 => ?_)
            have qv102 : (-2147483648 : Int) ≤ v102 ∧ v102 ≤ 2147483647 := qv102
            have ev102 : (w12) (9) = v102 := (congrFun (ew12) (9)).symm.trans ev102
            have hw9 := ev102
            refine w_inv H (o := 6) rfl rfl rfl (H.perm 6 rfl) rfl rfl (by rfl) (M454 H (u1_1) ((eu1_1)) (u6_1) ((eu6_1)) (u6_2) ((eu6_2)) (u6_35) ((eu6_35)) (w14) (ew14) (w69) (ew69) (show inr (v102) by omega) (show 0 ≤ (u1_1) ∧ (u1_1) ≤ 16384 by omega) (show 3 ≤ (u6_2) by omega) (show (u6_2) ≤ 8 ∧ 0 ≤ (u6_1) ∧ (u6_1) ≤ 3 by omega) (fun z107 σ F103 A104 H hS105 hA106 y108 ey109 y110 ey111 wq112 ewq113 wq114 ewq115 pz107_0 pz107_1 pz107_2 => ⟨rfl, ?_⟩))
            have r116 : (0 : Int) ≤ y108 ∧ y108 ≤ 65536 := by have h1 : (0 : Int) ≤ F103 1 3 ∧ F103 1 3 ≤ 65536 := H.frng 1 3; rw [show F103 1 3 = y108 from (ey109)] at h1; exact h1
            have r117 : (0 : Int) ≤ y110 ∧ y110 ≤ 100000000 := by have h1 : (0 : Int) ≤ F103 6 35 ∧ F103 6 35 ≤ 100000000 := H.frng 6 35; rw [show F103 6 35 = y110 from (ey111)] at h1; exact h1
            have : WRX ((a1)) ((w12)) (sc ((w14)) 0 ((u1_1))) (sc ((w16)) 0 ((u3_2))) Dc (bgS ((u6_6)) ((w49)) ((w50)) ((w51)) ((w52)) (fun _ => 0)) ((z107)) (sc ((wq112)) 0 ((y108))) := by rw [show ((a1) : Int) = 5 by omega]; have h := (pz107_2 hmd).1; rw [← hw9, ← mkF_m, show (u6_2) = ((w12)) 1 by omega, show (u6_1) = ((w12)) 0 by omega] at h; exact WRX_5 h
            have : IMP (((a1) : Int) = 4 ∧ (0 : Int) ≤ (z107)) (∀ i, 0 ≤ i → i < 12 → ((w88)) i = (frD ((w12)) (sc ((w14)) 0 ((u1_1))) Dc (bgS ((u6_6)) ((w49)) ((w50)) ((w51)) ((w52)) (fun _ => 0))).2.2.2.2 i) := fun q => absurd q.1 (by omega)
            have : IMP (((a1) : Int) ≠ 4 ∨ (z107) < 0) (∀ i, 0 ≤ i → i < 12 → ((w88)) i = ((w88)) i) := fun _ _ _ _ => rfl
            have hm2 := (pz107_2 hmd).2
            have hwn := MKD_n2 (pz107_2 hmd).1
            exact w_ireturn rfl (k (z107) σ _ _ H (SF_trans (SF_refl) hS105 (any_sub rfl)) (SA_trans (SA_refl) hA106 (any_subA rfl)) (y108) ((ey109)) (u4_5) (((hS105 4 5 rfl).trans (eu4_5))) (y110) ((ey111)) (wq112) (ewq113) (w24) ((funext (hA106 24 rfl)).trans (ew24)) (w25) ((funext (hA106 25 rfl)).trans (ew25)) (wq114) (ewq115) (w88) ((funext (hA106 88 rfl)).trans (ew88)) (show inr (z107) by omega) (show KQ bN ((w24)) ((u4_5)) by assumption) (show KQ bF ((w25)) ((u4_5)) by assumption) (show WRX (a1) ((w12)) (sc ((w14)) 0 ((u1_1))) (sc ((w16)) 0 ((u3_2))) Dc (bgS ((u6_6)) ((w49)) ((w50)) ((w51)) ((w52)) (fun _ => 0)) ((z107)) (sc ((wq112)) 0 ((y108))) by assumption) (show MDX ((wq114)) ((y110)) by assumption) (show IMP ((a1 : Int) = 4 ∧ (0 : Int) ≤ (z107)) (∀ i, 0 ≤ i → i < 12 → ((w88)) i = (frD ((w12)) (sc ((w14)) 0 ((u1_1))) Dc (bgS ((u6_6)) ((w49)) ((w50)) ((w51)) ((w52)) (fun _ => 0))).2.2.2.2 i) by assumption) (show IMP ((a1 : Int) ≠ 4 ∨ (z107) < 0) (∀ i, 0 ≤ i → i < 12 → ((w88)) i = ((w88)) i) by assumption) (show -1 ≤ (z107) ∧ (z107) ≤ 65536 by omega) (show (z107) < 0 ∨ (z107) = (y108) by omega))
