/-- Model.comesBack -/
theorem M82p {σ0 σ : rS} {D N : Nat → Nat} {F : hF} {A : hA} {d c s : Nat} {Q : wQ} (H : HS σ0 σ D N F A) {a1 a2 : Int} (u1_3 : Int) (eu1_3 : F 1 3 = u1_3) (u3_2 : Int) (eu3_2 : F 3 2 = u3_2) (u5_2 : Int) (eu5_2 : F 5 2 = u5_2) (u5_3 : Int) (eu5_3 : F 5 3 = u5_3) (u5_4 : Int) (eu5_4 : F 5 4 = u5_4) (u5_27 : Int) (eu5_27 : F 5 27 = u5_27) (u5_32 : Int) (eu5_32 : F 5 32 = u5_32) (u5_33 : Int) (eu5_33 : F 5 33 = u5_33) (u5_34 : Int) (eu5_34 : F 5 34 = u5_34) (u5_36 : Int) (eu5_36 : F 5 36 = u5_36) (w10 : Int → Int) (ew10 : A 10 = w10) (w11 : Int → Int) (ew11 : A 11 = w11) (w15 : Int → Int) (ew15 : A 15 = w15) (w16 : Int → Int) (ew16 : A 16 = w16) (w26 : Int → Int) (ew26 : A 26 = w26) (w27 : Int → Int) (ew27 : A 27 = w27) (w28 : Int → Int) (ew28 : A 28 = w28) (w29 : Int → Int) (ew29 : A 29 = w29) (w30 : Int → Int) (ew30 : A 30 = w30) (w34 : Int → Int) (ew34 : A 34 = w34) (w35 : Int → Int) (ew35 : A 35 = w35) (w36 : Int → Int) (ew36 : A 36 = w36) (w37 : Int → Int) (ew37 : A 37 = w37) (Dc : DcS) (h0 : inr (a1)) (h1 : inr (a2)) (h2 : 0 ≤ (a1) ∧ (a1) ≤ 3 ∧ 0 ≤ (a2) ∧ (a2) ≤ 4) (h3 : RT ((w35)) ((w36)) ((w37)) ((w34))) (h4 : DI ((u5_4)) ((w27)) ((w28)) ((w29)) ((w30))) (h5 : RDI Dc ((u5_4)) ((u5_3)) ((w26)) ((u5_2)) ((w27)) ((w28)) ((w29)) ((w30))) (h6 : DCo Dc) (k : ∀ (z : Int) σ F' A', HS σ0 σ D N F' A' → SF [(1, 1), (1, 3), (1, 4), (3, 12), (3, 14), (3, 15), (3, 16), (4, 2), (4, 8), (4, 9), (4, 10), (4, 11), (5, 10), (5, 19), (5, 25), (5, 26), (5, 27), (5, 28), (5, 29), (5, 30), (5, 31), (5, 32), (5, 33), (5, 34), (5, 35), (5, 36), (5, 39), (5, 40), (5, 41), (5, 42), (5, 43), (5, 44), (5, 45)] F F' → SA [13, 14, 15, 17, 21, 22, 23, 31, 32, 33, 34, 35, 36, 37, 38, 39, 40, 41, 42, 43, 44, 45, 46, 47] A A' → ∀ y1_3 : Int, F' 1 3 = y1_3 → ∀ y5_27 : Int, F' 5 27 = y5_27 → ∀ y5_32 : Int, F' 5 32 = y5_32 → ∀ y5_33 : Int, F' 5 33 = y5_33 → ∀ y5_34 : Int, F' 5 34 = y5_34 → ∀ y5_36 : Int, F' 5 36 = y5_36 → ∀ v15 : Int → Int, A' 15 = v15 → ∀ v34 : Int → Int, A' 34 = v34 → ∀ v35 : Int → Int, A' 35 = v35 → ∀ v36 : Int → Int, A' 36 = v36 → ∀ v37 : Int → Int, A' 37 = v37 → ((z) = 0 ∨ (z) = 1) → (RT ((v35)) ((v36)) ((v37)) ((v34))) → ((y1_3) = (u1_3)) → (sc ((v15)) 0 ((y1_3)) = sc ((w15)) 0 ((u1_3))) → (CMB ((a2)) (sc ((w15)) 0 ((u1_3))) (sc ((w16)) 0 ((u3_2))) Dc (rwR ((w10)) ((w11)) ((a1))) ((z))) → (((y5_32), (y5_33), (y5_34), (y5_27), (y5_36)) = ((u5_32), (u5_33), (u5_34), (u5_27), (u5_36))) → Q (some (I z)) σ c s) : Ew 82 (d + 12) 0 (rargs 0 [.ref (D 0), I a1, I a2]) [] σ c s Q := by
  have r1 : (0 : Int) ≤ u1_3 ∧ u1_3 ≤ 65536 := by have h1 : (0 : Int) ≤ F 1 3 ∧ F 1 3 ≤ 65536 := H.frng 1 3; rw [show F 1 3 = u1_3 from (eu1_3)] at h1; exact h1
  have r2 : (0 : Int) ≤ u3_2 ∧ u3_2 ≤ 65536 := by have h1 : (0 : Int) ≤ F 3 2 ∧ F 3 2 ≤ 65536 := H.frng 3 2; rw [show F 3 2 = u3_2 from (eu3_2)] at h1; exact h1
  have r3 : (0 : Int) ≤ u5_2 ∧ u5_2 ≤ 65536 := by have h1 : (0 : Int) ≤ F 5 2 ∧ F 5 2 ≤ 65536 := H.frng 5 2; rw [show F 5 2 = u5_2 from (eu5_2)] at h1; exact h1
  have r4 : (-2147483648 : Int) ≤ u5_3 ∧ u5_3 ≤ 2147483647 := by have h1 : (-2147483648 : Int) ≤ F 5 3 ∧ F 5 3 ≤ 2147483647 := H.frng 5 3; rw [show F 5 3 = u5_3 from (eu5_3)] at h1; exact h1
  have r5 : (0 : Int) ≤ u5_4 ∧ u5_4 ≤ 1 := by have h1 : (0 : Int) ≤ F 5 4 ∧ F 5 4 ≤ 1 := H.frng 5 4; rw [show F 5 4 = u5_4 from (eu5_4)] at h1; exact h1
  have r6 : (0 : Int) ≤ u5_27 ∧ u5_27 ≤ 65536 := by have h1 : (0 : Int) ≤ F 5 27 ∧ F 5 27 ≤ 65536 := H.frng 5 27; rw [show F 5 27 = u5_27 from (eu5_27)] at h1; exact h1
  have r7 : (-2147483648 : Int) ≤ u5_32 ∧ u5_32 ≤ 2147483647 := by have h1 : (-2147483648 : Int) ≤ F 5 32 ∧ F 5 32 ≤ 2147483647 := H.frng 5 32; rw [show F 5 32 = u5_32 from (eu5_32)] at h1; exact h1
  have r8 : (-2147483648 : Int) ≤ u5_33 ∧ u5_33 ≤ 2147483647 := by have h1 : (-2147483648 : Int) ≤ F 5 33 ∧ F 5 33 ≤ 2147483647 := H.frng 5 33; rw [show F 5 33 = u5_33 from (eu5_33)] at h1; exact h1
  have r9 : (-2147483648 : Int) ≤ u5_34 ∧ u5_34 ≤ 2147483647 := by have h1 : (-2147483648 : Int) ≤ F 5 34 ∧ F 5 34 ≤ 2147483647 := H.frng 5 34; rw [show F 5 34 = u5_34 from (eu5_34)] at h1; exact h1
  have r10 : (-2147483648 : Int) ≤ u5_36 ∧ u5_36 ≤ 2147483647 := by have h1 : (-2147483648 : Int) ≤ F 5 36 ∧ F 5 36 ≤ 2147483647 := H.frng 5 36; rw [show F 5 36 = u5_36 from (eu5_36)] at h1; exact h1
  have hOu : ∀ i, (0 : Int) ≤ (w15) i ∧ (w15) i ≤ 255 := fun i => by have h1 : (0 : Int) ≤ A 15 i ∧ A 15 i ≤ 255 := H.arng 15 i; rw [show A 15 = w15 from ew15] at h1; exact h1
  have hSz : ∀ i, (0 : Int) ≤ (w11) i ∧ (w11) i ≤ 65536 := fun i => by have h1 : (0 : Int) ≤ A 11 i ∧ A 11 i ≤ 65536 := H.arng 11 i; rw [show A 11 = w11 from ew11] at h1; exact h1
  have hRo : ∀ i, (0 : Int) ≤ (w10) i ∧ (w10) i ≤ 255 := fun i => by have h1 : (0 : Int) ≤ A 10 i ∧ A 10 i ≤ 255 := H.arng 10 i; rw [show A 10 = w10 from ew10] at h1; exact h1
  have hsa := hSz ((a1))
  have hln : ((rwR ((w10)) ((w11)) ((a1))).length : Int) = ((w11)) ((a1)) := rwR_len (hSz ((a1))).1
  refine Ew_of (pc' := 1) (fun _ => x_aload_n rfl rfl) ?_
  refine w_gT H (o := 0) (t := 1) rfl (H.perm 0 rfl) rfl rfl rfl rfl rfl rfl ?_
  refine w_gI H (o := 1) (w := u1_3) rfl (H.perm 1 rfl) rfl rfl rfl (fun _ => rfl) (eu1_3) ?_
  refine Ew_of (pc' := 8) (fun _ => x_istore_n rfl) ?_
  refine Ew_of (pc' := 9) (fun _ => x_iconst rfl) ?_
  refine Ew_of (pc' := 11) (fun _ => x_istore rfl) ?_
  have : CPY ((w15)) ((A 14)) 0 0 (0) := CPY_0
  suffices hl11 : ∀ (m : Nat), ∀ (ls : rO) (σ : rS) (F_11 : hF) (A_11 : hA) (x11_4 : Int), rlook ls 0 = some (.ref (D 0)) → rlook ls 1 = some (I (a1)) → rlook ls 2 = some (I (a2)) → rlook ls 3 = some (I (u1_3)) → rlook ls 4 = some (I (x11_4)) → HS σ0 σ D N F_11 A_11 → SF [] F F_11 → SA [14] A A_11 → ∀ w11_14 : Int → Int, A_11 14 = w11_14 → (inr (x11_4)) → ((0) ≤ (x11_4)) → ((x11_4) ≤ (0) ∨ (x11_4) ≤ ((u1_3))) → (CPY ((w15)) ((w11_14)) 0 0 ((x11_4))) → (((u1_3)) - (x11_4)).toNat = m → Ew 82 (d + 12) 11 ls [] σ c s Q from
    hl11 _ _ σ _ _ (0) (rk_o (rk_o (rfl) rfl rfl) rfl rfl) (rk_o (rk_o (rfl) rfl rfl) rfl rfl) (rk_o (rk_o (rfl) rfl rfl) rfl rfl) (rk_o (rk_s) rfl rfl) (rk_s) H (SF_refl) (SA_refl)  (A 14) (rfl) (show inr (0) by omega) (show (0) ≤ (0) by omega) (show (0) ≤ (0) ∨ (0) ≤ ((u1_3)) by omega) (show CPY ((w15)) ((A 14)) 0 0 ((0)) by assumption) rfl
  as_aux_lemma =>
  intro m
  induction m using Nat.strongRecOn with
  | _ m ih11 =>
    intro ls σ F_11 A_11 x11_4 l11_0 l11_1 l11_2 l11_3 l11_4 H hS_11 hA_11  w11_14 ew11_14 j11_0 j11_1 j11_2 j11_3 hm11
    have j11_c : CPY ((w15)) ((w11_14)) 0 0 ((x11_4)) := by assumption
    refine Ew_of (pc' := 13) (fun _ => x_iload rfl l11_4) ?_
    refine Ew_of (pc' := 14) (fun _ => x_iload_n rfl l11_3) ?_
    refine w_icmpge (t := 43) rfl rfl (show inr (x11_4) by omega) (show inr (u1_3) by omega) (fun b11 => ?_) (fun b11 => ?_)
    · refine Ew_of (pc' := 44) (fun _ => x_aload_n rfl l11_0) ?_
      refine w_gT H (o := 0) (t := 1) rfl (H.perm 0 rfl) rfl rfl rfl rfl rfl rfl ?_
      refine Ew_of (pc' := 48) (fun _ => x_iload_n rfl l11_3) ?_
      refine w_pI H (o := 1) rfl rfl (H.perm 1 rfl) rfl rfl rfl (fun _ => rfl) rfl (show (0 : Int) ≤ u1_3 ∧ u1_3 ≤ 65536 by omega) (fun σ H => ?_)
      have hin : sc ((w11_14)) 0 ((u1_3)) = sc ((w15)) 0 ((u1_3)) := CPY_sc j11_c (by omega) (by omega)
      refine Ew_of (pc' := 52) (fun _ => x_iconst rfl) ?_
      refine Ew_of (pc' := 54) (fun _ => x_istore rfl) ?_
      have : IMP ((0 : Int) < 0) (((A 13)) 0 = (u5_32)) := fun q => absurd q (by omega)
      have : IMP ((1 : Int) < 0) (((A 13)) 1 = (u5_33)) := fun q => absurd q (by omega)
      have : IMP ((2 : Int) < 0) (((A 13)) 2 = (u5_34)) := fun q => absurd q (by omega)
      have : IMP ((3 : Int) < 0) (((A 13)) 3 = (u5_27)) := fun q => absurd q (by omega)
      have : IMP ((4 : Int) < 0) (((A 13)) 4 = (u5_36)) := fun q => absurd q (by omega)
      suffices hl54 : ∀ (m : Nat), ∀ (ls : rO) (σ : rS) (F_54 : hF) (A_54 : hA) (x54_4 : Int), rlook ls 0 = some (.ref (D 0)) → rlook ls 1 = some (I (a1)) → rlook ls 2 = some (I (a2)) → rlook ls 3 = some (I (u1_3)) → rlook ls 4 = some (I (x54_4)) → HS σ0 σ D N F_54 A_54 → SF [] (updF F_11 1 1 (u1_3)) F_54 → SA [13] A_11 A_54 → ∀ w54_13 : Int → Int, A_54 13 = w54_13 → (inr (x54_4)) → ((0) ≤ (x54_4)) → ((x54_4) ≤ (0) ∨ (x54_4) ≤ (5)) → (3 < (x54_4) → 0 ≤ ((w54_13)) 3 ∧ ((w54_13)) 3 ≤ 65536) → (IMP ((0 : Int) < (x54_4)) (((w54_13)) 0 = (u5_32))) → (IMP ((1 : Int) < (x54_4)) (((w54_13)) 1 = (u5_33))) → (IMP ((2 : Int) < (x54_4)) (((w54_13)) 2 = (u5_34))) → (IMP ((3 : Int) < (x54_4)) (((w54_13)) 3 = (u5_27))) → (IMP ((4 : Int) < (x54_4)) (((w54_13)) 4 = (u5_36))) → ((5) - (x54_4)).toNat = m → Ew 82 (d + 12) 54 ls [] σ c s Q from
        hl54 _ _ σ _ _ (0) (rk_o (l11_0) rfl rfl) (rk_o (l11_1) rfl rfl) (rk_o (l11_2) rfl rfl) (rk_o (l11_3) rfl rfl) (rk_s) H (SF_refl) (SA_refl)  (A 13) (funext (hA_11 13 rfl)) (show inr (0) by omega) (show (0) ≤ (0) by omega) (show (0) ≤ (0) ∨ (0) ≤ (5) by omega) (show 3 < (0) → 0 ≤ ((A 13)) 3 ∧ ((A 13)) 3 ≤ 65536 by omega) (show IMP ((0 : Int) < (0)) (((A 13)) 0 = (u5_32)) by assumption) (show IMP ((1 : Int) < (0)) (((A 13)) 1 = (u5_33)) by assumption) (show IMP ((2 : Int) < (0)) (((A 13)) 2 = (u5_34)) by assumption) (show IMP ((3 : Int) < (0)) (((A 13)) 3 = (u5_27)) by assumption) (show IMP ((4 : Int) < (0)) (((A 13)) 4 = (u5_36)) by assumption) rfl
      as_aux_lemma =>
      intro m
      induction m using Nat.strongRecOn with
      | _ m ih54 =>
        intro ls σ F_54 A_54 x54_4 l54_0 l54_1 l54_2 l54_3 l54_4 H hS_54 hA_54  w54_13 ew54_13 j54_0 j54_1 j54_2 j54_3 j54_4 j54_5 j54_6 j54_7 j54_8 hm54
        have j54_0 : IMP ((0 : Int) < (x54_4)) (((w54_13)) 0 = (u5_32)) := by assumption
        have j54_1 : IMP ((1 : Int) < (x54_4)) (((w54_13)) 1 = (u5_33)) := by assumption
        have j54_2 : IMP ((2 : Int) < (x54_4)) (((w54_13)) 2 = (u5_34)) := by assumption
        have j54_3 : IMP ((3 : Int) < (x54_4)) (((w54_13)) 3 = (u5_27)) := by assumption
        have j54_4 : IMP ((4 : Int) < (x54_4)) (((w54_13)) 4 = (u5_36)) := by assumption
        refine Ew_of (pc' := 56) (fun _ => x_iload rfl l54_4) ?_
        refine Ew_of (pc' := 57) (fun _ => x_iconst rfl) ?_
        refine w_icmpge (t := 79) rfl rfl (show inr (x54_4) by omega) (show inr (5) by omega) (fun b12 => ?_) (fun b12 => ?_)
        · have hK0 : ((w54_13)) 0 = (u5_32) := j54_0 (by omega)
          have hK1 : ((w54_13)) 1 = (u5_33) := j54_1 (by omega)
          have hK2 : ((w54_13)) 2 = (u5_34) := j54_2 (by omega)
          have hK3 : ((w54_13)) 3 = (u5_27) := j54_3 (by omega)
          have hK4 : ((w54_13)) 4 = (u5_36) := j54_4 (by omega)
          refine Ew_of (pc' := 80) (fun _ => x_aload_n rfl l54_0) ?_
          refine Ew_of (pc' := 81) (fun _ => x_iload_n rfl l54_2) ?_
          refine Ew_of (pc' := 82) (fun _ => x_aload_n rfl l54_0) ?_
          refine w_gT H (o := 0) (t := 11) rfl (H.perm 0 rfl) rfl rfl rfl rfl rfl rfl ?_
          refine Ew_of (pc' := 86) (fun _ => x_iload_n rfl l54_1) ?_
          refine w_lI H (o := 11) (n := 4) rfl (H.perm 11 rfl) rfl rfl (H.fix 11 rfl rfl) (show 0 ≤ a1 ∧ a1 < ((4 : Nat) : Int) by omega) (by decide) (fun v13 ev13 qv13 => ?_)
          have qv13 : (0 : Int) ≤ v13 ∧ v13 ≤ 65536 := qv13
          have ev13 : (w11) (a1) = v13 := (congrFun ((funext (hA_54 11 rfl)).trans ((funext (hA_11 11 rfl)).trans (ew11))) (a1)).symm.trans ev13
          have hv86 := ev13
          refine w_inv H (o := 0) rfl rfl rfl (H.perm 0 rfl) rfl rfl (by rfl) (M84p H (u1_3) ((hS_54 1 1 rfl)) (u3_2) ((((hS_54 3 2 rfl).trans (hS_11 3 2 rfl)).trans (eu3_2))) (u5_2) ((((hS_54 5 2 rfl).trans (hS_11 5 2 rfl)).trans (eu5_2))) (u5_3) ((((hS_54 5 3 rfl).trans (hS_11 5 3 rfl)).trans (eu5_3))) (u5_4) ((((hS_54 5 4 rfl).trans (hS_11 5 4 rfl)).trans (eu5_4))) (u5_27) ((((hS_54 5 27 rfl).trans (hS_11 5 27 rfl)).trans (eu5_27))) (u5_32) ((((hS_54 5 32 rfl).trans (hS_11 5 32 rfl)).trans (eu5_32))) (u5_33) ((((hS_54 5 33 rfl).trans (hS_11 5 33 rfl)).trans (eu5_33))) (u5_34) ((((hS_54 5 34 rfl).trans (hS_11 5 34 rfl)).trans (eu5_34))) (u5_36) ((((hS_54 5 36 rfl).trans (hS_11 5 36 rfl)).trans (eu5_36))) (w11_14) ((funext (hA_54 14 rfl)).trans (ew11_14)) (w16) ((funext (hA_54 16 rfl)).trans ((funext (hA_11 16 rfl)).trans (ew16))) (w26) ((funext (hA_54 26 rfl)).trans ((funext (hA_11 26 rfl)).trans (ew26))) (w27) ((funext (hA_54 27 rfl)).trans ((funext (hA_11 27 rfl)).trans (ew27))) (w28) ((funext (hA_54 28 rfl)).trans ((funext (hA_11 28 rfl)).trans (ew28))) (w29) ((funext (hA_54 29 rfl)).trans ((funext (hA_11 29 rfl)).trans (ew29))) (w30) ((funext (hA_54 30 rfl)).trans ((funext (hA_11 30 rfl)).trans (ew30))) (w34) ((funext (hA_54 34 rfl)).trans ((funext (hA_11 34 rfl)).trans (ew34))) (w35) ((funext (hA_54 35 rfl)).trans ((funext (hA_11 35 rfl)).trans (ew35))) (w36) ((funext (hA_54 36 rfl)).trans ((funext (hA_11 36 rfl)).trans (ew36))) (w37) ((funext (hA_54 37 rfl)).trans ((funext (hA_11 37 rfl)).trans (ew37))) (Dc) (show inr (a2) by omega) (show inr (v13) by omega) (show 0 ≤ (a2) ∧ (a2) ≤ 4 ∧ 0 ≤ (v13) ∧ (v13) ≤ 65536 by omega) (show RT ((w35)) ((w36)) ((w37)) ((w34)) by assumption) (show DI ((u5_4)) ((w27)) ((w28)) ((w29)) ((w30)) by assumption) (show RDI (Dc) ((u5_4)) ((u5_3)) ((w26)) ((u5_2)) ((w27)) ((w28)) ((w29)) ((w30)) by assumption) (show DCo (Dc) by assumption) (fun z18 σ F14 A15 H hS16 hA17 y19 ey20 y21 ey22 y23 ey24 y25 ey26 y27 ey28 y29 ey30 y31 ey32 wq33 ewq34 wq35 ewq36 wq37 ewq38 wq39 ewq40 wq41 ewq42 pz18_0 pz18_1 pz18_2 pz18_3 pz18_4 pz18_5 => ⟨rfl, ?_⟩))
          have r43 : (0 : Int) ≤ y19 ∧ y19 ≤ 65536 := by have h1 : (0 : Int) ≤ F14 1 3 ∧ F14 1 3 ≤ 65536 := H.frng 1 3; rw [show F14 1 3 = y19 from (ey20)] at h1; exact h1
          have r44 : (-2147483648 : Int) ≤ y21 ∧ y21 ≤ 2147483647 := by have h1 : (-2147483648 : Int) ≤ F14 1 4 ∧ F14 1 4 ≤ 2147483647 := H.frng 1 4; rw [show F14 1 4 = y21 from (ey22)] at h1; exact h1
          have r45 : (0 : Int) ≤ y23 ∧ y23 ≤ 65536 := by have h1 : (0 : Int) ≤ F14 5 27 ∧ F14 5 27 ≤ 65536 := H.frng 5 27; rw [show F14 5 27 = y23 from (ey24)] at h1; exact h1
          have r46 : (-2147483648 : Int) ≤ y25 ∧ y25 ≤ 2147483647 := by have h1 : (-2147483648 : Int) ≤ F14 5 32 ∧ F14 5 32 ≤ 2147483647 := H.frng 5 32; rw [show F14 5 32 = y25 from (ey26)] at h1; exact h1
          have r47 : (-2147483648 : Int) ≤ y27 ∧ y27 ≤ 2147483647 := by have h1 : (-2147483648 : Int) ≤ F14 5 33 ∧ F14 5 33 ≤ 2147483647 := H.frng 5 33; rw [show F14 5 33 = y27 from (ey28)] at h1; exact h1
          have r48 : (-2147483648 : Int) ≤ y29 ∧ y29 ≤ 2147483647 := by have h1 : (-2147483648 : Int) ≤ F14 5 34 ∧ F14 5 34 ≤ 2147483647 := H.frng 5 34; rw [show F14 5 34 = y29 from (ey30)] at h1; exact h1
          have r49 : (-2147483648 : Int) ≤ y31 ∧ y31 ≤ 2147483647 := by have h1 : (-2147483648 : Int) ≤ F14 5 36 ∧ F14 5 36 ≤ 2147483647 := H.frng 5 36; rw [show F14 5 36 = y31 from (ey32)] at h1; exact h1
          have hrq := pz18_2
          rw [hin] at hrq
          obtain ⟨qr, hqr⟩ : ∃ q : Int, q = (z18) := ⟨_, rfl⟩
          have hrq2 : RDQ ((a2)) (sc ((w15)) 0 ((u1_3))) (sc ((w16)) 0 ((u3_2))) Dc (((rwR ((w10)) ((w11)) ((a1))).length : Int)) (qr) ((y21)) (sc ((wq33)) 0 ((y19))) := by rw [hln, hv86, hqr]; exact hrq
          have hro : qr < 0 ∨ qr = (y19) := by rw [hqr]; exact pz18_5
          refine Ew_of (pc' := 91) (fun _ => x_aload_n rfl l54_0) ?_
          refine w_gT H (o := 0) (t := 11) rfl (H.perm 0 rfl) rfl rfl rfl rfl rfl rfl ?_
          refine Ew_of (pc' := 95) (fun _ => x_iload_n rfl l54_1) ?_
          refine w_lI H (o := 11) (n := 4) rfl (H.perm 11 rfl) rfl rfl (H.fix 11 rfl rfl) (show 0 ≤ a1 ∧ a1 < ((4 : Nat) : Int) by omega) (by decide) (fun v50 ev50 qv50 => ?_)
          have qv50 : (0 : Int) ≤ v50 ∧ v50 ≤ 65536 := qv50
          have ev50 : (w11) (a1) = v50 := (congrFun ((funext (hA17 11 rfl)).trans ((funext (hA_54 11 rfl)).trans ((funext (hA_11 11 rfl)).trans (ew11)))) (a1)).symm.trans ev50
          have hv95 := ev50
          have hc104 : ∀ (tc104_0 : Int), ∀ (ls : rO) (σ : rS) (F_c104 : hF) (A_c104 : hA) , rlook ls 0 = some (.ref (D 0)) → rlook ls 1 = some (I (a1)) → rlook ls 3 = some (I (u1_3)) → HS σ0 σ D N F_c104 A_c104 → SF [] F14 F_c104 → SA [] A15 A_c104 → (inr (tc104_0)) → (((z18) ≠ (v50) ∧ (tc104_0) = (0)) ∨ ((z18) = (v50) ∧ (tc104_0) = (1))) → Ew 82 (d + 12) 104 ls [I (tc104_0)] σ c s Q := by
           as_aux_lemma =>
            intro tc104_0 ls σ F_c104 A_c104  lc104_0 lc104_1 lc104_3 H hS_c104 hA_c104   jc104_0 jc104_1
            refine Ew_of (pc' := 106) (fun _ => x_istore rfl) ?_
            refine Ew_of (pc' := 107) (fun _ => x_iconst rfl) ?_
            refine Ew_of (pc' := 109) (fun _ => x_istore rfl) ?_
            have : IMP (((tc104_0) : Int) = 1) (qr = ((w11)) ((a1)) ∧ ∀ k, 0 ≤ k → k < 0 → ((wq33)) k = ((w10)) (65536 * (a1) + k)) := fun q => ⟨by omega, fun k a b => absurd b (by omega)⟩
            have : IMP (((tc104_0) : Int) = 0) (¬ (qr = ((w11)) ((a1)) ∧ sc ((wq33)) 0 ((y19)) = rwR ((w10)) ((w11)) ((a1)))) := fun q w => absurd w.1 (by omega)
            suffices hl109 : ∀ (m : Nat), ∀ (ls : rO) (σ : rS) (F_109 : hF) (A_109 : hA) (x109_4 : Int) (x109_5 : Int), rlook ls 0 = some (.ref (D 0)) → rlook ls 1 = some (I (a1)) → rlook ls 3 = some (I (u1_3)) → rlook ls 4 = some (I (x109_4)) → rlook ls 5 = some (I (x109_5)) → HS σ0 σ D N F_109 A_109 → SF [] F_c104 F_109 → SA [] A_c104 A_109 → (inr (x109_4)) → (inr (x109_5)) → ((x109_4) = 0 ∨ (x109_4) = 1) → (0 ≤ (x109_5) ∧ (x109_5) ≤ ((w11)) ((a1))) → (IMP (((x109_4) : Int) = 1) (qr = ((w11)) ((a1)) ∧ ∀ k, 0 ≤ k → k < (x109_5) → ((wq33)) k = ((w10)) (65536 * (a1) + k))) → (IMP (((x109_4) : Int) = 0) (¬ (qr = ((w11)) ((a1)) ∧ sc ((wq33)) 0 ((y19)) = rwR ((w10)) ((w11)) ((a1))))) → (65536 - (x109_5)).toNat = m → Ew 82 (d + 12) 109 ls [] σ c s Q from
              hl109 _ _ σ _ _ (tc104_0) (0) (rk_o (rk_o (lc104_0) rfl rfl) rfl rfl) (rk_o (rk_o (lc104_1) rfl rfl) rfl rfl) (rk_o (rk_o (lc104_3) rfl rfl) rfl rfl) (rk_o (rk_s) rfl rfl) (rk_s) H (SF_refl) (SA_refl)   (show inr (tc104_0) by omega) (show inr (0) by omega) (show (tc104_0) = 0 ∨ (tc104_0) = 1 by omega) (show 0 ≤ (0) ∧ (0) ≤ ((w11)) ((a1)) by omega) (show IMP (((tc104_0) : Int) = 1) (qr = ((w11)) ((a1)) ∧ ∀ k, 0 ≤ k → k < (0) → ((wq33)) k = ((w10)) (65536 * (a1) + k)) by assumption) (show IMP (((tc104_0) : Int) = 0) (¬ (qr = ((w11)) ((a1)) ∧ sc ((wq33)) 0 ((y19)) = rwR ((w10)) ((w11)) ((a1)))) by assumption) rfl
            as_aux_lemma =>
            intro m
            induction m using Nat.strongRecOn with
            | _ m ih109 =>
              intro ls σ F_109 A_109 x109_4 x109_5 l109_0 l109_1 l109_3 l109_4 l109_5 H hS_109 hA_109   j109_0 j109_1 j109_2 j109_3 j109_4 j109_5 hm109
              have j109_a : IMP (((x109_4) : Int) = 1) (qr = ((w11)) ((a1)) ∧ ∀ k, 0 ≤ k → k < (x109_5) → ((wq33)) k = ((w10)) (65536 * (a1) + k)) := by assumption
              have j109_b : IMP (((x109_4) : Int) = 0) (¬ (qr = ((w11)) ((a1)) ∧ sc ((wq33)) 0 ((y19)) = rwR ((w10)) ((w11)) ((a1)))) := by assumption
              have hOu2 : ∀ i, (0 : Int) ≤ (wq33) i ∧ (wq33) i ≤ 255 := fun i => by have h1 : (0 : Int) ≤ A_109 15 i ∧ A_109 15 i ≤ 255 := H.arng 15 i; rw [show A_109 15 = wq33 from (funext (hA_109 15 rfl)).trans ((funext (hA_c104 15 rfl)).trans (ewq34))] at h1; exact h1
              refine Ew_of (pc' := 111) (fun _ => x_iload rfl l109_5) ?_
              refine Ew_of (pc' := 112) (fun _ => x_aload_n rfl l109_0) ?_
              refine w_gT H (o := 0) (t := 11) rfl (H.perm 0 rfl) rfl rfl rfl rfl rfl rfl ?_
              refine Ew_of (pc' := 116) (fun _ => x_iload_n rfl l109_1) ?_
              refine w_lI H (o := 11) (n := 4) rfl (H.perm 11 rfl) rfl rfl (H.fix 11 rfl rfl) (show 0 ≤ a1 ∧ a1 < ((4 : Nat) : Int) by omega) (by decide) (fun v51 ev51 qv51 => ?_)
              have qv51 : (0 : Int) ≤ v51 ∧ v51 ≤ 65536 := qv51
              have ev51 : (w11) (a1) = v51 := (congrFun ((funext (hA_109 11 rfl)).trans ((funext (hA_c104 11 rfl)).trans ((funext (hA17 11 rfl)).trans ((funext (hA_54 11 rfl)).trans ((funext (hA_11 11 rfl)).trans (ew11)))))) (a1)).symm.trans ev51
              have hv116 := ev51
              have hc163 : ∀ (ls : rO) (σ : rS) (F_c163 : hF) (A_c163 : hA) , rlook ls 0 = some (.ref (D 0)) → rlook ls 3 = some (I (u1_3)) → rlook ls 4 = some (I (x109_4)) → HS σ0 σ D N F_c163 A_c163 → SF [] F_109 F_c163 → SA [] A_109 A_c163 → (((x109_5) ≥ (v51)) ∨ ((x109_5) < (v51) ∧ (x109_4) = (0))) → Ew 82 (d + 12) 163 ls [] σ c s Q := by
               as_aux_lemma =>
                intro  ls σ F_c163 A_c163  lc163_0 lc163_3 lc163_4 H hS_c163 hA_c163   jc163_0
                have hCM : CMB ((a2)) (sc ((w15)) 0 ((u1_3))) (sc ((w16)) 0 ((u3_2))) Dc (rwR ((w10)) ((w11)) ((a1))) ((x109_4)) := ⟨_, _, _, hrq2, by rcases (show ((x109_4) : Int) = 1 ∨ ((x109_4) : Int) = 0 by omega) with e | e; (exact .inl ⟨e, by rw [hln]; exact (j109_a e).1, rwR_in (by have := (j109_a e).1; omega) (fun k a b => (j109_a e).2 k a (by have := (j109_a e).1; omega))⟩); (exact .inr ⟨e, by rw [hln]; exact j109_b e⟩)⟩
                refine Ew_of (pc' := 164) (fun _ => x_iconst rfl) ?_
                refine Ew_of (pc' := 166) (fun _ => x_istore rfl) ?_
                have : CPY ((w11_14)) ((wq33)) 0 0 (0) := CPY_0
                suffices hl166 : ∀ (m : Nat), ∀ (ls : rO) (σ : rS) (F_166 : hF) (A_166 : hA) (x166_5 : Int), rlook ls 0 = some (.ref (D 0)) → rlook ls 3 = some (I (u1_3)) → rlook ls 4 = some (I (x109_4)) → rlook ls 5 = some (I (x166_5)) → HS σ0 σ D N F_166 A_166 → SF [] F_c163 F_166 → SA [15] A_c163 A_166 → ∀ w166_15 : Int → Int, A_166 15 = w166_15 → (inr (x166_5)) → ((0) ≤ (x166_5)) → ((x166_5) ≤ (0) ∨ (x166_5) ≤ ((u1_3))) → (CPY ((w11_14)) ((w166_15)) 0 0 ((x166_5))) → (((u1_3)) - (x166_5)).toNat = m → Ew 82 (d + 12) 166 ls [] σ c s Q from
                  hl166 _ _ σ _ _ (0) (rk_o (lc163_0) rfl rfl) (rk_o (lc163_3) rfl rfl) (rk_o (lc163_4) rfl rfl) (rk_s) H (SF_refl) (SA_refl)  (wq33) ((funext (hA_c163 15 rfl)).trans ((funext (hA_109 15 rfl)).trans ((funext (hA_c104 15 rfl)).trans (ewq34)))) (show inr (0) by omega) (show (0) ≤ (0) by omega) (show (0) ≤ (0) ∨ (0) ≤ ((u1_3)) by omega) (show CPY ((w11_14)) ((wq33)) 0 0 ((0)) by assumption) rfl
                as_aux_lemma =>
                intro m
                induction m using Nat.strongRecOn with
                | _ m ih166 =>
                  intro ls σ F_166 A_166 x166_5 l166_0 l166_3 l166_4 l166_5 H hS_166 hA_166  w166_15 ew166_15 j166_0 j166_1 j166_2 j166_3 hm166
                  have j166_c : CPY ((w11_14)) ((w166_15)) 0 0 ((x166_5)) := by assumption
                  refine Ew_of (pc' := 168) (fun _ => x_iload rfl l166_5) ?_
                  refine Ew_of (pc' := 169) (fun _ => x_iload_n rfl l166_3) ?_
                  refine w_icmpge (t := 198) rfl rfl (show inr (x166_5) by omega) (show inr (u1_3) by omega) (fun b52 => ?_) (fun b52 => ?_)
                  · have hou : sc ((w166_15)) 0 ((u1_3)) = sc ((w15)) 0 ((u1_3)) := (CPY_sc j166_c (by omega) (by omega)).trans hin
                    refine Ew_of (pc' := 199) (fun _ => x_aload_n rfl l166_0) ?_
                    refine w_gT H (o := 0) (t := 1) rfl (H.perm 0 rfl) rfl rfl rfl rfl rfl rfl ?_
                    refine Ew_of (pc' := 203) (fun _ => x_iload_n rfl l166_3) ?_
                    refine w_pI H (o := 1) rfl rfl (H.perm 1 rfl) rfl rfl rfl (fun _ => rfl) rfl (show (0 : Int) ≤ u1_3 ∧ u1_3 ≤ 65536 by omega) (fun σ H => ?_)
                    refine Ew_of (pc' := 207) (fun _ => x_aload_n rfl l166_0) ?_
                    refine w_gT H (o := 0) (t := 5) rfl (H.perm 0 rfl) rfl rfl rfl rfl rfl rfl ?_
                    refine Ew_of (pc' := 211) (fun _ => x_aload_n rfl l166_0) ?_
                    refine w_gT H (o := 0) (t := 13) rfl (H.perm 0 rfl) rfl rfl rfl rfl rfl rfl ?_
                    refine Ew_of (pc' := 215) (fun _ => x_iconst rfl) ?_
                    refine w_lI H (o := 13) (n := 5) rfl (H.perm 13 rfl) rfl rfl (H.fix 13 rfl rfl) (show 0 ≤ 0 ∧ 0 < ((5 : Nat) : Int) by omega) (by decide) (fun v53 ev53 qv53 => ?_)
                    have qv53 : (-2147483648 : Int) ≤ v53 ∧ v53 ≤ 2147483647 := qv53
                    have ev53 : (w54_13) (0) = v53 := (congrFun ((funext (hA_166 13 rfl)).trans ((funext (hA_c163 13 rfl)).trans ((funext (hA_109 13 rfl)).trans ((funext (hA_c104 13 rfl)).trans ((funext (hA17 13 rfl)).trans (ew54_13)))))) (0)).symm.trans ev53
                    have hk0 := ev53
                    refine w_pI H (o := 5) rfl rfl (H.perm 5 rfl) rfl rfl rfl (fun _ => rfl) rfl (show (-2147483648 : Int) ≤ v53 ∧ v53 ≤ 2147483647 by omega) (fun σ H => ?_)
                    refine Ew_of (pc' := 220) (fun _ => x_aload_n rfl l166_0) ?_
                    refine w_gT H (o := 0) (t := 5) rfl (H.perm 0 rfl) rfl rfl rfl rfl rfl rfl ?_
                    refine Ew_of (pc' := 224) (fun _ => x_aload_n rfl l166_0) ?_
                    refine w_gT H (o := 0) (t := 13) rfl (H.perm 0 rfl) rfl rfl rfl rfl rfl rfl ?_
                    refine Ew_of (pc' := 228) (fun _ => x_iconst rfl) ?_
                    refine w_lI H (o := 13) (n := 5) rfl (H.perm 13 rfl) rfl rfl (H.fix 13 rfl rfl) (show 0 ≤ 1 ∧ 1 < ((5 : Nat) : Int) by omega) (by decide) (fun v54 ev54 qv54 => ?_)
                    have qv54 : (-2147483648 : Int) ≤ v54 ∧ v54 ≤ 2147483647 := qv54
                    have ev54 : (w54_13) (1) = v54 := (congrFun ((funext (hA_166 13 rfl)).trans ((funext (hA_c163 13 rfl)).trans ((funext (hA_109 13 rfl)).trans ((funext (hA_c104 13 rfl)).trans ((funext (hA17 13 rfl)).trans (ew54_13)))))) (1)).symm.trans ev54
                    have hk1 := ev54
                    refine w_pI H (o := 5) rfl rfl (H.perm 5 rfl) rfl rfl rfl (fun _ => rfl) rfl (show (-2147483648 : Int) ≤ v54 ∧ v54 ≤ 2147483647 by omega) (fun σ H => ?_)
                    refine Ew_of (pc' := 233) (fun _ => x_aload_n rfl l166_0) ?_
                    refine w_gT H (o := 0) (t := 5) rfl (H.perm 0 rfl) rfl rfl rfl rfl rfl rfl ?_
                    refine Ew_of (pc' := 237) (fun _ => x_aload_n rfl l166_0) ?_
                    refine w_gT H (o := 0) (t := 13) rfl (H.perm 0 rfl) rfl rfl rfl rfl rfl rfl ?_
                    refine Ew_of (pc' := 241) (fun _ => x_iconst rfl) ?_
                    refine w_lI H (o := 13) (n := 5) rfl (H.perm 13 rfl) rfl rfl (H.fix 13 rfl rfl) (show 0 ≤ 2 ∧ 2 < ((5 : Nat) : Int) by omega) (by decide) (fun v55 ev55 qv55 => ?_)
                    have qv55 : (-2147483648 : Int) ≤ v55 ∧ v55 ≤ 2147483647 := qv55
                    have ev55 : (w54_13) (2) = v55 := (congrFun ((funext (hA_166 13 rfl)).trans ((funext (hA_c163 13 rfl)).trans ((funext (hA_109 13 rfl)).trans ((funext (hA_c104 13 rfl)).trans ((funext (hA17 13 rfl)).trans (ew54_13)))))) (2)).symm.trans ev55
                    have hk2 := ev55
                    refine w_pI H (o := 5) rfl rfl (H.perm 5 rfl) rfl rfl rfl (fun _ => rfl) rfl (show (-2147483648 : Int) ≤ v55 ∧ v55 ≤ 2147483647 by omega) (fun σ H => ?_)
                    refine Ew_of (pc' := 246) (fun _ => x_aload_n rfl l166_0) ?_
                    refine w_gT H (o := 0) (t := 5) rfl (H.perm 0 rfl) rfl rfl rfl rfl rfl rfl ?_
                    refine Ew_of (pc' := 250) (fun _ => x_aload_n rfl l166_0) ?_
                    refine w_gT H (o := 0) (t := 13) rfl (H.perm 0 rfl) rfl rfl rfl rfl rfl rfl ?_
                    refine Ew_of (pc' := 254) (fun _ => x_iconst rfl) ?_
                    refine w_lI H (o := 13) (n := 5) rfl (H.perm 13 rfl) rfl rfl (H.fix 13 rfl rfl) (show 0 ≤ 3 ∧ 3 < ((5 : Nat) : Int) by omega) (by decide) (fun v56 ev56 qv56 => ?_)
                    have qv56 : (-2147483648 : Int) ≤ v56 ∧ v56 ≤ 2147483647 := qv56
                    have ev56 : (w54_13) (3) = v56 := (congrFun ((funext (hA_166 13 rfl)).trans ((funext (hA_c163 13 rfl)).trans ((funext (hA_109 13 rfl)).trans ((funext (hA_c104 13 rfl)).trans ((funext (hA17 13 rfl)).trans (ew54_13)))))) (3)).symm.trans ev56
                    have hk3_ := ev56
                    refine w_pI H (o := 5) rfl rfl (H.perm 5 rfl) rfl rfl rfl (fun _ => rfl) rfl (show (0 : Int) ≤ v56 ∧ v56 ≤ 65536 by omega) (fun σ H => ?_)
                    refine Ew_of (pc' := 259) (fun _ => x_aload_n rfl l166_0) ?_
                    refine w_gT H (o := 0) (t := 5) rfl (H.perm 0 rfl) rfl rfl rfl rfl rfl rfl ?_
                    refine Ew_of (pc' := 263) (fun _ => x_aload_n rfl l166_0) ?_
                    refine w_gT H (o := 0) (t := 13) rfl (H.perm 0 rfl) rfl rfl rfl rfl rfl rfl ?_
                    refine Ew_of (pc' := 267) (fun _ => x_iconst rfl) ?_
                    refine w_lI H (o := 13) (n := 5) rfl (H.perm 13 rfl) rfl rfl (H.fix 13 rfl rfl) (show 0 ≤ 4 ∧ 4 < ((5 : Nat) : Int) by omega) (by decide) (fun v57 ev57 qv57 => ?_)
                    have qv57 : (-2147483648 : Int) ≤ v57 ∧ v57 ≤ 2147483647 := qv57
                    have ev57 : (w54_13) (4) = v57 := (congrFun ((funext (hA_166 13 rfl)).trans ((funext (hA_c163 13 rfl)).trans ((funext (hA_109 13 rfl)).trans ((funext (hA_c104 13 rfl)).trans ((funext (hA17 13 rfl)).trans (ew54_13)))))) (4)).symm.trans ev57
                    have hk4 := ev57
                    refine w_pI H (o := 5) rfl rfl (H.perm 5 rfl) rfl rfl rfl (fun _ => rfl) rfl (show (-2147483648 : Int) ≤ v57 ∧ v57 ≤ 2147483647 by omega) (fun σ H => ?_)
                    refine Ew_of (pc' := 273) (fun _ => x_iload rfl l166_4) ?_
                    have : sc ((w166_15)) 0 ((u1_3)) = sc ((w15)) 0 ((u1_3)) := hou
                    have : CMB ((a2)) (sc ((w15)) 0 ((u1_3))) (sc ((w16)) 0 ((u3_2))) Dc (rwR ((w10)) ((w11)) ((a1))) ((x109_4)) := hCM
                    have : ((v53), (v54), (v55), (v56), (v57)) = ((u5_32), (u5_33), (u5_34), (u5_27), (u5_36)) := by rw [show (v53) = (u5_32) by omega, show (v54) = (u5_33) by omega, show (v55) = (u5_34) by omega, show (v56) = (u5_27) by omega, show (v57) = (u5_36) by omega]
                    exact w_ireturn rfl (k (x109_4) σ _ _ H (SF_upd (SF_upd (SF_upd (SF_upd (SF_upd (SF_upd (SF_trans (SF_trans (SF_trans (SF_trans (SF_trans (SF_trans (SF_upd (SF_trans (SF_refl) hS_11 (any_sub rfl)) rfl) hS_54 (any_sub rfl)) hS16 (any_sub rfl)) hS_c104 (any_sub rfl)) hS_109 (any_sub rfl)) hS_c163 (any_sub rfl)) hS_166 (any_sub rfl)) rfl) rfl) rfl) rfl) rfl) rfl) (SA_trans (SA_trans (SA_trans (SA_trans (SA_trans (SA_trans (SA_trans (SA_refl) hA_11 (any_subA rfl)) hA_54 (any_subA rfl)) hA17 (any_subA rfl)) hA_c104 (any_subA rfl)) hA_109 (any_subA rfl)) hA_c163 (any_subA rfl)) hA_166 (any_subA rfl)) (u1_3) (rfl) (v56) (rfl) (v53) (rfl) (v54) (rfl) (v55) (rfl) (v57) (rfl) (w166_15) (ew166_15) (wq35) ((funext (hA_166 34 rfl)).trans ((funext (hA_c163 34 rfl)).trans ((funext (hA_109 34 rfl)).trans ((funext (hA_c104 34 rfl)).trans (ewq36))))) (wq37) ((funext (hA_166 35 rfl)).trans ((funext (hA_c163 35 rfl)).trans ((funext (hA_109 35 rfl)).trans ((funext (hA_c104 35 rfl)).trans (ewq38))))) (wq39) ((funext (hA_166 36 rfl)).trans ((funext (hA_c163 36 rfl)).trans ((funext (hA_109 36 rfl)).trans ((funext (hA_c104 36 rfl)).trans (ewq40))))) (wq41) ((funext (hA_166 37 rfl)).trans ((funext (hA_c163 37 rfl)).trans ((funext (hA_109 37 rfl)).trans ((funext (hA_c104 37 rfl)).trans (ewq42))))) (show (x109_4) = 0 ∨ (x109_4) = 1 by omega) (show RT ((wq37)) ((wq39)) ((wq41)) ((wq35)) by assumption) (show (u1_3) = (u1_3) by omega) (show sc ((w166_15)) 0 ((u1_3)) = sc ((w15)) 0 ((u1_3)) by assumption) (show CMB (a2) (sc ((w15)) 0 ((u1_3))) (sc ((w16)) 0 ((u3_2))) Dc (rwR ((w10)) ((w11)) (a1)) ((x109_4)) by assumption) (show ((v53), (v54), (v55), (v56), (v57)) = ((u5_32), (u5_33), (u5_34), (u5_27), (u5_36)) by assumption))
                  · refine Ew_of (pc' := 173) (fun _ => x_aload_n rfl l166_0) ?_
                    refine w_gT H (o := 0) (t := 1) rfl (H.perm 0 rfl) rfl rfl rfl rfl rfl rfl ?_
                    refine w_gT H (o := 1) (t := 15) rfl (H.perm 1 rfl) rfl rfl rfl rfl rfl rfl ?_
                    refine Ew_of (pc' := 181) (fun _ => x_iload rfl l166_5) ?_
                    refine Ew_of (pc' := 182) (fun _ => x_aload_n rfl l166_0) ?_
                    refine w_gT H (o := 0) (t := 1) rfl (H.perm 0 rfl) rfl rfl rfl rfl rfl rfl ?_
                    refine w_gT H (o := 1) (t := 14) rfl (H.perm 1 rfl) rfl rfl rfl rfl rfl rfl ?_
                    refine Ew_of (pc' := 190) (fun _ => x_iload rfl l166_5) ?_
                    refine w_lI H (o := 14) (n := 65536) rfl (H.perm 14 rfl) rfl rfl (H.fix 14 rfl rfl) (show 0 ≤ x166_5 ∧ x166_5 < ((65536 : Nat) : Int) by omega) (by decide) (fun v58 ev58 qv58 => ?_)
                    have qv58 : (0 : Int) ≤ v58 ∧ v58 ≤ 255 := qv58
                    have ev58 : (w11_14) (x166_5) = v58 := (congrFun ((funext (hA_166 14 rfl)).trans ((funext (hA_c163 14 rfl)).trans ((funext (hA_109 14 rfl)).trans ((funext (hA_c104 14 rfl)).trans ((funext (hA17 14 rfl)).trans ((funext (hA_54 14 rfl)).trans (ew11_14))))))) (x166_5)).symm.trans ev58
                    have hv190 := ev58
                    refine w_sI H (o := 15) (n := 65536) rfl (H.perm 15 rfl) rfl rfl (H.fix 15 rfl rfl) (show 0 ≤ x166_5 ∧ x166_5 < ((65536 : Nat) : Int) by omega) (by decide) (show (0 : Int) ≤ v58 ∧ v58 ≤ 255 by omega) (fun σ H => ?_)
                    refine Ew_of (pc' := 195) (fun _ => x_iinc (len := 3) rfl (l166_5)) ?_
                    refine Ew_of (pc' := 166) (fun _ => x_goto rfl rfl) ?_
                    have : CPY ((w11_14)) ((upd1 (w166_15) (x166_5) (v58))) 0 0 (((x166_5 + 1))) := CPY_s j166_c hv190 (by omega) (by omega) rfl
                    exact ih166 _ (by omega) _ σ _ _ ((x166_5 + 1)) (rk_o (l166_0) rfl rfl) (rk_o (l166_3) rfl rfl) (rk_o (l166_4) rfl rfl) (rk_s) H (hS_166) (SA_upd (hA_166) rfl)  (upd1 (w166_15) (x166_5) (v58)) (congrArg (fun q => upd1 q (x166_5) (v58)) (ew166_15)) (show inr ((x166_5 + 1)) by omega) (show (0) ≤ ((x166_5 + 1)) by omega) (show ((x166_5 + 1)) ≤ (0) ∨ ((x166_5 + 1)) ≤ ((u1_3)) by omega) (show CPY ((w11_14)) ((upd1 (w166_15) (x166_5) (v58))) 0 0 (((x166_5 + 1))) by assumption) rfl
              refine w_icmpge (t := 163) rfl rfl (show inr (x109_5) by omega) (show inr (v51) by omega) (fun b59 => ?_) (fun b59 => ?_)
              · exact hc163  _ σ _ _  (l109_0) (l109_3) (l109_4) H (SF_refl) (SA_refl)   (show ((x109_5) ≥ (v51)) ∨ ((x109_5) < (v51) ∧ (x109_4) = (0)) by omega)
              · refine Ew_of (pc' := 122) (fun _ => x_iload rfl l109_4) ?_
                refine w_ifeq (t := 163) rfl rfl (show inr (x109_4) by omega) (fun b60 => ?_) (fun b60 => ?_)
                · exact hc163  _ σ _ _  (l109_0) (l109_3) (l109_4) H (SF_refl) (SA_refl)   (show ((x109_5) ≥ (v51)) ∨ ((x109_5) < (v51) ∧ (x109_4) = (0)) by omega)
                · refine Ew_of (pc' := 126) (fun _ => x_aload_n rfl l109_0) ?_
                  refine w_gT H (o := 0) (t := 1) rfl (H.perm 0 rfl) rfl rfl rfl rfl rfl rfl ?_
                  refine w_gT H (o := 1) (t := 15) rfl (H.perm 1 rfl) rfl rfl rfl rfl rfl rfl ?_
                  refine Ew_of (pc' := 134) (fun _ => x_iload rfl l109_5) ?_
                  refine w_lI H (o := 15) (n := 65536) rfl (H.perm 15 rfl) rfl rfl (H.fix 15 rfl rfl) (show 0 ≤ x109_5 ∧ x109_5 < ((65536 : Nat) : Int) by omega) (by decide) (fun v61 ev61 qv61 => ?_)
                  have qv61 : (0 : Int) ≤ v61 ∧ v61 ≤ 255 := qv61
                  have ev61 : (wq33) (x109_5) = v61 := (congrFun ((funext (hA_109 15 rfl)).trans ((funext (hA_c104 15 rfl)).trans (ewq34))) (x109_5)).symm.trans ev61
                  have hv134 := ev61
                  have hr134 := hOu2 ((x109_5))
                  rw [hv134] at hr134
                  refine Ew_of (pc' := 136) (fun _ => x_aload_n rfl l109_0) ?_
                  refine w_gT H (o := 0) (t := 10) rfl (H.perm 0 rfl) rfl rfl rfl rfl rfl rfl ?_
                  refine Ew_of (pc' := 141) (fun _ => x_ldc (z := 65536) rfl (by decide)) ?_
                  refine Ew_of (pc' := 142) (fun _ => x_iload_n rfl l109_1) ?_
                  refine w_imul rfl ?_
                  refine Ew_of (pc' := 145) (fun _ => x_iload rfl l109_5) ?_
                  refine w_iadd rfl ?_
                  refine w_lI H (o := 10) (n := 262144) rfl (H.perm 10 rfl) rfl rfl (H.fix 10 rfl rfl) (show 0 ≤ ((65536 * a1) + x109_5) ∧ ((65536 * a1) + x109_5) < ((262144 : Nat) : Int) by omega) (by decide) (fun v62 ev62 qv62 => ?_)
                  have qv62 : (0 : Int) ≤ v62 ∧ v62 ≤ 255 := qv62
                  have ev62 : (w10) (((65536 * a1) + x109_5)) = v62 := (congrFun ((funext (hA_109 10 rfl)).trans ((funext (hA_c104 10 rfl)).trans ((funext (hA17 10 rfl)).trans ((funext (hA_54 10 rfl)).trans ((funext (hA_11 10 rfl)).trans (ew10)))))) (((65536 * a1) + x109_5))).symm.trans ev62
                  have hv146 := ev62
                  have hr146 := hRo (65536 * (a1) + (x109_5))
                  rw [hv146] at hr146
                  refine w_icmpne (t := 154) rfl rfl (show inr (v61) by omega) (show inr (v62) by omega) (fun b63 => ?_) (fun b63 => ?_)
                  · refine Ew_of (pc' := 155) (fun _ => x_iconst rfl) ?_
                    refine Ew_of (pc' := 157) (fun _ => x_istore rfl) ?_
                    refine Ew_of (pc' := 160) (fun _ => x_iinc (len := 3) rfl (rk_o (l109_5) rfl rfl)) ?_
                    refine Ew_of (pc' := 109) (fun _ => x_goto rfl rfl) ?_
                    have : IMP (((0) : Int) = 1) (qr = ((w11)) ((a1)) ∧ ∀ k, 0 ≤ k → k < ((x109_5 + 1)) → ((wq33)) k = ((w10)) (65536 * (a1) + k)) := fun q => ⟨(j109_a (by omega)).1, fun k a b => by by_cases e : k = x109_5; (rw [e, hv134, hv146]; omega); exact (j109_a (by omega)).2 k a (by omega)⟩
                    have : IMP (((0) : Int) = 0) (¬ (qr = ((w11)) ((a1)) ∧ sc ((wq33)) 0 ((y19)) = rwR ((w10)) ((w11)) ((a1)))) := fun q w => by have w1 := (j109_a (by omega)).1; exact rw_ne (k := x109_5) (by omega) (by omega) (by omega) hv134 hv146 (by omega) hr134 hr146 w.2
                    exact ih109 _ (by omega) _ σ _ _ (0) ((x109_5 + 1)) (rk_o (rk_o (l109_0) rfl rfl) rfl rfl) (rk_o (rk_o (l109_1) rfl rfl) rfl rfl) (rk_o (rk_o (l109_3) rfl rfl) rfl rfl) (rk_o (rk_s) rfl rfl) (rk_s) H (hS_109) (hA_109)   (show inr (0) by omega) (show inr ((x109_5 + 1)) by omega) (show (0) = 0 ∨ (0) = 1 by omega) (show 0 ≤ ((x109_5 + 1)) ∧ ((x109_5 + 1)) ≤ ((w11)) ((a1)) by omega) (show IMP (((0) : Int) = 1) (qr = ((w11)) ((a1)) ∧ ∀ k, 0 ≤ k → k < ((x109_5 + 1)) → ((wq33)) k = ((w10)) (65536 * (a1) + k)) by assumption) (show IMP (((0) : Int) = 0) (¬ (qr = ((w11)) ((a1)) ∧ sc ((wq33)) 0 ((y19)) = rwR ((w10)) ((w11)) ((a1)))) by assumption) rfl
                  · refine Ew_of (pc' := 151) (fun _ => x_iconst rfl) ?_
                    refine Ew_of (pc' := 155) (fun _ => x_goto rfl rfl) ?_
                    refine Ew_of (pc' := 157) (fun _ => x_istore rfl) ?_
                    refine Ew_of (pc' := 160) (fun _ => x_iinc (len := 3) rfl (rk_o (l109_5) rfl rfl)) ?_
                    refine Ew_of (pc' := 109) (fun _ => x_goto rfl rfl) ?_
                    have : IMP (((1) : Int) = 1) (qr = ((w11)) ((a1)) ∧ ∀ k, 0 ≤ k → k < ((x109_5 + 1)) → ((wq33)) k = ((w10)) (65536 * (a1) + k)) := fun q => ⟨(j109_a (by omega)).1, fun k a b => by by_cases e : k = x109_5; (rw [e, hv134, hv146]; omega); exact (j109_a (by omega)).2 k a (by omega)⟩
                    have : IMP (((1) : Int) = 0) (¬ (qr = ((w11)) ((a1)) ∧ sc ((wq33)) 0 ((y19)) = rwR ((w10)) ((w11)) ((a1)))) := fun q w => by have w1 := (j109_a (by omega)).1; exact rw_ne (k := x109_5) (by omega) (by omega) (by omega) hv134 hv146 (by omega) hr134 hr146 w.2
                    exact ih109 _ (by omega) _ σ _ _ (1) ((x109_5 + 1)) (rk_o (rk_o (l109_0) rfl rfl) rfl rfl) (rk_o (rk_o (l109_1) rfl rfl) rfl rfl) (rk_o (rk_o (l109_3) rfl rfl) rfl rfl) (rk_o (rk_s) rfl rfl) (rk_s) H (hS_109) (hA_109)   (show inr (1) by omega) (show inr ((x109_5 + 1)) by omega) (show (1) = 0 ∨ (1) = 1 by omega) (show 0 ≤ ((x109_5 + 1)) ∧ ((x109_5 + 1)) ≤ ((w11)) ((a1)) by omega) (show IMP (((1) : Int) = 1) (qr = ((w11)) ((a1)) ∧ ∀ k, 0 ≤ k → k < ((x109_5 + 1)) → ((wq33)) k = ((w10)) (65536 * (a1) + k)) by assumption) (show IMP (((1) : Int) = 0) (¬ (qr = ((w11)) ((a1)) ∧ sc ((wq33)) 0 ((y19)) = rwR ((w10)) ((w11)) ((a1)))) by assumption) rfl
          refine w_icmpne (t := 103) rfl rfl (show inr (z18) by omega) (show inr (v50) by omega) (fun b64 => ?_) (fun b64 => ?_)
          · refine Ew_of (pc' := 104) (fun _ => x_iconst rfl) ?_
            exact hc104 (0) _ σ _ _  (l54_0) (l54_1) (l54_3) H (SF_refl) (SA_refl)   (show inr (0) by omega) (show ((z18) ≠ (v50) ∧ (0) = (0)) ∨ ((z18) = (v50) ∧ (0) = (1)) by omega)
          · refine Ew_of (pc' := 100) (fun _ => x_iconst rfl) ?_
            refine Ew_of (pc' := 104) (fun _ => x_goto rfl rfl) ?_
            exact hc104 (1) _ σ _ _  (l54_0) (l54_1) (l54_3) H (SF_refl) (SA_refl)   (show inr (1) by omega) (show ((z18) ≠ (v50) ∧ (1) = (0)) ∨ ((z18) = (v50) ∧ (1) = (1)) by omega)
        · refine Ew_of (pc' := 61) (fun _ => x_aload_n rfl l54_0) ?_
          refine w_gT H (o := 0) (t := 13) rfl (H.perm 0 rfl) rfl rfl rfl rfl rfl rfl ?_
          refine Ew_of (pc' := 66) (fun _ => x_iload rfl l54_4) ?_
          refine Ew_of (pc' := 67) (fun _ => x_aload_n rfl l54_0) ?_
          refine Ew_of (pc' := 69) (fun _ => x_iload rfl l54_4) ?_
          refine w_inv H (o := 0) rfl rfl rfl (H.perm 0 rfl) rfl rfl (by rfl) (M83p H (u5_27) ((((hS_54 5 27 rfl).trans (hS_11 5 27 rfl)).trans (eu5_27))) (u5_32) ((((hS_54 5 32 rfl).trans (hS_11 5 32 rfl)).trans (eu5_32))) (u5_33) ((((hS_54 5 33 rfl).trans (hS_11 5 33 rfl)).trans (eu5_33))) (u5_34) ((((hS_54 5 34 rfl).trans (hS_11 5 34 rfl)).trans (eu5_34))) (u5_36) ((((hS_54 5 36 rfl).trans (hS_11 5 36 rfl)).trans (eu5_36))) (show inr (x54_4) by omega) (fun z69 σ F65 A66 H hS67 hA68 pz69_0 pz69_1 pz69_2 => ⟨rfl, ?_⟩))
          have hst := pz69_2
          refine w_sI H (o := 13) (n := 5) rfl (H.perm 13 rfl) rfl rfl (H.fix 13 rfl rfl) (show 0 ≤ x54_4 ∧ x54_4 < ((5 : Nat) : Int) by omega) (by decide) (show (-2147483648 : Int) ≤ z69 ∧ z69 ≤ 2147483647 by omega) (fun σ H => ?_)
          refine Ew_of (pc' := 76) (fun _ => x_iinc (len := 3) rfl (l54_4)) ?_
          refine Ew_of (pc' := 54) (fun _ => x_goto rfl rfl) ?_
          have hk3 : 3 < ((x54_4 + 1)) → 0 ≤ ((upd1 (w54_13) (x54_4) (z69))) 3 ∧ ((upd1 (w54_13) (x54_4) (z69))) 3 ≤ 65536 := by simp only [upd1]; omega
          have : IMP ((0 : Int) < ((x54_4 + 1))) (((upd1 (w54_13) (x54_4) (z69))) 0 = (u5_32)) := fun q => by rcases (show x54_4 = 0 ∨ 0 < x54_4 by omega) with e | e; (rw [e, upd1_s]; omega); (rw [upd1_o (by omega)]; exact j54_0 e)
          have : IMP ((1 : Int) < ((x54_4 + 1))) (((upd1 (w54_13) (x54_4) (z69))) 1 = (u5_33)) := fun q => by rcases (show x54_4 = 1 ∨ 1 < x54_4 by omega) with e | e; (rw [e, upd1_s]; omega); (rw [upd1_o (by omega)]; exact j54_1 e)
          have : IMP ((2 : Int) < ((x54_4 + 1))) (((upd1 (w54_13) (x54_4) (z69))) 2 = (u5_34)) := fun q => by rcases (show x54_4 = 2 ∨ 2 < x54_4 by omega) with e | e; (rw [e, upd1_s]; omega); (rw [upd1_o (by omega)]; exact j54_2 e)
          have : IMP ((3 : Int) < ((x54_4 + 1))) (((upd1 (w54_13) (x54_4) (z69))) 3 = (u5_27)) := fun q => by rcases (show x54_4 = 3 ∨ 3 < x54_4 by omega) with e | e; (rw [e, upd1_s]; omega); (rw [upd1_o (by omega)]; exact j54_3 e)
          have : IMP ((4 : Int) < ((x54_4 + 1))) (((upd1 (w54_13) (x54_4) (z69))) 4 = (u5_36)) := fun q => by rcases (show x54_4 = 4 ∨ 4 < x54_4 by omega) with e | e; (rw [e, upd1_s]; omega); (rw [upd1_o (by omega)]; exact j54_4 e)
          exact ih54 _ (by omega) _ σ _ _ ((x54_4 + 1)) (rk_o (l54_0) rfl rfl) (rk_o (l54_1) rfl rfl) (rk_o (l54_2) rfl rfl) (rk_o (l54_3) rfl rfl) (rk_s) H (SF_trans (hS_54) hS67 (any_sub rfl)) (SA_upd (SA_trans (hA_54) hA68 (any_subA rfl)) rfl)  (upd1 (w54_13) (x54_4) (z69)) (congrArg (fun q => upd1 q (x54_4) (z69)) ((funext (hA68 13 rfl)).trans (ew54_13))) (show inr ((x54_4 + 1)) by omega) (show (0) ≤ ((x54_4 + 1)) by omega) (show ((x54_4 + 1)) ≤ (0) ∨ ((x54_4 + 1)) ≤ (5) by omega) (show 3 < ((x54_4 + 1)) → 0 ≤ ((upd1 (w54_13) (x54_4) (z69))) 3 ∧ ((upd1 (w54_13) (x54_4) (z69))) 3 ≤ 65536 by omega) (show IMP ((0 : Int) < ((x54_4 + 1))) (((upd1 (w54_13) (x54_4) (z69))) 0 = (u5_32)) by assumption) (show IMP ((1 : Int) < ((x54_4 + 1))) (((upd1 (w54_13) (x54_4) (z69))) 1 = (u5_33)) by assumption) (show IMP ((2 : Int) < ((x54_4 + 1))) (((upd1 (w54_13) (x54_4) (z69))) 2 = (u5_34)) by assumption) (show IMP ((3 : Int) < ((x54_4 + 1))) (((upd1 (w54_13) (x54_4) (z69))) 3 = (u5_27)) by assumption) (show IMP ((4 : Int) < ((x54_4 + 1))) (((upd1 (w54_13) (x54_4) (z69))) 4 = (u5_36)) by assumption) rfl
    · refine Ew_of (pc' := 18) (fun _ => x_aload_n rfl l11_0) ?_
      refine w_gT H (o := 0) (t := 1) rfl (H.perm 0 rfl) rfl rfl rfl rfl rfl rfl ?_
      refine w_gT H (o := 1) (t := 14) rfl (H.perm 1 rfl) rfl rfl rfl rfl rfl rfl ?_
      refine Ew_of (pc' := 26) (fun _ => x_iload rfl l11_4) ?_
      refine Ew_of (pc' := 27) (fun _ => x_aload_n rfl l11_0) ?_
      refine w_gT H (o := 0) (t := 1) rfl (H.perm 0 rfl) rfl rfl rfl rfl rfl rfl ?_
      refine w_gT H (o := 1) (t := 15) rfl (H.perm 1 rfl) rfl rfl rfl rfl rfl rfl ?_
      refine Ew_of (pc' := 35) (fun _ => x_iload rfl l11_4) ?_
      have hv35x := hOu ((x11_4))
      refine w_lI H (o := 15) (n := 65536) rfl (H.perm 15 rfl) rfl rfl (H.fix 15 rfl rfl) (show 0 ≤ x11_4 ∧ x11_4 < ((65536 : Nat) : Int) by omega) (by decide) (fun v70 ev70 qv70 => ?_)
      have qv70 : (0 : Int) ≤ v70 ∧ v70 ≤ 255 := qv70
      have ev70 : (w15) (x11_4) = v70 := (congrFun ((funext (hA_11 15 rfl)).trans (ew15)) (x11_4)).symm.trans ev70
      have hv35 := ev70
      refine w_sI H (o := 14) (n := 65536) rfl (H.perm 14 rfl) rfl rfl (H.fix 14 rfl rfl) (show 0 ≤ x11_4 ∧ x11_4 < ((65536 : Nat) : Int) by omega) (by decide) (show (0 : Int) ≤ v70 ∧ v70 ≤ 255 by omega) (fun σ H => ?_)
      refine Ew_of (pc' := 40) (fun _ => x_iinc (len := 3) rfl (l11_4)) ?_
      refine Ew_of (pc' := 11) (fun _ => x_goto rfl rfl) ?_
      have : CPY ((w15)) ((upd1 (w11_14) (x11_4) (v70))) 0 0 (((x11_4 + 1))) := CPY_s j11_c hv35 (by omega) (by omega) rfl
      exact ih11 _ (by omega) _ σ _ _ ((x11_4 + 1)) (rk_o (l11_0) rfl rfl) (rk_o (l11_1) rfl rfl) (rk_o (l11_2) rfl rfl) (rk_o (l11_3) rfl rfl) (rk_s) H (hS_11) (SA_upd (hA_11) rfl)  (upd1 (w11_14) (x11_4) (v70)) (congrArg (fun q => upd1 q (x11_4) (v70)) (ew11_14)) (show inr ((x11_4 + 1)) by omega) (show (0) ≤ ((x11_4 + 1)) by omega) (show ((x11_4 + 1)) ≤ (0) ∨ ((x11_4 + 1)) ≤ ((u1_3)) by omega) (show CPY ((w15)) ((upd1 (w11_14) (x11_4) (v70))) 0 0 (((x11_4 + 1))) by assumption) rfl
