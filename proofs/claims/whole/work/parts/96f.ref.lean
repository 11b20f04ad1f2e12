set_option maxHeartbeats 16000000 in
/-- Writer.make -/
theorem M454 {σ0 σ : rS} {D N : Nat → Nat} {F : hF} {A : hA} {d c s : Nat} {Q : wQ} (H : HS σ0 σ D N F A) {a1 : Int} (u1_1 : Int) (eu1_1 : F 1 1 = u1_1) (u6_1 : Int) (eu6_1 : F 6 1 = u6_1) (u6_2 : Int) (eu6_2 : F 6 2 = u6_2) (u6_35 : Int) (eu6_35 : F 6 35 = u6_35) (w14 : Int → Int) (ew14 : A 14 = w14) (w69 : Int → Int) (ew69 : A 69 = w69) (h0 : inr (a1)) (h1 : 0 ≤ (u1_1) ∧ (u1_1) ≤ 16384) (h2 : 3 ≤ (u6_2)) (h3 : (u6_2) ≤ 8 ∧ 0 ≤ (u6_1) ∧ (u6_1) ≤ 3) (k : ∀ (z : Int) σ F' A', HS σ0 σ D N F' A' → SF [(1, 3), (6, 22), (6, 23), (6, 24), (6, 28), (6, 30), (6, 35), (6, 37), (6, 49), (6, 53)] F F' → SA [15, 56, 61, 62, 63, 64, 65, 66, 67, 68, 69, 70, 71, 72, 73, 74, 75, 76, 77, 78, 79, 80, 81, 82, 84] A A' → ∀ y1_3 : Int, F' 1 3 = y1_3 → ∀ y6_35 : Int, F' 6 35 = y6_35 → ∀ v15 : Int → Int, A' 15 = v15 → ∀ v69 : Int → Int, A' 69 = v69 → (inr (z)) → (-1 ≤ (z) ∧ (z) ≤ 65536) → (IMP (MDX ((w69)) ((u6_35))) (MKD (mkF ((a1)) (sc ((w14)) 0 ((u1_1))) ((u6_2)) ((u6_1))) ((z)) ((y1_3)) ((v15)) ∧ MDX ((v69)) ((y6_35)))) → Q (some (I z)) σ c s) : Ew 454 (d + 5) 0 (rargs 0 [.ref (D 6), I a1]) [] σ c s Q := by
  have r1 : (0 : Int) ≤ u1_1 ∧ u1_1 ≤ 65536 := by have h1 : (0 : Int) ≤ F 1 1 ∧ F 1 1 ≤ 65536 := H.frng 1 1; rw [show F 1 1 = u1_1 from (eu1_1)] at h1; exact h1
  have r2 : (0 : Int) ≤ u6_1 ∧ u6_1 ≤ 3 := by have h1 : (0 : Int) ≤ F 6 1 ∧ F 6 1 ≤ 3 := H.frng 6 1; rw [show F 6 1 = u6_1 from (eu6_1)] at h1; exact h1
  have r3 : (0 : Int) ≤ u6_2 ∧ u6_2 ≤ 8 := by have h1 : (0 : Int) ≤ F 6 2 ∧ F 6 2 ≤ 8 := H.frng 6 2; rw [show F 6 2 = u6_2 from (eu6_2)] at h1; exact h1
  have r4 : (0 : Int) ≤ u6_35 ∧ u6_35 ≤ 100000000 := by have h1 : (0 : Int) ≤ F 6 35 ∧ F 6 35 ≤ 100000000 := H.frng 6 35; rw [show F 6 35 = u6_35 from (eu6_35)] at h1; exact h1
  refine Ew_of (pc' := 1) (fun _ => x_aload_n rfl rfl) ?_
  refine w_gT H (o := 6) (t := 1) rfl (H.perm 6 rfl) rfl rfl rfl rfl rfl rfl ?_
  refine w_gI H (o := 1) (w := u1_1) rfl (H.perm 1 rfl) rfl rfl rfl (fun _ => rfl) (eu1_1) ?_
  refine Ew_of (pc' := 9) (fun _ => x_bipush (z := 8) rfl (by decide)) ?_
  refine w_icmpge (t := 14) rfl rfl (show inr (u1_1) by omega) (show inr (8) by omega) (fun b5 => ?_) (fun b5 => ?_)
  · refine Ew_of (pc' := 15) (fun _ => x_aload_n rfl rfl) ?_
    refine Ew_of (pc' := 17) (fun _ => x_ldc (z := 65536) rfl (by decide)) ?_
    refine w_pI H (o := 6) rfl rfl (H.perm 6 rfl) rfl rfl rfl (fun _ => rfl) rfl (show (0 : Int) ≤ 65536 ∧ 65536 ≤ 16777216 by omega) (fun σ H => ?_)
    refine Ew_of (pc' := 21) (fun _ => x_aload_n rfl rfl) ?_
    refine Ew_of (pc' := 22) (fun _ => x_aload_n rfl rfl) ?_
    refine w_gT H (o := 6) (t := 1) rfl (H.perm 6 rfl) rfl rfl rfl rfl rfl rfl ?_
    refine w_gI H (o := 1) (w := u1_1) rfl (H.perm 1 rfl) rfl rfl rfl (fun _ => rfl) (eu1_1) ?_
    refine w_pI H (o := 6) rfl rfl (H.perm 6 rfl) rfl rfl rfl (fun _ => rfl) rfl (show (0 : Int) ≤ u1_1 ∧ u1_1 ≤ 16384 by omega) (fun σ H => ?_)
    refine Ew_of (pc' := 32) (fun _ => x_iconst rfl) ?_
    refine Ew_of (pc' := 33) (fun _ => x_istore_n rfl) ?_
    have : ∀ i, 0 ≤ i → i < 0 → ((A 61)) i = ((w14)) i := fun i a b => absurd b (by omega)
    suffices hl33 : ∀ (m : Nat), ∀ (ls : rO) (σ : rS) (F_33 : hF) (A_33 : hA) (x33_2 : Int), rlook ls 0 = some (.ref (D 6)) → rlook ls 1 = some (I (a1)) → rlook ls 2 = some (I (x33_2)) → HS σ0 σ D N F_33 A_33 → SF [] (updF (updF F 6 24 (65536)) 6 22 (u1_1)) F_33 → SA [61] A A_33 → ∀ w33_61 : Int → Int, A_33 61 = w33_61 → (inr (x33_2)) → ((0) ≤ (x33_2)) → ((x33_2) ≤ (0) ∨ (x33_2) ≤ ((u1_1))) → (0 ≤ (x33_2) ∧ (x33_2) ≤ (u1_1)) → (∀ i, 0 ≤ i → i < (x33_2) → ((w33_61)) i = ((w14)) i) → (((u1_1)) - (x33_2)).toNat = m → Ew 454 (d + 5) 33 ls [] σ c s Q from
      hl33 _ _ σ _ _ (0) (rk_o (rfl) rfl rfl) (rk_o (rfl) rfl rfl) (rk_s) H (SF_refl) (SA_refl)  (A 61) (rfl) (show inr (0) by omega) (show (0) ≤ (0) by omega) (show (0) ≤ (0) ∨ (0) ≤ ((u1_1)) by omega) (show 0 ≤ (0) ∧ (0) ≤ (u1_1) by omega) (show ∀ i, 0 ≤ i → i < (0) → ((A 61)) i = ((w14)) i by assumption) rfl
    as_aux_lemma =>
    intro m
    induction m using Nat.strongRecOn with
    | _ m ih33 =>
      intro ls σ F_33 A_33 x33_2 l33_0 l33_1 l33_2 H hS_33 hA_33  w33_61 ew33_61 j33_0 j33_1 j33_2 j33_3 j33_4 hm33
      have j33_c : ∀ i, 0 ≤ i → i < (x33_2) → ((w33_61)) i = ((w14)) i := by assumption
      obtain ⟨qd, hqd⟩ : ∃ q : Int, q = (x33_2) := ⟨_, rfl⟩
      refine Ew_of (pc' := 34) (fun _ => x_iload_n rfl l33_2) ?_
      refine Ew_of (pc' := 35) (fun _ => x_aload_n rfl l33_0) ?_
      refine w_gT H (o := 6) (t := 1) rfl (H.perm 6 rfl) rfl rfl rfl rfl rfl rfl ?_
      refine w_gI H (o := 1) (w := u1_1) rfl (H.perm 1 rfl) rfl rfl rfl (fun _ => rfl) ((hS_33 1 1 rfl).trans (eu1_1)) ?_
      refine w_icmpge (t := 65) rfl rfl (show inr (x33_2) by omega) (show inr (u1_1) by omega) (fun b6 => ?_) (fun b6 => ?_)
      · have hDD : sc ((w33_61)) 0 ((u1_1)) = sc ((w14)) 0 ((u1_1)) := sc_same (fun i a b => j33_c i a (by omega))
        have hBd : ∀ i, (0 : Int) ≤ (w33_61) i ∧ (w33_61) i ≤ 255 := fun i => by have h1 : (0 : Int) ≤ A_33 61 i ∧ A_33 61 i ≤ 255 := H.arng 61 i; rw [show A_33 61 = w33_61 from ew33_61] at h1; exact h1
        refine Ew_of (pc' := 66) (fun _ => x_aload_n rfl l33_0) ?_
        refine Ew_of (pc' := 67) (fun _ => x_iconst rfl) ?_
        refine w_inv H (o := 6) rfl rfl rfl (H.perm 6 rfl) rfl rfl (by rfl) (M399b H (u6_1) (((hS_33 6 1 rfl).trans (eu6_1))) (u6_2) (((hS_33 6 2 rfl).trans (eu6_2))) (u1_1) ((hS_33 6 22 rfl)) (65536) ((hS_33 6 24 rfl)) (w33_61) (ew33_61) (show inr (0) by omega) (show 0 ≤ (0) ∧ (0) ≤ (u1_1) by omega) (show 0 ≤ (u1_1) ∧ (u1_1) ≤ 16384 by omega) (show 3 ≤ (u6_2) ∧ (u6_2) ≤ 8 by omega) (show 0 ≤ (u6_1) ∧ (u6_1) ≤ 3 by omega) (fun σ F7 A8 H hS9 hA10 y12 ey13 y14 ey15 wq16 ewq17 wq18 ewq19 wq20 ewq21 wq22 ewq23 pz11_0 pz11_1 pz11_2 => ⟨rfl, ?_⟩))
        have r24 : (0 : Int) ≤ y12 ∧ y12 ≤ 8001 := by have h1 : (0 : Int) ≤ F7 6 28 ∧ F7 6 28 ≤ 8001 := H.frng 6 28; rw [show F7 6 28 = y12 from (ey13)] at h1; exact h1
        have r25 : (0 : Int) ≤ y14 ∧ y14 ≤ 16385 := by have h1 : (0 : Int) ≤ F7 6 30 ∧ F7 6 30 ≤ 16385 := H.frng 6 30; rw [show F7 6 30 = y14 from (ey15)] at h1; exact h1
        have hGR := pz11_1
        have hgo := pz11_2
        have : ∀ j, 0 ≤ j → j < (y12) → 3 ≤ ((wq18)) j := hgo.1
        have hGQ := GOR_q (by omega) hGR hDD (by omega) (by omega) (BYI_u hBd)
        have hBl : ∀ i, (0 : Int) ≤ (wq22) i ∧ (wq22) i ≤ 255 := fun i => by have h1 : (0 : Int) ≤ A8 65 i ∧ A8 65 i ≤ 255 := H.arng 65 i; rw [show A8 65 = wq22 from ewq23] at h1; exact h1
        have hLT := lit_e (T := (ltQ (sc ((w14)) 0 ((u1_1))) 65536 ((u6_2)) ((u6_1)) 0)) hGQ.2.symm (by omega) (fun k _ _ => by have := hBl k; omega)
        have hQn : ((qsF (sc ((w14)) 0 ((u1_1))) 65536 ((u6_2)) ((u6_1)) 0).1.length : Int) = (y12) := by rw [hGQ.1, sq_len]; omega
        refine Ew_of (pc' := 71) (fun _ => x_aload_n rfl l33_0) ?_
        refine w_gI H (o := 6) (w := y12) rfl (H.perm 6 rfl) rfl rfl rfl (fun _ => rfl) (ey13) ?_
        refine w_ifeq (t := 92) rfl rfl (show inr (y12) by omega) (fun b26 => ?_) (fun b26 => ?_)
        · have r27 : (0 : Int) ≤ F 1 3 ∧ F 1 3 ≤ 65536 := by have h1 : (0 : Int) ≤ F7 1 3 ∧ F7 1 3 ≤ 65536 := H.frng 1 3; rw [show F7 1 3 = F 1 3 from ((hS9 1 3 rfl).trans (hS_33 1 3 rfl))] at h1; exact h1
          have : IMP (MDX ((w69)) ((u6_35))) (MKD (mkF ((a1)) (sc ((w14)) 0 ((u1_1))) ((u6_2)) ((u6_1))) (-1) ((F 1 3)) ((A 15)) ∧ MDX ((w69)) ((u6_35))) := fun q => ⟨MKD_n (by first | exact .inr (.inl (by rw [hQn]; omega)) | exact .inr (.inr (.inl (by rw [hLT.1]; omega))) | exact .inr (.inr (.inr (.inl (by rw [hLT.1]; exact ALK_cg (fun k a b => (hLT.2 k a b).1.symm) (pzMISS_3 (by omega))))))) rfl, q⟩
          refine Ew_of (pc' := 93) (fun _ => x_iconst rfl) ?_
          exact w_ireturn rfl (k ((-1)) σ _ _ H (SF_trans (SF_trans (SF_upd (SF_upd (SF_refl) rfl) rfl) hS_33 (any_sub rfl)) hS9 (any_sub rfl)) (SA_trans (SA_trans (SA_refl) hA_33 (any_subA rfl)) hA10 (any_subA rfl)) (F 1 3) (((hS9 1 3 rfl).trans (hS_33 1 3 rfl))) (u6_35) ((((hS9 6 35 rfl).trans (hS_33 6 35 rfl)).trans (eu6_35))) (A 15) ((funext (hA10 15 rfl)).trans (funext (hA_33 15 rfl))) (w69) ((funext (hA10 69 rfl)).trans ((funext (hA_33 69 rfl)).trans (ew69))) (show inr ((-1)) by omega) (show -1 ≤ ((-1)) ∧ ((-1)) ≤ 65536 by omega) (show IMP (MDX ((w69)) ((u6_35))) (MKD (mkF (a1) (sc ((w14)) 0 ((u1_1))) ((u6_2)) ((u6_1))) (((-1))) ((F 1 3)) ((A 15)) ∧ MDX ((w69)) ((u6_35))) by assumption))
        · refine Ew_of (pc' := 78) (fun _ => x_aload_n rfl l33_0) ?_
          refine w_gI H (o := 6) (w := y14) rfl (H.perm 6 rfl) rfl rfl rfl (fun _ => rfl) (ey15) ?_
          refine Ew_of (pc' := 82) (fun _ => x_iconst rfl) ?_
          refine w_icmplt (t := 92) rfl rfl (show inr (y14) by omega) (show inr (2) by omega) (fun b28 => ?_) (fun b28 => ?_)
          · have r29 : (0 : Int) ≤ F 1 3 ∧ F 1 3 ≤ 65536 := by have h1 : (0 : Int) ≤ F7 1 3 ∧ F7 1 3 ≤ 65536 := H.frng 1 3; rw [show F7 1 3 = F 1 3 from ((hS9 1 3 rfl).trans (hS_33 1 3 rfl))] at h1; exact h1
            have : IMP (MDX ((w69)) ((u6_35))) (MKD (mkF ((a1)) (sc ((w14)) 0 ((u1_1))) ((u6_2)) ((u6_1))) (-1) ((F 1 3)) ((A 15)) ∧ MDX ((w69)) ((u6_35))) := fun q => ⟨MKD_n (by first | exact .inr (.inl (by rw [hQn]; omega)) | exact .inr (.inr (.inl (by rw [hLT.1]; omega))) | exact .inr (.inr (.inr (.inl (by rw [hLT.1]; exact ALK_cg (fun k a b => (hLT.2 k a b).1.symm) (pzMISS_3 (by omega))))))) rfl, q⟩
            refine Ew_of (pc' := 93) (fun _ => x_iconst rfl) ?_
            exact w_ireturn rfl (k ((-1)) σ _ _ H (SF_trans (SF_trans (SF_upd (SF_upd (SF_refl) rfl) rfl) hS_33 (any_sub rfl)) hS9 (any_sub rfl)) (SA_trans (SA_trans (SA_refl) hA_33 (any_subA rfl)) hA10 (any_subA rfl)) (F 1 3) (((hS9 1 3 rfl).trans (hS_33 1 3 rfl))) (u6_35) ((((hS9 6 35 rfl).trans (hS_33 6 35 rfl)).trans (eu6_35))) (A 15) ((funext (hA10 15 rfl)).trans (funext (hA_33 15 rfl))) (w69) ((funext (hA10 69 rfl)).trans ((funext (hA_33 69 rfl)).trans (ew69))) (show inr ((-1)) by omega) (show -1 ≤ ((-1)) ∧ ((-1)) ≤ 65536 by omega) (show IMP (MDX ((w69)) ((u6_35))) (MKD (mkF (a1) (sc ((w14)) 0 ((u1_1))) ((u6_2)) ((u6_1))) (((-1))) ((F 1 3)) ((A 15)) ∧ MDX ((w69)) ((u6_35))) by assumption))
          · refine Ew_of (pc' := 86) (fun _ => x_aload_n rfl l33_0) ?_
            refine w_inv H (o := 6) rfl rfl rfl (H.perm 6 rfl) rfl rfl (by rfl) (M432 H (y14) ((ey15)) (wq22) (ewq23)  (fun z34 σ F30 A31 H hS32 hA33 pz34_0 pz34_1 pz34_2 pz34_3 => ⟨rretB rfl pz34_0, ?_⟩))
            refine w_ifeq (t := 94) rfl rfl (show inr (z34) by omega) (fun b35 => ?_) (fun b35 => ?_)
            · have hdf : DIFF ((wq22)) ((y14)) := by rcases pz34_2 (by omega) with q | q; omega; exact q
              refine Ew_of (pc' := 95) (fun _ => x_iconst rfl) ?_
              refine Ew_of (pc' := 96) (fun _ => x_istore_n rfl) ?_
              have : ∀ t, 0 ≤ t → t < 0 → ((A 56)) t = if t = 0 then 1 else 4 * t := fun t a b => absurd b (by omega)
              suffices hl96 : ∀ (m : Nat), ∀ (ls : rO) (σ : rS) (F_96 : hF) (A_96 : hA) (x96_2 : Int), rlook ls 0 = some (.ref (D 6)) → rlook ls 1 = some (I (a1)) → rlook ls 2 = some (I (x96_2)) → HS σ0 σ D N F_96 A_96 → SF [] F30 F_96 → SA [56] A31 A_96 → ∀ w96_56 : Int → Int, A_96 56 = w96_56 → (inr (x96_2)) → ((0) ≤ (x96_2)) → ((x96_2) ≤ (0) ∨ (x96_2) ≤ (3)) → (0 ≤ (x96_2) ∧ (x96_2) ≤ 3) → (∀ t, 0 ≤ t → t < (x96_2) → ((w96_56)) t = if t = 0 then 1 else 4 * t) → ((3) - (x96_2)).toNat = m → Ew 454 (d + 5) 96 ls [] σ c s Q from
                hl96 _ _ σ _ _ (0) (rk_o (l33_0) rfl rfl) (rk_o (l33_1) rfl rfl) (rk_s) H (SF_refl) (SA_refl)  (A 56) ((funext (hA33 56 rfl)).trans ((funext (hA10 56 rfl)).trans (funext (hA_33 56 rfl)))) (show inr (0) by omega) (show (0) ≤ (0) by omega) (show (0) ≤ (0) ∨ (0) ≤ (3) by omega) (show 0 ≤ (0) ∧ (0) ≤ 3 by omega) (show ∀ t, 0 ≤ t → t < (0) → ((A 56)) t = if t = 0 then 1 else 4 * t by assumption) rfl
              as_aux_lemma =>
              intro m
              induction m using Nat.strongRecOn with
              | _ m ih96 =>
                intro ls σ F_96 A_96 x96_2 l96_0 l96_1 l96_2 H hS_96 hA_96  w96_56 ew96_56 j96_0 j96_1 j96_2 j96_3 j96_4 hm96
                have j96_l : ∀ t, 0 ≤ t → t < (x96_2) → ((w96_56)) t = if t = 0 then 1 else 4 * t := by assumption
                obtain ⟨qd, hqd⟩ : ∃ q : Int, q = (x96_2) := ⟨_, rfl⟩
                refine Ew_of (pc' := 97) (fun _ => x_iload_n rfl l96_2) ?_
                refine Ew_of (pc' := 98) (fun _ => x_iconst rfl) ?_
                refine w_icmpge (t := 124) rfl rfl (show inr (x96_2) by omega) (show inr (3) by omega) (fun b36 => ?_) (fun b36 => ?_)
                · have hl40 := j96_l 0 (by omega) (by omega)
                  have hl41 := j96_l 1 (by omega) (by omega)
                  have hl42 := j96_l 2 (by omega) (by omega)
                  rw [if_pos rfl] at hl40
                  rw [if_neg (by decide)] at hl41 hl42
                  refine Ew_of (pc' := 125) (fun _ => x_aload_n rfl l96_0) ?_
                  refine w_inv H (o := 6) rfl rfl rfl (H.perm 6 rfl) rfl rfl (by rfl) (M404b H (y12) ((((hS_96 6 28 rfl).trans (hS32 6 28 rfl)).trans (ey13))) (w96_56) (ew96_56) (wq16) ((funext (hA_96 62 rfl)).trans ((funext (hA33 62 rfl)).trans (ewq17))) (wq18) ((funext (hA_96 63 rfl)).trans ((funext (hA33 63 rfl)).trans (ewq19))) (wq20) ((funext (hA_96 64 rfl)).trans ((funext (hA33 64 rfl)).trans (ewq21))) (show ∀ j, 0 ≤ j → j < (y12) → 3 ≤ ((wq18)) j by assumption) (fun σ F37 A38 H hS39 hA40 wq42 ewq43 wq44 ewq45 wq46 ewq47 wq48 ewq49 pz41_0 pz41_1 => ⟨rfl, ?_⟩))
                  have htl : TLI ((wq44)) ((wq46)) ((wq16)) ((wq18)) ((y12)) := by assumption
                  have hTL := pz41_1 ⟨⟨by omega, by omega, by omega⟩, GOR_d (by omega) hGR⟩
                  have hTW := hTL.1
                  rw [hl40, hl41, hl42, show (4 : Int) * 1 = 4 by decide, show (4 : Int) * 2 = 8 by decide] at hTW
                  refine Ew_of (pc' := 129) (fun _ => x_aload_n rfl l96_0) ?_
                  refine w_inv H (o := 6) rfl rfl rfl (H.perm 6 rfl) rfl rfl (by rfl) (M420 H (y14) (((((hS39 6 30 rfl).trans (hS_96 6 30 rfl)).trans (hS32 6 30 rfl)).trans (ey15))) (wq22) ((funext (hA40 65 rfl)).trans ((funext (hA_96 65 rfl)).trans ((funext (hA33 65 rfl)).trans (ewq23)))) (show DIFF ((wq22)) ((y14)) by assumption) (fun z54 σ F50 A51 H hS52 hA53 wq55 ewq56 pz54_0 pz54_1 pz54_2 pz54_3 pz54_4 pz54_5 => ⟨rfl, ?_⟩))
                  have hgd := hfG_of pz54_4
                  have hte := pz54_5
                  refine Ew_of (pc' := 133) (fun _ => x_istore_n rfl) ?_
                  refine Ew_of (pc' := 134) (fun _ => x_aload_n rfl (rk_o (l96_0) rfl rfl)) ?_
                  refine Ew_of (pc' := 135) (fun _ => x_iload_n rfl rk_s) ?_
                  refine w_inv H (o := 6) rfl rfl rfl (H.perm 6 rfl) rfl rfl (by rfl) (M422f H (u6_35) ((((((((hS52 6 35 rfl).trans (hS39 6 35 rfl)).trans (hS_96 6 35 rfl)).trans (hS32 6 35 rfl)).trans (hS9 6 35 rfl)).trans (hS_33 6 35 rfl)).trans (eu6_35))) (w69) ((funext (hA53 69 rfl)).trans ((funext (hA40 69 rfl)).trans ((funext (hA_96 69 rfl)).trans ((funext (hA33 69 rfl)).trans ((funext (hA10 69 rfl)).trans ((funext (hA_33 69 rfl)).trans (ew69))))))) (wq55) (ewq56) (show inr (z54) by omega) (show 1 ≤ (z54) ∧ (z54) ≤ 11 by omega) (show CI ((wq55)) ((z54)) by assumption) (fun z61 σ F57 A58 H hS59 hA60 y62 ey63 wq64 ewq65 pz61_0 pz61_1 pz61_2 pz61_3 => ⟨rfl, ?_⟩))
                  have r66 : (0 : Int) ≤ y62 ∧ y62 ≤ 100000000 := by have h1 : (0 : Int) ≤ F57 6 35 ∧ F57 6 35 ≤ 100000000 := H.frng 6 35; rw [show F57 6 35 = y62 from (ey63)] at h1; exact h1
                  have hDRF := pz61_3
                  have hDS := dscF_of hgd hte
                  have hDT : dscF (ap (ltQ (sc ((w14)) 0 ((u1_1))) 65536 ((u6_2)) ((u6_1)) 0)) ((ltQ (sc ((w14)) 0 ((u1_1))) 65536 ((u6_2)) ((u6_1)) 0).length : Int) = dscF ((wq22)) ((y14)) := by rw [hLT.1]; exact dscF_cg (fun k a b => (hLT.2 k a b).1)
                  refine w_ifge (t := 143) rfl rfl (show inr (z61) by omega) (fun b67 => ?_) (fun b67 => ?_)
                  · obtain ⟨Q_, hQ_⟩ : ∃ Q : Sqs, Q = (qsF (sc ((w14)) 0 ((u1_1))) 65536 ((u6_2)) ((u6_1)) 0).1 := ⟨_, rfl⟩
                    obtain ⟨T_, hT_⟩ : ∃ T : List Int, T = (ltQ (sc ((w14)) 0 ((u1_1))) 65536 ((u6_2)) ((u6_1)) 0) := ⟨_, rfl⟩
                    rw [← hT_] at hDT hLT
                    rw [← hQ_] at hQn
                    have hgq1 := hGQ.1
                    rw [← hQ_] at hgq1
                    refine Ew_of (pc' := 144) (fun _ => x_aload_n rfl (rk_o (l96_0) rfl rfl)) ?_
                    refine Ew_of (pc' := 145) (fun _ => x_iconst rfl) ?_
                    refine w_pI H (o := 6) rfl rfl (H.perm 6 rfl) rfl rfl rfl (fun _ => rfl) rfl (show (0 : Int) ≤ 0 ∧ 0 ≤ 100000000 by omega) (fun σ H => ?_)
                    refine Ew_of (pc' := 149) (fun _ => x_aload_n rfl (rk_o (l96_0) rfl rfl)) ?_
                    refine Ew_of (pc' := 152) (fun _ => x_ldc2 (z := 3962610743) rfl (by decide)) ?_
                    refine Ew_of (pc' := 153) (fun _ => x_iconst rfl) ?_
                    refine w_inv H (o := 6) rfl rfl rfl (H.perm 6 rfl) rfl rfl (by rfl) (M393g H (0) (rfl) (A 70) ((funext (hA60 70 rfl)).trans ((funext (hA53 70 rfl)).trans ((funext (hA40 70 rfl)).trans ((funext (hA_96 70 rfl)).trans ((funext (hA33 70 rfl)).trans ((funext (hA10 70 rfl)).trans (funext (hA_33 70 rfl)))))))) (show inrJ (3962610743) by omega) (show inr (4) by omega) (show 0 ≤ (4) ∧ (4) ≤ 8 by omega) (show 0 ≤ (0) ∧ (0) ≤ 90000000 by omega) (fun σ F68 A69 H hS70 hA71 y73 ey74 wq75 ewq76 pz72_0 pz72_1 pz72_2 => ⟨rfl, ?_⟩))
                    have r77 : (0 : Int) ≤ y73 ∧ y73 ≤ 100000000 := by have h1 : (0 : Int) ≤ F68 6 37 ∧ F68 6 37 ≤ 100000000 := H.frng 6 37; rw [show F68 6 37 = y73 from (ey74)] at h1; exact h1
                    have hq156 : QAP 65536 ((A 70)) 0 ((wq75)) ((y73)) (nb 3962610743 4) := pz72_1
                    refine Ew_of (pc' := 157) (fun _ => x_aload_n rfl (rk_o (l96_0) rfl rfl)) ?_
                    refine Ew_of (pc' := 158) (fun _ => x_iload_n rfl (rk_o (l96_1) rfl rfl)) ?_
                    refine w_i2l rfl (show inr (a1) by omega) ?_
                    refine Ew_of (pc' := 162) (fun _ => x_ldc2 (z := 4294967295) rfl (by decide)) ?_
                    refine w_landE rfl ?_
                    have g78 : inrJ (anJ (a1) (4294967295)) := toJ_inr _
                    refine Ew_of (pc' := 164) (fun _ => x_iconst rfl) ?_
                    refine w_inv H (o := 6) rfl rfl rfl (H.perm 6 rfl) rfl rfl (by rfl) (M393g H (y73) ((ey74)) (wq75) (ewq76) (show inrJ ((anJ (a1) (4294967295))) by omega) (show inr (4) by omega) (show 0 ≤ (4) ∧ (4) ≤ 8 by omega) (show 0 ≤ (y73) ∧ (y73) ≤ 90000000 by omega) (fun σ F79 A80 H hS81 hA82 y84 ey85 wq86 ewq87 pz83_0 pz83_1 pz83_2 => ⟨rfl, ?_⟩))
                    have r88 : (0 : Int) ≤ y84 ∧ y84 ≤ 100000000 := by have h1 : (0 : Int) ≤ F79 6 37 ∧ F79 6 37 ≤ 100000000 := H.frng 6 37; rw [show F79 6 37 = y84 from (ey85)] at h1; exact h1
                    have hq167 : QAP 65536 ((A 70)) 0 ((wq86)) ((y84)) (nb 3962610743 4 ++ nb ((a1)) 4) := by have h := pz83_1; rw [nb_and] at h; exact QAP_trans hq156 h
                    refine Ew_of (pc' := 168) (fun _ => x_aload_n rfl (rk_o (l96_0) rfl rfl)) ?_
                    refine w_inv H (o := 6) rfl rfl rfl (H.perm 6 rfl) rfl rfl (by rfl) (M394 H (y62) ((((hS81 6 35 rfl).trans (hS70 6 35 rfl)).trans (ey63))) (y84) ((ey85)) (wq64) ((funext (hA82 69 rfl)).trans ((funext (hA71 69 rfl)).trans (ewq65))) (wq86) (ewq87) (show 0 ≤ (y62) ∧ (y62) ≤ 192000 by omega) (show 0 ≤ (y84) ∧ (y84) ≤ 90000000 by omega) (fun σ F89 A90 H hS91 hA92 y94 ey95 wq96 ewq97 pz93_0 pz93_1 => ⟨rfl, ?_⟩))
                    have r98 : (0 : Int) ≤ y94 ∧ y94 ≤ 100000000 := by have h1 : (0 : Int) ≤ F89 6 37 ∧ F89 6 37 ≤ 100000000 := H.frng 6 37; rw [show F89 6 37 = y94 from (ey95)] at h1; exact h1
                    have hDR2 : IMP (MDX ((w69)) ((u6_35))) (∃ D, dscF (ap T_) (T_.length : Int) = some D ∧ MBY ((wq64)) ((y62)) D) := fun q => by obtain ⟨D_, d1, d2, d3⟩ := DRF_D (hDRF q) (by omega); exact ⟨D_, by rw [hDT, ← hDS]; exact d1, d3⟩
                    have hq171 : IMP (MDX ((w69)) ((u6_35))) (QAP 65536 ((A 70)) 0 ((wq96)) ((y94)) ((nb 3962610743 4 ++ nb ((a1)) 4) ++ (dscF (ap T_) (T_.length : Int)).getD []) ∧ MDX ((wq64)) ((y62))) := fun q => by obtain ⟨D_, d1, d3⟩ := hDR2 q; have h := pz93_1; rw [MBY_sc d3 (by omega)] at h; exact ⟨by rw [d1]; exact QAP_trans hq167 h, MBY_X d3⟩
                    refine Ew_of (pc' := 172) (fun _ => x_iconst rfl) ?_
                    refine Ew_of (pc' := 173) (fun _ => x_istore_n rfl) ?_
                    have : IMP (MDX ((w69)) ((u6_35))) (QAP 65536 ((A 70)) 0 ((wq96)) ((y94)) (((nb 3962610743 4 ++ nb ((a1)) 4) ++ (dscF (ap T_) (T_.length : Int)).getD []) ++ mkU Q_ ((0 : Int).toNat)) ∧ MDX ((wq64)) ((y62))) := fun q => by show _ ∧ _; rw [show mkU Q_ (0 : Int).toNat = [] from rfl, List.append_nil]; exact hq171 q
                    suffices hl173 : ∀ (m : Nat), ∀ (ls : rO) (σ : rS) (F_173 : hF) (A_173 : hA) (x173_3 : Int), rlook ls 0 = some (.ref (D 6)) → rlook ls 3 = some (I (x173_3)) → HS σ0 σ D N F_173 A_173 → SF [(6, 35), (6, 37)] F89 F_173 → SA [69, 70, 71, 72, 73, 74, 75, 76, 77, 78] A90 A_173 → ∀ y173_6_35 : Int, F_173 6 35 = y173_6_35 → ∀ y173_6_37 : Int, F_173 6 37 = y173_6_37 → ∀ w173_69 : Int → Int, A_173 69 = w173_69 → ∀ w173_70 : Int → Int, A_173 70 = w173_70 → (inr (x173_3)) → (0 ≤ (x173_3) ∧ (x173_3) ≤ 3) → (0 ≤ (y173_6_37) ∧ (y173_6_37) ≤ 300 + 100 * (x173_3)) → (IMP (MDX ((w69)) ((u6_35))) (QAP 65536 ((A 70)) 0 ((w173_70)) ((y173_6_37)) (((nb 3962610743 4 ++ nb ((a1)) 4) ++ (dscF (ap T_) (T_.length : Int)).getD []) ++ mkU Q_ (((x173_3) : Int).toNat)) ∧ MDX ((w173_69)) ((y173_6_35)))) → (3 - (x173_3)).toNat = m → Ew 454 (d + 5) 173 ls [] σ c s Q from
                      hl173 _ _ σ _ _ (0) (rk_o (rk_o (l96_0) rfl rfl) rfl rfl) (rk_s) H (SF_refl) (SA_refl) (y62) (((((hS91 6 35 rfl).trans (hS81 6 35 rfl)).trans (hS70 6 35 rfl)).trans (ey63))) (y94) ((ey95)) (wq64) ((funext (hA92 69 rfl)).trans ((funext (hA82 69 rfl)).trans ((funext (hA71 69 rfl)).trans (ewq65)))) (wq96) (ewq97) (show inr (0) by omega) (show 0 ≤ (0) ∧ (0) ≤ 3 by omega) (show 0 ≤ (y94) ∧ (y94) ≤ 300 + 100 * (0) by omega) (show IMP (MDX ((w69)) ((u6_35))) (QAP 65536 ((A 70)) 0 ((wq96)) ((y94)) (((nb 3962610743 4 ++ nb ((a1)) 4) ++ (dscF (ap T_) (T_.length : Int)).getD []) ++ mkU Q_ (((0) : Int).toNat)) ∧ MDX ((wq64)) ((y62))) by assumption) rfl
                    as_aux_lemma =>
                    intro m
                    induction m using Nat.strongRecOn with
                    | _ m ih173 =>
                      intro ls σ F_173 A_173 x173_3 l173_0 l173_3 H hS_173 hA_173 y173_6_35 ey173_6_35 y173_6_37 ey173_6_37 w173_69 ew173_69 w173_70 ew173_70 j173_0 j173_1 j173_2 j173_3 hm173
                      have r99 : (0 : Int) ≤ y173_6_35 ∧ y173_6_35 ≤ 100000000 := by have h1 : (0 : Int) ≤ F_173 6 35 ∧ F_173 6 35 ≤ 100000000 := H.frng 6 35; rw [show F_173 6 35 = y173_6_35 from (ey173_6_35)] at h1; exact h1
                      have r100 : (0 : Int) ≤ y173_6_37 ∧ y173_6_37 ≤ 100000000 := by have h1 : (0 : Int) ≤ F_173 6 37 ∧ F_173 6 37 ≤ 100000000 := H.frng 6 37; rw [show F_173 6 37 = y173_6_37 from (ey173_6_37)] at h1; exact h1
                      have j173_q : IMP (MDX ((w69)) ((u6_35))) (QAP 65536 ((A 70)) 0 ((w173_70)) ((y173_6_37)) (((nb 3962610743 4 ++ nb ((a1)) 4) ++ (dscF (ap T_) (T_.length : Int)).getD []) ++ mkU Q_ (((x173_3) : Int).toNat)) ∧ MDX ((w173_69)) ((y173_6_35))) := by assumption
                      obtain ⟨ql3, hql3⟩ : ∃ q : Int, q = (x173_3) := ⟨_, rfl⟩
                      refine Ew_of (pc' := 174) (fun _ => x_iload_n rfl l173_3) ?_
                      refine Ew_of (pc' := 175) (fun _ => x_iconst rfl) ?_
                      refine w_icmpge (t := 241) rfl rfl (show inr (x173_3) by omega) (show inr (3) by omega) (fun b101 => ?_) (fun b101 => ?_)
                      · have hq241 : IMP (MDX ((w69)) ((u6_35))) (QAP 65536 ((A 70)) 0 ((w173_70)) ((y173_6_37)) (((nb 3962610743 4 ++ nb ((a1)) 4) ++ (dscF (ap T_) (T_.length : Int)).getD []) ++ mkU Q_ (3)) ∧ MDX ((w173_69)) ((y173_6_35))) := fun q => by have h := j173_q q; rw [show (x173_3) = (3 : Int) by omega] at h; exact h
                        refine Ew_of (pc' := 242) (fun _ => x_aload_n rfl l173_0) ?_
                        refine Ew_of (pc' := 243) (fun _ => x_lconst (z := 1) rfl (by decide)) ?_
                        refine Ew_of (pc' := 244) (fun _ => x_iconst rfl) ?_
                        refine w_inv H (o := 6) rfl rfl rfl (H.perm 6 rfl) rfl rfl (by rfl) (M393g H (y173_6_37) ((ey173_6_37)) (w173_70) (ew173_70) (show inrJ (1) by omega) (show inr (4) by omega) (show 0 ≤ (4) ∧ (4) ≤ 8 by omega) (show 0 ≤ (y173_6_37) ∧ (y173_6_37) ≤ 90000000 by omega) (fun σ F102 A103 H hS104 hA105 y107 ey108 wq109 ewq110 pz106_0 pz106_1 pz106_2 => ⟨rfl, ?_⟩))
                        have r111 : (0 : Int) ≤ y107 ∧ y107 ≤ 100000000 := by have h1 : (0 : Int) ≤ F102 6 37 ∧ F102 6 37 ≤ 100000000 := H.frng 6 37; rw [show F102 6 37 = y107 from (ey108)] at h1; exact h1
                        refine Ew_of (pc' := 248) (fun _ => x_aload_n rfl l173_0) ?_
                        refine Ew_of (pc' := 251) (fun _ => x_ldc2 (z := 4) rfl (by decide)) ?_
                        refine Ew_of (pc' := 252) (fun _ => x_iconst rfl) ?_
                        refine w_inv H (o := 6) rfl rfl rfl (H.perm 6 rfl) rfl rfl (by rfl) (M393g H (y107) ((ey108)) (wq109) (ewq110) (show inrJ (4) by omega) (show inr (4) by omega) (show 0 ≤ (4) ∧ (4) ≤ 8 by omega) (show 0 ≤ (y107) ∧ (y107) ≤ 90000000 by omega) (fun σ F112 A113 H hS114 hA115 y117 ey118 wq119 ewq120 pz116_0 pz116_1 pz116_2 => ⟨rfl, ?_⟩))
                        have r121 : (0 : Int) ≤ y117 ∧ y117 ≤ 100000000 := by have h1 : (0 : Int) ≤ F112 6 37 ∧ F112 6 37 ≤ 100000000 := H.frng 6 37; rw [show F112 6 37 = y117 from (ey118)] at h1; exact h1
                        refine Ew_of (pc' := 256) (fun _ => x_aload_n rfl l173_0) ?_
                        refine Ew_of (pc' := 259) (fun _ => x_ldc2 (z := 8) rfl (by decide)) ?_
                        refine Ew_of (pc' := 260) (fun _ => x_iconst rfl) ?_
                        refine w_inv H (o := 6) rfl rfl rfl (H.perm 6 rfl) rfl rfl (by rfl) (M393g H (y117) ((ey118)) (wq119) (ewq120) (show inrJ (8) by omega) (show inr (4) by omega) (show 0 ≤ (4) ∧ (4) ≤ 8 by omega) (show 0 ≤ (y117) ∧ (y117) ≤ 90000000 by omega) (fun σ F122 A123 H hS124 hA125 y127 ey128 wq129 ewq130 pz126_0 pz126_1 pz126_2 => ⟨rfl, ?_⟩))
                        have r131 : (0 : Int) ≤ y127 ∧ y127 ≤ 100000000 := by have h1 : (0 : Int) ≤ F122 6 37 ∧ F122 6 37 ≤ 100000000 := H.frng 6 37; rw [show F122 6 37 = y127 from (ey128)] at h1; exact h1
                        have hq263 : IMP (MDX ((w69)) ((u6_35))) (QAP 65536 ((A 70)) 0 ((wq129)) ((y127)) ((((((nb 3962610743 4 ++ nb ((a1)) 4) ++ (dscF (ap T_) (T_.length : Int)).getD []) ++ mkU Q_ (3)) ++ nb 1 4) ++ nb 4 4) ++ nb 8 4) ∧ MDX ((w173_69)) ((y173_6_35))) := fun q => ⟨QAP_trans (QAP_trans (QAP_trans (hq241 q).1 pz106_1) pz116_1) pz126_1, (hq241 q).2⟩
                        refine Ew_of (pc' := 264) (fun _ => x_iconst rfl) ?_
                        refine Ew_of (pc' := 265) (fun _ => x_istore_n rfl) ?_
                        have : IMP (MDX ((w69)) ((u6_35))) (QAP 65536 ((A 70)) 0 ((wq129)) ((y127)) (((((((nb 3962610743 4 ++ nb ((a1)) 4) ++ (dscF (ap T_) (T_.length : Int)).getD []) ++ mkU Q_ (3)) ++ nb 1 4) ++ nb 4 4) ++ nb 8 4) ++ sc ((w14)) 0 (0)) ∧ MDX ((w173_69)) ((y173_6_35))) := fun q => by rw [sc_nil (Int.le_refl 0), List.append_nil]; exact hq263 q
                        suffices hl265 : ∀ (m : Nat), ∀ (ls : rO) (σ : rS) (F_265 : hF) (A_265 : hA) (x265_3 : Int), rlook ls 0 = some (.ref (D 6)) → rlook ls 3 = some (I (x265_3)) → HS σ0 σ D N F_265 A_265 → SF [(6, 37)] F122 F_265 → SA [70] A123 A_265 → ∀ y265_6_37 : Int, F_265 6 37 = y265_6_37 → ∀ w265_70 : Int → Int, A_265 70 = w265_70 → (inr (x265_3)) → ((0) ≤ (x265_3)) → ((x265_3) ≤ (0) ∨ (x265_3) ≤ ((u1_1))) → (0 ≤ (y265_6_37) ∧ (y265_6_37) ≤ 700 + (x265_3)) → (0 ≤ (x265_3) ∧ (x265_3) ≤ (u1_1)) → (IMP (MDX ((w69)) ((u6_35))) (QAP 65536 ((A 70)) 0 ((w265_70)) ((y265_6_37)) (((((((nb 3962610743 4 ++ nb ((a1)) 4) ++ (dscF (ap T_) (T_.length : Int)).getD []) ++ mkU Q_ (3)) ++ nb 1 4) ++ nb 4 4) ++ nb 8 4) ++ sc ((w14)) 0 ((x265_3))) ∧ MDX ((w173_69)) ((y173_6_35)))) → (((u1_1)) - (x265_3)).toNat = m → Ew 454 (d + 5) 265 ls [] σ c s Q from
                          hl265 _ _ σ _ _ (0) (rk_o (l173_0) rfl rfl) (rk_s) H (SF_refl) (SA_refl) (y127) ((ey128)) (wq129) (ewq130) (show inr (0) by omega) (show (0) ≤ (0) by omega) (show (0) ≤ (0) ∨ (0) ≤ ((u1_1)) by omega) (show 0 ≤ (y127) ∧ (y127) ≤ 700 + (0) by omega) (show 0 ≤ (0) ∧ (0) ≤ (u1_1) by omega) (show IMP (MDX ((w69)) ((u6_35))) (QAP 65536 ((A 70)) 0 ((wq129)) ((y127)) (((((((nb 3962610743 4 ++ nb ((a1)) 4) ++ (dscF (ap T_) (T_.length : Int)).getD []) ++ mkU Q_ (3)) ++ nb 1 4) ++ nb 4 4) ++ nb 8 4) ++ sc ((w14)) 0 ((0))) ∧ MDX ((w173_69)) ((y173_6_35))) by assumption) rfl
                        as_aux_lemma =>
                        intro m
                        induction m using Nat.strongRecOn with
                        | _ m ih265 =>
                          intro ls σ F_265 A_265 x265_3 l265_0 l265_3 H hS_265 hA_265 y265_6_37 ey265_6_37 w265_70 ew265_70 j265_0 j265_1 j265_2 j265_3 j265_4 j265_5 hm265
                          have r132 : (0 : Int) ≤ y265_6_37 ∧ y265_6_37 ≤ 100000000 := by have h1 : (0 : Int) ≤ F_265 6 37 ∧ F_265 6 37 ≤ 100000000 := H.frng 6 37; rw [show F_265 6 37 = y265_6_37 from (ey265_6_37)] at h1; exact h1
                          have j265_q : IMP (MDX ((w69)) ((u6_35))) (QAP 65536 ((A 70)) 0 ((w265_70)) ((y265_6_37)) (((((((nb 3962610743 4 ++ nb ((a1)) 4) ++ (dscF (ap T_) (T_.length : Int)).getD []) ++ mkU Q_ (3)) ++ nb 1 4) ++ nb 4 4) ++ nb 8 4) ++ sc ((w14)) 0 ((x265_3))) ∧ MDX ((w173_69)) ((y173_6_35))) := by assumption
                          obtain ⟨qh, hqh⟩ : ∃ q : Int, q = (x265_3) := ⟨_, rfl⟩
                          refine Ew_of (pc' := 266) (fun _ => x_iload_n rfl l265_3) ?_
                          refine Ew_of (pc' := 267) (fun _ => x_aload_n rfl l265_0) ?_
                          refine w_gT H (o := 6) (t := 1) rfl (H.perm 6 rfl) rfl rfl rfl rfl rfl rfl ?_
                          refine w_gI H (o := 1) (w := u1_1) rfl (H.perm 1 rfl) rfl rfl rfl (fun _ => rfl) ((((((((((((((((hS_265 1 1 rfl).trans (hS124 1 1 rfl)).trans (hS114 1 1 rfl)).trans (hS104 1 1 rfl)).trans (hS_173 1 1 rfl)).trans (hS91 1 1 rfl)).trans (hS81 1 1 rfl)).trans (hS70 1 1 rfl)).trans (hS59 1 1 rfl)).trans (hS52 1 1 rfl)).trans (hS39 1 1 rfl)).trans (hS_96 1 1 rfl)).trans (hS32 1 1 rfl)).trans (hS9 1 1 rfl)).trans (hS_33 1 1 rfl)).trans (eu1_1)) ?_
                          refine w_icmpge (t := 295) rfl rfl (show inr (x265_3) by omega) (show inr (u1_1) by omega) (fun b133 => ?_) (fun b133 => ?_)
                          · refine Ew_of (pc' := 296) (fun _ => x_aload_n rfl l265_0) ?_
                            refine w_inv H (o := 6) rfl rfl rfl (H.perm 6 rfl) rfl rfl (by rfl) (M395 H (y265_6_37) ((ey265_6_37)) (w265_70) (ew265_70) (show 0 ≤ (y265_6_37) ∧ (y265_6_37) ≤ 100000000 by omega) (fun z138 σ F134 A135 H hS136 hA137 y139 ey140 wq141 ewq142 pz138_0 pz138_1 pz138_2 pz138_3 => ⟨rfl, ?_⟩))
                            have r143 : (0 : Int) ≤ y139 ∧ y139 ≤ 65536 := by have h1 : (0 : Int) ≤ F134 1 3 ∧ F134 1 3 ≤ 65536 := H.frng 1 3; rw [show F134 1 3 = y139 from (ey140)] at h1; exact h1
                            have : IMP (MDX ((w69)) ((u6_35))) (MKD (mkF ((a1)) (sc ((w14)) 0 ((u1_1))) ((u6_2)) ((u6_1))) ((z138)) ((y139)) ((wq141)) ∧ MDX ((w173_69)) ((y173_6_35))) := fun q => ⟨MKD_y hQ_ hT_ (by rintro (a | a | a | a | a); (rw [sc_lenI (by omega)] at a; omega); (rw [hQn] at a; omega); (rw [hLT.1] at a; omega); (rw [hLT.1] at a; exact nALK (.inr hdf) (ALK_cg (fun k x y => (hLT.2 k x y).1) a)); (obtain ⟨D_, d1, _⟩ := hDR2 q; rw [d1] at a; exact absurd a (by simp))) (by have h := (j265_q q).1; rw [show (x265_3) = (u1_1) by omega] at h; exact h) pz138_2 pz138_3, (j265_q q).2⟩
                            exact w_ireturn rfl (k (z138) σ _ _ H (SF_trans (SF_trans (SF_trans (SF_trans (SF_trans (SF_trans (SF_trans (SF_trans (SF_trans (SF_upd (SF_trans (SF_trans (SF_trans (SF_trans (SF_trans (SF_trans (SF_trans (SF_upd (SF_upd (SF_refl) rfl) rfl) hS_33 (any_sub rfl)) hS9 (any_sub rfl)) hS32 (any_sub rfl)) hS_96 (any_sub rfl)) hS39 (any_sub rfl)) hS52 (any_sub rfl)) hS59 (any_sub rfl)) rfl) hS70 (any_sub rfl)) hS81 (any_sub rfl)) hS91 (any_sub rfl)) hS_173 (any_sub rfl)) hS104 (any_sub rfl)) hS114 (any_sub rfl)) hS124 (any_sub rfl)) hS_265 (any_sub rfl)) hS136 (any_sub rfl)) (SA_trans (SA_trans (SA_trans (SA_trans (SA_trans (SA_trans (SA_trans (SA_trans (SA_trans (SA_trans (SA_trans (SA_trans (SA_trans (SA_trans (SA_trans (SA_trans (SA_refl) hA_33 (any_subA rfl)) hA10 (any_subA rfl)) hA33 (any_subA rfl)) hA_96 (any_subA rfl)) hA40 (any_subA rfl)) hA53 (any_subA rfl)) hA60 (any_subA rfl)) hA71 (any_subA rfl)) hA82 (any_subA rfl)) hA92 (any_subA rfl)) hA_173 (any_subA rfl)) hA105 (any_subA rfl)) hA115 (any_subA rfl)) hA125 (any_subA rfl)) hA_265 (any_subA rfl)) hA137 (any_subA rfl)) (y139) ((ey140)) (y173_6_35) (((((((hS136 6 35 rfl).trans (hS_265 6 35 rfl)).trans (hS124 6 35 rfl)).trans (hS114 6 35 rfl)).trans (hS104 6 35 rfl)).trans (ey173_6_35))) (wq141) (ewq142) (w173_69) ((funext (hA137 69 rfl)).trans ((funext (hA_265 69 rfl)).trans ((funext (hA125 69 rfl)).trans ((funext (hA115 69 rfl)).trans ((funext (hA105 69 rfl)).trans (ew173_69)))))) (show inr (z138) by omega) (show -1 ≤ (z138) ∧ (z138) ≤ 65536 by omega) (show IMP (MDX ((w69)) ((u6_35))) (MKD (mkF (a1) (sc ((w14)) 0 ((u1_1))) ((u6_2)) ((u6_1))) ((z138)) ((y139)) ((wq141)) ∧ MDX ((w173_69)) ((y173_6_35))) by assumption))
                          · refine Ew_of (pc' := 277) (fun _ => x_aload_n rfl l265_0) ?_
                            refine Ew_of (pc' := 278) (fun _ => x_aload_n rfl l265_0) ?_
                            refine w_gT H (o := 6) (t := 1) rfl (H.perm 6 rfl) rfl rfl rfl rfl rfl rfl ?_
                            refine w_gT H (o := 1) (t := 14) rfl (H.perm 1 rfl) rfl rfl rfl rfl rfl rfl ?_
                            refine Ew_of (pc' := 285) (fun _ => x_iload_n rfl l265_3) ?_
                            refine w_lI H (o := 14) (n := 65536) rfl (H.perm 14 rfl) rfl rfl (H.fix 14 rfl rfl) (show 0 ≤ x265_3 ∧ x265_3 < ((65536 : Nat) : Int) by omega) (by decide) (fun v144 ev144 qv144 => ?_)
                            have qv144 : (0 : Int) ≤ v144 ∧ v144 ≤ 255 := qv144
                            have ev144 : (w14) (x265_3) = v144 := (congrFun ((funext (hA_265 14 rfl)).trans ((funext (hA125 14 rfl)).trans ((funext (hA115 14 rfl)).trans ((funext (hA105 14 rfl)).trans ((funext (hA_173 14 rfl)).trans ((funext (hA92 14 rfl)).trans ((funext (hA82 14 rfl)).trans ((funext (hA71 14 rfl)).trans ((funext (hA60 14 rfl)).trans ((funext (hA53 14 rfl)).trans ((funext (hA40 14 rfl)).trans ((funext (hA_96 14 rfl)).trans ((funext (hA33 14 rfl)).trans ((funext (hA10 14 rfl)).trans ((funext (hA_33 14 rfl)).trans (ew14)))))))))))))))) (x265_3)).symm.trans ev144
                            have hv286 := ev144
                            refine w_inv H (o := 6) rfl rfl rfl (H.perm 6 rfl) rfl rfl (by rfl) (M392g H (y265_6_37) ((ey265_6_37)) (w265_70) (ew265_70) (show inr (v144) by omega) (show 0 ≤ (y265_6_37) ∧ (y265_6_37) ≤ 99999999 by omega) (fun σ F145 A146 H hS147 hA148 y150 ey151 wq152 ewq153 pz149_0 pz149_1 pz149_2 => ⟨rfl, ?_⟩))
                            have r154 : (0 : Int) ≤ y150 ∧ y150 ≤ 100000000 := by have h1 : (0 : Int) ≤ F145 6 37 ∧ F145 6 37 ≤ 100000000 := H.frng 6 37; rw [show F145 6 37 = y150 from (ey151)] at h1; exact h1
                            have hs289 := pz149_1
                            refine Ew_of (pc' := 292) (fun _ => x_iinc (len := 3) rfl (l265_3)) ?_
                            refine Ew_of (pc' := 265) (fun _ => x_goto rfl rfl) ?_
                            have : IMP (MDX ((w69)) ((u6_35))) (QAP 65536 ((A 70)) 0 ((wq152)) ((y150)) (((((((nb 3962610743 4 ++ nb ((a1)) 4) ++ (dscF (ap T_) (T_.length : Int)).getD []) ++ mkU Q_ (3)) ++ nb 1 4) ++ nb 4 4) ++ nb 8 4) ++ sc ((w14)) 0 (((x265_3 + 1)))) ∧ MDX ((w173_69)) ((y173_6_35))) := fun q => by rw [sc_snoc (b := qh) (by omega) (by omega), ← List.append_assoc, hqh, hv286]; exact ⟨QAP_trans (j265_q q).1 hs289, (j265_q q).2⟩
                            exact ih265 _ (by omega) _ σ _ _ ((x265_3 + 1)) (rk_o (l265_0) rfl rfl) (rk_s) H (SF_trans (hS_265) hS147 (any_sub rfl)) (SA_trans (hA_265) hA148 (any_subA rfl)) (y150) ((ey151)) (wq152) (ewq153) (show inr ((x265_3 + 1)) by omega) (show (0) ≤ ((x265_3 + 1)) by omega) (show ((x265_3 + 1)) ≤ (0) ∨ ((x265_3 + 1)) ≤ ((u1_1)) by omega) (show 0 ≤ (y150) ∧ (y150) ≤ 700 + ((x265_3 + 1)) by omega) (show 0 ≤ ((x265_3 + 1)) ∧ ((x265_3 + 1)) ≤ (u1_1) by omega) (show IMP (MDX ((w69)) ((u6_35))) (QAP 65536 ((A 70)) 0 ((wq152)) ((y150)) (((((((nb 3962610743 4 ++ nb ((a1)) 4) ++ (dscF (ap T_) (T_.length : Int)).getD []) ++ mkU Q_ (3)) ++ nb 1 4) ++ nb 4 4) ++ nb 8 4) ++ sc ((w14)) 0 (((x265_3 + 1)))) ∧ MDX ((w173_69)) ((y173_6_35))) by assumption) rfl
                      · refine Ew_of (pc' := 179) (fun _ => x_iload_n rfl l173_3) ?_
                        have hc196 : ∀ (tc196_0 : Int), ∀ (ls : rO) (σ : rS) (F_c196 : hF) (A_c196 : hA) , rlook ls 0 = some (.ref (D 6)) → rlook ls 3 = some (I (x173_3)) → HS σ0 σ D N F_c196 A_c196 → SF [] F_173 F_c196 → SA [] A_173 A_c196 → (inr (tc196_0)) → (((x173_3) ≠ (0) ∧ (x173_3) ≠ (1) ∧ (tc196_0) = (0)) ∨ ((x173_3) ≠ (0) ∧ (x173_3) = (1) ∧ (tc196_0) = (2)) ∨ ((x173_3) = (0) ∧ (tc196_0) = (1))) → Ew 454 (d + 5) 196 ls [I (tc196_0)] σ c s Q := by
                         as_aux_lemma =>
                          intro tc196_0 ls σ F_c196 A_c196  lc196_0 lc196_3 H hS_c196 hA_c196   jc196_0 jc196_1
                          refine Ew_of (pc' := 198) (fun _ => x_istore rfl) ?_
                          have hmt : (tc196_0) = mtK ql3 := mtK_e (by omega)
                          have hSc : (cutP ((y12)) (sh ((wq44)) (8001 * (tc196_0)))) = Sc Q_ (1, 4, 8) ((tc196_0)) := by rw [hgq1]; exact TLW_Sc (by omega) hTW (by omega)
                          refine Ew_of (pc' := 199) (fun _ => x_aload_n rfl (rk_o (lc196_0) rfl rfl)) ?_
                          refine Ew_of (pc' := 201) (fun _ => x_iload rfl rk_s) ?_
                          have hls := lS_eq ((tc196_0))
                          have hrl : ∀ j, 0 ≤ j → j < (y12) → (sh ((wq44)) (8001 * (tc196_0))) j ≤ lS ((tc196_0)) := TLI_sy htl (by omega) (by omega)
                          refine w_inv H (o := 6) rfl rfl rfl (H.perm 6 rfl) rfl rfl (by rfl) (M413f H (y12) ((((((((((((hS_c196 6 28 rfl).trans (hS_173 6 28 rfl)).trans (hS91 6 28 rfl)).trans (hS81 6 28 rfl)).trans (hS70 6 28 rfl)).trans (hS59 6 28 rfl)).trans (hS52 6 28 rfl)).trans (hS39 6 28 rfl)).trans (hS_96 6 28 rfl)).trans (hS32 6 28 rfl)).trans (ey13))) (y173_6_35) (((hS_c196 6 35 rfl).trans (ey173_6_35))) (wq44) ((funext (hA_c196 66 rfl)).trans ((funext (hA_173 66 rfl)).trans ((funext (hA92 66 rfl)).trans ((funext (hA82 66 rfl)).trans ((funext (hA71 66 rfl)).trans ((funext (hA60 66 rfl)).trans ((funext (hA53 66 rfl)).trans (ewq45)))))))) (w173_69) ((funext (hA_c196 69 rfl)).trans (ew173_69)) (lS ((tc196_0))) (show inr (tc196_0) by omega) (show 0 ≤ (tc196_0) ∧ (tc196_0) ≤ 2 by omega) (show 1 ≤ (y12) by omega) (show ∀ j, 0 ≤ j → j < (y12) → (sh ((wq44)) (8001 * (tc196_0))) j ≤ (lS ((tc196_0))) by assumption) (show 0 ≤ (lS ((tc196_0))) ∧ (lS ((tc196_0))) ≤ 63 by omega) (fun z159 σ F155 A156 H hS157 hA158 y160 ey161 wq162 ewq163 wq164 ewq165 pz159_0 pz159_1 pz159_2 pz159_3 pz159_4 pz159_5 pz159_6 pz159_7 => ⟨rfl, ?_⟩))
                          have r166 : (0 : Int) ≤ y160 ∧ y160 ≤ 100000000 := by have h1 : (0 : Int) ≤ F155 6 35 ∧ F155 6 35 ≤ 100000000 := H.frng 6 35; rw [show F155 6 35 = y160 from (ey161)] at h1; exact h1
                          have hbo := pz159_7
                          have hce : ∀ i, (0 : Int) ≤ i → i < 64 → ((wq164)) i = su (eqs (sh ((wq44)) (8001 * (tc196_0))) i) ((y12) : Int).toNat := by assumption
                          have hlz : ∀ i, lS ((tc196_0)) < i → i < 64 → 0 ≤ i → ((wq164)) i = 0 := fun i a b c => by rw [hce i c b]; exact su_eqs0 (fun k x y => by have := hrl k x (by omega); omega)
                          refine Ew_of (pc' := 206) (fun _ => x_istore rfl) ?_
                          refine Ew_of (pc' := 207) (fun _ => x_aload_n rfl (rk_o (rk_o (lc196_0) rfl rfl) rfl rfl)) ?_
                          refine Ew_of (pc' := 208) (fun _ => x_aload_n rfl (rk_o (rk_o (lc196_0) rfl rfl) rfl rfl)) ?_
                          refine w_gI H (o := 6) (w := y12) rfl (H.perm 6 rfl) rfl rfl rfl (fun _ => rfl) ((((((((((((hS157 6 28 rfl).trans (hS_c196 6 28 rfl)).trans (hS_173 6 28 rfl)).trans (hS91 6 28 rfl)).trans (hS81 6 28 rfl)).trans (hS70 6 28 rfl)).trans (hS59 6 28 rfl)).trans (hS52 6 28 rfl)).trans (hS39 6 28 rfl)).trans (hS_96 6 28 rfl)).trans (hS32 6 28 rfl)).trans (ey13)) ?_
                          refine Ew_of (pc' := 213) (fun _ => x_iload rfl rk_s) ?_
                          refine w_inv H (o := 6) rfl rfl rfl (H.perm 6 rfl) rfl rfl (by rfl) (M411b H (wq164) (ewq165) (show inr (y12) by omega) (show inr (z159) by omega) (show 1 ≤ (y12) ∧ (y12) ≤ 8001 by omega) (show 5 ≤ (z159) ∧ (z159) ≤ 9 by omega) (show ∀ i, (0 : Int) ≤ i → i < 64 → 0 ≤ ((wq164)) i by assumption) (show su (fun i => ((wq164)) i) 64 = (y12) by omega) (show su (fun i => pos1 (((wq164)) i)) 64 ≤ p2 ((z159)) by omega) (fun σ F167 A168 H hS169 hA170 wq172 ewq173 pz171_0 pz171_1 pz171_2 => ⟨rfl, ?_⟩))
                          have hd0 := pz171_0
                          have hd1 := pz171_1
                          have : SH ((wq172)) 0 64 ((z159)) (lS ((tc196_0))) := SH_div (by omega) hd0 hd1 hlz
                          have hPD : shP (cutP ((y12)) (sh ((wq44)) (8001 * (tc196_0)))) ((y12)) ((z159)) = cutP 64 ((wq172)) := shP_e (ct_cut hce) pz171_2
                          refine Ew_of (pc' := 217) (fun _ => x_aload_n rfl (rk_o (rk_o (lc196_0) rfl rfl) rfl rfl)) ?_
                          refine w_inv H (o := 6) rfl rfl rfl (H.perm 6 rfl) rfl rfl (by rfl) (M391 H (y160) (((hS169 6 35 rfl).trans (ey161))) (wq162) ((funext (hA170 69 rfl)).trans (ewq163))  (fun σ F174 A175 H hS176 hA177 y179 ey180 wq181 ewq182 pz178_0 pz178_1 => ⟨rfl, ?_⟩))
                          have r183 : (0 : Int) ≤ y179 ∧ y179 ≤ 100000000 := by have h1 : (0 : Int) ≤ F174 6 35 ∧ F174 6 35 ≤ 100000000 := H.frng 6 35; rw [show F174 6 35 = y179 from (ey180)] at h1; exact h1
                          have hb220 : IMP (MDX ((w69)) ((u6_35))) (MDB ((wq181)) ((y179)) []) := fun q => by rw [show (y179) = 0 by omega]; exact pz178_1 (hbo (j173_q q).2).2
                          refine Ew_of (pc' := 221) (fun _ => x_aload_n rfl (rk_o (rk_o (lc196_0) rfl rfl) rfl rfl)) ?_
                          refine Ew_of (pc' := 222) (fun _ => x_aload_n rfl (rk_o (rk_o (lc196_0) rfl rfl) rfl rfl)) ?_
                          refine w_gT H (o := 6) (t := 75) rfl (H.perm 6 rfl) rfl rfl rfl rfl rfl rfl ?_
                          refine Ew_of (pc' := 226) (fun _ => x_iconst rfl) ?_
                          refine Ew_of (pc' := 228) (fun _ => x_iload rfl rk_s) ?_
                          refine w_inv H (o := 6) rfl rfl rfl (H.perm 6 rfl) rfl rfl (by rfl) (M412_75 H (y179) ((ey180)) (wq181) (ewq182) (wq172) ((funext (hA177 75 rfl)).trans (ewq173)) (lS ((tc196_0))) (show inr (0) by omega) (show inr (z159) by omega) (show SH ((wq172)) (0) 64 (z159) (lS ((tc196_0))) by assumption) (show 0 ≤ (0) ∧ (0) + 64 ≤ 64 by omega) (show 0 ≤ (y179) ∧ (y179) ≤ 1000000 by omega) (show 0 ≤ (lS ((tc196_0))) by omega) (fun σ F184 A185 H hS186 hA187 y189 ey190 wq191 ewq192 pz188_0 pz188_1 pz188_2 => ⟨rfl, ?_⟩))
                          have r193 : (0 : Int) ≤ y189 ∧ y189 ≤ 100000000 := by have h1 : (0 : Int) ≤ F184 6 35 ∧ F184 6 35 ≤ 100000000 := H.frng 6 35; rw [show F184 6 35 = y189 from (ey190)] at h1; exact h1
                          have hm231 : IMP (MDX ((w69)) ((u6_35))) (MBY ((wq191)) ((y189)) (mkT ((tc196_0)) Q_)) := fun q => by have h := pz188_1 (by omega) [] (hb220 q); rw [List.nil_append, sh0, ← hPD] at h; exact ⟨_, h, pd8_len.1, by rw [byw_pd]; unfold mkT shB; rw [← hSc, hQn, ← (hbo (j173_q q).2).1]⟩
                          refine Ew_of (pc' := 232) (fun _ => x_aload_n rfl (rk_o (rk_o (lc196_0) rfl rfl) rfl rfl)) ?_
                          refine w_inv H (o := 6) rfl rfl rfl (H.perm 6 rfl) rfl rfl (by rfl) (M394 H (y189) ((ey190)) (y173_6_37) (((((((hS186 6 37 rfl).trans (hS176 6 37 rfl)).trans (hS169 6 37 rfl)).trans (hS157 6 37 rfl)).trans (hS_c196 6 37 rfl)).trans (ey173_6_37))) (wq191) (ewq192) (w173_70) ((funext (hA187 70 rfl)).trans ((funext (hA177 70 rfl)).trans ((funext (hA170 70 rfl)).trans ((funext (hA158 70 rfl)).trans ((funext (hA_c196 70 rfl)).trans (ew173_70)))))) (show 0 ≤ (y189) ∧ (y189) ≤ 192000 by omega) (show 0 ≤ (y173_6_37) ∧ (y173_6_37) ≤ 90000000 by omega) (fun σ F194 A195 H hS196 hA197 y199 ey200 wq201 ewq202 pz198_0 pz198_1 => ⟨rfl, ?_⟩))
                          have r203 : (0 : Int) ≤ y199 ∧ y199 ≤ 100000000 := by have h1 : (0 : Int) ≤ F194 6 37 ∧ F194 6 37 ≤ 100000000 := H.frng 6 37; rw [show F194 6 37 = y199 from (ey200)] at h1; exact h1
                          have hq235 : IMP (MDX ((w69)) ((u6_35))) (QAP 65536 ((A 70)) 0 ((wq201)) ((y199)) ((((nb 3962610743 4 ++ nb ((a1)) 4) ++ (dscF (ap T_) (T_.length : Int)).getD []) ++ mkU Q_ (ql3.toNat)) ++ mkT ((tc196_0)) Q_) ∧ MDX ((wq191)) ((y189))) := fun q => by have h := pz198_1; rw [MBY_sc (hm231 q) (by omega)] at h; have h0 := (j173_q q).1; rw [← hql3] at h0; exact ⟨QAP_trans h0 h, MBY_X (hm231 q)⟩
                          refine Ew_of (pc' := 238) (fun _ => x_iinc (len := 3) rfl (rk_o (rk_o (lc196_3) rfl rfl) rfl rfl)) ?_
                          refine Ew_of (pc' := 173) (fun _ => x_goto rfl rfl) ?_
                          have : IMP (MDX ((w69)) ((u6_35))) (QAP 65536 ((A 70)) 0 ((wq201)) ((y199)) (((nb 3962610743 4 ++ nb ((a1)) 4) ++ (dscF (ap T_) (T_.length : Int)).getD []) ++ mkU Q_ ((((x173_3 + 1)) : Int).toNat)) ∧ MDX ((wq191)) ((y189))) := fun q => by rw [mkU_s (i := ql3) (by omega) (by omega) hmt, ← List.append_assoc]; exact hq235 q
                          exact ih173 _ (by omega) _ σ _ _ ((x173_3 + 1)) (rk_o (rk_o (rk_o (lc196_0) rfl rfl) rfl rfl) rfl rfl) (rk_s) H (SF_trans (SF_trans (SF_trans (SF_trans (SF_trans (SF_trans (hS_173) hS_c196 (any_sub rfl)) hS157 (any_sub rfl)) hS169 (any_sub rfl)) hS176 (any_sub rfl)) hS186 (any_sub rfl)) hS196 (any_sub rfl)) (SA_trans (SA_trans (SA_trans (SA_trans (SA_trans (SA_trans (hA_173) hA_c196 (any_subA rfl)) hA158 (any_subA rfl)) hA170 (any_subA rfl)) hA177 (any_subA rfl)) hA187 (any_subA rfl)) hA197 (any_subA rfl)) (y189) (((hS196 6 35 rfl).trans (ey190))) (y199) ((ey200)) (wq191) ((funext (hA197 69 rfl)).trans (ewq192)) (wq201) (ewq202) (show inr ((x173_3 + 1)) by omega) (show 0 ≤ ((x173_3 + 1)) ∧ ((x173_3 + 1)) ≤ 3 by omega) (show 0 ≤ (y199) ∧ (y199) ≤ 300 + 100 * ((x173_3 + 1)) by omega) (show IMP (MDX ((w69)) ((u6_35))) (QAP 65536 ((A 70)) 0 ((wq201)) ((y199)) (((nb 3962610743 4 ++ nb ((a1)) 4) ++ (dscF (ap T_) (T_.length : Int)).getD []) ++ mkU Q_ ((((x173_3 + 1)) : Int).toNat)) ∧ MDX ((wq191)) ((y189))) by assumption) rfl
                        refine w_ifne (t := 186) rfl rfl (show inr (x173_3) by omega) (fun b204 => ?_) (fun b204 => ?_)
                        · refine Ew_of (pc' := 187) (fun _ => x_iload_n rfl l173_3) ?_
                          refine Ew_of (pc' := 188) (fun _ => x_iconst rfl) ?_
                          refine w_icmpne (t := 195) rfl rfl (show inr (x173_3) by omega) (show inr (1) by omega) (fun b205 => ?_) (fun b205 => ?_)
                          · refine Ew_of (pc' := 196) (fun _ => x_iconst rfl) ?_
                            exact hc196 (0) _ σ _ _  (l173_0) (l173_3) H (SF_refl) (SA_refl)   (show inr (0) by omega) (show ((x173_3) ≠ (0) ∧ (x173_3) ≠ (1) ∧ (0) = (0)) ∨ ((x173_3) ≠ (0) ∧ (x173_3) = (1) ∧ (0) = (2)) ∨ ((x173_3) = (0) ∧ (0) = (1)) by omega)
                          · refine Ew_of (pc' := 192) (fun _ => x_iconst rfl) ?_
                            refine Ew_of (pc' := 196) (fun _ => x_goto rfl rfl) ?_
                            exact hc196 (2) _ σ _ _  (l173_0) (l173_3) H (SF_refl) (SA_refl)   (show inr (2) by omega) (show ((x173_3) ≠ (0) ∧ (x173_3) ≠ (1) ∧ (2) = (0)) ∨ ((x173_3) ≠ (0) ∧ (x173_3) = (1) ∧ (2) = (2)) ∨ ((x173_3) = (0) ∧ (2) = (1)) by omega)
                        · refine Ew_of (pc' := 183) (fun _ => x_iconst rfl) ?_
                          refine Ew_of (pc' := 196) (fun _ => x_goto rfl rfl) ?_
                          exact hc196 (1) _ σ _ _  (l173_0) (l173_3) H (SF_refl) (SA_refl)   (show inr (1) by omega) (show ((x173_3) ≠ (0) ∧ (x173_3) ≠ (1) ∧ (1) = (0)) ∨ ((x173_3) ≠ (0) ∧ (x173_3) = (1) ∧ (1) = (2)) ∨ ((x173_3) = (0) ∧ (1) = (1)) by omega)
                  · have r206 : (0 : Int) ≤ F 1 3 ∧ F 1 3 ≤ 65536 := by have h1 : (0 : Int) ≤ F57 1 3 ∧ F57 1 3 ≤ 65536 := H.frng 1 3; rw [show F57 1 3 = F 1 3 from (((((((hS59 1 3 rfl).trans (hS52 1 3 rfl)).trans (hS39 1 3 rfl)).trans (hS_96 1 3 rfl)).trans (hS32 1 3 rfl)).trans (hS9 1 3 rfl)).trans (hS_33 1 3 rfl))] at h1; exact h1
                    have : IMP (MDX ((w69)) ((u6_35))) (MKD (mkF ((a1)) (sc ((w14)) 0 ((u1_1))) ((u6_2)) ((u6_1))) (-1) ((F 1 3)) ((A 15)) ∧ MDX ((wq64)) ((y62))) := fun q => ⟨MKD_n (.inr (.inr (.inr (.inr (by rw [hDT, ← hDS]; exact DRF_n (hDRF q) (by omega)))))) rfl, DRF_X (hDRF q)⟩
                    refine Ew_of (pc' := 142) (fun _ => x_iconst rfl) ?_
                    exact w_ireturn rfl (k ((-1)) σ _ _ H (SF_trans (SF_trans (SF_trans (SF_trans (SF_trans (SF_trans (SF_trans (SF_upd (SF_upd (SF_refl) rfl) rfl) hS_33 (any_sub rfl)) hS9 (any_sub rfl)) hS32 (any_sub rfl)) hS_96 (any_sub rfl)) hS39 (any_sub rfl)) hS52 (any_sub rfl)) hS59 (any_sub rfl)) (SA_trans (SA_trans (SA_trans (SA_trans (SA_trans (SA_trans (SA_trans (SA_refl) hA_33 (any_subA rfl)) hA10 (any_subA rfl)) hA33 (any_subA rfl)) hA_96 (any_subA rfl)) hA40 (any_subA rfl)) hA53 (any_subA rfl)) hA60 (any_subA rfl)) (F 1 3) ((((((((hS59 1 3 rfl).trans (hS52 1 3 rfl)).trans (hS39 1 3 rfl)).trans (hS_96 1 3 rfl)).trans (hS32 1 3 rfl)).trans (hS9 1 3 rfl)).trans (hS_33 1 3 rfl))) (y62) ((ey63)) (A 15) ((funext (hA60 15 rfl)).trans ((funext (hA53 15 rfl)).trans ((funext (hA40 15 rfl)).trans ((funext (hA_96 15 rfl)).trans ((funext (hA33 15 rfl)).trans ((funext (hA10 15 rfl)).trans (funext (hA_33 15 rfl)))))))) (wq64) (ewq65) (show inr ((-1)) by omega) (show -1 ≤ ((-1)) ∧ ((-1)) ≤ 65536 by omega) (show IMP (MDX ((w69)) ((u6_35))) (MKD (mkF (a1) (sc ((w14)) 0 ((u1_1))) ((u6_2)) ((u6_1))) (((-1))) ((F 1 3)) ((A 15)) ∧ MDX ((wq64)) ((y62))) by assumption))
                · refine Ew_of (pc' := 102) (fun _ => x_aload_n rfl l96_0) ?_
                  refine w_gT H (o := 6) (t := 56) rfl (H.perm 6 rfl) rfl rfl rfl rfl rfl rfl ?_
                  refine Ew_of (pc' := 106) (fun _ => x_iload_n rfl l96_2) ?_
                  refine Ew_of (pc' := 107) (fun _ => x_iload_n rfl l96_2) ?_
                  refine w_ifne (t := 114) rfl rfl (show inr (x96_2) by omega) (fun b207 => ?_) (fun b207 => ?_)
                  · refine Ew_of (pc' := 115) (fun _ => x_iconst rfl) ?_
                    refine Ew_of (pc' := 116) (fun _ => x_iload_n rfl l96_2) ?_
                    refine w_imul rfl ?_
                    refine w_sI H (o := 56) (n := 3) rfl (H.perm 56 rfl) rfl rfl (H.fix 56 rfl rfl) (show 0 ≤ x96_2 ∧ x96_2 < ((3 : Nat) : Int) by omega) (by decide) (show (-2147483648 : Int) ≤ (4 * x96_2) ∧ (4 * x96_2) ≤ 2147483647 by omega) (fun σ H => ?_)
                    refine Ew_of (pc' := 121) (fun _ => x_iinc (len := 3) rfl (l96_2)) ?_
                    refine Ew_of (pc' := 96) (fun _ => x_goto rfl rfl) ?_
                    have : ∀ t, 0 ≤ t → t < ((x96_2 + 1)) → ((upd1 (w96_56) (x96_2) ((4 * x96_2)))) t = if t = 0 then 1 else 4 * t := fun t a b => by by_cases e : t = qd; (rw [e, hqd, upd1_s]; first | (rw [if_pos (by omega)]) | (rw [if_neg (by omega)])); (rw [upd1_o (by omega)]; exact j96_l t a (by omega))
                    exact ih96 _ (by omega) _ σ _ _ ((x96_2 + 1)) (rk_o (l96_0) rfl rfl) (rk_o (l96_1) rfl rfl) (rk_s) H (hS_96) (SA_upd (hA_96) rfl)  (upd1 (w96_56) (x96_2) ((4 * x96_2))) (congrArg (fun q => upd1 q (x96_2) ((4 * x96_2))) (ew96_56)) (show inr ((x96_2 + 1)) by omega) (show (0) ≤ ((x96_2 + 1)) by omega) (show ((x96_2 + 1)) ≤ (0) ∨ ((x96_2 + 1)) ≤ (3) by omega) (show 0 ≤ ((x96_2 + 1)) ∧ ((x96_2 + 1)) ≤ 3 by omega) (show ∀ t, 0 ≤ t → t < ((x96_2 + 1)) → ((upd1 (w96_56) (x96_2) ((4 * x96_2)))) t = if t = 0 then 1 else 4 * t by assumption) rfl
                  · refine Ew_of (pc' := 111) (fun _ => x_iconst rfl) ?_
                    refine Ew_of (pc' := 117) (fun _ => x_goto rfl rfl) ?_
                    refine w_sI H (o := 56) (n := 3) rfl (H.perm 56 rfl) rfl rfl (H.fix 56 rfl rfl) (show 0 ≤ x96_2 ∧ x96_2 < ((3 : Nat) : Int) by omega) (by decide) (show (-2147483648 : Int) ≤ 1 ∧ 1 ≤ 2147483647 by omega) (fun σ H => ?_)
                    refine Ew_of (pc' := 121) (fun _ => x_iinc (len := 3) rfl (l96_2)) ?_
                    refine Ew_of (pc' := 96) (fun _ => x_goto rfl rfl) ?_
                    have : ∀ t, 0 ≤ t → t < ((x96_2 + 1)) → ((upd1 (w96_56) (x96_2) (1))) t = if t = 0 then 1 else 4 * t := fun t a b => by by_cases e : t = qd; (rw [e, hqd, upd1_s]; first | (rw [if_pos (by omega)]) | (rw [if_neg (by omega)])); (rw [upd1_o (by omega)]; exact j96_l t a (by omega))
                    exact ih96 _ (by omega) _ σ _ _ ((x96_2 + 1)) (rk_o (l96_0) rfl rfl) (rk_o (l96_1) rfl rfl) (rk_s) H (hS_96) (SA_upd (hA_96) rfl)  (upd1 (w96_56) (x96_2) (1)) (congrArg (fun q => upd1 q (x96_2) (1)) (ew96_56)) (show inr ((x96_2 + 1)) by omega) (show (0) ≤ ((x96_2 + 1)) by omega) (show ((x96_2 + 1)) ≤ (0) ∨ ((x96_2 + 1)) ≤ (3) by omega) (show 0 ≤ ((x96_2 + 1)) ∧ ((x96_2 + 1)) ≤ 3 by omega) (show ∀ t, 0 ≤ t → t < ((x96_2 + 1)) → ((upd1 (w96_56) (x96_2) (1))) t = if t = 0 then 1 else 4 * t by assumption) rfl
            · have r208 : (0 : Int) ≤ F 1 3 ∧ F 1 3 ≤ 65536 := by have h1 : (0 : Int) ≤ F30 1 3 ∧ F30 1 3 ≤ 65536 := H.frng 1 3; rw [show F30 1 3 = F 1 3 from (((hS32 1 3 rfl).trans (hS9 1 3 rfl)).trans (hS_33 1 3 rfl))] at h1; exact h1
              have : IMP (MDX ((w69)) ((u6_35))) (MKD (mkF ((a1)) (sc ((w14)) 0 ((u1_1))) ((u6_2)) ((u6_1))) (-1) ((F 1 3)) ((A 15)) ∧ MDX ((w69)) ((u6_35))) := fun q => ⟨MKD_n (by first | exact .inr (.inl (by rw [hQn]; omega)) | exact .inr (.inr (.inl (by rw [hLT.1]; omega))) | exact .inr (.inr (.inr (.inl (by rw [hLT.1]; exact ALK_cg (fun k a b => (hLT.2 k a b).1.symm) (pz34_3 (by omega))))))) rfl, q⟩
              refine Ew_of (pc' := 93) (fun _ => x_iconst rfl) ?_
              exact w_ireturn rfl (k ((-1)) σ _ _ H (SF_trans (SF_trans (SF_trans (SF_upd (SF_upd (SF_refl) rfl) rfl) hS_33 (any_sub rfl)) hS9 (any_sub rfl)) hS32 (any_sub rfl)) (SA_trans (SA_trans (SA_trans (SA_refl) hA_33 (any_subA rfl)) hA10 (any_subA rfl)) hA33 (any_subA rfl)) (F 1 3) ((((hS32 1 3 rfl).trans (hS9 1 3 rfl)).trans (hS_33 1 3 rfl))) (u6_35) (((((hS32 6 35 rfl).trans (hS9 6 35 rfl)).trans (hS_33 6 35 rfl)).trans (eu6_35))) (A 15) ((funext (hA33 15 rfl)).trans ((funext (hA10 15 rfl)).trans (funext (hA_33 15 rfl)))) (w69) ((funext (hA33 69 rfl)).trans ((funext (hA10 69 rfl)).trans ((funext (hA_33 69 rfl)).trans (ew69)))) (show inr ((-1)) by omega) (show -1 ≤ ((-1)) ∧ ((-1)) ≤ 65536 by omega) (show IMP (MDX ((w69)) ((u6_35))) (MKD (mkF (a1) (sc ((w14)) 0 ((u1_1))) ((u6_2)) ((u6_1))) (((-1))) ((F 1 3)) ((A 15)) ∧ MDX ((w69)) ((u6_35))) by assumption))
      · refine Ew_of (pc' := 45) (fun _ => x_aload_n rfl l33_0) ?_
        refine w_gT H (o := 6) (t := 61) rfl (H.perm 6 rfl) rfl rfl rfl rfl rfl rfl ?_
        refine Ew_of (pc' := 49) (fun _ => x_iload_n rfl l33_2) ?_
        refine Ew_of (pc' := 50) (fun _ => x_aload_n rfl l33_0) ?_
        refine w_gT H (o := 6) (t := 1) rfl (H.perm 6 rfl) rfl rfl rfl rfl rfl rfl ?_
        refine w_gT H (o := 1) (t := 14) rfl (H.perm 1 rfl) rfl rfl rfl rfl rfl rfl ?_
        refine Ew_of (pc' := 57) (fun _ => x_iload_n rfl l33_2) ?_
        refine w_lI H (o := 14) (n := 65536) rfl (H.perm 14 rfl) rfl rfl (H.fix 14 rfl rfl) (show 0 ≤ x33_2 ∧ x33_2 < ((65536 : Nat) : Int) by omega) (by decide) (fun v209 ev209 qv209 => ?_)
        have qv209 : (0 : Int) ≤ v209 ∧ v209 ≤ 255 := qv209
        have ev209 : (w14) (x33_2) = v209 := (congrFun ((funext (hA_33 14 rfl)).trans (ew14)) (x33_2)).symm.trans ev209
        have hdv := ev209
        refine w_sI H (o := 61) (n := 16384) rfl (H.perm 61 rfl) rfl rfl (H.fix 61 rfl rfl) (show 0 ≤ x33_2 ∧ x33_2 < ((16384 : Nat) : Int) by omega) (by decide) (show (0 : Int) ≤ v209 ∧ v209 ≤ 255 by omega) (fun σ H => ?_)
        refine Ew_of (pc' := 62) (fun _ => x_iinc (len := 3) rfl (l33_2)) ?_
        refine Ew_of (pc' := 33) (fun _ => x_goto rfl rfl) ?_
        have : ∀ i, 0 ≤ i → i < ((x33_2 + 1)) → ((upd1 (w33_61) (x33_2) (v209))) i = ((w14)) i := fun i a b => by by_cases e : i = qd; (rw [e, hqd, upd1_s, ← hdv]); (rw [upd1_o (by omega)]; exact j33_c i a (by omega))
        exact ih33 _ (by omega) _ σ _ _ ((x33_2 + 1)) (rk_o (l33_0) rfl rfl) (rk_o (l33_1) rfl rfl) (rk_s) H (hS_33) (SA_upd (hA_33) rfl)  (upd1 (w33_61) (x33_2) (v209)) (congrArg (fun q => upd1 q (x33_2) (v209)) (ew33_61)) (show inr ((x33_2 + 1)) by omega) (show (0) ≤ ((x33_2 + 1)) by omega) (show ((x33_2 + 1)) ≤ (0) ∨ ((x33_2 + 1)) ≤ ((u1_1)) by omega) (show 0 ≤ ((x33_2 + 1)) ∧ ((x33_2 + 1)) ≤ (u1_1) by omega) (show ∀ i, 0 ≤ i → i < ((x33_2 + 1)) → ((upd1 (w33_61) (x33_2) (v209))) i = ((w14)) i by assumption) rfl
  · have r210 : (0 : Int) ≤ F 1 3 ∧ F 1 3 ≤ 65536 := by have h1 : (0 : Int) ≤ F 1 3 ∧ F 1 3 ≤ 65536 := H.frng 1 3; rw [show F 1 3 = F 1 3 from rfl] at h1; exact h1
    have : IMP (MDX ((w69)) ((u6_35))) (MKD (mkF ((a1)) (sc ((w14)) 0 ((u1_1))) ((u6_2)) ((u6_1))) (-1) ((F 1 3)) ((A 15)) ∧ MDX ((w69)) ((u6_35))) := fun q => ⟨MKD_n (.inl (by rw [sc_lenI (by omega)]; omega)) rfl, q⟩
    refine Ew_of (pc' := 13) (fun _ => x_iconst rfl) ?_
    exact w_ireturn rfl (k ((-1)) σ _ _ H (SF_refl) (SA_refl) (F 1 3) (rfl) (u6_35) ((eu6_35)) (A 15) (rfl) (w69) (ew69) (show inr ((-1)) by omega) (show -1 ≤ ((-1)) ∧ ((-1)) ≤ 65536 by omega) (show IMP (MDX ((w69)) ((u6_35))) (MKD (mkF (a1) (sc ((w14)) 0 ((u1_1))) ((u6_2)) ((u6_1))) (((-1))) ((F 1 3)) ((A 15)) ∧ MDX ((w69)) ((u6_35))) by assumption))
