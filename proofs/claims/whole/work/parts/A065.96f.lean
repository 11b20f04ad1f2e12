section
/-! 96f.ref -/
set_option maxHeartbeats 16000000 in
theorem M454 {σ0 σ : rS} {D N : Nat → Nat} {F : hF} {A : hA} {d c s : Nat} {Q : wQ} (H : HS σ0 σ D N F A) {a1 : Int} (u1_1 : Int) (eu1_1 : F 1 1 = u1_1) (u6_1 : Int) (eu6_1 : F 6 1 = u6_1) (u6_2 : Int) (eu6_2 : F 6 2 = u6_2) (u6_35 : Int) (eu6_35 : F 6 35 = u6_35) (w14 : Int → Int) (ew14 : A 14 = w14) (w69 : Int → Int) (ew69 : A 69 = w69) (h0 : inr (a1)) (h1 : 0 ≤ (u1_1) ∧ (u1_1) ≤ 16384) (h2 : 3 ≤ (u6_2)) (h3 : (u6_2) ≤ 8 ∧ 0 ≤ (u6_1) ∧ (u6_1) ≤ 3) (k : ∀ (z : Int) σ Fₚ Aₚ, HS σ0 σ D N Fₚ Aₚ → SF [(1, 3), (6, 22), (6, 23), (6, 24), (6, 28), (6, 30), (6, 35), (6, 37), (6, 49), (6, 53)] F Fₚ → SA [15, 56, 61, 62, 63, 64, 65, 66, 67, 68, 69, 70, 71, 72, 73, 74, 75, 76, 77, 78, 79, 80, 81, 82, 84] A Aₚ → ∀ y1_3 : Int, Fₚ 1 3 = y1_3 → ∀ y6_35 : Int, Fₚ 6 35 = y6_35 → ∀ v15 : Int → Int, Aₚ 15 = v15 → ∀ v69 : Int → Int, Aₚ 69 = v69 → (inr (z)) → (-1 ≤ (z) ∧ (z) ≤ 65536) → (IMP (MDX ((w69)) ((u6_35))) (MKD (mkF ((a1)) (sc ((w14)) 0 ((u1_1))) ((u6_2)) ((u6_1))) ((z)) ((y1_3)) ((v15)) ∧ MDX ((v69)) ((y6_35)))) → Q (some (I z)) σ c s) : Ew 454 (d + 5) 0 (rargs 0 [.ref (D 6), I a1]) [] σ c s Q := by
  have r1 : (0 : Int) ≤ u1_1 ∧ u1_1 ≤ 65536 := rngE (show (0 : Int) ≤ F 1 1 ∧ F 1 1 ≤ 65536 from H.frng 1 1) (show F 1 1 = u1_1 from (eu1_1))
  have r2 : (0 : Int) ≤ u6_1 ∧ u6_1 ≤ 3 := rngE (show (0 : Int) ≤ F 6 1 ∧ F 6 1 ≤ 3 from H.frng 6 1) (show F 6 1 = u6_1 from (eu6_1))
  have r3 : (0 : Int) ≤ u6_2 ∧ u6_2 ≤ 8 := rngE (show (0 : Int) ≤ F 6 2 ∧ F 6 2 ≤ 8 from H.frng 6 2) (show F 6 2 = u6_2 from (eu6_2))
  have r4 : (0 : Int) ≤ u6_35 ∧ u6_35 ≤ 100000000 := rngE (show (0 : Int) ≤ F 6 35 ∧ F 6 35 ≤ 100000000 from H.frng 6 35) (show F 6 35 = u6_35 from (eu6_35))
  refine Ew_of (pcₚ := 1) (fun _ => x_aload_n rfl rfl) ?_
  refine w_gT H (o := 6) (t := 1) rfl (H.perm 6 rfl) rfl rfl rfl rfl rfl rfl ?_
  refine w_gI H (o := 1) (w := u1_1) rfl (H.perm 1 rfl) rfl rfl rfl (fun _ => rfl) (eu1_1) ?_
  refine Ew_of (pcₚ := 9) (fun _ => x_bipush (z := 8) rfl (by decide)) ?_
  refine w_icmpge (t := 14) rfl rfl (show inr (u1_1) from q_286 r1) (show inr (8) from q_141) (fun b5 => ?_) (fun b5 => ?_)
  · refine Ew_of (pcₚ := 15) (fun _ => x_aload_n rfl rfl) ?_
    refine Ew_of (pcₚ := 17) (fun _ => x_ldc (z := 65536) rfl (by decide)) ?_
    refine w_pI H (o := 6) rfl rfl (H.perm 6 rfl) rfl rfl rfl (fun _ => rfl) rfl (show (0 : Int) ≤ 65536 ∧ 65536 ≤ 16777216 from q_2868) (fun σ H => ?_)
    refine Ew_of (pcₚ := 21) (fun _ => x_aload_n rfl rfl) ?_
    refine Ew_of (pcₚ := 22) (fun _ => x_aload_n rfl rfl) ?_
    refine w_gT H (o := 6) (t := 1) rfl (H.perm 6 rfl) rfl rfl rfl rfl rfl rfl ?_
    refine w_gI H (o := 1) (w := u1_1) rfl (H.perm 1 rfl) rfl rfl rfl (fun _ => rfl) (eu1_1) ?_
    refine w_pI H (o := 6) rfl rfl (H.perm 6 rfl) rfl rfl rfl (fun _ => rfl) rfl (show (0 : Int) ≤ u1_1 ∧ u1_1 ≤ 16384 from h1) (fun σ H => ?_)
    refine Ew_of (pcₚ := 32) (fun _ => x_iconst rfl) ?_
    refine Ew_of (pcₚ := 33) (fun _ => x_istore_n rfl) ?_
    have : ∀ i, 0 ≤ i → i < 0 → ((A 61)) i = ((w14)) i := fun i a b => absurd b (by omega)
    suffices hl33 : ∀ (m : Nat), ∀ (ls : rO) (σ : rS) (F_33 : hF) (A_33 : hA) (x33_2 : Int), rlook ls 0 = some (.ref (D 6)) → rlook ls 1 = some (I (a1)) → rlook ls 2 = some (I (x33_2)) → HS σ0 σ D N F_33 A_33 → SF [] (updF (updF F 6 24 (65536)) 6 22 (u1_1)) F_33 → SA [61] A A_33 → ∀ w33_61 : Int → Int, A_33 61 = w33_61 → (inr (x33_2)) → ((0) ≤ (x33_2)) → ((x33_2) ≤ (0) ∨ (x33_2) ≤ ((u1_1))) → (0 ≤ (x33_2) ∧ (x33_2) ≤ (u1_1)) → (∀ i, 0 ≤ i → i < (x33_2) → ((w33_61)) i = ((w14)) i) → (((u1_1)) - (x33_2)).toNat = m → Ew 454 (d + 5) 33 ls [] σ c s Q from
      hl33 _ _ σ _ _ (0) (rk_o (rfl) rfl rfl) (rk_o (rfl) rfl rfl) (rk_s) H (SF_refl) (SA_refl)  (A 61) (rfl) (show inr (0) from q_2) (show (0) ≤ (0) from q_1) (show (0) ≤ (0) ∨ (0) ≤ ((u1_1)) from q_5) (show 0 ≤ (0) ∧ (0) ≤ (u1_1) from q_1172 r1) (show ∀ i, 0 ≤ i → i < (0) → ((A 61)) i = ((w14)) i by assumption) rfl
    as_aux_lemma =>
    intro m
    induction m using Nat.strongRecOn with
    | _ m ih33 =>
      intro ls σ F_33 A_33 x33_2 l33_0 l33_1 l33_2 H hS_33 hA_33  w33_61 ew33_61 j33_0 j33_1 j33_2 j33_3 j33_4 hm33
      have j33_c : ∀ i, 0 ≤ i → i < (x33_2) → ((w33_61)) i = ((w14)) i := by assumption
      obtain ⟨qd, hqd⟩ : ∃ q : Int, q = (x33_2) := ⟨_, rfl⟩
      refine Ew_of (pcₚ := 34) (fun _ => x_iload_n rfl l33_2) ?_
      refine Ew_of (pcₚ := 35) (fun _ => x_aload_n rfl l33_0) ?_
      refine w_gT H (o := 6) (t := 1) rfl (H.perm 6 rfl) rfl rfl rfl rfl rfl rfl ?_
      refine w_gI H (o := 1) (w := u1_1) rfl (H.perm 1 rfl) rfl rfl rfl (fun _ => rfl) ((hS_33 1 1 rfl).trans (eu1_1)) ?_
      refine w_icmpge (t := 65) rfl rfl (show inr (x33_2) from j33_0) (show inr (u1_1) from q_1951 b5 r1) (fun b6 => ?_) (fun b6 => ?_)
      · have hDD : sc ((w33_61)) 0 ((u1_1)) = sc ((w14)) 0 ((u1_1)) := sc_same (fun i a b => j33_c i a (by omega))
        have hBd : ∀ i, (0 : Int) ≤ (w33_61) i ∧ (w33_61) i ≤ 255 := fun i => by have h1 : (0 : Int) ≤ A_33 61 i ∧ A_33 61 i ≤ 255 := H.arng 61 i; rw [show A_33 61 = w33_61 from ew33_61] at h1; exact h1
        refine Ew_of (pcₚ := 66) (fun _ => x_aload_n rfl l33_0) ?_
        refine Ew_of (pcₚ := 67) (fun _ => x_iconst rfl) ?_
        refine w_inv H (o := 6) rfl rfl rfl (H.perm 6 rfl) rfl rfl (by rfl) (M399b H (u6_1) (((hS_33 6 1 rfl).trans (eu6_1))) (u6_2) (((hS_33 6 2 rfl).trans (eu6_2))) (u1_1) ((hS_33 6 22 rfl)) (65536) ((hS_33 6 24 rfl)) (w33_61) (ew33_61) (show inr (0) from q_2) (show 0 ≤ (0) ∧ (0) ≤ (u1_1) from q_1172 r1) (show 0 ≤ (u1_1) ∧ (u1_1) ≤ 16384 from h1) (show 3 ≤ (u6_2) ∧ (u6_2) ≤ 8 from q_2766 h2 r3) (show 0 ≤ (u6_1) ∧ (u6_1) ≤ 3 from r2) (fun σ F7 A8 H hS9 hA10 y12 ey13 y14 ey15 wq16 ewq17 wq18 ewq19 wq20 ewq21 wq22 ewq23 pz11_0 pz11_1 pz11_2 => ⟨rfl, ?_⟩))
        have r24 : (0 : Int) ≤ y12 ∧ y12 ≤ 8001 := rngE (show (0 : Int) ≤ F7 6 28 ∧ F7 6 28 ≤ 8001 from H.frng 6 28) (show F7 6 28 = y12 from (ey13))
        have r25 : (0 : Int) ≤ y14 ∧ y14 ≤ 16385 := rngE (show (0 : Int) ≤ F7 6 30 ∧ F7 6 30 ≤ 16385 from H.frng 6 30) (show F7 6 30 = y14 from (ey15))
        have hGR := pz11_1
        have hgo := pz11_2
        have : ∀ j, 0 ≤ j → j < (y12) → 3 ≤ ((wq18)) j := hgo.1
        have hGQ := GOR_q (by omega) hGR hDD (by omega) (by omega) (BYI_u hBd)
        have hBl : ∀ i, (0 : Int) ≤ (wq22) i ∧ (wq22) i ≤ 255 := fun i => by have h1 : (0 : Int) ≤ A8 65 i ∧ A8 65 i ≤ 255 := H.arng 65 i; rw [show A8 65 = wq22 from ewq23] at h1; exact h1
        have hLT := lit_e (T := (ltQ (sc ((w14)) 0 ((u1_1))) 65536 ((u6_2)) ((u6_1)) 0)) hGQ.2.symm (by omega) (fun k _ _ => by have := hBl k; omega)
        have hQn : ((qsF (sc ((w14)) 0 ((u1_1))) 65536 ((u6_2)) ((u6_1)) 0).1.length : Int) = (y12) := by rw [hGQ.1, sq_len]; omega
        refine Ew_of (pcₚ := 71) (fun _ => x_aload_n rfl l33_0) ?_
        refine w_gI H (o := 6) (w := y12) rfl (H.perm 6 rfl) rfl rfl rfl (fun _ => rfl) (ey13) ?_
        refine w_ifeq (t := 92) rfl rfl (show inr (y12) from q_6 r24) (fun b26 => ?_) (fun b26 => ?_)
        · have r27 : (0 : Int) ≤ F 1 3 ∧ F 1 3 ≤ 65536 := rngE (show (0 : Int) ≤ F7 1 3 ∧ F7 1 3 ≤ 65536 from H.frng 1 3) (show F7 1 3 = F 1 3 from ((hS9 1 3 rfl).trans (hS_33 1 3 rfl)))
          have : IMP (MDX ((w69)) ((u6_35))) (MKD (mkF ((a1)) (sc ((w14)) 0 ((u1_1))) ((u6_2)) ((u6_1))) (-1) ((F 1 3)) ((A 15)) ∧ MDX ((w69)) ((u6_35))) := fun q => ⟨MKD_n (by first | exact .inr (.inl (by rw [hQn]; omega)) | exact .inr (.inr (.inl (by rw [hLT.1]; omega))) | exact .inr (.inr (.inr (.inl (by rw [hLT.1]; exact ALK_cg (fun k a b => (hLT.2 k a b).1.symm) (pzMISS_3 (by omega))))))) rfl, q⟩
          refine Ew_of (pcₚ := 93) (fun _ => x_iconst rfl) ?_
          exact w_ireturn rfl (k ((-1)) σ _ _ H (SF_trans (SF_trans (SF_upd (SF_upd (SF_refl) rfl) rfl) hS_33 (any_sub rfl)) hS9 (any_sub rfl)) (SA_trans (SA_trans (SA_refl) hA_33 (any_subA rfl)) hA10 (any_subA rfl)) (F 1 3) (((hS9 1 3 rfl).trans (hS_33 1 3 rfl))) (u6_35) ((((hS9 6 35 rfl).trans (hS_33 6 35 rfl)).trans (eu6_35))) (A 15) ((funext (hA10 15 rfl)).trans (funext (hA_33 15 rfl))) (w69) ((funext (hA10 69 rfl)).trans ((funext (hA_33 69 rfl)).trans (ew69))) (show inr ((-1)) from q_63) (show -1 ≤ ((-1)) ∧ ((-1)) ≤ 65536 by first | exact q_2011 | omega) (show IMP (MDX ((w69)) ((u6_35))) (MKD (mkF (a1) (sc ((w14)) 0 ((u1_1))) ((u6_2)) ((u6_1))) (((-1))) ((F 1 3)) ((A 15)) ∧ MDX ((w69)) ((u6_35))) by assumption))
        · refine Ew_of (pcₚ := 78) (fun _ => x_aload_n rfl l33_0) ?_
          refine w_gI H (o := 6) (w := y14) rfl (H.perm 6 rfl) rfl rfl rfl (fun _ => rfl) (ey15) ?_
          refine Ew_of (pcₚ := 82) (fun _ => x_iconst rfl) ?_
          refine w_icmplt (t := 92) rfl rfl (show inr (y14) from q_2125 r25) (show inr (2) from q_122) (fun b28 => ?_) (fun b28 => ?_)
          · have r29 : (0 : Int) ≤ F 1 3 ∧ F 1 3 ≤ 65536 := rngE (show (0 : Int) ≤ F7 1 3 ∧ F7 1 3 ≤ 65536 from H.frng 1 3) (show F7 1 3 = F 1 3 from ((hS9 1 3 rfl).trans (hS_33 1 3 rfl)))
            have : IMP (MDX ((w69)) ((u6_35))) (MKD (mkF ((a1)) (sc ((w14)) 0 ((u1_1))) ((u6_2)) ((u6_1))) (-1) ((F 1 3)) ((A 15)) ∧ MDX ((w69)) ((u6_35))) := fun q => ⟨MKD_n (by first | exact .inr (.inl (by rw [hQn]; omega)) | exact .inr (.inr (.inl (by rw [hLT.1]; omega))) | exact .inr (.inr (.inr (.inl (by rw [hLT.1]; exact ALK_cg (fun k a b => (hLT.2 k a b).1.symm) (pzMISS_3 (by omega))))))) rfl, q⟩
            refine Ew_of (pcₚ := 93) (fun _ => x_iconst rfl) ?_
            exact w_ireturn rfl (k ((-1)) σ _ _ H (SF_trans (SF_trans (SF_upd (SF_upd (SF_refl) rfl) rfl) hS_33 (any_sub rfl)) hS9 (any_sub rfl)) (SA_trans (SA_trans (SA_refl) hA_33 (any_subA rfl)) hA10 (any_subA rfl)) (F 1 3) (((hS9 1 3 rfl).trans (hS_33 1 3 rfl))) (u6_35) ((((hS9 6 35 rfl).trans (hS_33 6 35 rfl)).trans (eu6_35))) (A 15) ((funext (hA10 15 rfl)).trans (funext (hA_33 15 rfl))) (w69) ((funext (hA10 69 rfl)).trans ((funext (hA_33 69 rfl)).trans (ew69))) (show inr ((-1)) from q_63) (show -1 ≤ ((-1)) ∧ ((-1)) ≤ 65536 by first | exact q_2011 | omega) (show IMP (MDX ((w69)) ((u6_35))) (MKD (mkF (a1) (sc ((w14)) 0 ((u1_1))) ((u6_2)) ((u6_1))) (((-1))) ((F 1 3)) ((A 15)) ∧ MDX ((w69)) ((u6_35))) by assumption))
          · refine Ew_of (pcₚ := 86) (fun _ => x_aload_n rfl l33_0) ?_
            refine w_inv H (o := 6) rfl rfl rfl (H.perm 6 rfl) rfl rfl (by rfl) (M432 H (y14) ((ey15)) (wq22) (ewq23)  (fun z34 σ F30 A31 H hS32 hA33 pz34_0 pz34_1 pz34_2 pz34_3 => ⟨rretB rfl pz34_0, ?_⟩))
            refine w_ifeq (t := 94) rfl rfl (show inr (z34) from q_138 pz34_0) (fun b35 => ?_) (fun b35 => ?_)
            · have hdf : DIFF ((wq22)) ((y14)) := by rcases pz34_2 (by omega) with q | q; omega; exact q
              refine Ew_of (pcₚ := 95) (fun _ => x_iconst rfl) ?_
              refine Ew_of (pcₚ := 96) (fun _ => x_istore_n rfl) ?_
              have : ∀ t, 0 ≤ t → t < 0 → ((A 56)) t = if t = 0 then 1 else 4 * t := fun t a b => absurd b (by omega)
              suffices hl96 : ∀ (m : Nat), ∀ (ls : rO) (σ : rS) (F_96 : hF) (A_96 : hA) (x96_2 : Int), rlook ls 0 = some (.ref (D 6)) → rlook ls 1 = some (I (a1)) → rlook ls 2 = some (I (x96_2)) → HS σ0 σ D N F_96 A_96 → SF [] F30 F_96 → SA [56] A31 A_96 → ∀ w96_56 : Int → Int, A_96 56 = w96_56 → (inr (x96_2)) → ((0) ≤ (x96_2)) → ((x96_2) ≤ (0) ∨ (x96_2) ≤ (3)) → (0 ≤ (x96_2) ∧ (x96_2) ≤ 3) → (∀ t, 0 ≤ t → t < (x96_2) → ((w96_56)) t = if t = 0 then 1 else 4 * t) → ((3) - (x96_2)).toNat = m → Ew 454 (d + 5) 96 ls [] σ c s Q from
                hl96 _ _ σ _ _ (0) (rk_o (l33_0) rfl rfl) (rk_o (l33_1) rfl rfl) (rk_s) H (SF_refl) (SA_refl)  (A 56) ((funext (hA33 56 rfl)).trans ((funext (hA10 56 rfl)).trans (funext (hA_33 56 rfl)))) (show inr (0) from q_2) (show (0) ≤ (0) from q_1) (show (0) ≤ (0) ∨ (0) ≤ (3) from q_1793) (show 0 ≤ (0) ∧ (0) ≤ 3 from q_548) (show ∀ t, 0 ≤ t → t < (0) → ((A 56)) t = if t = 0 then 1 else 4 * t by assumption) rfl
              as_aux_lemma =>
              intro m
              induction m using Nat.strongRecOn with
              | _ m ih96 =>
                intro ls σ F_96 A_96 x96_2 l96_0 l96_1 l96_2 H hS_96 hA_96  w96_56 ew96_56 j96_0 j96_1 j96_2 j96_3 j96_4 hm96
                have j96_l : ∀ t, 0 ≤ t → t < (x96_2) → ((w96_56)) t = if t = 0 then 1 else 4 * t := by assumption
                obtain ⟨qd, hqd⟩ : ∃ q : Int, q = (x96_2) := ⟨_, rfl⟩
                refine Ew_of (pcₚ := 97) (fun _ => x_iload_n rfl l96_2) ?_
                refine Ew_of (pcₚ := 98) (fun _ => x_iconst rfl) ?_
                refine w_icmpge (t := 124) rfl rfl (show inr (x96_2) from j96_0) (show inr (3) from q_246) (fun b36 => ?_) (fun b36 => ?_)
                · have hl40 := j96_l 0 (by omega) (by omega)
                  have hl41 := j96_l 1 (by omega) (by omega)
                  have hl42 := j96_l 2 (by omega) (by omega)
                  rw [if_pos rfl] at hl40
                  rw [if_neg (by decide)] at hl41 hl42
                  refine Ew_of (pcₚ := 125) (fun _ => x_aload_n rfl l96_0) ?_
                  refine w_inv H (o := 6) rfl rfl rfl (H.perm 6 rfl) rfl rfl (by rfl) (M404b H (y12) ((((hS_96 6 28 rfl).trans (hS32 6 28 rfl)).trans (ey13))) (w96_56) (ew96_56) (wq16) ((funext (hA_96 62 rfl)).trans ((funext (hA33 62 rfl)).trans (ewq17))) (wq18) ((funext (hA_96 63 rfl)).trans ((funext (hA33 63 rfl)).trans (ewq19))) (wq20) ((funext (hA_96 64 rfl)).trans ((funext (hA33 64 rfl)).trans (ewq21))) (show ∀ j, 0 ≤ j → j < (y12) → 3 ≤ ((wq18)) j by assumption) (fun σ F37 A38 H hS39 hA40 wq42 ewq43 wq44 ewq45 wq46 ewq47 wq48 ewq49 pz41_0 pz41_1 => ⟨rfl, ?_⟩))
                  have htl : TLI ((wq44)) ((wq46)) ((wq16)) ((wq18)) ((y12)) := pz41_0
                  have hTL := pz41_1 ⟨⟨by omega, by omega, by omega⟩, GOR_d (by omega) hGR⟩
                  have hTW := hTL.1
                  rw [hl40, hl41, hl42, show (4 : Int) * 1 = 4 by decide, show (4 : Int) * 2 = 8 by decide] at hTW
                  refine Ew_of (pcₚ := 129) (fun _ => x_aload_n rfl l96_0) ?_
                  refine w_inv H (o := 6) rfl rfl rfl (H.perm 6 rfl) rfl rfl (by rfl) (M420 H (y14) (((((hS39 6 30 rfl).trans (hS_96 6 30 rfl)).trans (hS32 6 30 rfl)).trans (ey15))) (wq22) ((funext (hA40 65 rfl)).trans ((funext (hA_96 65 rfl)).trans ((funext (hA33 65 rfl)).trans (ewq23)))) (hdf) (fun z54 σ F50 A51 H hS52 hA53 wq55 ewq56 pz54_0 pz54_1 pz54_2 pz54_3 pz54_4 pz54_5 => ⟨rfl, ?_⟩))
                  have hgd := hfG_of pz54_4
                  have hte := pz54_5
                  refine Ew_of (pcₚ := 133) (fun _ => x_istore_n rfl) ?_
                  refine Ew_of (pcₚ := 134) (fun _ => x_aload_n rfl (rk_o (l96_0) rfl rfl)) ?_
                  refine Ew_of (pcₚ := 135) (fun _ => x_iload_n rfl rk_s) ?_
                  refine w_inv H (o := 6) rfl rfl rfl (H.perm 6 rfl) rfl rfl (by rfl) (M422f H (u6_35) ((((((((hS52 6 35 rfl).trans (hS39 6 35 rfl)).trans (hS_96 6 35 rfl)).trans (hS32 6 35 rfl)).trans (hS9 6 35 rfl)).trans (hS_33 6 35 rfl)).trans (eu6_35))) (w69) ((funext (hA53 69 rfl)).trans ((funext (hA40 69 rfl)).trans ((funext (hA_96 69 rfl)).trans ((funext (hA33 69 rfl)).trans ((funext (hA10 69 rfl)).trans ((funext (hA_33 69 rfl)).trans (ew69))))))) (wq55) (ewq56) (show inr (z54) from pz54_0) (show 1 ≤ (z54) ∧ (z54) ≤ 11 from pz54_1) (pz54_2) (fun z61 σ F57 A58 H hS59 hA60 y62 ey63 wq64 ewq65 pz61_0 pz61_1 pz61_2 pz61_3 => ⟨rfl, ?_⟩))
                  have r66 : (0 : Int) ≤ y62 ∧ y62 ≤ 100000000 := rngE (show (0 : Int) ≤ F57 6 35 ∧ F57 6 35 ≤ 100000000 from H.frng 6 35) (show F57 6 35 = y62 from (ey63))
                  have hDRF := pz61_3
                  have hDS := dscF_of hgd hte
                  have hDT : dscF (ap (ltQ (sc ((w14)) 0 ((u1_1))) 65536 ((u6_2)) ((u6_1)) 0)) ((ltQ (sc ((w14)) 0 ((u1_1))) 65536 ((u6_2)) ((u6_1)) 0).length : Int) = dscF ((wq22)) ((y14)) := by rw [hLT.1]; exact dscF_cg (fun k a b => (hLT.2 k a b).1)
                  refine w_ifge (t := 143) rfl rfl (show inr (z61) from pz61_0) (fun b67 => ?_) (fun b67 => ?_)
                  · obtain ⟨Q_, hQ_⟩ : ∃ Q : Sqs, Q = (qsF (sc ((w14)) 0 ((u1_1))) 65536 ((u6_2)) ((u6_1)) 0).1 := ⟨_, rfl⟩
                    obtain ⟨T_, hT_⟩ : ∃ T : List Int, T = (ltQ (sc ((w14)) 0 ((u1_1))) 65536 ((u6_2)) ((u6_1)) 0) := ⟨_, rfl⟩
                    rw [← hT_] at hDT hLT
                    rw [← hQ_] at hQn
                    have hgq1 := hGQ.1
                    rw [← hQ_] at hgq1
                    refine Ew_of (pcₚ := 144) (fun _ => x_aload_n rfl (rk_o (l96_0) rfl rfl)) ?_
                    refine Ew_of (pcₚ := 145) (fun _ => x_iconst rfl) ?_
                    refine w_pI H (o := 6) rfl rfl (H.perm 6 rfl) rfl rfl rfl (fun _ => rfl) rfl (show (0 : Int) ≤ 0 ∧ 0 ≤ 100000000 from q_1202) (fun σ H => ?_)
                    refine Ew_of (pcₚ := 149) (fun _ => x_aload_n rfl (rk_o (l96_0) rfl rfl)) ?_
                    refine Ew_of (pcₚ := 152) (fun _ => x_ldc2 (z := 3962610743) rfl (by decide)) ?_
                    refine Ew_of (pcₚ := 153) (fun _ => x_iconst rfl) ?_
                    refine w_inv H (o := 6) rfl rfl rfl (H.perm 6 rfl) rfl rfl (by rfl) (M393g H (0) (rfl) (A 70) ((funext (hA60 70 rfl)).trans ((funext (hA53 70 rfl)).trans ((funext (hA40 70 rfl)).trans ((funext (hA_96 70 rfl)).trans ((funext (hA33 70 rfl)).trans ((funext (hA10 70 rfl)).trans (funext (hA_33 70 rfl)))))))) (show inrJ (3962610743) from q_2869) (show inr (4) from q_216) (show 0 ≤ (4) ∧ (4) ≤ 8 from q_623) (show 0 ≤ (0) ∧ (0) ≤ 90000000 from q_2815) (fun σ F68 A69 H hS70 hA71 y73 ey74 wq75 ewq76 pz72_0 pz72_1 pz72_2 => ⟨rfl, ?_⟩))
                    have r77 : (0 : Int) ≤ y73 ∧ y73 ≤ 100000000 := rngE (show (0 : Int) ≤ F68 6 37 ∧ F68 6 37 ≤ 100000000 from H.frng 6 37) (show F68 6 37 = y73 from (ey74))
                    have hq156 : QAP 65536 ((A 70)) 0 ((wq75)) ((y73)) (nb 3962610743 4) := pz72_1
                    refine Ew_of (pcₚ := 157) (fun _ => x_aload_n rfl (rk_o (l96_0) rfl rfl)) ?_
                    refine Ew_of (pcₚ := 158) (fun _ => x_iload_n rfl (rk_o (l96_1) rfl rfl)) ?_
                    refine w_i2l rfl (show inr (a1) from h0) ?_
                    refine Ew_of (pcₚ := 162) (fun _ => x_ldc2 (z := 4294967295) rfl (by decide)) ?_
                    refine w_landE rfl ?_
                    have g78 : inrJ (anJ (a1) (4294967295)) := toJ_inr _
                    refine Ew_of (pcₚ := 164) (fun _ => x_iconst rfl) ?_
                    refine w_inv H (o := 6) rfl rfl rfl (H.perm 6 rfl) rfl rfl (by rfl) (M393g H (y73) ((ey74)) (wq75) (ewq76) (show inrJ ((anJ (a1) (4294967295))) from g78) (show inr (4) from q_216) (show 0 ≤ (4) ∧ (4) ≤ 8 from q_623) (show 0 ≤ (y73) ∧ (y73) ≤ 90000000 from q_2870 pz72_0 r77) (fun σ F79 A80 H hS81 hA82 y84 ey85 wq86 ewq87 pz83_0 pz83_1 pz83_2 => ⟨rfl, ?_⟩))
                    have r88 : (0 : Int) ≤ y84 ∧ y84 ≤ 100000000 := rngE (show (0 : Int) ≤ F79 6 37 ∧ F79 6 37 ≤ 100000000 from H.frng 6 37) (show F79 6 37 = y84 from (ey85))
                    have hq167 : QAP 65536 ((A 70)) 0 ((wq86)) ((y84)) (nb 3962610743 4 ++ nb ((a1)) 4) := by have h := pz83_1; rw [nb_and] at h; exact QAP_trans hq156 h
                    refine Ew_of (pcₚ := 168) (fun _ => x_aload_n rfl (rk_o (l96_0) rfl rfl)) ?_
                    refine w_inv H (o := 6) rfl rfl rfl (H.perm 6 rfl) rfl rfl (by rfl) (M394 H (y62) ((((hS81 6 35 rfl).trans (hS70 6 35 rfl)).trans (ey63))) (y84) ((ey85)) (wq64) ((funext (hA82 69 rfl)).trans ((funext (hA71 69 rfl)).trans (ewq65))) (wq86) (ewq87) (show 0 ≤ (y62) ∧ (y62) ≤ 192000 from q_2872 b67 pz61_2 r66) (show 0 ≤ (y84) ∧ (y84) ≤ 90000000 from q_2871 pz72_0 pz83_0 r88) (fun σ F89 A90 H hS91 hA92 y94 ey95 wq96 ewq97 pz93_0 pz93_1 => ⟨rfl, ?_⟩))
                    have r98 : (0 : Int) ≤ y94 ∧ y94 ≤ 100000000 := rngE (show (0 : Int) ≤ F89 6 37 ∧ F89 6 37 ≤ 100000000 from H.frng 6 37) (show F89 6 37 = y94 from (ey95))
                    have hDR2 : IMP (MDX ((w69)) ((u6_35))) (∃ D, dscF (ap T_) (T_.length : Int) = some D ∧ MBY ((wq64)) ((y62)) D) := fun q => by obtain ⟨D_, d1, d2, d3⟩ := DRF_D (hDRF q) (by omega); exact ⟨D_, by rw [hDT, ← hDS]; exact d1, d3⟩
                    have hq171 : IMP (MDX ((w69)) ((u6_35))) (QAP 65536 ((A 70)) 0 ((wq96)) ((y94)) ((nb 3962610743 4 ++ nb ((a1)) 4) ++ (dscF (ap T_) (T_.length : Int)).getD []) ∧ MDX ((wq64)) ((y62))) := fun q => by obtain ⟨D_, d1, d3⟩ := hDR2 q; have h := pz93_1; rw [MBY_sc d3 (by omega)] at h; exact ⟨by rw [d1]; exact QAP_trans hq167 h, MBY_X d3⟩
                    refine Ew_of (pcₚ := 172) (fun _ => x_iconst rfl) ?_
                    refine Ew_of (pcₚ := 173) (fun _ => x_istore_n rfl) ?_
                    have : IMP (MDX ((w69)) ((u6_35))) (QAP 65536 ((A 70)) 0 ((wq96)) ((y94)) (((nb 3962610743 4 ++ nb ((a1)) 4) ++ (dscF (ap T_) (T_.length : Int)).getD []) ++ mkU Q_ ((0 : Int).toNat)) ∧ MDX ((wq64)) ((y62))) := fun q => by show _ ∧ _; rw [show mkU Q_ (0 : Int).toNat = [] from rfl, List.append_nil]; exact hq171 q
                    suffices hl173 : ∀ (m : Nat), ∀ (ls : rO) (σ : rS) (F_173 : hF) (A_173 : hA) (x173_3 : Int), rlook ls 0 = some (.ref (D 6)) → rlook ls 3 = some (I (x173_3)) → HS σ0 σ D N F_173 A_173 → SF [(6, 35), (6, 37)] F89 F_173 → SA [69, 70, 71, 72, 73, 74, 75, 76, 77, 78] A90 A_173 → ∀ y173_6_35 : Int, F_173 6 35 = y173_6_35 → ∀ y173_6_37 : Int, F_173 6 37 = y173_6_37 → ∀ w173_69 : Int → Int, A_173 69 = w173_69 → ∀ w173_70 : Int → Int, A_173 70 = w173_70 → (inr (x173_3)) → (0 ≤ (x173_3) ∧ (x173_3) ≤ 3) → (0 ≤ (y173_6_37) ∧ (y173_6_37) ≤ 300 + 100 * (x173_3)) → (IMP (MDX ((w69)) ((u6_35))) (QAP 65536 ((A 70)) 0 ((w173_70)) ((y173_6_37)) (((nb 3962610743 4 ++ nb ((a1)) 4) ++ (dscF (ap T_) (T_.length : Int)).getD []) ++ mkU Q_ (((x173_3) : Int).toNat)) ∧ MDX ((w173_69)) ((y173_6_35)))) → (3 - (x173_3)).toNat = m → Ew 454 (d + 5) 173 ls [] σ c s Q from
                      hl173 _ _ σ _ _ (0) (rk_o (rk_o (l96_0) rfl rfl) rfl rfl) (rk_s) H (SF_refl) (SA_refl) (y62) (((((hS91 6 35 rfl).trans (hS81 6 35 rfl)).trans (hS70 6 35 rfl)).trans (ey63))) (y94) ((ey95)) (wq64) ((funext (hA92 69 rfl)).trans ((funext (hA82 69 rfl)).trans ((funext (hA71 69 rfl)).trans (ewq65)))) (wq96) (ewq97) (show inr (0) from q_2) (show 0 ≤ (0) ∧ (0) ≤ 3 from q_548) (show 0 ≤ (y94) ∧ (y94) ≤ 300 + 100 * (0) by omega) (show IMP (MDX ((w69)) ((u6_35))) (QAP 65536 ((A 70)) 0 ((wq96)) ((y94)) (((nb 3962610743 4 ++ nb ((a1)) 4) ++ (dscF (ap T_) (T_.length : Int)).getD []) ++ mkU Q_ (((0) : Int).toNat)) ∧ MDX ((wq64)) ((y62))) by assumption) rfl
                    as_aux_lemma =>
                    intro m
                    induction m using Nat.strongRecOn with
                    | _ m ih173 =>
                      intro ls σ F_173 A_173 x173_3 l173_0 l173_3 H hS_173 hA_173 y173_6_35 ey173_6_35 y173_6_37 ey173_6_37 w173_69 ew173_69 w173_70 ew173_70 j173_0 j173_1 j173_2 j173_3 hm173
                      have r99 : (0 : Int) ≤ y173_6_35 ∧ y173_6_35 ≤ 100000000 := rngE (show (0 : Int) ≤ F_173 6 35 ∧ F_173 6 35 ≤ 100000000 from H.frng 6 35) (show F_173 6 35 = y173_6_35 from (ey173_6_35))
                      have r100 : (0 : Int) ≤ y173_6_37 ∧ y173_6_37 ≤ 100000000 := rngE (show (0 : Int) ≤ F_173 6 37 ∧ F_173 6 37 ≤ 100000000 from H.frng 6 37) (show F_173 6 37 = y173_6_37 from (ey173_6_37))
                      have j173_q : IMP (MDX ((w69)) ((u6_35))) (QAP 65536 ((A 70)) 0 ((w173_70)) ((y173_6_37)) (((nb 3962610743 4 ++ nb ((a1)) 4) ++ (dscF (ap T_) (T_.length : Int)).getD []) ++ mkU Q_ (((x173_3) : Int).toNat)) ∧ MDX ((w173_69)) ((y173_6_35))) := by assumption
                      obtain ⟨ql3, hql3⟩ : ∃ q : Int, q = (x173_3) := ⟨_, rfl⟩
                      refine Ew_of (pcₚ := 174) (fun _ => x_iload_n rfl l173_3) ?_
                      refine Ew_of (pcₚ := 175) (fun _ => x_iconst rfl) ?_
                      refine w_icmpge (t := 241) rfl rfl (show inr (x173_3) from j173_0) (show inr (3) from q_246) (fun b101 => ?_) (fun b101 => ?_)
                      · have hq241 : IMP (MDX ((w69)) ((u6_35))) (QAP 65536 ((A 70)) 0 ((w173_70)) ((y173_6_37)) (((nb 3962610743 4 ++ nb ((a1)) 4) ++ (dscF (ap T_) (T_.length : Int)).getD []) ++ mkU Q_ (3)) ∧ MDX ((w173_69)) ((y173_6_35))) := fun q => by have h := j173_q q; rw [show (x173_3) = (3 : Int) by omega] at h; exact h
                        refine Ew_of (pcₚ := 242) (fun _ => x_aload_n rfl l173_0) ?_
                        refine Ew_of (pcₚ := 243) (fun _ => x_lconst (z := 1) rfl (by decide)) ?_
                        refine Ew_of (pcₚ := 244) (fun _ => x_iconst rfl) ?_
                        refine w_inv H (o := 6) rfl rfl rfl (H.perm 6 rfl) rfl rfl (by rfl) (M393g H (y173_6_37) ((ey173_6_37)) (w173_70) (ew173_70) (show inrJ (1) from q_1587) (show inr (4) from q_216) (show 0 ≤ (4) ∧ (4) ≤ 8 from q_623) (show 0 ≤ (y173_6_37) ∧ (y173_6_37) ≤ 90000000 by omega) (fun σ F102 A103 H hS104 hA105 y107 ey108 wq109 ewq110 pz106_0 pz106_1 pz106_2 => ⟨rfl, ?_⟩))
                        have r111 : (0 : Int) ≤ y107 ∧ y107 ≤ 100000000 := rngE (show (0 : Int) ≤ F102 6 37 ∧ F102 6 37 ≤ 100000000 from H.frng 6 37) (show F102 6 37 = y107 from (ey108))
                        refine Ew_of (pcₚ := 248) (fun _ => x_aload_n rfl l173_0) ?_
                        refine Ew_of (pcₚ := 251) (fun _ => x_ldc2 (z := 4) rfl (by decide)) ?_
                        refine Ew_of (pcₚ := 252) (fun _ => x_iconst rfl) ?_
                        refine w_inv H (o := 6) rfl rfl rfl (H.perm 6 rfl) rfl rfl (by rfl) (M393g H (y107) ((ey108)) (wq109) (ewq110) (show inrJ (4) from q_2873) (show inr (4) from q_216) (show 0 ≤ (4) ∧ (4) ≤ 8 from q_623) (show 0 ≤ (y107) ∧ (y107) ≤ 90000000 by omega) (fun σ F112 A113 H hS114 hA115 y117 ey118 wq119 ewq120 pz116_0 pz116_1 pz116_2 => ⟨rfl, ?_⟩))
                        have r121 : (0 : Int) ≤ y117 ∧ y117 ≤ 100000000 := rngE (show (0 : Int) ≤ F112 6 37 ∧ F112 6 37 ≤ 100000000 from H.frng 6 37) (show F112 6 37 = y117 from (ey118))
                        refine Ew_of (pcₚ := 256) (fun _ => x_aload_n rfl l173_0) ?_
                        refine Ew_of (pcₚ := 259) (fun _ => x_ldc2 (z := 8) rfl (by decide)) ?_
                        refine Ew_of (pcₚ := 260) (fun _ => x_iconst rfl) ?_
                        refine w_inv H (o := 6) rfl rfl rfl (H.perm 6 rfl) rfl rfl (by rfl) (M393g H (y117) ((ey118)) (wq119) (ewq120) (show inrJ (8) from q_2874) (show inr (4) from q_216) (show 0 ≤ (4) ∧ (4) ≤ 8 from q_623) (show 0 ≤ (y117) ∧ (y117) ≤ 90000000 by omega) (fun σ F122 A123 H hS124 hA125 y127 ey128 wq129 ewq130 pz126_0 pz126_1 pz126_2 => ⟨rfl, ?_⟩))
                        have r131 : (0 : Int) ≤ y127 ∧ y127 ≤ 100000000 := rngE (show (0 : Int) ≤ F122 6 37 ∧ F122 6 37 ≤ 100000000 from H.frng 6 37) (show F122 6 37 = y127 from (ey128))
                        have hq263 : IMP (MDX ((w69)) ((u6_35))) (QAP 65536 ((A 70)) 0 ((wq129)) ((y127)) ((((((nb 3962610743 4 ++ nb ((a1)) 4) ++ (dscF (ap T_) (T_.length : Int)).getD []) ++ mkU Q_ (3)) ++ nb 1 4) ++ nb 4 4) ++ nb 8 4) ∧ MDX ((w173_69)) ((y173_6_35))) := fun q => ⟨QAP_trans (QAP_trans (QAP_trans (hq241 q).1 pz106_1) pz116_1) pz126_1, (hq241 q).2⟩
                        refine Ew_of (pcₚ := 264) (fun _ => x_iconst rfl) ?_
                        refine Ew_of (pcₚ := 265) (fun _ => x_istore_n rfl) ?_
                        have : IMP (MDX ((w69)) ((u6_35))) (QAP 65536 ((A 70)) 0 ((wq129)) ((y127)) (((((((nb 3962610743 4 ++ nb ((a1)) 4) ++ (dscF (ap T_) (T_.length : Int)).getD []) ++ mkU Q_ (3)) ++ nb 1 4) ++ nb 4 4) ++ nb 8 4) ++ sc ((w14)) 0 (0)) ∧ MDX ((w173_69)) ((y173_6_35))) := fun q => by rw [sc_nil (Int.le_refl 0), List.append_nil]; exact hq263 q
                        suffices hl265 : ∀ (m : Nat), ∀ (ls : rO) (σ : rS) (F_265 : hF) (A_265 : hA) (x265_3 : Int), rlook ls 0 = some (.ref (D 6)) → rlook ls 3 = some (I (x265_3)) → HS σ0 σ D N F_265 A_265 → SF [(6, 37)] F122 F_265 → SA [70] A123 A_265 → ∀ y265_6_37 : Int, F_265 6 37 = y265_6_37 → ∀ w265_70 : Int → Int, A_265 70 = w265_70 → (inr (x265_3)) → ((0) ≤ (x265_3)) → ((x265_3) ≤ (0) ∨ (x265_3) ≤ ((u1_1))) → (0 ≤ (y265_6_37) ∧ (y265_6_37) ≤ 700 + (x265_3)) → (0 ≤ (x265_3) ∧ (x265_3) ≤ (u1_1)) → (IMP (MDX ((w69)) ((u6_35))) (QAP 65536 ((A 70)) 0 ((w265_70)) ((y265_6_37)) (((((((nb 3962610743 4 ++ nb ((a1)) 4) ++ (dscF (ap T_) (T_.length : Int)).getD []) ++ mkU Q_ (3)) ++ nb 1 4) ++ nb 4 4) ++ nb 8 4) ++ sc ((w14)) 0 ((x265_3))) ∧ MDX ((w173_69)) ((y173_6_35)))) → (((u1_1)) - (x265_3)).toNat = m → Ew 454 (d + 5) 265 ls [] σ c s Q from
                          hl265 _ _ σ _ _ (0) (rk_o (l173_0) rfl rfl) (rk_s) H (SF_refl) (SA_refl) (y127) ((ey128)) (wq129) (ewq130) (show inr (0) from q_2) (show (0) ≤ (0) from q_1) (show (0) ≤ (0) ∨ (0) ≤ ((u1_1)) from q_5) (show 0 ≤ (y127) ∧ (y127) ≤ 700 + (0) by omega) (show 0 ≤ (0) ∧ (0) ≤ (u1_1) from q_1172 r1) (show IMP (MDX ((w69)) ((u6_35))) (QAP 65536 ((A 70)) 0 ((wq129)) ((y127)) (((((((nb 3962610743 4 ++ nb ((a1)) 4) ++ (dscF (ap T_) (T_.length : Int)).getD []) ++ mkU Q_ (3)) ++ nb 1 4) ++ nb 4 4) ++ nb 8 4) ++ sc ((w14)) 0 ((0))) ∧ MDX ((w173_69)) ((y173_6_35))) by assumption) rfl
                        as_aux_lemma =>
                        intro m
                        induction m using Nat.strongRecOn with
                        | _ m ih265 =>
                          intro ls σ F_265 A_265 x265_3 l265_0 l265_3 H hS_265 hA_265 y265_6_37 ey265_6_37 w265_70 ew265_70 j265_0 j265_1 j265_2 j265_3 j265_4 j265_5 hm265
                          have r132 : (0 : Int) ≤ y265_6_37 ∧ y265_6_37 ≤ 100000000 := rngE (show (0 : Int) ≤ F_265 6 37 ∧ F_265 6 37 ≤ 100000000 from H.frng 6 37) (show F_265 6 37 = y265_6_37 from (ey265_6_37))
                          have j265_q : IMP (MDX ((w69)) ((u6_35))) (QAP 65536 ((A 70)) 0 ((w265_70)) ((y265_6_37)) (((((((nb 3962610743 4 ++ nb ((a1)) 4) ++ (dscF (ap T_) (T_.length : Int)).getD []) ++ mkU Q_ (3)) ++ nb 1 4) ++ nb 4 4) ++ nb 8 4) ++ sc ((w14)) 0 ((x265_3))) ∧ MDX ((w173_69)) ((y173_6_35))) := by assumption
                          obtain ⟨qh, hqh⟩ : ∃ q : Int, q = (x265_3) := ⟨_, rfl⟩
                          refine Ew_of (pcₚ := 266) (fun _ => x_iload_n rfl l265_3) ?_
                          refine Ew_of (pcₚ := 267) (fun _ => x_aload_n rfl l265_0) ?_
                          refine w_gT H (o := 6) (t := 1) rfl (H.perm 6 rfl) rfl rfl rfl rfl rfl rfl ?_
                          refine w_gI H (o := 1) (w := u1_1) rfl (H.perm 1 rfl) rfl rfl rfl (fun _ => rfl) ((((((((((((((((hS_265 1 1 rfl).trans (hS124 1 1 rfl)).trans (hS114 1 1 rfl)).trans (hS104 1 1 rfl)).trans (hS_173 1 1 rfl)).trans (hS91 1 1 rfl)).trans (hS81 1 1 rfl)).trans (hS70 1 1 rfl)).trans (hS59 1 1 rfl)).trans (hS52 1 1 rfl)).trans (hS39 1 1 rfl)).trans (hS_96 1 1 rfl)).trans (hS32 1 1 rfl)).trans (hS9 1 1 rfl)).trans (hS_33 1 1 rfl)).trans (eu1_1)) ?_
                          refine w_icmpge (t := 295) rfl rfl (show inr (x265_3) from j265_0) (show inr (u1_1) from q_1951 b5 r1) (fun b133 => ?_) (fun b133 => ?_)
                          · refine Ew_of (pcₚ := 296) (fun _ => x_aload_n rfl l265_0) ?_
                            refine w_inv H (o := 6) rfl rfl rfl (H.perm 6 rfl) rfl rfl (by rfl) (M395 H (y265_6_37) ((ey265_6_37)) (w265_70) (ew265_70) (show 0 ≤ (y265_6_37) ∧ (y265_6_37) ≤ 100000000 from r132) (fun z138 σ F134 A135 H hS136 hA137 y139 ey140 wq141 ewq142 pz138_0 pz138_1 pz138_2 pz138_3 => ⟨rfl, ?_⟩))
                            have r143 : (0 : Int) ≤ y139 ∧ y139 ≤ 65536 := rngE (show (0 : Int) ≤ F134 1 3 ∧ F134 1 3 ≤ 65536 from H.frng 1 3) (show F134 1 3 = y139 from (ey140))
                            have : IMP (MDX ((w69)) ((u6_35))) (MKD (mkF ((a1)) (sc ((w14)) 0 ((u1_1))) ((u6_2)) ((u6_1))) ((z138)) ((y139)) ((wq141)) ∧ MDX ((w173_69)) ((y173_6_35))) := fun q => ⟨MKD_y hQ_ hT_ (by rintro (a | a | a | a | a); (rw [sc_lenI (by omega)] at a; omega); (rw [hQn] at a; omega); (rw [hLT.1] at a; omega); (rw [hLT.1] at a; exact nALK (.inr hdf) (ALK_cg (fun k x y => (hLT.2 k x y).1) a)); (obtain ⟨D_, d1, _⟩ := hDR2 q; rw [d1] at a; exact absurd a (by simp))) (by have h := (j265_q q).1; rw [show (x265_3) = (u1_1) by omega] at h; exact h) pz138_2 pz138_3, (j265_q q).2⟩
                            exact w_ireturn rfl (k (z138) σ _ _ H (SF_trans (SF_trans (SF_trans (SF_trans (SF_trans (SF_trans (SF_trans (SF_trans (SF_trans (SF_upd (SF_trans (SF_trans (SF_trans (SF_trans (SF_trans (SF_trans (SF_trans (SF_upd (SF_upd (SF_refl) rfl) rfl) hS_33 (any_sub rfl)) hS9 (any_sub rfl)) hS32 (any_sub rfl)) hS_96 (any_sub rfl)) hS39 (any_sub rfl)) hS52 (any_sub rfl)) hS59 (any_sub rfl)) rfl) hS70 (any_sub rfl)) hS81 (any_sub rfl)) hS91 (any_sub rfl)) hS_173 (any_sub rfl)) hS104 (any_sub rfl)) hS114 (any_sub rfl)) hS124 (any_sub rfl)) hS_265 (any_sub rfl)) hS136 (any_sub rfl)) (SA_trans (SA_trans (SA_trans (SA_trans (SA_trans (SA_trans (SA_trans (SA_trans (SA_trans (SA_trans (SA_trans (SA_trans (SA_trans (SA_trans (SA_trans (SA_trans (SA_refl) hA_33 (any_subA rfl)) hA10 (any_subA rfl)) hA33 (any_subA rfl)) hA_96 (any_subA rfl)) hA40 (any_subA rfl)) hA53 (any_subA rfl)) hA60 (any_subA rfl)) hA71 (any_subA rfl)) hA82 (any_subA rfl)) hA92 (any_subA rfl)) hA_173 (any_subA rfl)) hA105 (any_subA rfl)) hA115 (any_subA rfl)) hA125 (any_subA rfl)) hA_265 (any_subA rfl)) hA137 (any_subA rfl)) (y139) ((ey140)) (y173_6_35) (((((((hS136 6 35 rfl).trans (hS_265 6 35 rfl)).trans (hS124 6 35 rfl)).trans (hS114 6 35 rfl)).trans (hS104 6 35 rfl)).trans (ey173_6_35))) (wq141) (ewq142) (w173_69) ((funext (hA137 69 rfl)).trans ((funext (hA_265 69 rfl)).trans ((funext (hA125 69 rfl)).trans ((funext (hA115 69 rfl)).trans ((funext (hA105 69 rfl)).trans (ew173_69)))))) (show inr (z138) from pz138_0) (show -1 ≤ (z138) ∧ (z138) ≤ 65536 from pz138_1) (show IMP (MDX ((w69)) ((u6_35))) (MKD (mkF (a1) (sc ((w14)) 0 ((u1_1))) ((u6_2)) ((u6_1))) ((z138)) ((y139)) ((wq141)) ∧ MDX ((w173_69)) ((y173_6_35))) by assumption))
                          · refine Ew_of (pcₚ := 277) (fun _ => x_aload_n rfl l265_0) ?_
                            refine Ew_of (pcₚ := 278) (fun _ => x_aload_n rfl l265_0) ?_
                            refine w_gT H (o := 6) (t := 1) rfl (H.perm 6 rfl) rfl rfl rfl rfl rfl rfl ?_
                            refine w_gT H (o := 1) (t := 14) rfl (H.perm 1 rfl) rfl rfl rfl rfl rfl rfl ?_
                            refine Ew_of (pcₚ := 285) (fun _ => x_iload_n rfl l265_3) ?_
                            refine w_lI H (o := 14) (n := 65536) rfl (H.perm 14 rfl) rfl rfl (H.fix 14 rfl rfl) (show 0 ≤ x265_3 ∧ x265_3 < ((65536 : Nat) : Int) from q_2182 b133 j265_4 r1) (by decide) (fun v144 ev144 qv144 => ?_)
                            have qv144 : (0 : Int) ≤ v144 ∧ v144 ≤ 255 := qv144
                            have ev144 : (w14) (x265_3) = v144 := (congrFun ((funext (hA_265 14 rfl)).trans ((funext (hA125 14 rfl)).trans ((funext (hA115 14 rfl)).trans ((funext (hA105 14 rfl)).trans ((funext (hA_173 14 rfl)).trans ((funext (hA92 14 rfl)).trans ((funext (hA82 14 rfl)).trans ((funext (hA71 14 rfl)).trans ((funext (hA60 14 rfl)).trans ((funext (hA53 14 rfl)).trans ((funext (hA40 14 rfl)).trans ((funext (hA_96 14 rfl)).trans ((funext (hA33 14 rfl)).trans ((funext (hA10 14 rfl)).trans ((funext (hA_33 14 rfl)).trans (ew14)))))))))))))))) (x265_3)).symm.trans ev144
                            have hv286 := ev144
                            refine w_inv H (o := 6) rfl rfl rfl (H.perm 6 rfl) rfl rfl (by rfl) (M392g H (y265_6_37) ((ey265_6_37)) (w265_70) (ew265_70) (show inr (v144) from q_299 qv144) (show 0 ≤ (y265_6_37) ∧ (y265_6_37) ≤ 99999999 from q_2875 b133 j265_3 r1 r132) (fun σ F145 A146 H hS147 hA148 y150 ey151 wq152 ewq153 pz149_0 pz149_1 pz149_2 => ⟨rfl, ?_⟩))
                            have r154 : (0 : Int) ≤ y150 ∧ y150 ≤ 100000000 := rngE (show (0 : Int) ≤ F145 6 37 ∧ F145 6 37 ≤ 100000000 from H.frng 6 37) (show F145 6 37 = y150 from (ey151))
                            have hs289 := pz149_1
                            refine Ew_of (pcₚ := 292) (fun _ => x_iinc (len := 3) rfl (l265_3)) ?_
                            refine Ew_of (pcₚ := 265) (fun _ => x_goto rfl rfl) ?_
                            have : IMP (MDX ((w69)) ((u6_35))) (QAP 65536 ((A 70)) 0 ((wq152)) ((y150)) (((((((nb 3962610743 4 ++ nb ((a1)) 4) ++ (dscF (ap T_) (T_.length : Int)).getD []) ++ mkU Q_ (3)) ++ nb 1 4) ++ nb 4 4) ++ nb 8 4) ++ sc ((w14)) 0 (((x265_3 + 1)))) ∧ MDX ((w173_69)) ((y173_6_35))) := fun q => by rw [sc_snoc (b := qh) (by omega) (by omega), ← List.append_assoc, hqh, hv286]; exact ⟨QAP_trans (j265_q q).1 hs289, (j265_q q).2⟩
                            exact ih265 _ (msE hm265 q_16 (q_17 b133)) _ σ _ _ ((x265_3 + 1)) (rk_o (l265_0) rfl rfl) (rk_s) H (SF_trans (hS_265) hS147 (any_sub rfl)) (SA_trans (hA_265) hA148 (any_subA rfl)) (y150) ((ey151)) (wq152) (ewq153) (show inr ((x265_3 + 1)) from q_2183 b133 j265_4 r1) (show (0) ≤ ((x265_3 + 1)) from q_2877 j265_4) (show ((x265_3 + 1)) ≤ (0) ∨ ((x265_3 + 1)) ≤ ((u1_1)) from q_13 b133) (show 0 ≤ (y150) ∧ (y150) ≤ 700 + ((x265_3 + 1)) from q_2876 j265_3 pz149_0 r154) (show 0 ≤ ((x265_3 + 1)) ∧ ((x265_3 + 1)) ≤ (u1_1) from q_1395 b133 j265_4) (show IMP (MDX ((w69)) ((u6_35))) (QAP 65536 ((A 70)) 0 ((wq152)) ((y150)) (((((((nb 3962610743 4 ++ nb ((a1)) 4) ++ (dscF (ap T_) (T_.length : Int)).getD []) ++ mkU Q_ (3)) ++ nb 1 4) ++ nb 4 4) ++ nb 8 4) ++ sc ((w14)) 0 (((x265_3 + 1)))) ∧ MDX ((w173_69)) ((y173_6_35))) by assumption) rfl
                      · refine Ew_of (pcₚ := 179) (fun _ => x_iload_n rfl l173_3) ?_
                        have hc196 : ∀ (tc196_0 : Int), ∀ (ls : rO) (σ : rS) (F_c196 : hF) (A_c196 : hA) , rlook ls 0 = some (.ref (D 6)) → rlook ls 3 = some (I (x173_3)) → HS σ0 σ D N F_c196 A_c196 → SF [] F_173 F_c196 → SA [] A_173 A_c196 → (inr (tc196_0)) → (((x173_3) ≠ (0) ∧ (x173_3) ≠ (1) ∧ (tc196_0) = (0)) ∨ ((x173_3) ≠ (0) ∧ (x173_3) = (1) ∧ (tc196_0) = (2)) ∨ ((x173_3) = (0) ∧ (tc196_0) = (1))) → Ew 454 (d + 5) 196 ls [I (tc196_0)] σ c s Q := by
                         as_aux_lemma =>
                          intro tc196_0 ls σ F_c196 A_c196  lc196_0 lc196_3 H hS_c196 hA_c196   jc196_0 jc196_1
                          refine Ew_of (pcₚ := 198) (fun _ => x_istore rfl) ?_
                          have hmt : (tc196_0) = mtK ql3 := mtK_e (by omega)
                          have hSc : (cutP ((y12)) (sh ((wq44)) (8001 * (tc196_0)))) = Sc Q_ (1, 4, 8) ((tc196_0)) := by rw [hgq1]; exact TLW_Sc (by omega) hTW (by omega)
                          refine Ew_of (pcₚ := 199) (fun _ => x_aload_n rfl (rk_o (lc196_0) rfl rfl)) ?_
                          refine Ew_of (pcₚ := 201) (fun _ => x_iload rfl rk_s) ?_
                          have hls := lS_eq ((tc196_0))
                          have hrl : ∀ j, 0 ≤ j → j < (y12) → (sh ((wq44)) (8001 * (tc196_0))) j ≤ lS ((tc196_0)) := TLI_sy htl (by omega) (by omega)
                          refine w_inv H (o := 6) rfl rfl rfl (H.perm 6 rfl) rfl rfl (by rfl) (M413f H (y12) ((((((((((((hS_c196 6 28 rfl).trans (hS_173 6 28 rfl)).trans (hS91 6 28 rfl)).trans (hS81 6 28 rfl)).trans (hS70 6 28 rfl)).trans (hS59 6 28 rfl)).trans (hS52 6 28 rfl)).trans (hS39 6 28 rfl)).trans (hS_96 6 28 rfl)).trans (hS32 6 28 rfl)).trans (ey13))) (y173_6_35) (((hS_c196 6 35 rfl).trans (ey173_6_35))) (wq44) ((funext (hA_c196 66 rfl)).trans ((funext (hA_173 66 rfl)).trans ((funext (hA92 66 rfl)).trans ((funext (hA82 66 rfl)).trans ((funext (hA71 66 rfl)).trans ((funext (hA60 66 rfl)).trans ((funext (hA53 66 rfl)).trans (ewq45)))))))) (w173_69) ((funext (hA_c196 69 rfl)).trans (ew173_69)) (lS ((tc196_0))) (show inr (tc196_0) from jc196_0) (show 0 ≤ (tc196_0) ∧ (tc196_0) ≤ 2 from q_1965 jc196_1) (show 1 ≤ (y12) by omega) (hrl) (show 0 ≤ (lS ((tc196_0))) ∧ (lS ((tc196_0))) ≤ 63 by omega) (fun z159 σ F155 A156 H hS157 hA158 y160 ey161 wq162 ewq163 wq164 ewq165 pz159_0 pz159_1 pz159_2 pz159_3 pz159_4 pz159_5 pz159_6 pz159_7 => ⟨rfl, ?_⟩))
                          have r166 : (0 : Int) ≤ y160 ∧ y160 ≤ 100000000 := rngE (show (0 : Int) ≤ F155 6 35 ∧ F155 6 35 ≤ 100000000 from H.frng 6 35) (show F155 6 35 = y160 from (ey161))
                          have hbo := pz159_7
                          have hce : ∀ i, (0 : Int) ≤ i → i < 64 → ((wq164)) i = su (eqs (sh ((wq44)) (8001 * (tc196_0))) i) ((y12) : Int).toNat := by assumption
                          have hlz : ∀ i, lS ((tc196_0)) < i → i < 64 → 0 ≤ i → ((wq164)) i = 0 := fun i a b c => by rw [hce i c b]; exact su_eqs0 (fun k x y => by have := hrl k x (by omega); omega)
                          refine Ew_of (pcₚ := 206) (fun _ => x_istore rfl) ?_
                          refine Ew_of (pcₚ := 207) (fun _ => x_aload_n rfl (rk_o (rk_o (lc196_0) rfl rfl) rfl rfl)) ?_
                          refine Ew_of (pcₚ := 208) (fun _ => x_aload_n rfl (rk_o (rk_o (lc196_0) rfl rfl) rfl rfl)) ?_
                          refine w_gI H (o := 6) (w := y12) rfl (H.perm 6 rfl) rfl rfl rfl (fun _ => rfl) ((((((((((((hS157 6 28 rfl).trans (hS_c196 6 28 rfl)).trans (hS_173 6 28 rfl)).trans (hS91 6 28 rfl)).trans (hS81 6 28 rfl)).trans (hS70 6 28 rfl)).trans (hS59 6 28 rfl)).trans (hS52 6 28 rfl)).trans (hS39 6 28 rfl)).trans (hS_96 6 28 rfl)).trans (hS32 6 28 rfl)).trans (ey13)) ?_
                          refine Ew_of (pcₚ := 213) (fun _ => x_iload rfl rk_s) ?_
                          refine w_inv H (o := 6) rfl rfl rfl (H.perm 6 rfl) rfl rfl (by rfl) (M411b H (wq164) (ewq165) (show inr (y12) from q_6 r24) (show inr (z159) from pz159_0) (show 1 ≤ (y12) ∧ (y12) ≤ 8001 by omega) (show 5 ≤ (z159) ∧ (z159) ≤ 9 from pz159_1) (show ∀ i, (0 : Int) ≤ i → i < 64 → 0 ≤ ((wq164)) i by assumption) (show su (fun i => ((wq164)) i) 64 = (y12) by omega) (show su (fun i => pos1 (((wq164)) i)) 64 ≤ p2 ((z159)) by omega) (fun σ F167 A168 H hS169 hA170 wq172 ewq173 pz171_0 pz171_1 pz171_2 => ⟨rfl, ?_⟩))
                          have hd0 := pz171_0
                          have hd1 := pz171_1
                          have : SH ((wq172)) 0 64 ((z159)) (lS ((tc196_0))) := SH_div (by omega) hd0 hd1 hlz
                          have hPD : shP (cutP ((y12)) (sh ((wq44)) (8001 * (tc196_0)))) ((y12)) ((z159)) = cutP 64 ((wq172)) := shP_e (ct_cut hce) pz171_2
                          refine Ew_of (pcₚ := 217) (fun _ => x_aload_n rfl (rk_o (rk_o (lc196_0) rfl rfl) rfl rfl)) ?_
                          refine w_inv H (o := 6) rfl rfl rfl (H.perm 6 rfl) rfl rfl (by rfl) (M391 H (y160) (((hS169 6 35 rfl).trans (ey161))) (wq162) ((funext (hA170 69 rfl)).trans (ewq163))  (fun σ F174 A175 H hS176 hA177 y179 ey180 wq181 ewq182 pz178_0 pz178_1 => ⟨rfl, ?_⟩))
                          have r183 : (0 : Int) ≤ y179 ∧ y179 ≤ 100000000 := rngE (show (0 : Int) ≤ F174 6 35 ∧ F174 6 35 ≤ 100000000 from H.frng 6 35) (show F174 6 35 = y179 from (ey180))
                          have hb220 : IMP (MDX ((w69)) ((u6_35))) (MDB ((wq181)) ((y179)) []) := fun q => by rw [show (y179) = 0 by omega]; exact pz178_1 (hbo (j173_q q).2).2
                          refine Ew_of (pcₚ := 221) (fun _ => x_aload_n rfl (rk_o (rk_o (lc196_0) rfl rfl) rfl rfl)) ?_
                          refine Ew_of (pcₚ := 222) (fun _ => x_aload_n rfl (rk_o (rk_o (lc196_0) rfl rfl) rfl rfl)) ?_
                          refine w_gT H (o := 6) (t := 75) rfl (H.perm 6 rfl) rfl rfl rfl rfl rfl rfl ?_
                          refine Ew_of (pcₚ := 226) (fun _ => x_iconst rfl) ?_
                          refine Ew_of (pcₚ := 228) (fun _ => x_iload rfl rk_s) ?_
                          refine w_inv H (o := 6) rfl rfl rfl (H.perm 6 rfl) rfl rfl (by rfl) (M412_75 H (y179) ((ey180)) (wq181) (ewq182) (wq172) ((funext (hA177 75 rfl)).trans (ewq173)) (lS ((tc196_0))) (show inr (0) from q_2) (show inr (z159) from pz159_0) (show SH ((wq172)) (0) 64 (z159) (lS ((tc196_0))) by assumption) (show 0 ≤ (0) ∧ (0) + 64 ≤ 64 from q_2503) (show 0 ≤ (y179) ∧ (y179) ≤ 1000000 from q_2567 pz178_0 r183) (show 0 ≤ (lS ((tc196_0))) by omega) (fun σ F184 A185 H hS186 hA187 y189 ey190 wq191 ewq192 pz188_0 pz188_1 pz188_2 => ⟨rfl, ?_⟩))
                          have r193 : (0 : Int) ≤ y189 ∧ y189 ≤ 100000000 := rngE (show (0 : Int) ≤ F184 6 35 ∧ F184 6 35 ≤ 100000000 from H.frng 6 35) (show F184 6 35 = y189 from (ey190))
                          have hm231 : IMP (MDX ((w69)) ((u6_35))) (MBY ((wq191)) ((y189)) (mkT ((tc196_0)) Q_)) := fun q => by have h := pz188_1 (by omega) [] (hb220 q); rw [List.nil_append, sh0, ← hPD] at h; exact ⟨_, h, pd8_len.1, by rw [byw_pd]; unfold mkT shB; rw [← hSc, hQn, ← (hbo (j173_q q).2).1]⟩
                          refine Ew_of (pcₚ := 232) (fun _ => x_aload_n rfl (rk_o (rk_o (lc196_0) rfl rfl) rfl rfl)) ?_
                          refine w_inv H (o := 6) rfl rfl rfl (H.perm 6 rfl) rfl rfl (by rfl) (M394 H (y189) ((ey190)) (y173_6_37) (((((((hS186 6 37 rfl).trans (hS176 6 37 rfl)).trans (hS169 6 37 rfl)).trans (hS157 6 37 rfl)).trans (hS_c196 6 37 rfl)).trans (ey173_6_37))) (wq191) (ewq192) (w173_70) ((funext (hA187 70 rfl)).trans ((funext (hA177 70 rfl)).trans ((funext (hA170 70 rfl)).trans ((funext (hA158 70 rfl)).trans ((funext (hA_c196 70 rfl)).trans (ew173_70)))))) (show 0 ≤ (y189) ∧ (y189) ≤ 192000 by omega) (show 0 ≤ (y173_6_37) ∧ (y173_6_37) ≤ 90000000 by omega) (fun σ F194 A195 H hS196 hA197 y199 ey200 wq201 ewq202 pz198_0 pz198_1 => ⟨rfl, ?_⟩))
                          have r203 : (0 : Int) ≤ y199 ∧ y199 ≤ 100000000 := rngE (show (0 : Int) ≤ F194 6 37 ∧ F194 6 37 ≤ 100000000 from H.frng 6 37) (show F194 6 37 = y199 from (ey200))
                          have hq235 : IMP (MDX ((w69)) ((u6_35))) (QAP 65536 ((A 70)) 0 ((wq201)) ((y199)) ((((nb 3962610743 4 ++ nb ((a1)) 4) ++ (dscF (ap T_) (T_.length : Int)).getD []) ++ mkU Q_ (ql3.toNat)) ++ mkT ((tc196_0)) Q_) ∧ MDX ((wq191)) ((y189))) := fun q => by have h := pz198_1; rw [MBY_sc (hm231 q) (by omega)] at h; have h0 := (j173_q q).1; rw [← hql3] at h0; exact ⟨QAP_trans h0 h, MBY_X (hm231 q)⟩
                          refine Ew_of (pcₚ := 238) (fun _ => x_iinc (len := 3) rfl (rk_o (rk_o (lc196_3) rfl rfl) rfl rfl)) ?_
                          refine Ew_of (pcₚ := 173) (fun _ => x_goto rfl rfl) ?_
                          have : IMP (MDX ((w69)) ((u6_35))) (QAP 65536 ((A 70)) 0 ((wq201)) ((y199)) (((nb 3962610743 4 ++ nb ((a1)) 4) ++ (dscF (ap T_) (T_.length : Int)).getD []) ++ mkU Q_ ((((x173_3 + 1)) : Int).toNat)) ∧ MDX ((wq191)) ((y189))) := fun q => by rw [mkU_s (i := ql3) (by omega) (by omega) hmt, ← List.append_assoc]; exact hq235 q
                          exact ih173 _ (msE hm173 q_813 (q_814 b101)) _ σ _ _ ((x173_3 + 1)) (rk_o (rk_o (rk_o (lc196_0) rfl rfl) rfl rfl) rfl rfl) (rk_s) H (SF_trans (SF_trans (SF_trans (SF_trans (SF_trans (SF_trans (hS_173) hS_c196 (any_sub rfl)) hS157 (any_sub rfl)) hS169 (any_sub rfl)) hS176 (any_sub rfl)) hS186 (any_sub rfl)) hS196 (any_sub rfl)) (SA_trans (SA_trans (SA_trans (SA_trans (SA_trans (SA_trans (hA_173) hA_c196 (any_subA rfl)) hA158 (any_subA rfl)) hA170 (any_subA rfl)) hA177 (any_subA rfl)) hA187 (any_subA rfl)) hA197 (any_subA rfl)) (y189) (((hS196 6 35 rfl).trans (ey190))) (y199) ((ey200)) (wq191) ((funext (hA197 69 rfl)).trans (ewq192)) (wq201) (ewq202) (show inr ((x173_3 + 1)) from q_2879 b101 j173_2) (show 0 ≤ ((x173_3 + 1)) ∧ ((x173_3 + 1)) ≤ 3 from q_2878 b101 j173_1 j173_2) (show 0 ≤ (y199) ∧ (y199) ≤ 300 + 100 * ((x173_3 + 1)) by omega) (show IMP (MDX ((w69)) ((u6_35))) (QAP 65536 ((A 70)) 0 ((wq201)) ((y199)) (((nb 3962610743 4 ++ nb ((a1)) 4) ++ (dscF (ap T_) (T_.length : Int)).getD []) ++ mkU Q_ ((((x173_3 + 1)) : Int).toNat)) ∧ MDX ((wq191)) ((y189))) by assumption) rfl
                        refine w_ifne (t := 186) rfl rfl (show inr (x173_3) from j173_0) (fun b204 => ?_) (fun b204 => ?_)
                        · refine Ew_of (pcₚ := 187) (fun _ => x_iload_n rfl l173_3) ?_
                          refine Ew_of (pcₚ := 188) (fun _ => x_iconst rfl) ?_
                          refine w_icmpne (t := 195) rfl rfl (show inr (x173_3) from j173_0) (show inr (1) from q_135) (fun b205 => ?_) (fun b205 => ?_)
                          · refine Ew_of (pcₚ := 196) (fun _ => x_iconst rfl) ?_
                            exact hc196 (0) _ σ _ _  (l173_0) (l173_3) H (SF_refl) (SA_refl)   (show inr (0) from q_2) (show ((x173_3) ≠ (0) ∧ (x173_3) ≠ (1) ∧ (0) = (0)) ∨ ((x173_3) ≠ (0) ∧ (x173_3) = (1) ∧ (0) = (2)) ∨ ((x173_3) = (0) ∧ (0) = (1)) from q_1969 b204 b205)
                          · refine Ew_of (pcₚ := 192) (fun _ => x_iconst rfl) ?_
                            refine Ew_of (pcₚ := 196) (fun _ => x_goto rfl rfl) ?_
                            exact hc196 (2) _ σ _ _  (l173_0) (l173_3) H (SF_refl) (SA_refl)   (show inr (2) from q_122) (show ((x173_3) ≠ (0) ∧ (x173_3) ≠ (1) ∧ (2) = (0)) ∨ ((x173_3) ≠ (0) ∧ (x173_3) = (1) ∧ (2) = (2)) ∨ ((x173_3) = (0) ∧ (2) = (1)) from q_1970 b204 b205)
                        · refine Ew_of (pcₚ := 183) (fun _ => x_iconst rfl) ?_
                          refine Ew_of (pcₚ := 196) (fun _ => x_goto rfl rfl) ?_
                          exact hc196 (1) _ σ _ _  (l173_0) (l173_3) H (SF_refl) (SA_refl)   (show inr (1) from q_135) (show ((x173_3) ≠ (0) ∧ (x173_3) ≠ (1) ∧ (1) = (0)) ∨ ((x173_3) ≠ (0) ∧ (x173_3) = (1) ∧ (1) = (2)) ∨ ((x173_3) = (0) ∧ (1) = (1)) from q_1971 b204)
                  · have r206 : (0 : Int) ≤ F 1 3 ∧ F 1 3 ≤ 65536 := rngE (show (0 : Int) ≤ F57 1 3 ∧ F57 1 3 ≤ 65536 from H.frng 1 3) (show F57 1 3 = F 1 3 from (((((((hS59 1 3 rfl).trans (hS52 1 3 rfl)).trans (hS39 1 3 rfl)).trans (hS_96 1 3 rfl)).trans (hS32 1 3 rfl)).trans (hS9 1 3 rfl)).trans (hS_33 1 3 rfl)))
                    have : IMP (MDX ((w69)) ((u6_35))) (MKD (mkF ((a1)) (sc ((w14)) 0 ((u1_1))) ((u6_2)) ((u6_1))) (-1) ((F 1 3)) ((A 15)) ∧ MDX ((wq64)) ((y62))) := fun q => ⟨MKD_n (.inr (.inr (.inr (.inr (by rw [hDT, ← hDS]; exact DRF_n (hDRF q) (by omega)))))) rfl, DRF_X (hDRF q)⟩
                    refine Ew_of (pcₚ := 142) (fun _ => x_iconst rfl) ?_
                    exact w_ireturn rfl (k ((-1)) σ _ _ H (SF_trans (SF_trans (SF_trans (SF_trans (SF_trans (SF_trans (SF_trans (SF_upd (SF_upd (SF_refl) rfl) rfl) hS_33 (any_sub rfl)) hS9 (any_sub rfl)) hS32 (any_sub rfl)) hS_96 (any_sub rfl)) hS39 (any_sub rfl)) hS52 (any_sub rfl)) hS59 (any_sub rfl)) (SA_trans (SA_trans (SA_trans (SA_trans (SA_trans (SA_trans (SA_trans (SA_refl) hA_33 (any_subA rfl)) hA10 (any_subA rfl)) hA33 (any_subA rfl)) hA_96 (any_subA rfl)) hA40 (any_subA rfl)) hA53 (any_subA rfl)) hA60 (any_subA rfl)) (F 1 3) ((((((((hS59 1 3 rfl).trans (hS52 1 3 rfl)).trans (hS39 1 3 rfl)).trans (hS_96 1 3 rfl)).trans (hS32 1 3 rfl)).trans (hS9 1 3 rfl)).trans (hS_33 1 3 rfl))) (y62) ((ey63)) (A 15) ((funext (hA60 15 rfl)).trans ((funext (hA53 15 rfl)).trans ((funext (hA40 15 rfl)).trans ((funext (hA_96 15 rfl)).trans ((funext (hA33 15 rfl)).trans ((funext (hA10 15 rfl)).trans (funext (hA_33 15 rfl)))))))) (wq64) (ewq65) (show inr ((-1)) from q_63) (show -1 ≤ ((-1)) ∧ ((-1)) ≤ 65536 by first | exact q_2011 | omega) (show IMP (MDX ((w69)) ((u6_35))) (MKD (mkF (a1) (sc ((w14)) 0 ((u1_1))) ((u6_2)) ((u6_1))) (((-1))) ((F 1 3)) ((A 15)) ∧ MDX ((wq64)) ((y62))) by assumption))
                · refine Ew_of (pcₚ := 102) (fun _ => x_aload_n rfl l96_0) ?_
                  refine w_gT H (o := 6) (t := 56) rfl (H.perm 6 rfl) rfl rfl rfl rfl rfl rfl ?_
                  refine Ew_of (pcₚ := 106) (fun _ => x_iload_n rfl l96_2) ?_
                  refine Ew_of (pcₚ := 107) (fun _ => x_iload_n rfl l96_2) ?_
                  refine w_ifne (t := 114) rfl rfl (show inr (x96_2) from j96_0) (fun b207 => ?_) (fun b207 => ?_)
                  · refine Ew_of (pcₚ := 115) (fun _ => x_iconst rfl) ?_
                    refine Ew_of (pcₚ := 116) (fun _ => x_iload_n rfl l96_2) ?_
                    refine w_imul rfl ?_
                    refine w_sI H (o := 56) (n := 3) rfl (H.perm 56 rfl) rfl rfl (H.fix 56 rfl rfl) (show 0 ≤ x96_2 ∧ x96_2 < ((3 : Nat) : Int) from q_1672 b36 j96_3) (by decide) (show (-2147483648 : Int) ≤ (4 * x96_2) ∧ (4 * x96_2) ≤ 2147483647 from q_2880 b36 j96_3) (fun σ H => ?_)
                    refine Ew_of (pcₚ := 121) (fun _ => x_iinc (len := 3) rfl (l96_2)) ?_
                    refine Ew_of (pcₚ := 96) (fun _ => x_goto rfl rfl) ?_
                    have : ∀ t, 0 ≤ t → t < ((x96_2 + 1)) → ((upd1 (w96_56) (x96_2) ((4 * x96_2)))) t = if t = 0 then 1 else 4 * t := fun t a b => by by_cases e : t = qd; (rw [e, hqd, upd1_s]; first | (rw [if_pos (by omega)]) | (rw [if_neg (by omega)])); (rw [upd1_o (by omega)]; exact j96_l t a (by omega))
                    exact ih96 _ (msE hm96 q_813 (q_814 b36)) _ σ _ _ ((x96_2 + 1)) (rk_o (l96_0) rfl rfl) (rk_o (l96_1) rfl rfl) (rk_s) H (hS_96) (SA_upd (hA_96) rfl)  (upd1 (w96_56) (x96_2) ((4 * x96_2))) (congrArg (fun q => upd1 q (x96_2) ((4 * x96_2))) (ew96_56)) (show inr ((x96_2 + 1)) from q_812 b36 j96_3) (show (0) ≤ ((x96_2 + 1)) from q_2881 j96_3) (show ((x96_2 + 1)) ≤ (0) ∨ ((x96_2 + 1)) ≤ (3) from q_1803 b36) (show 0 ≤ ((x96_2 + 1)) ∧ ((x96_2 + 1)) ≤ 3 from q_811 b36 j96_3) (show ∀ t, 0 ≤ t → t < ((x96_2 + 1)) → ((upd1 (w96_56) (x96_2) ((4 * x96_2)))) t = if t = 0 then 1 else 4 * t by assumption) rfl
                  · refine Ew_of (pcₚ := 111) (fun _ => x_iconst rfl) ?_
                    refine Ew_of (pcₚ := 117) (fun _ => x_goto rfl rfl) ?_
                    refine w_sI H (o := 56) (n := 3) rfl (H.perm 56 rfl) rfl rfl (H.fix 56 rfl rfl) (show 0 ≤ x96_2 ∧ x96_2 < ((3 : Nat) : Int) from q_2882 b207 j96_3) (by decide) (show (-2147483648 : Int) ≤ 1 ∧ 1 ≤ 2147483647 from q_2223) (fun σ H => ?_)
                    refine Ew_of (pcₚ := 121) (fun _ => x_iinc (len := 3) rfl (l96_2)) ?_
                    refine Ew_of (pcₚ := 96) (fun _ => x_goto rfl rfl) ?_
                    have : ∀ t, 0 ≤ t → t < ((x96_2 + 1)) → ((upd1 (w96_56) (x96_2) (1))) t = if t = 0 then 1 else 4 * t := fun t a b => by by_cases e : t = qd; (rw [e, hqd, upd1_s]; first | (rw [if_pos (by omega)]) | (rw [if_neg (by omega)])); (rw [upd1_o (by omega)]; exact j96_l t a (by omega))
                    exact ih96 _ (msE hm96 q_813 (q_1818 b207)) _ σ _ _ ((x96_2 + 1)) (rk_o (l96_0) rfl rfl) (rk_o (l96_1) rfl rfl) (rk_s) H (hS_96) (SA_upd (hA_96) rfl)  (upd1 (w96_56) (x96_2) (1)) (congrArg (fun q => upd1 q (x96_2) (1)) (ew96_56)) (show inr ((x96_2 + 1)) from q_1817 b207) (show (0) ≤ ((x96_2 + 1)) from q_1816 b207) (show ((x96_2 + 1)) ≤ (0) ∨ ((x96_2 + 1)) ≤ (3) from q_1815 b207) (show 0 ≤ ((x96_2 + 1)) ∧ ((x96_2 + 1)) ≤ 3 from q_2883 b207) (show ∀ t, 0 ≤ t → t < ((x96_2 + 1)) → ((upd1 (w96_56) (x96_2) (1))) t = if t = 0 then 1 else 4 * t by assumption) rfl
            · have r208 : (0 : Int) ≤ F 1 3 ∧ F 1 3 ≤ 65536 := rngE (show (0 : Int) ≤ F30 1 3 ∧ F30 1 3 ≤ 65536 from H.frng 1 3) (show F30 1 3 = F 1 3 from (((hS32 1 3 rfl).trans (hS9 1 3 rfl)).trans (hS_33 1 3 rfl)))
              have : IMP (MDX ((w69)) ((u6_35))) (MKD (mkF ((a1)) (sc ((w14)) 0 ((u1_1))) ((u6_2)) ((u6_1))) (-1) ((F 1 3)) ((A 15)) ∧ MDX ((w69)) ((u6_35))) := fun q => ⟨MKD_n (by first | exact .inr (.inl (by rw [hQn]; omega)) | exact .inr (.inr (.inl (by rw [hLT.1]; omega))) | exact .inr (.inr (.inr (.inl (by rw [hLT.1]; exact ALK_cg (fun k a b => (hLT.2 k a b).1.symm) (pz34_3 (by omega))))))) rfl, q⟩
              refine Ew_of (pcₚ := 93) (fun _ => x_iconst rfl) ?_
              exact w_ireturn rfl (k ((-1)) σ _ _ H (SF_trans (SF_trans (SF_trans (SF_upd (SF_upd (SF_refl) rfl) rfl) hS_33 (any_sub rfl)) hS9 (any_sub rfl)) hS32 (any_sub rfl)) (SA_trans (SA_trans (SA_trans (SA_refl) hA_33 (any_subA rfl)) hA10 (any_subA rfl)) hA33 (any_subA rfl)) (F 1 3) ((((hS32 1 3 rfl).trans (hS9 1 3 rfl)).trans (hS_33 1 3 rfl))) (u6_35) (((((hS32 6 35 rfl).trans (hS9 6 35 rfl)).trans (hS_33 6 35 rfl)).trans (eu6_35))) (A 15) ((funext (hA33 15 rfl)).trans ((funext (hA10 15 rfl)).trans (funext (hA_33 15 rfl)))) (w69) ((funext (hA33 69 rfl)).trans ((funext (hA10 69 rfl)).trans ((funext (hA_33 69 rfl)).trans (ew69)))) (show inr ((-1)) from q_63) (show -1 ≤ ((-1)) ∧ ((-1)) ≤ 65536 by first | exact q_2011 | omega) (show IMP (MDX ((w69)) ((u6_35))) (MKD (mkF (a1) (sc ((w14)) 0 ((u1_1))) ((u6_2)) ((u6_1))) (((-1))) ((F 1 3)) ((A 15)) ∧ MDX ((w69)) ((u6_35))) by assumption))
      · refine Ew_of (pcₚ := 45) (fun _ => x_aload_n rfl l33_0) ?_
        refine w_gT H (o := 6) (t := 61) rfl (H.perm 6 rfl) rfl rfl rfl rfl rfl rfl ?_
        refine Ew_of (pcₚ := 49) (fun _ => x_iload_n rfl l33_2) ?_
        refine Ew_of (pcₚ := 50) (fun _ => x_aload_n rfl l33_0) ?_
        refine w_gT H (o := 6) (t := 1) rfl (H.perm 6 rfl) rfl rfl rfl rfl rfl rfl ?_
        refine w_gT H (o := 1) (t := 14) rfl (H.perm 1 rfl) rfl rfl rfl rfl rfl rfl ?_
        refine Ew_of (pcₚ := 57) (fun _ => x_iload_n rfl l33_2) ?_
        refine w_lI H (o := 14) (n := 65536) rfl (H.perm 14 rfl) rfl rfl (H.fix 14 rfl rfl) (show 0 ≤ x33_2 ∧ x33_2 < ((65536 : Nat) : Int) from q_2182 b6 j33_3 r1) (by decide) (fun v209 ev209 qv209 => ?_)
        have qv209 : (0 : Int) ≤ v209 ∧ v209 ≤ 255 := qv209
        have ev209 : (w14) (x33_2) = v209 := (congrFun ((funext (hA_33 14 rfl)).trans (ew14)) (x33_2)).symm.trans ev209
        have hdv := ev209
        refine w_sI H (o := 61) (n := 16384) rfl (H.perm 61 rfl) rfl rfl (H.fix 61 rfl rfl) (show 0 ≤ x33_2 ∧ x33_2 < ((16384 : Nat) : Int) from q_2884 b6 h1 j33_3) (by decide) (show (0 : Int) ≤ v209 ∧ v209 ≤ 255 from qv209) (fun σ H => ?_)
        refine Ew_of (pcₚ := 62) (fun _ => x_iinc (len := 3) rfl (l33_2)) ?_
        refine Ew_of (pcₚ := 33) (fun _ => x_goto rfl rfl) ?_
        have : ∀ i, 0 ≤ i → i < ((x33_2 + 1)) → ((upd1 (w33_61) (x33_2) (v209))) i = ((w14)) i := fun i a b => by by_cases e : i = qd; (rw [e, hqd, upd1_s, ← hdv]); (rw [upd1_o (by omega)]; exact j33_c i a (by omega))
        exact ih33 _ (msE hm33 q_16 (q_17 b6)) _ σ _ _ ((x33_2 + 1)) (rk_o (l33_0) rfl rfl) (rk_o (l33_1) rfl rfl) (rk_s) H (hS_33) (SA_upd (hA_33) rfl)  (upd1 (w33_61) (x33_2) (v209)) (congrArg (fun q => upd1 q (x33_2) (v209)) (ew33_61)) (show inr ((x33_2 + 1)) from q_2183 b6 j33_3 r1) (show (0) ≤ ((x33_2 + 1)) from q_2877 j33_3) (show ((x33_2 + 1)) ≤ (0) ∨ ((x33_2 + 1)) ≤ ((u1_1)) from q_13 b6) (show 0 ≤ ((x33_2 + 1)) ∧ ((x33_2 + 1)) ≤ (u1_1) from q_1395 b6 j33_3) (show ∀ i, 0 ≤ i → i < ((x33_2 + 1)) → ((upd1 (w33_61) (x33_2) (v209))) i = ((w14)) i by assumption) rfl
  · have r210 : (0 : Int) ≤ F 1 3 ∧ F 1 3 ≤ 65536 := H.frng 1 3
    have : IMP (MDX ((w69)) ((u6_35))) (MKD (mkF ((a1)) (sc ((w14)) 0 ((u1_1))) ((u6_2)) ((u6_1))) (-1) ((F 1 3)) ((A 15)) ∧ MDX ((w69)) ((u6_35))) := fun q => ⟨MKD_n (.inl (by rw [sc_lenI (by omega)]; omega)) rfl, q⟩
    refine Ew_of (pcₚ := 13) (fun _ => x_iconst rfl) ?_
    exact w_ireturn rfl (k ((-1)) σ _ _ H (SF_refl) (SA_refl) (F 1 3) (rfl) (u6_35) ((eu6_35)) (A 15) (rfl) (w69) (ew69) (show inr ((-1)) from q_63) (show -1 ≤ ((-1)) ∧ ((-1)) ≤ 65536 by first | exact q_2011 | omega) (show IMP (MDX ((w69)) ((u6_35))) (MKD (mkF (a1) (sc ((w14)) 0 ((u1_1))) ((u6_2)) ((u6_1))) (((-1))) ((F 1 3)) ((A 15)) ∧ MDX ((w69)) ((u6_35))) by assumption))


end
section
/-! 97.ref -/
theorem M57p {σ0 σ : rS} {D N : Nat → Nat} {F : hF} {A : hA} {d c s : Nat} {Q : wQ} (H : HS σ0 σ D N F A) {a1 a2 : Int} (w10 : Int → Int) (ew10 : A 10 = w10) (w11 : Int → Int) (ew11 : A 11 = w11) (h0 : inr (a1)) (h1 : inr (a2)) (h2 : 0 ≤ (a1) ∧ (a1) ≤ 3) (k : ∀ (z : Int) σ Fₚ Aₚ, HS σ0 σ D N Fₚ Aₚ → SF [] F Fₚ → SA [10, 11] A Aₚ → ∀ v10 : Int → Int, Aₚ 10 = v10 → ∀ v11 : Int → Int, Aₚ 11 = v11 → ((z) = 0 ∨ (z) = 1) → (APQ ((w10)) ((w11)) ((v10)) ((v11)) ((a1)) ((a2)) ((z))) → (0 ≤ (z) ∧ (z) ≤ 1) → Q (some (I z)) σ c s) : Ew 57 (d + 0) 0 (rargs 0 [.ref (D 0), I a1, I a2]) [] σ c s Q := by
  refine Ew_of (pcₚ := 1) (fun _ => x_aload_n rfl rfl) ?_
  refine w_gT H (o := 0) (t := 11) rfl (H.perm 0 rfl) rfl rfl rfl rfl rfl rfl ?_
  refine Ew_of (pcₚ := 5) (fun _ => x_iload_n rfl rfl) ?_
  refine w_lI H (o := 11) (n := 4) rfl (H.perm 11 rfl) rfl rfl (H.fix 11 rfl rfl) (show 0 ≤ a1 ∧ a1 < ((4 : Nat) : Int) from q_285 h2) (by decide) (fun v1 ev1 qv1 => ?_)
  have qv1 : (0 : Int) ≤ v1 ∧ v1 ≤ 65536 := qv1
  have ev1 : (w11) (a1) = v1 := (congrFun (ew11) (a1)).symm.trans ev1
  have hv6 := ev1
  refine Ew_of (pcₚ := 8) (fun _ => x_ldc (z := 65536) rfl (by decide)) ?_
  refine w_icmpne (t := 13) rfl rfl (show inr (v1) from q_286 qv1) (show inr (65536) from q_52) (fun b2 => ?_) (fun b2 => ?_)
  · refine Ew_of (pcₚ := 14) (fun _ => x_aload_n rfl rfl) ?_
    refine w_gT H (o := 0) (t := 10) rfl (H.perm 0 rfl) rfl rfl rfl rfl rfl rfl ?_
    refine Ew_of (pcₚ := 19) (fun _ => x_ldc (z := 65536) rfl (by decide)) ?_
    refine Ew_of (pcₚ := 20) (fun _ => x_iload_n rfl rfl) ?_
    refine w_imul rfl ?_
    refine Ew_of (pcₚ := 22) (fun _ => x_aload_n rfl rfl) ?_
    refine w_gT H (o := 0) (t := 11) rfl (H.perm 0 rfl) rfl rfl rfl rfl rfl rfl ?_
    refine Ew_of (pcₚ := 26) (fun _ => x_iload_n rfl rfl) ?_
    refine w_lI H (o := 11) (n := 4) rfl (H.perm 11 rfl) rfl rfl (H.fix 11 rfl rfl) (show 0 ≤ a1 ∧ a1 < ((4 : Nat) : Int) from q_285 h2) (by decide) (fun v3 ev3 qv3 => ?_)
    have qv3 : (0 : Int) ≤ v3 ∧ v3 ≤ 65536 := qv3
    have ev3 : (w11) (a1) = v3 := (congrFun (ew11) (a1)).symm.trans ev3
    have hv27 := ev3
    refine w_iadd rfl ?_
    refine Ew_of (pcₚ := 29) (fun _ => x_iload_n rfl rfl) ?_
    refine Ew_of (pcₚ := 32) (fun _ => x_sipush (z := 255) rfl (by decide)) ?_
    refine w_iandG rfl ?_
    have g4 : inr (andI (a2) (255)) := toI_inr _
    obtain ⟨qb, hqb⟩ : ∃ q : Int, q = ((andI (a2) (255))) := ⟨_, rfl⟩
    rw [← hqb]
    have gqb : inr qb := by rw [hqb]; first | assumption | omega
    replace hqb : IMP True (qb = ((andI (a2) (255)))) := fun _ => hqb
    try clear g4
    have hb : qb = u8 ((a2)) := (hqb trivial).trans (andI_255 _)
    have hqr : 0 ≤ qb ∧ qb ≤ 255 := by rw [hb]; exact u8_rng _
    refine w_sI H (o := 10) (n := 262144) rfl (H.perm 10 rfl) rfl rfl (H.fix 10 rfl rfl) (show 0 ≤ ((65536 * a1) + v3) ∧ ((65536 * a1) + v3) < ((262144 : Nat) : Int) by omega) (by decide) (show (0 : Int) ≤ qb ∧ qb ≤ 255 from hqr) (fun σ H => ?_)
    refine Ew_of (pcₚ := 35) (fun _ => x_aload_n rfl rfl) ?_
    refine w_gT H (o := 0) (t := 11) rfl (H.perm 0 rfl) rfl rfl rfl rfl rfl rfl ?_
    refine Ew_of (pcₚ := 39) (fun _ => x_iload_n rfl rfl) ?_
    refine Ew_of (pcₚ := 40) (fun _ => x_dup2 rfl rfl rfl) ?_
    refine w_lI H (o := 11) (n := 4) rfl (H.perm 11 rfl) rfl rfl (H.fix 11 rfl rfl) (show 0 ≤ a1 ∧ a1 < ((4 : Nat) : Int) from q_285 h2) (by decide) (fun v5 ev5 qv5 => ?_)
    have qv5 : (0 : Int) ≤ v5 ∧ v5 ≤ 65536 := qv5
    have ev5 : (w11) (a1) = v5 := (congrFun (ew11) (a1)).symm.trans ev5
    have hv41 := ev5
    refine Ew_of (pcₚ := 42) (fun _ => x_iconst rfl) ?_
    refine w_iadd rfl ?_
    refine w_sI H (o := 11) (n := 4) rfl (H.perm 11 rfl) rfl rfl (H.fix 11 rfl rfl) (show 0 ≤ a1 ∧ a1 < ((4 : Nat) : Int) from q_285 h2) (by decide) (show (0 : Int) ≤ (v5 + 1) ∧ (v5 + 1) ≤ 65536 by omega) (fun σ H => ?_)
    refine Ew_of (pcₚ := 45) (fun _ => x_iconst rfl) ?_
    have : APQ ((w10)) ((w11)) ((upd1 (w10) (((65536 * a1) + v3)) (qb))) ((upd1 (w11) (a1) ((v5 + 1)))) ((a1)) ((a2)) (1) := .inr ⟨rfl, by rw [hv6]; omega, by rw [hv27, hb], by rw [hv41]⟩
    exact w_ireturn rfl (k (1) σ _ _ H (SF_refl) (SA_upd (SA_upd (SA_refl) rfl) rfl) (upd1 (w10) (((65536 * a1) + v3)) (qb)) (congrArg (fun q => upd1 q (((65536 * a1) + v3)) (qb)) (ew10)) (upd1 (w11) (a1) ((v5 + 1))) (congrArg (fun q => upd1 q (a1) ((v5 + 1))) (ew11)) (show (1) = 0 ∨ (1) = 1 by first | exact q_49 | omega) (show APQ ((w10)) ((w11)) ((upd1 (w10) (((65536 * a1) + v3)) (qb))) ((upd1 (w11) (a1) ((v5 + 1)))) (a1) (a2) ((1)) by assumption) (show 0 ≤ (1) ∧ (1) ≤ 1 by first | exact q_35 | omega))
  · refine Ew_of (pcₚ := 12) (fun _ => x_iconst rfl) ?_
    have : APQ ((w10)) ((w11)) ((w10)) ((w11)) ((a1)) ((a2)) (0) := .inl ⟨rfl, by rw [hv6]; omega, rfl, rfl⟩
    exact w_ireturn rfl (k (0) σ _ _ H (SF_refl) (SA_refl) (w10) (ew10) (w11) (ew11) (show (0) = 0 ∨ (0) = 1 by first | exact q_45 | omega) (show APQ ((w10)) ((w11)) ((w10)) ((w11)) (a1) (a2) ((0)) by assumption) (show 0 ≤ (0) ∧ (0) ≤ 1 by first | exact q_32 | omega))

theorem M56p {σ0 σ : rS} {D N : Nat → Nat} {F : hF} {A : hA} {d c s : Nat} {Q : wQ} (H : HS σ0 σ D N F A) {a1 : Int} (h0 : inr (a1)) (k : ∀ (z : Int) σ Fₚ Aₚ, HS σ0 σ D N Fₚ Aₚ → SF [] F Fₚ → SA [] A Aₚ → ((z) = 0 ∨ (z) = 1) → ((z) = 1 ∧ 0 ≤ (a1) ∧ (a1) ≤ 3 ∨ (z) = 0 ∧ ¬ (0 ≤ (a1) ∧ (a1) ≤ 3)) → Q (some (I z)) σ c s) : Ew 56 (d + 0) 0 (rargs 0 [I a1]) [] σ c s Q := by
  refine Ew_of (pcₚ := 1) (fun _ => x_iload_n rfl rfl) ?_
  refine w_iflt (t := 13) rfl rfl (show inr (a1) from h0) (fun b1 => ?_) (fun b1 => ?_)
  · refine Ew_of (pcₚ := 14) (fun _ => x_iconst rfl) ?_
    exact w_ireturn rfl (k (0) σ _ _ H (SF_refl) (SA_refl) (show (0) = 0 ∨ (0) = 1 by first | exact q_45 | omega) (show (0) = 1 ∧ 0 ≤ a1 ∧ a1 ≤ 3 ∨ (0) = 0 ∧ ¬ (0 ≤ a1 ∧ a1 ≤ 3) by omega))
  · refine Ew_of (pcₚ := 5) (fun _ => x_iload_n rfl rfl) ?_
    refine Ew_of (pcₚ := 6) (fun _ => x_iconst rfl) ?_
    refine w_icmpge (t := 13) rfl rfl (show inr (a1) from h0) (show inr (4) from q_216) (fun b2 => ?_) (fun b2 => ?_)
    · refine Ew_of (pcₚ := 14) (fun _ => x_iconst rfl) ?_
      exact w_ireturn rfl (k (0) σ _ _ H (SF_refl) (SA_refl) (show (0) = 0 ∨ (0) = 1 by first | exact q_45 | omega) (show (0) = 1 ∧ 0 ≤ a1 ∧ a1 ≤ 3 ∨ (0) = 0 ∧ ¬ (0 ≤ a1 ∧ a1 ≤ 3) by omega))
    · refine Ew_of (pcₚ := 10) (fun _ => x_iconst rfl) ?_
      refine Ew_of (pcₚ := 14) (fun _ => x_goto rfl rfl) ?_
      exact w_ireturn rfl (k (1) σ _ _ H (SF_refl) (SA_refl) (show (1) = 0 ∨ (1) = 1 by first | exact q_49 | omega) (show (1) = 1 ∧ 0 ≤ a1 ∧ a1 ≤ 3 ∨ (1) = 0 ∧ ¬ (0 ≤ a1 ∧ a1 ≤ 3) by first | exact q_2902 b1 b2 | omega))

theorem M62p {σ0 σ : rS} {D N : Nat → Nat} {F : hF} {A : hA} {d c s : Nat} {Q : wQ} (H : HS σ0 σ D N F A) {a1 a2 a3 : Int} (w11 : Int → Int) (ew11 : A 11 = w11) (h0 : inr (a1)) (h1 : inr (a2)) (h2 : inr (a3)) (h3 : 0 ≤ (a1) ∧ (a1) ≤ 3) (k : ∀ (z : Int) σ Fₚ Aₚ, HS σ0 σ D N Fₚ Aₚ → SF [] F Fₚ → SA [] A Aₚ → ((z) = 0 ∨ (z) = 1) → ((z) = 1 ∧ 0 ≤ (a2) ∧ (a2) ≤ (a3) ∧ (a3) ≤ ((w11)) ((a1)) ∨ (z) = 0 ∧ ¬ (0 ≤ (a2) ∧ (a2) ≤ (a3) ∧ (a3) ≤ ((w11)) ((a1)))) → Q (some (I z)) σ c s) : Ew 62 (d + 0) 0 (rargs 0 [.ref (D 0), I a1, I a2, I a3]) [] σ c s Q := by
  refine Ew_of (pcₚ := 1) (fun _ => x_iload_n rfl rfl) ?_
  refine w_iflt (t := 23) rfl rfl (show inr (a2) from h1) (fun b1 => ?_) (fun b1 => ?_)
  · refine Ew_of (pcₚ := 24) (fun _ => x_iconst rfl) ?_
    exact w_ireturn rfl (k (0) σ _ _ H (SF_refl) (SA_refl) (show (0) = 0 ∨ (0) = 1 by first | exact q_45 | omega) (show (0) = 1 ∧ 0 ≤ a2 ∧ a2 ≤ a3 ∧ a3 ≤ ((w11)) (a1) ∨ (0) = 0 ∧ ¬ (0 ≤ a2 ∧ a2 ≤ a3 ∧ a3 ≤ ((w11)) (a1)) by omega))
  · refine Ew_of (pcₚ := 5) (fun _ => x_iload_n rfl rfl) ?_
    refine Ew_of (pcₚ := 6) (fun _ => x_iload_n rfl rfl) ?_
    refine w_icmpgt (t := 23) rfl rfl (show inr (a2) from h1) (show inr (a3) from h2) (fun b2 => ?_) (fun b2 => ?_)
    · refine Ew_of (pcₚ := 24) (fun _ => x_iconst rfl) ?_
      exact w_ireturn rfl (k (0) σ _ _ H (SF_refl) (SA_refl) (show (0) = 0 ∨ (0) = 1 by first | exact q_45 | omega) (show (0) = 1 ∧ 0 ≤ a2 ∧ a2 ≤ a3 ∧ a3 ≤ ((w11)) (a1) ∨ (0) = 0 ∧ ¬ (0 ≤ a2 ∧ a2 ≤ a3 ∧ a3 ≤ ((w11)) (a1)) by omega))
    · refine Ew_of (pcₚ := 10) (fun _ => x_iload_n rfl rfl) ?_
      refine Ew_of (pcₚ := 11) (fun _ => x_aload_n rfl rfl) ?_
      refine w_gT H (o := 0) (t := 11) rfl (H.perm 0 rfl) rfl rfl rfl rfl rfl rfl ?_
      refine Ew_of (pcₚ := 15) (fun _ => x_iload_n rfl rfl) ?_
      refine w_lI H (o := 11) (n := 4) rfl (H.perm 11 rfl) rfl rfl (H.fix 11 rfl rfl) (show 0 ≤ a1 ∧ a1 < ((4 : Nat) : Int) from q_285 h3) (by decide) (fun v3 ev3 qv3 => ?_)
      have qv3 : (0 : Int) ≤ v3 ∧ v3 ≤ 65536 := qv3
      have ev3 : (w11) (a1) = v3 := (congrFun (ew11) (a1)).symm.trans ev3
      refine w_icmpgt (t := 23) rfl rfl (show inr (a3) from h2) (show inr (v3) from q_286 qv3) (fun b4 => ?_) (fun b4 => ?_)
      · refine Ew_of (pcₚ := 24) (fun _ => x_iconst rfl) ?_
        exact w_ireturn rfl (k (0) σ _ _ H (SF_refl) (SA_refl) (show (0) = 0 ∨ (0) = 1 by first | exact q_45 | omega) (show (0) = 1 ∧ 0 ≤ a2 ∧ a2 ≤ a3 ∧ a3 ≤ ((w11)) (a1) ∨ (0) = 0 ∧ ¬ (0 ≤ a2 ∧ a2 ≤ a3 ∧ a3 ≤ ((w11)) (a1)) by omega))
      · refine Ew_of (pcₚ := 20) (fun _ => x_iconst rfl) ?_
        refine Ew_of (pcₚ := 24) (fun _ => x_goto rfl rfl) ?_
        exact w_ireturn rfl (k (1) σ _ _ H (SF_refl) (SA_refl) (show (1) = 0 ∨ (1) = 1 by first | exact q_49 | omega) (show (1) = 1 ∧ 0 ≤ a2 ∧ a2 ≤ a3 ∧ a3 ≤ ((w11)) (a1) ∨ (1) = 0 ∧ ¬ (0 ≤ a2 ∧ a2 ≤ a3 ∧ a3 ≤ ((w11)) (a1)) by first | exact q_2903 b1 b2 b4 ev3 | omega))

theorem M58p {σ0 σ : rS} {D N : Nat → Nat} {F : hF} {A : hA} {d c s : Nat} {Q : wQ} (H : HS σ0 σ D N F A) {a1 a2 a3 a4 a5 : Int} (w10 : Int → Int) (ew10 : A 10 = w10) (w11 : Int → Int) (ew11 : A 11 = w11) (h0 : inr (a1)) (h1 : inr (a2)) (h2 : inr (a3)) (h3 : inr (a4)) (h4 : inr (a5)) (k : ∀ (z : Int) σ Fₚ Aₚ, HS σ0 σ D N Fₚ Aₚ → SF [] F Fₚ → SA [10, 11] A Aₚ → ∀ v10 : Int → Int, Aₚ 10 = v10 → ∀ v11 : Int → Int, Aₚ 11 = v11 → ((z) = 0 ∨ (z) = 1) → (CHQ ((0 ≤ (a1) ∧ (a1) ≤ 3) ∧ ((rwR ((w10)) ((w11)) ((a1))).length : Int) + 16 ≤ 65536) (rwR ((w10)) ((w11)) ((a1))) (rwR ((w10)) ((w11)) ((a1)) ++ fdL ((a2)) ((a3)) ((a4)) ((a5)) 16) ((z)) (rwR ((v10)) ((v11)) ((a1)))) → (∀ q, 0 ≤ q → q ≤ 3 → q ≠ (a1) → rwR ((v10)) ((v11)) (q) = rwR ((w10)) ((w11)) (q)) → Q (some (I z)) σ c s) : Ew 58 (d + 1) 0 (rargs 0 [.ref (D 0), I a1, I a2, I a3, I a4, I a5]) [] σ c s Q := by
  have hSz : ∀ i, (0 : Int) ≤ (w11) i ∧ (w11) i ≤ 65536 := fun i => by have h1 : (0 : Int) ≤ A 11 i ∧ A 11 i ≤ 65536 := H.arng 11 i; rw [show A 11 = w11 from ew11] at h1; exact h1
  have hl0 := rwR_len (ro := (w10)) (si := (w11)) (r := (a1)) (hSz ((a1))).1
  refine Ew_of (pcₚ := 1) (fun _ => x_iload_n rfl rfl) ?_
  refine w_stat24 rfl rfl (by rfl) (M56p H (show inr (a1) from h0) (fun z5 σ F1 A2 H hS3 hA4 pz5_0 pz5_1 => ⟨rretB rfl pz5_0, ?_⟩))
  refine w_ifeq (t := 21) rfl rfl (show inr (z5) from q_138 pz5_0) (fun b6 => ?_) (fun b6 => ?_)
  · have : CHQ ((0 ≤ (a1) ∧ (a1) ≤ 3) ∧ ((rwR ((w10)) ((w11)) ((a1))).length : Int) + 16 ≤ 65536) (rwR ((w10)) ((w11)) ((a1))) (rwR ((w10)) ((w11)) ((a1)) ++ fdL ((a2)) ((a3)) ((a4)) ((a5)) 16) (0) (rwR ((w10)) ((w11)) ((a1))) := .inr ⟨fun q => by omega, rfl, rfl⟩
    have : ∀ q, 0 ≤ q → q ≤ 3 → q ≠ (a1) → rwR ((w10)) ((w11)) (q) = rwR ((w10)) ((w11)) (q) := fun _ _ _ _ => rfl
    refine Ew_of (pcₚ := 22) (fun _ => x_iconst rfl) ?_
    exact w_ireturn rfl (k (0) σ _ _ H (SF_trans (SF_refl) hS3 (any_sub rfl)) (SA_trans (SA_refl) hA4 (any_subA rfl)) (w10) ((funext (hA4 10 rfl)).trans (ew10)) (w11) ((funext (hA4 11 rfl)).trans (ew11)) (show (0) = 0 ∨ (0) = 1 by first | exact q_45 | omega) (show CHQ ((0 ≤ a1 ∧ a1 ≤ 3) ∧ ((rwR ((w10)) ((w11)) (a1)).length : Int) + 16 ≤ 65536) (rwR ((w10)) ((w11)) (a1)) (rwR ((w10)) ((w11)) (a1) ++ fdL (a2) (a3) (a4) (a5) 16) ((0)) (rwR ((w10)) ((w11)) (a1)) by assumption) (show ∀ q, 0 ≤ q → q ≤ 3 → q ≠ a1 → rwR ((w10)) ((w11)) (q) = rwR ((w10)) ((w11)) (q) by assumption))
  · refine Ew_of (pcₚ := 8) (fun _ => x_aload_n rfl rfl) ?_
    refine w_gT H (o := 0) (t := 11) rfl (H.perm 0 rfl) rfl rfl rfl rfl rfl rfl ?_
    refine Ew_of (pcₚ := 12) (fun _ => x_iload_n rfl rfl) ?_
    refine w_lI H (o := 11) (n := 4) rfl (H.perm 11 rfl) rfl rfl (H.fix 11 rfl rfl) (show 0 ≤ a1 ∧ a1 < ((4 : Nat) : Int) by omega) (by decide) (fun v7 ev7 qv7 => ?_)
    have qv7 : (0 : Int) ≤ v7 ∧ v7 ≤ 65536 := qv7
    have ev7 : (w11) (a1) = v7 := (congrFun ((funext (hA4 11 rfl)).trans (ew11)) (a1)).symm.trans ev7
    have hs13 := ev7
    refine Ew_of (pcₚ := 15) (fun _ => x_bipush (z := 16) rfl (by decide)) ?_
    refine w_iadd rfl ?_
    refine Ew_of (pcₚ := 18) (fun _ => x_ldc (z := 65536) rfl (by decide)) ?_
    refine w_icmple (t := 23) rfl rfl (show inr ((v7 + 16)) from q_2253 qv7) (show inr (65536) from q_52) (fun b8 => ?_) (fun b8 => ?_)
    · refine Ew_of (pcₚ := 24) (fun _ => x_iconst rfl) ?_
      refine Ew_of (pcₚ := 26) (fun _ => x_istore rfl) ?_
      refine Ew_of (pcₚ := 27) (fun _ => x_iconst rfl) ?_
      refine Ew_of (pcₚ := 29) (fun _ => x_istore rfl) ?_
      have : RWC ((w10)) ((w11)) ((w10)) ((w11)) ((a1)) (rwR ((w10)) ((w11)) ((a1)) ++ fdL ((a2)) ((a3)) ((a4)) ((a5)) (0)) := RWC_e RWC_0 (List.append_nil _).symm
      suffices hl29 : ∀ (m : Nat), ∀ (ls : rO) (σ : rS) (F_29 : hF) (A_29 : hA) (x29_6 : Int) (x29_7 : Int), rlook ls 0 = some (.ref (D 0)) → rlook ls 1 = some (I (a1)) → rlook ls 2 = some (I (a2)) → rlook ls 3 = some (I (a3)) → rlook ls 4 = some (I (a4)) → rlook ls 5 = some (I (a5)) → rlook ls 6 = some (I (x29_6)) → rlook ls 7 = some (I (x29_7)) → HS σ0 σ D N F_29 A_29 → SF [] F1 F_29 → SA [10, 11] A2 A_29 → ∀ w29_10 : Int → Int, A_29 10 = w29_10 → ∀ w29_11 : Int → Int, A_29 11 = w29_11 → (inr (x29_6)) → (inr (x29_7)) → ((x29_6) = 1) → (0 ≤ (x29_7) ∧ (x29_7) ≤ 16) → (((w29_11)) ((a1)) = ((w11)) ((a1)) + (x29_7)) → (RWC ((w10)) ((w11)) ((w29_10)) ((w29_11)) ((a1)) (rwR ((w10)) ((w11)) ((a1)) ++ fdL ((a2)) ((a3)) ((a4)) ((a5)) ((x29_7)))) → (16 - (x29_7)).toNat = m → Ew 58 (d + 1) 29 ls [] σ c s Q from
        hl29 _ _ σ _ _ (1) (0) (rk_o (rk_o (rfl) rfl rfl) rfl rfl) (rk_o (rk_o (rfl) rfl rfl) rfl rfl) (rk_o (rk_o (rfl) rfl rfl) rfl rfl) (rk_o (rk_o (rfl) rfl rfl) rfl rfl) (rk_o (rk_o (rfl) rfl rfl) rfl rfl) (rk_o (rk_o (rfl) rfl rfl) rfl rfl) (rk_o (rk_s) rfl rfl) (rk_s) H (SF_refl) (SA_refl)  (w10) ((funext (hA4 10 rfl)).trans (ew10)) (w11) ((funext (hA4 11 rfl)).trans (ew11)) (show inr (1) from q_135) (show inr (0) from q_2) (show (1) = 1 from q_2904) (show 0 ≤ (0) ∧ (0) ≤ 16 from q_1528) (show ((w11)) ((a1)) = ((w11)) ((a1)) + (0) from q_365) (show RWC ((w10)) ((w11)) ((w10)) ((w11)) ((a1)) (rwR ((w10)) ((w11)) ((a1)) ++ fdL ((a2)) ((a3)) ((a4)) ((a5)) ((0))) by assumption) rfl
      as_aux_lemma =>
      intro m
      induction m using Nat.strongRecOn with
      | _ m ih29 =>
        intro ls σ F_29 A_29 x29_6 x29_7 l29_0 l29_1 l29_2 l29_3 l29_4 l29_5 l29_6 l29_7 H hS_29 hA_29  w29_10 ew29_10 w29_11 ew29_11 j29_0 j29_1 j29_2 j29_3 j29_4 j29_5 hm29
        have j29_c : RWC ((w10)) ((w11)) ((w29_10)) ((w29_11)) ((a1)) (rwR ((w10)) ((w11)) ((a1)) ++ fdL ((a2)) ((a3)) ((a4)) ((a5)) ((x29_7))) := by assumption
        have hSz2 : ∀ i, (0 : Int) ≤ (w29_11) i ∧ (w29_11) i ≤ 65536 := fun i => by have h1 : (0 : Int) ≤ A_29 11 i ∧ A_29 11 i ≤ 65536 := H.arng 11 i; rw [show A_29 11 = w29_11 from ew29_11] at h1; exact h1
        obtain ⟨q7, hq7⟩ : ∃ q : Int, q = (x29_7) := ⟨_, rfl⟩
        refine Ew_of (pcₚ := 31) (fun _ => x_iload rfl l29_7) ?_
        refine Ew_of (pcₚ := 33) (fun _ => x_bipush (z := 16) rfl (by decide)) ?_
        refine w_icmpge (t := 112) rfl rfl (show inr (x29_7) from j29_1) (show inr (16) from q_345) (fun b9 => ?_) (fun b9 => ?_)
        · have hc12 : RWC ((w10)) ((w11)) ((w29_10)) ((w29_11)) ((a1)) (rwR ((w10)) ((w11)) ((a1)) ++ fdL ((a2)) ((a3)) ((a4)) ((a5)) (16)) := by have h := j29_c; rw [show (x29_7) = 16 by omega] at h; exact h
          have : CHQ ((0 ≤ (a1) ∧ (a1) ≤ 3) ∧ ((rwR ((w10)) ((w11)) ((a1))).length : Int) + 16 ≤ 65536) (rwR ((w10)) ((w11)) ((a1))) (rwR ((w10)) ((w11)) ((a1)) ++ fdL ((a2)) ((a3)) ((a4)) ((a5)) 16) ((x29_6)) (rwR ((w29_10)) ((w29_11)) ((a1))) := .inl ⟨⟨by omega, by omega⟩, by omega, hc12.1⟩
          have : ∀ q, 0 ≤ q → q ≤ 3 → q ≠ (a1) → rwR ((w29_10)) ((w29_11)) (q) = rwR ((w10)) ((w11)) (q) := hc12.2
          refine Ew_of (pcₚ := 114) (fun _ => x_iload rfl l29_6) ?_
          exact w_ireturn rfl (k (x29_6) σ _ _ H (SF_trans (SF_trans (SF_refl) hS3 (any_sub rfl)) hS_29 (any_sub rfl)) (SA_trans (SA_trans (SA_refl) hA4 (any_subA rfl)) hA_29 (any_subA rfl)) (w29_10) (ew29_10) (w29_11) (ew29_11) (show (x29_6) = 0 ∨ (x29_6) = 1 from q_866 j29_2) (show CHQ ((0 ≤ a1 ∧ a1 ≤ 3) ∧ ((rwR ((w10)) ((w11)) (a1)).length : Int) + 16 ≤ 65536) (rwR ((w10)) ((w11)) (a1)) (rwR ((w10)) ((w11)) (a1) ++ fdL (a2) (a3) (a4) (a5) 16) ((x29_6)) (rwR ((w29_10)) ((w29_11)) (a1)) by assumption) (show ∀ q, 0 ≤ q → q ≤ 3 → q ≠ a1 → rwR ((w29_10)) ((w29_11)) (q) = rwR ((w10)) ((w11)) (q) by assumption))
        · have hc71 : ∀ (tc71_0 : Int), ∀ (ls : rO) (σ : rS) (F_c71 : hF) (A_c71 : hA) , rlook ls 0 = some (.ref (D 0)) → rlook ls 1 = some (I (a1)) → rlook ls 2 = some (I (a2)) → rlook ls 3 = some (I (a3)) → rlook ls 4 = some (I (a4)) → rlook ls 5 = some (I (a5)) → rlook ls 6 = some (I (x29_6)) → rlook ls 7 = some (I (x29_7)) → HS σ0 σ D N F_c71 A_c71 → SF [] F_29 F_c71 → SA [] A_29 A_c71 → (inr (tc71_0)) → ((tc71_0) = (if (x29_7) < 4 then (a2) else if (x29_7) < 8 then (a3) else if (x29_7) < 12 then (a4) else (a5))) → Ew 58 (d + 1) 71 ls [I (tc71_0)] σ c s Q := by
           as_aux_lemma =>
            intro tc71_0 ls σ F_c71 A_c71  lc71_0 lc71_1 lc71_2 lc71_3 lc71_4 lc71_5 lc71_6 lc71_7 H hS_c71 hA_c71   jc71_0 jc71_1
            refine Ew_of (pcₚ := 73) (fun _ => x_istore rfl) ?_
            have h8 : (tc71_0) = (if (x29_7) < 4 then (a2) else if (x29_7) < 8 then (a3) else if (x29_7) < 12 then (a4) else (a5)) := by assumption
            refine Ew_of (pcₚ := 74) (fun _ => x_aload_n rfl (rk_o (lc71_0) rfl rfl)) ?_
            refine Ew_of (pcₚ := 75) (fun _ => x_iload_n rfl (rk_o (lc71_1) rfl rfl)) ?_
            refine Ew_of (pcₚ := 77) (fun _ => x_iload rfl rk_s) ?_
            refine Ew_of (pcₚ := 79) (fun _ => x_bipush (z := 24) rfl (by decide)) ?_
            refine Ew_of (pcₚ := 81) (fun _ => x_bipush (z := 8) rfl (by decide)) ?_
            refine Ew_of (pcₚ := 83) (fun _ => x_iload rfl (rk_o (lc71_7) rfl rfl)) ?_
            refine Ew_of (pcₚ := 84) (fun _ => x_iconst rfl) ?_
            refine w_irem rfl (show inr (x29_7) ∧ 0 ≤ x29_7 from q_2905 j29_1 j29_3) (show inr (4) ∧ 0 < 4 from q_1074) ?_
            refine w_imul rfl ?_
            refine w_isub rfl ?_
            refine w_ishrG rfl ?_
            have g10 : inr (srI (tc71_0) ((24 - (8 * (x29_7 % 4))))) := toI_inr _
            obtain ⟨qs_, hqs_⟩ : ∃ q : Int, q = ((srI (tc71_0) ((24 - (8 * (x29_7 % 4)))))) := ⟨_, rfl⟩
            rw [← hqs_]
            have gqs_ : inr qs_ := by rw [hqs_]; first | assumption | omega
            replace hqs_ : IMP True (qs_ = ((srI (tc71_0) ((24 - (8 * (x29_7 % 4))))))) := fun _ => hqs_
            try clear g10
            have hqs : u8 qs_ = fdK ((a2)) ((a3)) ((a4)) ((a5)) ((x29_7)) := by rw [hqs_ trivial, srI_g (by omega) (by omega)]; unfold fdK; rw [← h8]
            refine w_inv H (o := 0) rfl rfl rfl (H.perm 0 rfl) rfl rfl (by rfl) (M57p H (w29_10) ((funext (hA_c71 10 rfl)).trans (ew29_10)) (w29_11) ((funext (hA_c71 11 rfl)).trans (ew29_11)) (show inr (a1) from h0) (show inr (qs_) from gqs_) (show 0 ≤ (a1) ∧ (a1) ≤ 3 by omega) (fun z15 σ F11 A12 H hS13 hA14 wq16 ewq17 wq18 ewq19 pz15_0 pz15_1 pz15_2 => ⟨rretB rfl pz15_0, ?_⟩))
            have hap := APQ_1 pz15_1 hSz2 (by omega) (by omega)
            have hr1 := hap.1
            have hsz3 := hap.2.2
            refine w_ifeq (t := 103) rfl rfl (show inr (z15) from q_1794 pz15_2) (fun b20 => ?_) (fun b20 => ?_)
            · refine Ew_of (pcₚ := 104) (fun _ => x_iconst rfl) ?_
              refine Ew_of (pcₚ := 106) (fun _ => x_istore rfl) ?_
              refine Ew_of (pcₚ := 109) (fun _ => x_iinc (len := 3) rfl (rk_o (rk_o (lc71_7) rfl rfl) rfl rfl)) ?_
              refine Ew_of (pcₚ := 29) (fun _ => x_goto rfl rfl) ?_
              have : RWC ((w10)) ((w11)) ((wq16)) ((wq18)) ((a1)) (rwR ((w10)) ((w11)) ((a1)) ++ fdL ((a2)) ((a3)) ((a4)) ((a5)) (((x29_7 + 1)))) := by first | exact RWC_e (RWC_a j29_c hap.2.1) (by rw [fdL_s (n := q7) (m := ((x29_7 + 1))) (by omega) (by omega), hq7, hqs, List.append_assoc]) | (exfalso; omega)
              exact ih29 _ (msE hm29 q_2257 (q_2258 b9)) _ σ _ _ (0) ((x29_7 + 1)) (rk_o (rk_o (rk_o (lc71_0) rfl rfl) rfl rfl) rfl rfl) (rk_o (rk_o (rk_o (lc71_1) rfl rfl) rfl rfl) rfl rfl) (rk_o (rk_o (rk_o (lc71_2) rfl rfl) rfl rfl) rfl rfl) (rk_o (rk_o (rk_o (lc71_3) rfl rfl) rfl rfl) rfl rfl) (rk_o (rk_o (rk_o (lc71_4) rfl rfl) rfl rfl) rfl rfl) (rk_o (rk_o (rk_o (lc71_5) rfl rfl) rfl rfl) rfl rfl) (rk_o (rk_s) rfl rfl) (rk_s) H (SF_trans (SF_trans (hS_29) hS_c71 (any_sub rfl)) hS13 (any_sub rfl)) (SA_trans (SA_trans (hA_29) hA_c71 (any_subA rfl)) hA14 (any_subA rfl))  (wq16) (ewq17) (wq18) (ewq19) (show inr (0) from q_2) (show inr ((x29_7 + 1)) from q_2907 b9 j29_3) (show (0) = 1 by omega) (show 0 ≤ ((x29_7 + 1)) ∧ ((x29_7 + 1)) ≤ 16 from q_2906 b9 j29_3) (show ((wq18)) ((a1)) = ((w11)) ((a1)) + ((x29_7 + 1)) by omega) (show RWC ((w10)) ((w11)) ((wq16)) ((wq18)) ((a1)) (rwR ((w10)) ((w11)) ((a1)) ++ fdL ((a2)) ((a3)) ((a4)) ((a5)) (((x29_7 + 1)))) by assumption) rfl
            · refine Ew_of (pcₚ := 96) (fun _ => x_iload rfl (rk_o (lc71_6) rfl rfl)) ?_
              refine w_ifeq (t := 103) rfl rfl (show inr (x29_6) from j29_0) (fun b21 => ?_) (fun b21 => ?_)
              · refine Ew_of (pcₚ := 104) (fun _ => x_iconst rfl) ?_
                refine Ew_of (pcₚ := 106) (fun _ => x_istore rfl) ?_
                refine Ew_of (pcₚ := 109) (fun _ => x_iinc (len := 3) rfl (rk_o (rk_o (lc71_7) rfl rfl) rfl rfl)) ?_
                refine Ew_of (pcₚ := 29) (fun _ => x_goto rfl rfl) ?_
                have : RWC ((w10)) ((w11)) ((wq16)) ((wq18)) ((a1)) (rwR ((w10)) ((w11)) ((a1)) ++ fdL ((a2)) ((a3)) ((a4)) ((a5)) (((x29_7 + 1)))) := by first | exact RWC_e (RWC_a j29_c hap.2.1) (by rw [fdL_s (n := q7) (m := ((x29_7 + 1))) (by omega) (by omega), hq7, hqs, List.append_assoc]) | (exfalso; omega)
                exact ih29 _ (msE hm29 q_2257 (q_2258 b9)) _ σ _ _ (0) ((x29_7 + 1)) (rk_o (rk_o (rk_o (lc71_0) rfl rfl) rfl rfl) rfl rfl) (rk_o (rk_o (rk_o (lc71_1) rfl rfl) rfl rfl) rfl rfl) (rk_o (rk_o (rk_o (lc71_2) rfl rfl) rfl rfl) rfl rfl) (rk_o (rk_o (rk_o (lc71_3) rfl rfl) rfl rfl) rfl rfl) (rk_o (rk_o (rk_o (lc71_4) rfl rfl) rfl rfl) rfl rfl) (rk_o (rk_o (rk_o (lc71_5) rfl rfl) rfl rfl) rfl rfl) (rk_o (rk_s) rfl rfl) (rk_s) H (SF_trans (SF_trans (hS_29) hS_c71 (any_sub rfl)) hS13 (any_sub rfl)) (SA_trans (SA_trans (hA_29) hA_c71 (any_subA rfl)) hA14 (any_subA rfl))  (wq16) (ewq17) (wq18) (ewq19) (show inr (0) from q_2) (show inr ((x29_7 + 1)) from q_2907 b9 j29_3) (show (0) = 1 by omega) (show 0 ≤ ((x29_7 + 1)) ∧ ((x29_7 + 1)) ≤ 16 from q_2906 b9 j29_3) (show ((wq18)) ((a1)) = ((w11)) ((a1)) + ((x29_7 + 1)) by omega) (show RWC ((w10)) ((w11)) ((wq16)) ((wq18)) ((a1)) (rwR ((w10)) ((w11)) ((a1)) ++ fdL ((a2)) ((a3)) ((a4)) ((a5)) (((x29_7 + 1)))) by assumption) rfl
              · refine Ew_of (pcₚ := 100) (fun _ => x_iconst rfl) ?_
                refine Ew_of (pcₚ := 104) (fun _ => x_goto rfl rfl) ?_
                refine Ew_of (pcₚ := 106) (fun _ => x_istore rfl) ?_
                refine Ew_of (pcₚ := 109) (fun _ => x_iinc (len := 3) rfl (rk_o (rk_o (lc71_7) rfl rfl) rfl rfl)) ?_
                refine Ew_of (pcₚ := 29) (fun _ => x_goto rfl rfl) ?_
                have : RWC ((w10)) ((w11)) ((wq16)) ((wq18)) ((a1)) (rwR ((w10)) ((w11)) ((a1)) ++ fdL ((a2)) ((a3)) ((a4)) ((a5)) (((x29_7 + 1)))) := by first | exact RWC_e (RWC_a j29_c hap.2.1) (by rw [fdL_s (n := q7) (m := ((x29_7 + 1))) (by omega) (by omega), hq7, hqs, List.append_assoc]) | (exfalso; omega)
                exact ih29 _ (msE hm29 q_2257 (q_2258 b9)) _ σ _ _ (1) ((x29_7 + 1)) (rk_o (rk_o (rk_o (lc71_0) rfl rfl) rfl rfl) rfl rfl) (rk_o (rk_o (rk_o (lc71_1) rfl rfl) rfl rfl) rfl rfl) (rk_o (rk_o (rk_o (lc71_2) rfl rfl) rfl rfl) rfl rfl) (rk_o (rk_o (rk_o (lc71_3) rfl rfl) rfl rfl) rfl rfl) (rk_o (rk_o (rk_o (lc71_4) rfl rfl) rfl rfl) rfl rfl) (rk_o (rk_o (rk_o (lc71_5) rfl rfl) rfl rfl) rfl rfl) (rk_o (rk_s) rfl rfl) (rk_s) H (SF_trans (SF_trans (hS_29) hS_c71 (any_sub rfl)) hS13 (any_sub rfl)) (SA_trans (SA_trans (hA_29) hA_c71 (any_subA rfl)) hA14 (any_subA rfl))  (wq16) (ewq17) (wq18) (ewq19) (show inr (1) from q_135) (show inr ((x29_7 + 1)) from q_2907 b9 j29_3) (show (1) = 1 from q_2904) (show 0 ≤ ((x29_7 + 1)) ∧ ((x29_7 + 1)) ≤ 16 from q_2906 b9 j29_3) (show ((wq18)) ((a1)) = ((w11)) ((a1)) + ((x29_7 + 1)) by omega) (show RWC ((w10)) ((w11)) ((wq16)) ((wq18)) ((a1)) (rwR ((w10)) ((w11)) ((a1)) ++ fdL ((a2)) ((a3)) ((a4)) ((a5)) (((x29_7 + 1)))) by assumption) rfl
          refine Ew_of (pcₚ := 38) (fun _ => x_iload rfl l29_7) ?_
          refine Ew_of (pcₚ := 39) (fun _ => x_iconst rfl) ?_
          refine w_icmpge (t := 46) rfl rfl (show inr (x29_7) from j29_1) (show inr (4) from q_216) (fun b22 => ?_) (fun b22 => ?_)
          · refine Ew_of (pcₚ := 48) (fun _ => x_iload rfl l29_7) ?_
            refine Ew_of (pcₚ := 50) (fun _ => x_bipush (z := 8) rfl (by decide)) ?_
            refine w_icmpge (t := 57) rfl rfl (show inr (x29_7) from j29_1) (show inr (8) from q_141) (fun b23 => ?_) (fun b23 => ?_)
            · refine Ew_of (pcₚ := 59) (fun _ => x_iload rfl l29_7) ?_
              refine Ew_of (pcₚ := 61) (fun _ => x_bipush (z := 12) rfl (by decide)) ?_
              refine w_icmpge (t := 69) rfl rfl (show inr (x29_7) from j29_1) (show inr (12) from q_599) (fun b24 => ?_) (fun b24 => ?_)
              · refine Ew_of (pcₚ := 71) (fun _ => x_iload rfl l29_5) ?_
                have : (a5) = (if (x29_7) < 4 then (a2) else if (x29_7) < 8 then (a3) else if (x29_7) < 12 then (a4) else (a5)) := by first | (rw [if_pos (by omega)]) | (rw [if_neg (by omega), if_pos (by omega)]) | (rw [if_neg (by omega), if_neg (by omega), if_pos (by omega)]) | (rw [if_neg (by omega), if_neg (by omega), if_neg (by omega)])
                exact hc71 (a5) _ σ _ _  (l29_0) (l29_1) (l29_2) (l29_3) (l29_4) (l29_5) (l29_6) (l29_7) H (SF_refl) (SA_refl)   (show inr (a5) from h4) (show (a5) = (if (x29_7) < 4 then (a2) else if (x29_7) < 8 then (a3) else if (x29_7) < 12 then (a4) else (a5)) by assumption)
              · refine Ew_of (pcₚ := 66) (fun _ => x_iload rfl l29_4) ?_
                refine Ew_of (pcₚ := 71) (fun _ => x_goto rfl rfl) ?_
                have : (a4) = (if (x29_7) < 4 then (a2) else if (x29_7) < 8 then (a3) else if (x29_7) < 12 then (a4) else (a5)) := by first | (rw [if_pos (by omega)]) | (rw [if_neg (by omega), if_pos (by omega)]) | (rw [if_neg (by omega), if_neg (by omega), if_pos (by omega)]) | (rw [if_neg (by omega), if_neg (by omega), if_neg (by omega)])
                exact hc71 (a4) _ σ _ _  (l29_0) (l29_1) (l29_2) (l29_3) (l29_4) (l29_5) (l29_6) (l29_7) H (SF_refl) (SA_refl)   (show inr (a4) from h3) (show (a4) = (if (x29_7) < 4 then (a2) else if (x29_7) < 8 then (a3) else if (x29_7) < 12 then (a4) else (a5)) by assumption)
            · refine Ew_of (pcₚ := 54) (fun _ => x_iload_n rfl l29_3) ?_
              refine Ew_of (pcₚ := 71) (fun _ => x_goto rfl rfl) ?_
              have : (a3) = (if (x29_7) < 4 then (a2) else if (x29_7) < 8 then (a3) else if (x29_7) < 12 then (a4) else (a5)) := by first | (rw [if_pos (by omega)]) | (rw [if_neg (by omega), if_pos (by omega)]) | (rw [if_neg (by omega), if_neg (by omega), if_pos (by omega)]) | (rw [if_neg (by omega), if_neg (by omega), if_neg (by omega)])
              exact hc71 (a3) _ σ _ _  (l29_0) (l29_1) (l29_2) (l29_3) (l29_4) (l29_5) (l29_6) (l29_7) H (SF_refl) (SA_refl)   (show inr (a3) from h2) (show (a3) = (if (x29_7) < 4 then (a2) else if (x29_7) < 8 then (a3) else if (x29_7) < 12 then (a4) else (a5)) by assumption)
          · refine Ew_of (pcₚ := 43) (fun _ => x_iload_n rfl l29_2) ?_
            refine Ew_of (pcₚ := 71) (fun _ => x_goto rfl rfl) ?_
            have : (a2) = (if (x29_7) < 4 then (a2) else if (x29_7) < 8 then (a3) else if (x29_7) < 12 then (a4) else (a5)) := by first | (rw [if_pos (by omega)]) | (rw [if_neg (by omega), if_pos (by omega)]) | (rw [if_neg (by omega), if_neg (by omega), if_pos (by omega)]) | (rw [if_neg (by omega), if_neg (by omega), if_neg (by omega)])
            exact hc71 (a2) _ σ _ _  (l29_0) (l29_1) (l29_2) (l29_3) (l29_4) (l29_5) (l29_6) (l29_7) H (SF_refl) (SA_refl)   (show inr (a2) from h1) (show (a2) = (if (x29_7) < 4 then (a2) else if (x29_7) < 8 then (a3) else if (x29_7) < 12 then (a4) else (a5)) by assumption)
    · have : CHQ ((0 ≤ (a1) ∧ (a1) ≤ 3) ∧ ((rwR ((w10)) ((w11)) ((a1))).length : Int) + 16 ≤ 65536) (rwR ((w10)) ((w11)) ((a1))) (rwR ((w10)) ((w11)) ((a1)) ++ fdL ((a2)) ((a3)) ((a4)) ((a5)) 16) (0) (rwR ((w10)) ((w11)) ((a1))) := .inr ⟨fun q => by omega, rfl, rfl⟩
      have : ∀ q, 0 ≤ q → q ≤ 3 → q ≠ (a1) → rwR ((w10)) ((w11)) (q) = rwR ((w10)) ((w11)) (q) := fun _ _ _ _ => rfl
      refine Ew_of (pcₚ := 22) (fun _ => x_iconst rfl) ?_
      exact w_ireturn rfl (k (0) σ _ _ H (SF_trans (SF_refl) hS3 (any_sub rfl)) (SA_trans (SA_refl) hA4 (any_subA rfl)) (w10) ((funext (hA4 10 rfl)).trans (ew10)) (w11) ((funext (hA4 11 rfl)).trans (ew11)) (show (0) = 0 ∨ (0) = 1 by first | exact q_45 | omega) (show CHQ ((0 ≤ a1 ∧ a1 ≤ 3) ∧ ((rwR ((w10)) ((w11)) (a1)).length : Int) + 16 ≤ 65536) (rwR ((w10)) ((w11)) (a1)) (rwR ((w10)) ((w11)) (a1) ++ fdL (a2) (a3) (a4) (a5) 16) ((0)) (rwR ((w10)) ((w11)) (a1)) by assumption) (show ∀ q, 0 ≤ q → q ≤ 3 → q ≠ a1 → rwR ((w10)) ((w11)) (q) = rwR ((w10)) ((w11)) (q) by assumption))

theorem M59p {σ0 σ : rS} {D N : Nat → Nat} {F : hF} {A : hA} {d c s : Nat} {Q : wQ} (H : HS σ0 σ D N F A) {a1 a2 a3 : Int} (w10 : Int → Int) (ew10 : A 10 = w10) (w11 : Int → Int) (ew11 : A 11 = w11) (h0 : inr (a1)) (h1 : inr (a2)) (h2 : inrJ (a3)) (k : ∀ (z : Int) σ Fₚ Aₚ, HS σ0 σ D N Fₚ Aₚ → SF [] F Fₚ → SA [10, 11] A Aₚ → ∀ v10 : Int → Int, Aₚ 10 = v10 → ∀ v11 : Int → Int, Aₚ 11 = v11 → ((z) = 0 ∨ (z) = 1) → (CHQ ((0 ≤ (a1) ∧ (a1) ≤ 3) ∧ (1 ≤ (a2) ∧ (a2) ≤ 8) ∧ ((rwR ((w10)) ((w11)) ((a1))).length : Int) + (a2) ≤ 65536) (rwR ((w10)) ((w11)) ((a1))) (rwR ((w10)) ((w11)) ((a1)) ++ beB ((a3)) ((a2))) ((z)) (rwR ((v10)) ((v11)) ((a1)))) → (∀ q, 0 ≤ q → q ≤ 3 → q ≠ (a1) → rwR ((v10)) ((v11)) (q) = rwR ((w10)) ((w11)) (q)) → Q (some (I z)) σ c s) : Ew 59 (d + 1) 0 (rargs 0 [.ref (D 0), I a1, I a2, J a3]) [] σ c s Q := by
  have hSz : ∀ i, (0 : Int) ≤ (w11) i ∧ (w11) i ≤ 65536 := fun i => by have h1 : (0 : Int) ≤ A 11 i ∧ A 11 i ≤ 65536 := H.arng 11 i; rw [show A 11 = w11 from ew11] at h1; exact h1
  have hl0 := rwR_len (ro := (w10)) (si := (w11)) (r := (a1)) (hSz ((a1))).1
  refine Ew_of (pcₚ := 1) (fun _ => x_iload_n rfl rfl) ?_
  refine w_stat24 rfl rfl (by rfl) (M56p H (show inr (a1) from h0) (fun z5 σ F1 A2 H hS3 hA4 pz5_0 pz5_1 => ⟨rretB rfl pz5_0, ?_⟩))
  refine w_ifeq (t := 31) rfl rfl (show inr (z5) from q_138 pz5_0) (fun b6 => ?_) (fun b6 => ?_)
  · have : CHQ ((0 ≤ (a1) ∧ (a1) ≤ 3) ∧ (1 ≤ (a2) ∧ (a2) ≤ 8) ∧ ((rwR ((w10)) ((w11)) ((a1))).length : Int) + (a2) ≤ 65536) (rwR ((w10)) ((w11)) ((a1))) (rwR ((w10)) ((w11)) ((a1)) ++ beB ((a3)) ((a2))) (0) (rwR ((w10)) ((w11)) ((a1))) := .inr ⟨fun q => by omega, rfl, rfl⟩
    have : ∀ q, 0 ≤ q → q ≤ 3 → q ≠ (a1) → rwR ((w10)) ((w11)) (q) = rwR ((w10)) ((w11)) (q) := fun _ _ _ _ => rfl
    refine Ew_of (pcₚ := 32) (fun _ => x_iconst rfl) ?_
    exact w_ireturn rfl (k (0) σ _ _ H (SF_trans (SF_refl) hS3 (any_sub rfl)) (SA_trans (SA_refl) hA4 (any_subA rfl)) (w10) ((funext (hA4 10 rfl)).trans (ew10)) (w11) ((funext (hA4 11 rfl)).trans (ew11)) (show (0) = 0 ∨ (0) = 1 by first | exact q_45 | omega) (show CHQ ((0 ≤ a1 ∧ a1 ≤ 3) ∧ (1 ≤ a2 ∧ a2 ≤ 8) ∧ ((rwR ((w10)) ((w11)) (a1)).length : Int) + a2 ≤ 65536) (rwR ((w10)) ((w11)) (a1)) (rwR ((w10)) ((w11)) (a1) ++ beB (a3) (a2)) ((0)) (rwR ((w10)) ((w11)) (a1)) by assumption) (show ∀ q, 0 ≤ q → q ≤ 3 → q ≠ a1 → rwR ((w10)) ((w11)) (q) = rwR ((w10)) ((w11)) (q) by assumption))
  · refine Ew_of (pcₚ := 8) (fun _ => x_iload_n rfl rfl) ?_
    refine Ew_of (pcₚ := 9) (fun _ => x_iconst rfl) ?_
    refine w_icmplt (t := 31) rfl rfl (show inr (a2) from h1) (show inr (1) from q_135) (fun b7 => ?_) (fun b7 => ?_)
    · have : CHQ ((0 ≤ (a1) ∧ (a1) ≤ 3) ∧ (1 ≤ (a2) ∧ (a2) ≤ 8) ∧ ((rwR ((w10)) ((w11)) ((a1))).length : Int) + (a2) ≤ 65536) (rwR ((w10)) ((w11)) ((a1))) (rwR ((w10)) ((w11)) ((a1)) ++ beB ((a3)) ((a2))) (0) (rwR ((w10)) ((w11)) ((a1))) := .inr ⟨fun q => by omega, rfl, rfl⟩
      have : ∀ q, 0 ≤ q → q ≤ 3 → q ≠ (a1) → rwR ((w10)) ((w11)) (q) = rwR ((w10)) ((w11)) (q) := fun _ _ _ _ => rfl
      refine Ew_of (pcₚ := 32) (fun _ => x_iconst rfl) ?_
      exact w_ireturn rfl (k (0) σ _ _ H (SF_trans (SF_refl) hS3 (any_sub rfl)) (SA_trans (SA_refl) hA4 (any_subA rfl)) (w10) ((funext (hA4 10 rfl)).trans (ew10)) (w11) ((funext (hA4 11 rfl)).trans (ew11)) (show (0) = 0 ∨ (0) = 1 by first | exact q_45 | omega) (show CHQ ((0 ≤ a1 ∧ a1 ≤ 3) ∧ (1 ≤ a2 ∧ a2 ≤ 8) ∧ ((rwR ((w10)) ((w11)) (a1)).length : Int) + a2 ≤ 65536) (rwR ((w10)) ((w11)) (a1)) (rwR ((w10)) ((w11)) (a1) ++ beB (a3) (a2)) ((0)) (rwR ((w10)) ((w11)) (a1)) by assumption) (show ∀ q, 0 ≤ q → q ≤ 3 → q ≠ a1 → rwR ((w10)) ((w11)) (q) = rwR ((w10)) ((w11)) (q) by assumption))
    · refine Ew_of (pcₚ := 13) (fun _ => x_iload_n rfl rfl) ?_
      refine Ew_of (pcₚ := 15) (fun _ => x_bipush (z := 8) rfl (by decide)) ?_
      refine w_icmpgt (t := 31) rfl rfl (show inr (a2) from h1) (show inr (8) from q_141) (fun b8 => ?_) (fun b8 => ?_)
      · have : CHQ ((0 ≤ (a1) ∧ (a1) ≤ 3) ∧ (1 ≤ (a2) ∧ (a2) ≤ 8) ∧ ((rwR ((w10)) ((w11)) ((a1))).length : Int) + (a2) ≤ 65536) (rwR ((w10)) ((w11)) ((a1))) (rwR ((w10)) ((w11)) ((a1)) ++ beB ((a3)) ((a2))) (0) (rwR ((w10)) ((w11)) ((a1))) := .inr ⟨fun q => by omega, rfl, rfl⟩
        have : ∀ q, 0 ≤ q → q ≤ 3 → q ≠ (a1) → rwR ((w10)) ((w11)) (q) = rwR ((w10)) ((w11)) (q) := fun _ _ _ _ => rfl
        refine Ew_of (pcₚ := 32) (fun _ => x_iconst rfl) ?_
        exact w_ireturn rfl (k (0) σ _ _ H (SF_trans (SF_refl) hS3 (any_sub rfl)) (SA_trans (SA_refl) hA4 (any_subA rfl)) (w10) ((funext (hA4 10 rfl)).trans (ew10)) (w11) ((funext (hA4 11 rfl)).trans (ew11)) (show (0) = 0 ∨ (0) = 1 by first | exact q_45 | omega) (show CHQ ((0 ≤ a1 ∧ a1 ≤ 3) ∧ (1 ≤ a2 ∧ a2 ≤ 8) ∧ ((rwR ((w10)) ((w11)) (a1)).length : Int) + a2 ≤ 65536) (rwR ((w10)) ((w11)) (a1)) (rwR ((w10)) ((w11)) (a1) ++ beB (a3) (a2)) ((0)) (rwR ((w10)) ((w11)) (a1)) by assumption) (show ∀ q, 0 ≤ q → q ≤ 3 → q ≠ a1 → rwR ((w10)) ((w11)) (q) = rwR ((w10)) ((w11)) (q) by assumption))
      · refine Ew_of (pcₚ := 19) (fun _ => x_aload_n rfl rfl) ?_
        refine w_gT H (o := 0) (t := 11) rfl (H.perm 0 rfl) rfl rfl rfl rfl rfl rfl ?_
        refine Ew_of (pcₚ := 23) (fun _ => x_iload_n rfl rfl) ?_
        refine w_lI H (o := 11) (n := 4) rfl (H.perm 11 rfl) rfl rfl (H.fix 11 rfl rfl) (show 0 ≤ a1 ∧ a1 < ((4 : Nat) : Int) by omega) (by decide) (fun v9 ev9 qv9 => ?_)
        have qv9 : (0 : Int) ≤ v9 ∧ v9 ≤ 65536 := qv9
        have ev9 : (w11) (a1) = v9 := (congrFun ((funext (hA4 11 rfl)).trans (ew11)) (a1)).symm.trans ev9
        have hs13 := ev9
        refine Ew_of (pcₚ := 25) (fun _ => x_iload_n rfl rfl) ?_
        refine w_iadd rfl ?_
        refine Ew_of (pcₚ := 28) (fun _ => x_ldc (z := 65536) rfl (by decide)) ?_
        refine w_icmple (t := 33) rfl rfl (show inr ((v9 + a2)) from q_2263 b7 b8 qv9) (show inr (65536) from q_52) (fun b10 => ?_) (fun b10 => ?_)
        · refine Ew_of (pcₚ := 34) (fun _ => x_iconst rfl) ?_
          refine Ew_of (pcₚ := 36) (fun _ => x_istore rfl) ?_
          refine Ew_of (pcₚ := 37) (fun _ => x_iconst rfl) ?_
          refine Ew_of (pcₚ := 39) (fun _ => x_istore rfl) ?_
          have : RWC ((w10)) ((w11)) ((w10)) ((w11)) ((a1)) (rwR ((w10)) ((w11)) ((a1)) ++ beB ((a3)) (0)) := RWC_e RWC_0 (List.append_nil _).symm
          suffices hl39 : ∀ (m : Nat), ∀ (ls : rO) (σ : rS) (F_39 : hF) (A_39 : hA) (x39_5 : Int) (x39_6 : Int), rlook ls 0 = some (.ref (D 0)) → rlook ls 1 = some (I (a1)) → rlook ls 2 = some (I (a2)) → rlook ls 3 = some (J (a3)) → rlook ls 5 = some (I (x39_5)) → rlook ls 6 = some (I (x39_6)) → HS σ0 σ D N F_39 A_39 → SF [] F1 F_39 → SA [10, 11] A2 A_39 → ∀ w39_10 : Int → Int, A_39 10 = w39_10 → ∀ w39_11 : Int → Int, A_39 11 = w39_11 → (inr (x39_5)) → (inr (x39_6)) → ((x39_5) = 1) → (0 ≤ (x39_6) ∧ (x39_6) ≤ (a2)) → (((w39_11)) ((a1)) = ((w11)) ((a1)) + (x39_6)) → (RWC ((w10)) ((w11)) ((w39_10)) ((w39_11)) ((a1)) (rwR ((w10)) ((w11)) ((a1)) ++ beB ((a3)) ((x39_6)))) → ((a2) - (x39_6)).toNat = m → Ew 59 (d + 1) 39 ls [] σ c s Q from
            hl39 _ _ σ _ _ (1) (0) (rk_o (rk_o (rfl) rfl rfl) rfl rfl) (rk_o (rk_o (rfl) rfl rfl) rfl rfl) (rk_o (rk_o (rfl) rfl rfl) rfl rfl) (rk_o (rk_o (rfl) rfl rfl) rfl rfl) (rk_o (rk_s) rfl rfl) (rk_s) H (SF_refl) (SA_refl)  (w10) ((funext (hA4 10 rfl)).trans (ew10)) (w11) ((funext (hA4 11 rfl)).trans (ew11)) (show inr (1) from q_135) (show inr (0) from q_2) (show (1) = 1 from q_2904) (show 0 ≤ (0) ∧ (0) ≤ (a2) from q_2908 b7) (show ((w11)) ((a1)) = ((w11)) ((a1)) + (0) from q_365) (show RWC ((w10)) ((w11)) ((w10)) ((w11)) ((a1)) (rwR ((w10)) ((w11)) ((a1)) ++ beB ((a3)) ((0))) by assumption) rfl
          as_aux_lemma =>
          intro m
          induction m using Nat.strongRecOn with
          | _ m ih39 =>
            intro ls σ F_39 A_39 x39_5 x39_6 l39_0 l39_1 l39_2 l39_3 l39_5 l39_6 H hS_39 hA_39  w39_10 ew39_10 w39_11 ew39_11 j39_0 j39_1 j39_2 j39_3 j39_4 j39_5 hm39
            have j39_c : RWC ((w10)) ((w11)) ((w39_10)) ((w39_11)) ((a1)) (rwR ((w10)) ((w11)) ((a1)) ++ beB ((a3)) ((x39_6))) := by assumption
            have hSz2 : ∀ i, (0 : Int) ≤ (w39_11) i ∧ (w39_11) i ≤ 65536 := fun i => by have h1 : (0 : Int) ≤ A_39 11 i ∧ A_39 11 i ≤ 65536 := H.arng 11 i; rw [show A_39 11 = w39_11 from ew39_11] at h1; exact h1
            obtain ⟨q6, hq6⟩ : ∃ q : Int, q = (x39_6) := ⟨_, rfl⟩
            refine Ew_of (pcₚ := 41) (fun _ => x_iload rfl l39_6) ?_
            refine Ew_of (pcₚ := 42) (fun _ => x_iload_n rfl l39_2) ?_
            refine w_icmpge (t := 82) rfl rfl (show inr (x39_6) from j39_1) (show inr (a2) from h1) (fun b11 => ?_) (fun b11 => ?_)
            · have hc12 : RWC ((w10)) ((w11)) ((w39_10)) ((w39_11)) ((a1)) (rwR ((w10)) ((w11)) ((a1)) ++ beB ((a3)) ((a2))) := by have h := j39_c; rw [show (x39_6) = (a2) by omega] at h; exact h
              have : CHQ ((0 ≤ (a1) ∧ (a1) ≤ 3) ∧ (1 ≤ (a2) ∧ (a2) ≤ 8) ∧ ((rwR ((w10)) ((w11)) ((a1))).length : Int) + (a2) ≤ 65536) (rwR ((w10)) ((w11)) ((a1))) (rwR ((w10)) ((w11)) ((a1)) ++ beB ((a3)) ((a2))) ((x39_5)) (rwR ((w39_10)) ((w39_11)) ((a1))) := .inl ⟨⟨by omega, by omega, by omega⟩, by omega, hc12.1⟩
              have : ∀ q, 0 ≤ q → q ≤ 3 → q ≠ (a1) → rwR ((w39_10)) ((w39_11)) (q) = rwR ((w10)) ((w11)) (q) := hc12.2
              refine Ew_of (pcₚ := 84) (fun _ => x_iload rfl l39_5) ?_
              exact w_ireturn rfl (k (x39_5) σ _ _ H (SF_trans (SF_trans (SF_refl) hS3 (any_sub rfl)) hS_39 (any_sub rfl)) (SA_trans (SA_trans (SA_refl) hA4 (any_subA rfl)) hA_39 (any_subA rfl)) (w39_10) (ew39_10) (w39_11) (ew39_11) (show (x39_5) = 0 ∨ (x39_5) = 1 from q_866 j39_2) (show CHQ ((0 ≤ a1 ∧ a1 ≤ 3) ∧ (1 ≤ a2 ∧ a2 ≤ 8) ∧ ((rwR ((w10)) ((w11)) (a1)).length : Int) + a2 ≤ 65536) (rwR ((w10)) ((w11)) (a1)) (rwR ((w10)) ((w11)) (a1) ++ beB (a3) (a2)) ((x39_5)) (rwR ((w39_10)) ((w39_11)) (a1)) by assumption) (show ∀ q, 0 ≤ q → q ≤ 3 → q ≠ a1 → rwR ((w39_10)) ((w39_11)) (q) = rwR ((w10)) ((w11)) (q) by assumption))
            · refine Ew_of (pcₚ := 46) (fun _ => x_aload_n rfl l39_0) ?_
              refine Ew_of (pcₚ := 47) (fun _ => x_iload_n rfl l39_1) ?_
              refine Ew_of (pcₚ := 48) (fun _ => x_lload_n rfl l39_3) ?_
              refine Ew_of (pcₚ := 50) (fun _ => x_bipush (z := 56) rfl (by decide)) ?_
              refine Ew_of (pcₚ := 52) (fun _ => x_bipush (z := 8) rfl (by decide)) ?_
              refine Ew_of (pcₚ := 54) (fun _ => x_iload rfl l39_6) ?_
              refine w_imul rfl ?_
              refine w_isub rfl ?_
              refine w_lshrE rfl ?_
              have g12 : inrJ (srJ (a3) ((56 - (8 * x39_6)))) := toJ_inr _
              refine w_l2iW rfl ?_
              have g13 : inr (w32 ((srJ (a3) ((56 - (8 * x39_6)))))) := w32_r _
              obtain ⟨qs_, hqs_⟩ : ∃ q : Int, q = ((w32 ((srJ (a3) ((56 - (8 * x39_6))))))) := ⟨_, rfl⟩
              rw [← hqs_]
              have gqs_ : inr qs_ := by rw [hqs_]; first | assumption | omega
              replace hqs_ : IMP True (qs_ = ((w32 ((srJ (a3) ((56 - (8 * x39_6)))))))) := fun _ => hqs_
              try clear g12
              have hqs : u8 qs_ = u8 ((a3) / p2 (56 - 8 * (x39_6))) := by rw [hqs_ trivial, u8_w32, srJ_d (by omega) (by omega)]
              refine w_inv H (o := 0) rfl rfl rfl (H.perm 0 rfl) rfl rfl (by rfl) (M57p H (w39_10) (ew39_10) (w39_11) (ew39_11) (show inr (a1) from h0) (show inr (qs_) from gqs_) (show 0 ≤ (a1) ∧ (a1) ≤ 3 by omega) (fun z18 σ F14 A15 H hS16 hA17 wq19 ewq20 wq21 ewq22 pz18_0 pz18_1 pz18_2 => ⟨rretB rfl pz18_0, ?_⟩))
              have hap := APQ_1 pz18_1 hSz2 (by omega) (by omega)
              have hr1 := hap.1
              have hsz3 := hap.2.2
              refine w_ifeq (t := 73) rfl rfl (show inr (z18) from q_1794 pz18_2) (fun b23 => ?_) (fun b23 => ?_)
              · refine Ew_of (pcₚ := 74) (fun _ => x_iconst rfl) ?_
                refine Ew_of (pcₚ := 76) (fun _ => x_istore rfl) ?_
                refine Ew_of (pcₚ := 79) (fun _ => x_iinc (len := 3) rfl (rk_o (l39_6) rfl rfl)) ?_
                refine Ew_of (pcₚ := 39) (fun _ => x_goto rfl rfl) ?_
                have : RWC ((w10)) ((w11)) ((wq19)) ((wq21)) ((a1)) (rwR ((w10)) ((w11)) ((a1)) ++ beB ((a3)) (((x39_6 + 1)))) := by first | exact RWC_e (RWC_a j39_c hap.2.1) (by rw [beB_s (n := q6) (m := ((x39_6 + 1))) (by omega) (by omega), hq6, hqs, List.append_assoc]) | (exfalso; omega)
                exact ih39 _ (msE hm39 q_16 (q_17 b11)) _ σ _ _ (0) ((x39_6 + 1)) (rk_o (rk_o (l39_0) rfl rfl) rfl rfl) (rk_o (rk_o (l39_1) rfl rfl) rfl rfl) (rk_o (rk_o (l39_2) rfl rfl) rfl rfl) (rk_o (rk_o (l39_3) rfl rfl) rfl rfl) (rk_o (rk_s) rfl rfl) (rk_s) H (SF_trans (hS_39) hS16 (any_sub rfl)) (SA_trans (hA_39) hA17 (any_subA rfl))  (wq19) (ewq20) (wq21) (ewq22) (show inr (0) from q_2) (show inr ((x39_6 + 1)) from q_2909 b11 b8 j39_3) (show (0) = 1 by omega) (show 0 ≤ ((x39_6 + 1)) ∧ ((x39_6 + 1)) ≤ (a2) from q_1395 b11 j39_3) (show ((wq21)) ((a1)) = ((w11)) ((a1)) + ((x39_6 + 1)) by omega) (show RWC ((w10)) ((w11)) ((wq19)) ((wq21)) ((a1)) (rwR ((w10)) ((w11)) ((a1)) ++ beB ((a3)) (((x39_6 + 1)))) by assumption) rfl
              · refine Ew_of (pcₚ := 66) (fun _ => x_iload rfl l39_5) ?_
                refine w_ifeq (t := 73) rfl rfl (show inr (x39_5) from j39_0) (fun b24 => ?_) (fun b24 => ?_)
                · refine Ew_of (pcₚ := 74) (fun _ => x_iconst rfl) ?_
                  refine Ew_of (pcₚ := 76) (fun _ => x_istore rfl) ?_
                  refine Ew_of (pcₚ := 79) (fun _ => x_iinc (len := 3) rfl (rk_o (l39_6) rfl rfl)) ?_
                  refine Ew_of (pcₚ := 39) (fun _ => x_goto rfl rfl) ?_
                  have : RWC ((w10)) ((w11)) ((wq19)) ((wq21)) ((a1)) (rwR ((w10)) ((w11)) ((a1)) ++ beB ((a3)) (((x39_6 + 1)))) := by first | exact RWC_e (RWC_a j39_c hap.2.1) (by rw [beB_s (n := q6) (m := ((x39_6 + 1))) (by omega) (by omega), hq6, hqs, List.append_assoc]) | (exfalso; omega)
                  exact ih39 _ (msE hm39 q_16 (q_17 b11)) _ σ _ _ (0) ((x39_6 + 1)) (rk_o (rk_o (l39_0) rfl rfl) rfl rfl) (rk_o (rk_o (l39_1) rfl rfl) rfl rfl) (rk_o (rk_o (l39_2) rfl rfl) rfl rfl) (rk_o (rk_o (l39_3) rfl rfl) rfl rfl) (rk_o (rk_s) rfl rfl) (rk_s) H (SF_trans (hS_39) hS16 (any_sub rfl)) (SA_trans (hA_39) hA17 (any_subA rfl))  (wq19) (ewq20) (wq21) (ewq22) (show inr (0) from q_2) (show inr ((x39_6 + 1)) from q_2909 b11 b8 j39_3) (show (0) = 1 by omega) (show 0 ≤ ((x39_6 + 1)) ∧ ((x39_6 + 1)) ≤ (a2) from q_1395 b11 j39_3) (show ((wq21)) ((a1)) = ((w11)) ((a1)) + ((x39_6 + 1)) by omega) (show RWC ((w10)) ((w11)) ((wq19)) ((wq21)) ((a1)) (rwR ((w10)) ((w11)) ((a1)) ++ beB ((a3)) (((x39_6 + 1)))) by assumption) rfl
                · refine Ew_of (pcₚ := 70) (fun _ => x_iconst rfl) ?_
                  refine Ew_of (pcₚ := 74) (fun _ => x_goto rfl rfl) ?_
                  refine Ew_of (pcₚ := 76) (fun _ => x_istore rfl) ?_
                  refine Ew_of (pcₚ := 79) (fun _ => x_iinc (len := 3) rfl (rk_o (l39_6) rfl rfl)) ?_
                  refine Ew_of (pcₚ := 39) (fun _ => x_goto rfl rfl) ?_
                  have : RWC ((w10)) ((w11)) ((wq19)) ((wq21)) ((a1)) (rwR ((w10)) ((w11)) ((a1)) ++ beB ((a3)) (((x39_6 + 1)))) := by first | exact RWC_e (RWC_a j39_c hap.2.1) (by rw [beB_s (n := q6) (m := ((x39_6 + 1))) (by omega) (by omega), hq6, hqs, List.append_assoc]) | (exfalso; omega)
                  exact ih39 _ (msE hm39 q_16 (q_17 b11)) _ σ _ _ (1) ((x39_6 + 1)) (rk_o (rk_o (l39_0) rfl rfl) rfl rfl) (rk_o (rk_o (l39_1) rfl rfl) rfl rfl) (rk_o (rk_o (l39_2) rfl rfl) rfl rfl) (rk_o (rk_o (l39_3) rfl rfl) rfl rfl) (rk_o (rk_s) rfl rfl) (rk_s) H (SF_trans (hS_39) hS16 (any_sub rfl)) (SA_trans (hA_39) hA17 (any_subA rfl))  (wq19) (ewq20) (wq21) (ewq22) (show inr (1) from q_135) (show inr ((x39_6 + 1)) from q_2909 b11 b8 j39_3) (show (1) = 1 from q_2904) (show 0 ≤ ((x39_6 + 1)) ∧ ((x39_6 + 1)) ≤ (a2) from q_1395 b11 j39_3) (show ((wq21)) ((a1)) = ((w11)) ((a1)) + ((x39_6 + 1)) by omega) (show RWC ((w10)) ((w11)) ((wq19)) ((wq21)) ((a1)) (rwR ((w10)) ((w11)) ((a1)) ++ beB ((a3)) (((x39_6 + 1)))) by assumption) rfl
        · have : CHQ ((0 ≤ (a1) ∧ (a1) ≤ 3) ∧ (1 ≤ (a2) ∧ (a2) ≤ 8) ∧ ((rwR ((w10)) ((w11)) ((a1))).length : Int) + (a2) ≤ 65536) (rwR ((w10)) ((w11)) ((a1))) (rwR ((w10)) ((w11)) ((a1)) ++ beB ((a3)) ((a2))) (0) (rwR ((w10)) ((w11)) ((a1))) := .inr ⟨fun q => by omega, rfl, rfl⟩
          have : ∀ q, 0 ≤ q → q ≤ 3 → q ≠ (a1) → rwR ((w10)) ((w11)) (q) = rwR ((w10)) ((w11)) (q) := fun _ _ _ _ => rfl
          refine Ew_of (pcₚ := 32) (fun _ => x_iconst rfl) ?_
          exact w_ireturn rfl (k (0) σ _ _ H (SF_trans (SF_refl) hS3 (any_sub rfl)) (SA_trans (SA_refl) hA4 (any_subA rfl)) (w10) ((funext (hA4 10 rfl)).trans (ew10)) (w11) ((funext (hA4 11 rfl)).trans (ew11)) (show (0) = 0 ∨ (0) = 1 by first | exact q_45 | omega) (show CHQ ((0 ≤ a1 ∧ a1 ≤ 3) ∧ (1 ≤ a2 ∧ a2 ≤ 8) ∧ ((rwR ((w10)) ((w11)) (a1)).length : Int) + a2 ≤ 65536) (rwR ((w10)) ((w11)) (a1)) (rwR ((w10)) ((w11)) (a1) ++ beB (a3) (a2)) ((0)) (rwR ((w10)) ((w11)) (a1)) by assumption) (show ∀ q, 0 ≤ q → q ≤ 3 → q ≠ a1 → rwR ((w10)) ((w11)) (q) = rwR ((w10)) ((w11)) (q) by assumption))


end
