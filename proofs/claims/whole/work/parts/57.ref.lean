/-- Writer.lengthsByCounts -/
theorem M420 {σ0 σ : rS} {D N : Nat → Nat} {F : hF} {A : hA} {d c s : Nat} {Q : wQ} (H : HS σ0 σ D N F A)  (u6_30 : Int) (eu6_30 : F 6 30 = u6_30) (w65 : Int → Int) (ew65 : A 65 = w65) (h0 : DIFF ((w65)) ((u6_30))) (k : ∀ (z : Int) σ F' A', HS σ0 σ D N F' A' → SF [(6, 49)] F F' → SA [79, 80, 81, 82] A A' → ∀ v82 : Int → Int, A' 82 = v82 → (inr (z)) → (1 ≤ (z) ∧ (z) ≤ 11) → (CI ((v82)) ((z))) → (∀ k, 0 ≤ k → k < (u6_30) → ((v82)) (((w65)) k) ≠ 0) → (∀ s, 0 ≤ s → s < 256 → ((v82)) s = dpH (hvF (ctF ((w65)) ((u6_30))) (LBT (ctF ((w65)) ((u6_30))))) s) → ((z) = mxF (hvF (ctF ((w65)) ((u6_30))) (LBT (ctF ((w65)) ((u6_30)))))) → Q (some (I z)) σ c s) : Ew 420 (d + 2) 0 (rargs 0 [.ref (D 6)]) [] σ c s Q := by
  have r1 : (0 : Int) ≤ u6_30 ∧ u6_30 ≤ 16385 := by have h1 : (0 : Int) ≤ F 6 30 ∧ F 6 30 ≤ 16385 := H.frng 6 30; rw [show F 6 30 = u6_30 from (eu6_30)] at h1; exact h1
  refine Ew_of (pc' := 1) (fun _ => x_iconst rfl) ?_
  refine Ew_of (pc' := 2) (fun _ => x_istore_n rfl) ?_
  have : ∀ i, (0 : Int) ≤ i → i < 0 → ((A 79)) (0 + i) = 0 := fun i a b => absurd b (by omega)
  suffices hl2 : ∀ (m : Nat), ∀ (ls : rO) (σ : rS) (F_2 : hF) (A_2 : hA) (x2_1 : Int), rlook ls 0 = some (.ref (D 6)) → rlook ls 1 = some (I (x2_1)) → HS σ0 σ D N F_2 A_2 → SF [] F F_2 → SA [79] A A_2 → ∀ w2_79 : Int → Int, A_2 79 = w2_79 → (inr (x2_1)) → ((0) ≤ (x2_1)) → ((x2_1) ≤ (0) ∨ (x2_1) ≤ ((256))) → (∀ i, 0 ≤ i → i < (x2_1) → ((w2_79)) (0 + i) = 0) → (((256)) - (x2_1)).toNat = m → Ew 420 (d + 2) 2 ls [] σ c s Q from
    hl2 _ _ σ _ _ (0) (rk_o (rfl) rfl rfl) (rk_s) H (SF_refl) (SA_refl)  (A 79) (rfl) (show inr (0) by omega) (show (0) ≤ (0) by omega) (show (0) ≤ (0) ∨ (0) ≤ ((256)) by omega) (show ∀ i, 0 ≤ i → i < (0) → ((A 79)) (0 + i) = 0 by assumption) rfl
  as_aux_lemma =>
  intro m
  induction m using Nat.strongRecOn with
  | _ m ih2 =>
    intro ls σ F_2 A_2 x2_1 l2_0 l2_1 H hS_2 hA_2  w2_79 ew2_79 j2_0 j2_1 j2_2 j2_3 hm2
    refine Ew_of (pc' := 3) (fun _ => x_iload_n rfl l2_1) ?_
    refine Ew_of (pc' := 6) (fun _ => x_sipush (z := 256) rfl (by decide)) ?_
    refine w_icmpge (t := 22) rfl rfl (show inr (x2_1) by omega) (show inr (256) by omega) (fun b2 => ?_) (fun b2 => ?_)
    · refine Ew_of (pc' := 23) (fun _ => x_iconst rfl) ?_
      refine Ew_of (pc' := 24) (fun _ => x_istore_n rfl) ?_
      have hz : ∀ i, (0 : Int) ≤ i → i < 256 → ((w2_79)) i = 0 := fun i a b => by have := j2_3 i a (by omega); rw [Int.zero_add] at this; exact this
      have : su (fun i => ((w2_79)) i) 256 = 0 := su_z (g := (w2_79)) (fun x => x) rfl (fun i a b => hz i a (by omega))
      have hct0 : ∀ i, (0 : Int) ≤ i → i < 256 → ((w2_79)) i = ctF ((w65)) 0 i := fun i a b => hz i a b
      have : ∀ i, (0 : Int) ≤ i → i < 256 → 0 ≤ ((w2_79)) i := fun i a b => by rw [hz i a b]; decide
      have : ∀ i, (0 : Int) ≤ i → i < 256 → ((w2_79)) i ≤ 0 := fun i a b => by rw [hz i a b]; decide
      have : ∀ j, (0 : Int) ≤ j → j < 0 → 1 ≤ ((w2_79)) (((w65)) j) := fun j a b => absurd b (by omega)
      suffices hl24 : ∀ (m : Nat), ∀ (ls : rO) (σ : rS) (F_24 : hF) (A_24 : hA) (x24_1 : Int), rlook ls 0 = some (.ref (D 6)) → rlook ls 1 = some (I (x24_1)) → HS σ0 σ D N F_24 A_24 → SF [] F_2 F_24 → SA [79] A_2 A_24 → ∀ w24_79 : Int → Int, A_24 79 = w24_79 → (inr (x24_1)) → ((0) ≤ (x24_1)) → ((x24_1) ≤ (0) ∨ (x24_1) ≤ ((u6_30))) → (∀ i, (0 : Int) ≤ i → i < 256 → ((w24_79)) i = ctF ((w65)) ((x24_1)) i) → (su (fun i => ((w24_79)) i) 256 = (x24_1)) → (∀ i, (0 : Int) ≤ i → i < 256 → 0 ≤ ((w24_79)) i) → (∀ j, 0 ≤ j → j < (x24_1) → 1 ≤ ((w24_79)) (((w65)) j)) → (∀ i, (0 : Int) ≤ i → i < 256 → ((w24_79)) i ≤ (x24_1)) → (((u6_30)) - (x24_1)).toNat = m → Ew 420 (d + 2) 24 ls [] σ c s Q from
        hl24 _ _ σ _ _ (0) (rk_o (l2_0) rfl rfl) (rk_s) H (SF_refl) (SA_refl)  (w2_79) (ew2_79) (show inr (0) by omega) (show (0) ≤ (0) by omega) (show (0) ≤ (0) ∨ (0) ≤ ((u6_30)) by omega) (show ∀ i, (0 : Int) ≤ i → i < 256 → ((w2_79)) i = ctF ((w65)) ((0)) i by assumption) (show su (fun i => ((w2_79)) i) 256 = (0) by omega) (show ∀ i, (0 : Int) ≤ i → i < 256 → 0 ≤ ((w2_79)) i by assumption) (show ∀ j, 0 ≤ j → j < (0) → 1 ≤ ((w2_79)) (((w65)) j) by assumption) (show ∀ i, (0 : Int) ≤ i → i < 256 → ((w2_79)) i ≤ (0) by assumption) rfl
      as_aux_lemma =>
      intro m
      induction m using Nat.strongRecOn with
      | _ m ih24 =>
        intro ls σ F_24 A_24 x24_1 l24_0 l24_1 H hS_24 hA_24  w24_79 ew24_79 j24_0 j24_1 j24_2 j24_3 j24_4 j24_5 j24_6 j24_7 hm24
        refine Ew_of (pc' := 25) (fun _ => x_iload_n rfl l24_1) ?_
        refine Ew_of (pc' := 26) (fun _ => x_aload_n rfl l24_0) ?_
        refine w_gI H (o := 6) (w := u6_30) rfl (H.perm 6 rfl) rfl rfl rfl (fun _ => rfl) (((hS_24 6 30 rfl).trans (hS_2 6 30 rfl)).trans (eu6_30)) ?_
        refine w_icmpge (t := 53) rfl rfl (show inr (x24_1) by omega) (show inr (u6_30) by omega) (fun b3 => ?_) (fun b3 => ?_)
        · have hct : ∀ i, (0 : Int) ≤ i → i < 256 → ((w24_79)) i = (ctF ((w65)) ((u6_30))) i := fun i a b => by have h := (show ∀ i, (0 : Int) ≤ i → i < 256 → ((w24_79)) i = ctF ((w65)) ((x24_1)) i by assumption) i a b; rw [show (x24_1) = (u6_30) by omega] at h; exact h
          have hB : ∀ i, (0 : Int) ≤ (w65) i ∧ (w65) i ≤ 255 := fun i => by have h1 : (0 : Int) ≤ A_24 65 i ∧ A_24 65 i ≤ 255 := H.arng 65 i; rw [show A_24 65 = w65 from (funext (hA_24 65 rfl)).trans ((funext (hA_2 65 rfl)).trans (ew65))] at h1; exact h1
          have hlp : ∀ j, 0 ≤ j → j < (u6_30) → 1 ≤ ((w24_79)) (((w65)) j) := fun j a b => (show ∀ j, 0 ≤ j → j < (x24_1) → 1 ≤ ((w24_79)) (((w65)) j) from by assumption) j a (by omega)
          have htwo : TWO ((w24_79)) := by obtain ⟨k, a, b, c⟩ := (show DIFF ((w65)) ((u6_30)) from by assumption); have h1 := hB k; have h2 := hB 0; have h3 := hlp k a b; have h4 := hlp 0 (by omega) (by omega); exact ⟨_, _, h1.1, by omega, h2.1, by omega, c, by omega, by omega⟩
          refine Ew_of (pc' := 54) (fun _ => x_aload_n rfl l24_0) ?_
          refine w_inv H (o := 6) rfl rfl rfl (H.perm 6 rfl) rfl rfl (by rfl) (M419 H (w24_79) (ew24_79) (show ∀ i, (0 : Int) ≤ i → i < 256 → 0 ≤ ((w24_79)) i by assumption) (show su (fun i => ((w24_79)) i) 256 ≤ 16385 by omega) (show TWO ((w24_79)) by assumption) (fun z8 σ F4 A5 H hS6 hA7 wq9 ewq10 pz8_0 pz8_1 pz8_2 pz8_3 pz8_4 pz8_5 pz8_6 => ⟨rfl, ?_⟩))
          refine Ew_of (pc' := 58) (fun _ => x_istore_n rfl) ?_
          have hlb0 : ∃ t, 0 ≤ t ∧ LBO (ctF ((w65)) ((u6_30))) t ∧ (∀ i, (0 : Int) ≤ i → i < 256 → ((w24_79)) i = hvF (ctF ((w65)) ((u6_30))) (t) i) ∧ (∀ i, (0 : Int) ≤ i → i < 256 → ((wq9)) i = dpH ((w24_79)) i) ∧ (z8) = mxF ((w24_79)) := ⟨0, Int.le_refl 0, LBO_0, by rw [hvF_0]; exact hct, pz8_5, pz8_6⟩
          suffices hl58 : ∀ (m : Nat), ∀ (ls : rO) (σ : rS) (F_58 : hF) (A_58 : hA) (x58_1 : Int), rlook ls 0 = some (.ref (D 6)) → rlook ls 1 = some (I (x58_1)) → HS σ0 σ D N F_58 A_58 → SF [(6, 49)] F4 F_58 → SA [79, 80, 81, 82] A5 A_58 → ∀ w58_79 : Int → Int, A_58 79 = w58_79 → ∀ w58_82 : Int → Int, A_58 82 = w58_82 → (inr (x58_1)) → (∃ t, 0 ≤ t ∧ LBO (ctF ((w65)) ((u6_30))) t ∧ (∀ i, (0 : Int) ≤ i → i < 256 → ((w58_79)) i = hvF (ctF ((w65)) ((u6_30))) (t) i) ∧ (∀ i, (0 : Int) ≤ i → i < 256 → ((w58_82)) i = dpH ((w58_79)) i) ∧ (x58_1) = mxF ((w58_79))) → (0 ≤ (x58_1) ∧ (x58_1) ≤ 600) → ((x58_1) = 0 ∨ GF ((x58_1) : Int).toNat ≤ su (fun i => ((w58_79)) i) 256) → ((x58_1) ≤ 11 → CI ((w58_82)) ((x58_1))) → ((x58_1) ≤ 11 → ∀ k, (0 : Int) ≤ k → k < 256 → 0 < ((w58_79)) k → 1 ≤ ((w58_82)) k) → (∀ i, (0 : Int) ≤ i → i < 256 → 0 ≤ ((w58_79)) i) → (su (fun i => ((w58_79)) i) 256 ≤ 16385) → (TWO ((w58_79))) → (∀ j, 0 ≤ j → j < (u6_30) → 1 ≤ ((w58_79)) (((w65)) j)) → (su (fun i => ((w58_79)) i) 256).toNat = m → Ew 420 (d + 2) 58 ls [] σ c s Q from
            hl58 _ _ σ _ _ (z8) (rk_o (l24_0) rfl rfl) (rk_s) H (SF_refl) (SA_refl)  (w24_79) ((funext (hA7 79 rfl)).trans (ew24_79)) (wq9) (ewq10) (show inr (z8) by omega) (show ∃ t, 0 ≤ t ∧ LBO (ctF ((w65)) ((u6_30))) t ∧ (∀ i, (0 : Int) ≤ i → i < 256 → ((w24_79)) i = hvF (ctF ((w65)) ((u6_30))) (t) i) ∧ (∀ i, (0 : Int) ≤ i → i < 256 → ((wq9)) i = dpH ((w24_79)) i) ∧ (z8) = mxF ((w24_79)) by assumption) (show 0 ≤ (z8) ∧ (z8) ≤ 600 by omega) (show (z8) = 0 ∨ GF ((z8) : Int).toNat ≤ su (fun i => ((w24_79)) i) 256 by assumption) (show (z8) ≤ 11 → CI ((wq9)) ((z8)) by assumption) (show (z8) ≤ 11 → ∀ k, (0 : Int) ≤ k → k < 256 → 0 < ((w24_79)) k → 1 ≤ ((wq9)) k by assumption) (show ∀ i, (0 : Int) ≤ i → i < 256 → 0 ≤ ((w24_79)) i by assumption) (show su (fun i => ((w24_79)) i) 256 ≤ 16385 by omega) (show TWO ((w24_79)) by assumption) (show ∀ j, 0 ≤ j → j < (u6_30) → 1 ≤ ((w24_79)) (((w65)) j) by assumption) rfl
          as_aux_lemma =>
          intro m
          induction m using Nat.strongRecOn with
          | _ m ih58 =>
            intro ls σ F_58 A_58 x58_1 l58_0 l58_1 H hS_58 hA_58  w58_79 ew58_79 w58_82 ew58_82 j58_0 j58_1 j58_2 j58_3 j58_4 j58_5 j58_6 j58_7 j58_8 j58_9 hm58
            have j58_t : ∃ t, 0 ≤ t ∧ LBO (ctF ((w65)) ((u6_30))) t ∧ (∀ i, (0 : Int) ≤ i → i < 256 → ((w58_79)) i = hvF (ctF ((w65)) ((u6_30))) (t) i) ∧ (∀ i, (0 : Int) ≤ i → i < 256 → ((w58_82)) i = dpH ((w58_79)) i) ∧ (x58_1) = mxF ((w58_79)) := by assumption
            have hl1m : (x58_1) = mxF ((w58_79)) := by obtain ⟨t, t0, t1, t2, t3, t4⟩ := j58_t; exact t4
            refine Ew_of (pc' := 59) (fun _ => x_iload_n rfl l58_1) ?_
            refine Ew_of (pc' := 61) (fun _ => x_bipush (z := 11) rfl (by decide)) ?_
            refine w_icmple (t := 103) rfl rfl (show inr (x58_1) by omega) (show inr (11) by omega) (fun b11 => ?_) (fun b11 => ?_)
            · have hfin : (∀ s, 0 ≤ s → s < 256 → ((w58_82)) s = dpH (hvF (ctF ((w65)) ((u6_30))) (LBT (ctF ((w65)) ((u6_30))))) s) ∧ (x58_1) = mxF (hvF (ctF ((w65)) ((u6_30))) (LBT (ctF ((w65)) ((u6_30))))) := by obtain ⟨t, t0, t1, t2, t3, t4⟩ := j58_t; have e := LBO_e t1 (by rw [← mxF_cg t2, ← t4]; omega); rw [e]; exact ⟨fun s a b => by rw [t3 s a b]; unfold dpH; rw [HTR_cg t2], by rw [← mxF_cg t2]; exact t4⟩
              have hfin1 := hfin.1
              have hfin2 := hfin.2
              have hci := (show (x58_1) ≤ 11 → CI ((w58_82)) ((x58_1)) from by assumption) (by omega)
              have hc1 := CI_1 hci
              have hB : ∀ i, (0 : Int) ≤ (w65) i ∧ (w65) i ≤ 255 := fun i => by have h1 : (0 : Int) ≤ A_58 65 i ∧ A_58 65 i ≤ 255 := H.arng 65 i; rw [show A_58 65 = w65 from (funext (hA_58 65 rfl)).trans ((funext (hA7 65 rfl)).trans ((funext (hA_24 65 rfl)).trans ((funext (hA_2 65 rfl)).trans (ew65))))] at h1; exact h1
              have : ∀ k, 0 ≤ k → k < (u6_30) → ((w58_82)) (((w65)) k) ≠ 0 := fun k a b => by have h1 := hB k; have h2 := (show ∀ j, 0 ≤ j → j < (u6_30) → 1 ≤ ((w58_79)) (((w65)) j) from by assumption) k a b; have h3 := (show (x58_1) ≤ 11 → ∀ k, (0 : Int) ≤ k → k < 256 → 0 < ((w58_79)) k → 1 ≤ ((w58_82)) k from by assumption) (by omega) _ h1.1 (by omega) (by omega); omega
              refine Ew_of (pc' := 104) (fun _ => x_iload_n rfl l58_1) ?_
              exact w_ireturn rfl (k (x58_1) σ _ _ H (SF_trans (SF_trans (SF_trans (SF_trans (SF_refl) hS_2 (any_sub rfl)) hS_24 (any_sub rfl)) hS6 (any_sub rfl)) hS_58 (any_sub rfl)) (SA_trans (SA_trans (SA_trans (SA_trans (SA_refl) hA_2 (any_subA rfl)) hA_24 (any_subA rfl)) hA7 (any_subA rfl)) hA_58 (any_subA rfl)) (w58_82) (ew58_82) (show inr (x58_1) by omega) (show 1 ≤ (x58_1) ∧ (x58_1) ≤ 11 by omega) (show CI ((w58_82)) ((x58_1)) by assumption) (show ∀ k, 0 ≤ k → k < (u6_30) → ((w58_82)) (((w65)) k) ≠ 0 by assumption) (show ∀ s, 0 ≤ s → s < 256 → ((w58_82)) s = dpH (hvF (ctF ((w65)) ((u6_30))) (LBT (ctF ((w65)) ((u6_30))))) s by assumption) (show (x58_1) = mxF (hvF (ctF ((w65)) ((u6_30))) (LBT (ctF ((w65)) ((u6_30))))) by assumption))
            · have h377 : 377 ≤ su (fun i => ((w58_79)) i) 256 := by rcases (show (x58_1) = 0 ∨ GF ((x58_1) : Int).toNat ≤ su (fun i => ((w58_79)) i) 256 from by assumption) with q | q; omega; have h5 := GF_le (show 12 ≤ ((x58_1) : Int).toNat by omega); have e : GF 12 = 377 := (by decide); omega
              refine Ew_of (pc' := 65) (fun _ => x_iconst rfl) ?_
              refine Ew_of (pc' := 66) (fun _ => x_istore_n rfl) ?_
              have : HV ((w58_79)) ((w58_79)) 0 := HV_0
              suffices hl66 : ∀ (m : Nat), ∀ (ls : rO) (σ : rS) (F_66 : hF) (A_66 : hA) (x66_2 : Int), rlook ls 0 = some (.ref (D 6)) → rlook ls 2 = some (I (x66_2)) → HS σ0 σ D N F_66 A_66 → SF [] F_58 F_66 → SA [79] A_58 A_66 → ∀ w66_79 : Int → Int, A_66 79 = w66_79 → (inr (x66_2)) → ((0) ≤ (x66_2)) → ((x66_2) ≤ (0) ∨ (x66_2) ≤ ((256))) → (HV ((w58_79)) ((w66_79)) ((x66_2))) → (((256)) - (x66_2)).toNat = m → Ew 420 (d + 2) 66 ls [] σ c s Q from
                hl66 _ _ σ _ _ (0) (rk_o (l58_0) rfl rfl) (rk_s) H (SF_refl) (SA_refl)  (w58_79) (ew58_79) (show inr (0) by omega) (show (0) ≤ (0) by omega) (show (0) ≤ (0) ∨ (0) ≤ ((256)) by omega) (show HV ((w58_79)) ((w58_79)) ((0)) by assumption) rfl
              as_aux_lemma =>
              intro m
              induction m using Nat.strongRecOn with
              | _ m ih66 =>
                intro ls σ F_66 A_66 x66_2 l66_0 l66_2 H hS_66 hA_66  w66_79 ew66_79 j66_0 j66_1 j66_2 j66_3 hm66
                refine Ew_of (pc' := 67) (fun _ => x_iload_n rfl l66_2) ?_
                refine Ew_of (pc' := 70) (fun _ => x_sipush (z := 256) rfl (by decide)) ?_
                refine w_icmpge (t := 95) rfl rfl (show inr (x66_2) by omega) (show inr (256) by omega) (fun b12 => ?_) (fun b12 => ?_)
                · have hhv : HV (w58_79) ((w66_79)) 256 := by rw [show (256 : Int) = (x66_2) by omega]; assumption
                  have hsu := HV_su hhv
                  have hnn : ∀ i, (0 : Int) ≤ i → i < 256 → 0 ≤ ((w66_79)) i := HV_nn hhv (by assumption)
                  have htwo : TWO ((w66_79)) := HV_two hhv (by assumption)
                  have hB : ∀ i, (0 : Int) ≤ (w65) i ∧ (w65) i ≤ 255 := fun i => by have h1 : (0 : Int) ≤ A_66 65 i ∧ A_66 65 i ≤ 255 := H.arng 65 i; rw [show A_66 65 = w65 from (funext (hA_66 65 rfl)).trans ((funext (hA_58 65 rfl)).trans ((funext (hA7 65 rfl)).trans ((funext (hA_24 65 rfl)).trans ((funext (hA_2 65 rfl)).trans (ew65)))))] at h1; exact h1
                  have hlp : ∀ j, 0 ≤ j → j < (u6_30) → 1 ≤ ((w66_79)) (((w65)) j) := fun j a b => by have h1 := hB j; exact HV_pos hhv h1.1 (by omega) ((show ∀ j, 0 ≤ j → j < (u6_30) → 1 ≤ (w58_79) (((w65)) j) from by assumption) j a b)
                  refine Ew_of (pc' := 96) (fun _ => x_aload_n rfl l66_0) ?_
                  refine w_inv H (o := 6) rfl rfl rfl (H.perm 6 rfl) rfl rfl (by rfl) (M419 H (w66_79) (ew66_79) (show ∀ i, (0 : Int) ≤ i → i < 256 → 0 ≤ ((w66_79)) i by assumption) (show su (fun i => ((w66_79)) i) 256 ≤ 16385 by omega) (show TWO ((w66_79)) by assumption) (fun z17 σ F13 A14 H hS15 hA16 wq18 ewq19 pz17_0 pz17_1 pz17_2 pz17_3 pz17_4 pz17_5 pz17_6 => ⟨rfl, ?_⟩))
                  refine Ew_of (pc' := 100) (fun _ => x_istore_n rfl) ?_
                  refine Ew_of (pc' := 58) (fun _ => x_goto rfl rfl) ?_
                  have hlb1 : ∃ t, 0 ≤ t ∧ LBO (ctF ((w65)) ((u6_30))) t ∧ (∀ i, (0 : Int) ≤ i → i < 256 → ((w66_79)) i = hvF (ctF ((w65)) ((u6_30))) (t) i) ∧ (∀ i, (0 : Int) ≤ i → i < 256 → ((wq18)) i = dpH ((w66_79)) i) ∧ (z17) = mxF ((w66_79)) := by obtain ⟨t, t0, t1, t2, t3, t4⟩ := j58_t; exact ⟨t + 1, by omega, LBO_s t1 (by rw [← mxF_cg t2, ← hl1m]; omega) rfl, fun i a b => by rw [hhv.1 i a (by omega), t2 i a b]; exact hvF_s t0 rfl, pz17_5, pz17_6⟩
                  exact ih58 _ (by omega) _ σ _ _ (z17) (rk_o (l66_0) rfl rfl) (rk_s) H (SF_trans (SF_trans (hS_58) hS_66 (any_sub rfl)) hS15 (any_sub rfl)) (SA_trans (SA_trans (hA_58) hA_66 (any_subA rfl)) hA16 (any_subA rfl))  (w66_79) ((funext (hA16 79 rfl)).trans (ew66_79)) (wq18) (ewq19) (show inr (z17) by omega) (show ∃ t, 0 ≤ t ∧ LBO (ctF ((w65)) ((u6_30))) t ∧ (∀ i, (0 : Int) ≤ i → i < 256 → ((w66_79)) i = hvF (ctF ((w65)) ((u6_30))) (t) i) ∧ (∀ i, (0 : Int) ≤ i → i < 256 → ((wq18)) i = dpH ((w66_79)) i) ∧ (z17) = mxF ((w66_79)) by assumption) (show 0 ≤ (z17) ∧ (z17) ≤ 600 by omega) (show (z17) = 0 ∨ GF ((z17) : Int).toNat ≤ su (fun i => ((w66_79)) i) 256 by assumption) (show (z17) ≤ 11 → CI ((wq18)) ((z17)) by assumption) (show (z17) ≤ 11 → ∀ k, (0 : Int) ≤ k → k < 256 → 0 < ((w66_79)) k → 1 ≤ ((wq18)) k by assumption) (show ∀ i, (0 : Int) ≤ i → i < 256 → 0 ≤ ((w66_79)) i by assumption) (show su (fun i => ((w66_79)) i) 256 ≤ 16385 by omega) (show TWO ((w66_79)) by assumption) (show ∀ j, 0 ≤ j → j < (u6_30) → 1 ≤ ((w66_79)) (((w65)) j) by assumption) rfl
                · have hbb := HV_b (show HV (w58_79) ((w66_79)) ((x66_2)) from by assumption) (by assumption) (by omega) (by omega)
                  refine Ew_of (pc' := 74) (fun _ => x_aload_n rfl l66_0) ?_
                  refine w_gT H (o := 6) (t := 79) rfl (H.perm 6 rfl) rfl rfl rfl rfl rfl rfl ?_
                  refine Ew_of (pc' := 78) (fun _ => x_iload_n rfl l66_2) ?_
                  refine Ew_of (pc' := 79) (fun _ => x_aload_n rfl l66_0) ?_
                  refine w_gT H (o := 6) (t := 79) rfl (H.perm 6 rfl) rfl rfl rfl rfl rfl rfl ?_
                  refine Ew_of (pc' := 83) (fun _ => x_iload_n rfl l66_2) ?_
                  refine w_lI H (o := 79) (n := 256) rfl (H.perm 79 rfl) rfl rfl (H.fix 79 rfl rfl) (show 0 ≤ x66_2 ∧ x66_2 < ((256 : Nat) : Int) by omega) (by decide) (fun v20 ev20 qv20 => ?_)
                  have qv20 : (-2147483648 : Int) ≤ v20 ∧ v20 ≤ 2147483647 := qv20
                  have ev20 : (w66_79) (x66_2) = v20 := (congrFun (ew66_79) (x66_2)).symm.trans ev20
                  refine Ew_of (pc' := 85) (fun _ => x_iconst rfl) ?_
                  refine w_iadd rfl ?_
                  refine Ew_of (pc' := 87) (fun _ => x_iconst rfl) ?_
                  refine w_idiv rfl (show inr ((v20 + 1)) ∧ 0 ≤ (v20 + 1) by omega) (show inr (2) ∧ 0 < 2 by omega) ?_
                  refine w_sI H (o := 79) (n := 256) rfl (H.perm 79 rfl) rfl rfl (H.fix 79 rfl rfl) (show 0 ≤ x66_2 ∧ x66_2 < ((256 : Nat) : Int) by omega) (by decide) (show (-2147483648 : Int) ≤ ((v20 + 1) / 2) ∧ ((v20 + 1) / 2) ≤ 2147483647 by omega) (fun σ H => ?_)
                  refine Ew_of (pc' := 92) (fun _ => x_iinc (len := 3) rfl (l66_2)) ?_
                  refine Ew_of (pc' := 66) (fun _ => x_goto rfl rfl) ?_
                  have : HV (w58_79) ((upd1 (w66_79) (x66_2) (((v20 + 1) / 2)))) (((x66_2 + 1))) := HV_next (by assumption) rfl (by omega)
                  exact ih66 _ (by omega) _ σ _ _ ((x66_2 + 1)) (rk_o (l66_0) rfl rfl) (rk_s) H (hS_66) (SA_upd (hA_66) rfl)  (upd1 (w66_79) (x66_2) (((v20 + 1) / 2))) (congrArg (fun q => upd1 q (x66_2) (((v20 + 1) / 2))) (ew66_79)) (show inr ((x66_2 + 1)) by omega) (show (0) ≤ ((x66_2 + 1)) by omega) (show ((x66_2 + 1)) ≤ (0) ∨ ((x66_2 + 1)) ≤ ((256)) by omega) (show HV ((w58_79)) ((upd1 (w66_79) (x66_2) (((v20 + 1) / 2)))) (((x66_2 + 1))) by assumption) rfl
        · refine Ew_of (pc' := 33) (fun _ => x_aload_n rfl l24_0) ?_
          refine w_gT H (o := 6) (t := 79) rfl (H.perm 6 rfl) rfl rfl rfl rfl rfl rfl ?_
          refine Ew_of (pc' := 37) (fun _ => x_aload_n rfl l24_0) ?_
          refine w_gT H (o := 6) (t := 65) rfl (H.perm 6 rfl) rfl rfl rfl rfl rfl rfl ?_
          refine Ew_of (pc' := 41) (fun _ => x_iload_n rfl l24_1) ?_
          refine w_lI H (o := 65) (n := 16385) rfl (H.perm 65 rfl) rfl rfl (H.fix 65 rfl rfl) (show 0 ≤ x24_1 ∧ x24_1 < ((16385 : Nat) : Int) by omega) (by decide) (fun v21 ev21 qv21 => ?_)
          have qv21 : (0 : Int) ≤ v21 ∧ v21 ≤ 255 := qv21
          have ev21 : (w65) (x24_1) = v21 := (congrFun ((funext (hA_24 65 rfl)).trans ((funext (hA_2 65 rfl)).trans (ew65))) (x24_1)).symm.trans ev21
          have hly := ev21
          have hcts := fun i (a : (0 : Int) ≤ i) (b : i < 256) => ctF_s (lt := (w65)) (n := (x24_1)) (i := i) (by omega) hly
          have hctl : ∀ i, (0 : Int) ≤ i → i < 256 → ((w24_79)) i = ctF ((w65)) ((x24_1)) i := by assumption
          have hnn := (show ∀ i, (0 : Int) ≤ i → i < 256 → 0 ≤ ((w24_79)) i from by assumption) ((v21)) (by omega) (by omega)
          have hup := (show ∀ i, (0 : Int) ≤ i → i < 256 → ((w24_79)) i ≤ (x24_1) from by assumption) ((v21)) (by omega) (by omega)
          have hs1 := su_upd1 (g := (w24_79)) (fun x => x) (j := (v21)) (v := ((w24_79)) ((v21)) + 1) (n := 256) (by omega) (by omega)
          refine Ew_of (pc' := 43) (fun _ => x_dup2 rfl rfl rfl) ?_
          refine w_lI H (o := 79) (n := 256) rfl (H.perm 79 rfl) rfl rfl (H.fix 79 rfl rfl) (show 0 ≤ v21 ∧ v21 < ((256 : Nat) : Int) by omega) (by decide) (fun v22 ev22 qv22 => ?_)
          have qv22 : (-2147483648 : Int) ≤ v22 ∧ v22 ≤ 2147483647 := qv22
          have ev22 : (w24_79) (v21) = v22 := (congrFun (ew24_79) (v21)).symm.trans ev22
          refine Ew_of (pc' := 45) (fun _ => x_iconst rfl) ?_
          refine w_iadd rfl ?_
          have hxx : ((v22 + 1)) = ((w24_79)) ((v21)) + 1 := by omega
          have hct1 : ∀ i, (0 : Int) ≤ i → i < 256 → (upd1 ((w24_79)) ((v21)) (((v22 + 1)))) i = ctF ((w65)) ((x24_1) + 1) i := fun i a b => by have hc := hcts i a b; by_cases e : i = (v21); ((rw [e, upd1_s, hxx, hctl ((v21)) (by omega) (by omega)]; rw [e] at hc; omega)); ((rw [upd1_o e, hctl i a b]; omega))
          rw [← hxx] at hs1
          have : ∀ i, (0 : Int) ≤ i → i < 256 → 0 ≤ (upd1 ((w24_79)) ((v21)) (((v22 + 1)))) i := fun i a b => by by_cases e : i = (v21); rw [e, upd1_s]; omega; rw [upd1_o e]; exact (show ∀ i, (0 : Int) ≤ i → i < 256 → 0 ≤ ((w24_79)) i from by assumption) i a b
          have : ∀ i, (0 : Int) ≤ i → i < 256 → (upd1 ((w24_79)) ((v21)) (((v22 + 1)))) i ≤ (x24_1) + 1 := fun i a b => by by_cases e : i = (v21); rw [e, upd1_s]; omega; rw [upd1_o e]; have := (show ∀ i, (0 : Int) ≤ i → i < 256 → ((w24_79)) i ≤ (x24_1) from by assumption) i a b; omega
          have : ∀ j, 0 ≤ j → j < (x24_1) + 1 → 1 ≤ (upd1 ((w24_79)) ((v21)) (((v22 + 1)))) (((w65)) j) := fun j a b => by by_cases e : ((w65)) j = (v21); rw [e, upd1_s]; omega; rw [upd1_o e]; refine (show ∀ j, 0 ≤ j → j < (x24_1) → 1 ≤ ((w24_79)) (((w65)) j) from by assumption) j a ?_; by_cases e2 : j = (x24_1); rw [e2] at e; exact absurd hly e; omega
          refine w_sI H (o := 79) (n := 256) rfl (H.perm 79 rfl) rfl rfl (H.fix 79 rfl rfl) (show 0 ≤ v21 ∧ v21 < ((256 : Nat) : Int) by omega) (by decide) (show (-2147483648 : Int) ≤ (v22 + 1) ∧ (v22 + 1) ≤ 2147483647 by omega) (fun σ H => ?_)
          refine Ew_of (pc' := 50) (fun _ => x_iinc (len := 3) rfl (l24_1)) ?_
          refine Ew_of (pc' := 24) (fun _ => x_goto rfl rfl) ?_
          exact ih24 _ (by omega) _ σ _ _ ((x24_1 + 1)) (rk_o (l24_0) rfl rfl) (rk_s) H (hS_24) (SA_upd (hA_24) rfl)  (upd1 (w24_79) (v21) ((v22 + 1))) (congrArg (fun q => upd1 q (v21) ((v22 + 1))) (ew24_79)) (show inr ((x24_1 + 1)) by omega) (show (0) ≤ ((x24_1 + 1)) by omega) (show ((x24_1 + 1)) ≤ (0) ∨ ((x24_1 + 1)) ≤ ((u6_30)) by omega) (show ∀ i, (0 : Int) ≤ i → i < 256 → ((upd1 (w24_79) (v21) ((v22 + 1)))) i = ctF ((w65)) (((x24_1 + 1))) i by assumption) (show su (fun i => ((upd1 (w24_79) (v21) ((v22 + 1)))) i) 256 = ((x24_1 + 1)) by omega) (show ∀ i, (0 : Int) ≤ i → i < 256 → 0 ≤ ((upd1 (w24_79) (v21) ((v22 + 1)))) i by assumption) (show ∀ j, 0 ≤ j → j < ((x24_1 + 1)) → 1 ≤ ((upd1 (w24_79) (v21) ((v22 + 1)))) (((w65)) j) by assumption) (show ∀ i, (0 : Int) ≤ i → i < 256 → ((upd1 (w24_79) (v21) ((v22 + 1)))) i ≤ ((x24_1 + 1)) by assumption) rfl
    · refine Ew_of (pc' := 10) (fun _ => x_aload_n rfl l2_0) ?_
      refine w_gT H (o := 6) (t := 79) rfl (H.perm 6 rfl) rfl rfl rfl rfl rfl rfl ?_
      refine Ew_of (pc' := 14) (fun _ => x_iload_n rfl l2_1) ?_
      refine Ew_of (pc' := 15) (fun _ => x_iconst rfl) ?_
      refine w_sI H (o := 79) (n := 256) rfl (H.perm 79 rfl) rfl rfl (H.fix 79 rfl rfl) (show 0 ≤ x2_1 ∧ x2_1 < ((256 : Nat) : Int) by omega) (by decide) (show (-2147483648 : Int) ≤ 0 ∧ 0 ≤ 2147483647 by omega) (fun σ H => ?_)
      refine Ew_of (pc' := 19) (fun _ => x_iinc (len := 3) rfl (l2_1)) ?_
      refine Ew_of (pc' := 2) (fun _ => x_goto rfl rfl) ?_
      have : ∀ i, (0 : Int) ≤ i → i < ((x2_1 + 1)) → ((upd1 (w2_79) (x2_1) (0))) (0 + i) = 0 := share_z j2_3
      exact ih2 _ (by omega) _ σ _ _ ((x2_1 + 1)) (rk_o (l2_0) rfl rfl) (rk_s) H (hS_2) (SA_upd (hA_2) rfl)  (upd1 (w2_79) (x2_1) (0)) (congrArg (fun q => upd1 q (x2_1) (0)) (ew2_79)) (show inr ((x2_1 + 1)) by omega) (show (0) ≤ ((x2_1 + 1)) by omega) (show ((x2_1 + 1)) ≤ (0) ∨ ((x2_1 + 1)) ≤ ((256)) by omega) (show ∀ i, 0 ≤ i → i < ((x2_1 + 1)) → ((upd1 (w2_79) (x2_1) (0))) (0 + i) = 0 by assumption) rfl
