theorem M263 {σ0 σ : rS} {D N : Nat → Nat} {F : hF} {A : hA} {d c s : Nat} {Q : wQ} (H : HS σ0 σ D N F A) {a1 : Int} (w33 : Int → Int) (ew33 : A 33 = w33) (w34 : Int → Int) (ew34 : A 34 = w34) (w35 : Int → Int) (ew35 : A 35 = w35) (w36 : Int → Int) (ew36 : A 36 = w36) (w37 : Int → Int) (ew37 : A 37 = w37) (h0 : inr (a1)) (h1 : 0 ≤ (a1) ∧ (a1) ≤ 2) (h2 : PS ((w33)) ((w34)) ((a1))) (h3 : RX ((w35)) ((w36)) ((w37)) ((w34)) ((a1))) (k : ∀ σ Fₚ Aₚ, HS σ0 σ D N Fₚ Aₚ → SF [] F Fₚ → SA [35, 36, 37, 41] A Aₚ → ∀ v35 : Int → Int, Aₚ 35 = v35 → ∀ v36 : Int → Int, Aₚ 36 = v36 → ∀ v37 : Int → Int, Aₚ 37 = v37 → (RT ((v35)) ((v36)) ((v37)) ((w34))) → (LD (sh ((w33)) (64 * (a1))) 64 (((w34)) ((a1))) (sh ((v35)) (512 * (a1))) (sh ((v36)) (512 * (a1))) (sh ((v37)) (512 * (a1)))) → (FRM ((w35)) ((v35)) (512 * (a1)) (512 * (a1) + 512)) → (FRM ((w36)) ((v36)) (512 * (a1)) (512 * (a1) + 512)) → (FRM ((w37)) ((v37)) (512 * (a1)) (512 * (a1) + 512)) → Q none σ c s) : Ew 263 (d + 2) 0 (rargs 0 [.ref (D 5), I a1]) [] σ c s Q := by
  refine Ew_of (pcₚ := 1) (fun _ => x_aload_n rfl rfl) ?_
  refine Ew_of (pcₚ := 2) (fun _ => x_aload_n rfl rfl) ?_
  refine w_gT H (o := 5) (t := 33) rfl (H.perm 5 rfl) rfl rfl rfl rfl rfl rfl ?_
  refine Ew_of (pcₚ := 7) (fun _ => x_bipush (z := 64) rfl (by decide)) ?_
  refine Ew_of (pcₚ := 8) (fun _ => x_iload_n rfl rfl) ?_
  refine w_imul rfl ?_
  refine Ew_of (pcₚ := 11) (fun _ => x_bipush (z := 64) rfl (by decide)) ?_
  refine Ew_of (pcₚ := 12) (fun _ => x_aload_n rfl rfl) ?_
  refine w_gT H (o := 5) (t := 34) rfl (H.perm 5 rfl) rfl rfl rfl rfl rfl rfl ?_
  refine Ew_of (pcₚ := 16) (fun _ => x_iload_n rfl rfl) ?_
  refine w_lI H (o := 34) (n := 3) rfl (H.perm 34 rfl) rfl rfl (H.fix 34 rfl rfl) (show 0 ≤ a1 ∧ a1 < ((3 : Nat) : Int) from q_1333 h1) (by decide) (fun v1 ev1 qv1 => ?_)
  have qv1 : (-1 : Int) ≤ v1 ∧ v1 ≤ 9 := qv1
  have ev1 : (w34) (a1) = v1 := (congrFun (ew34) (a1)).symm.trans ev1
  refine Ew_of (pcₚ := 18) (fun _ => x_aload_n rfl rfl) ?_
  refine w_gT H (o := 5) (t := 35) rfl (H.perm 5 rfl) rfl rfl rfl rfl rfl rfl ?_
  refine Ew_of (pcₚ := 22) (fun _ => x_aload_n rfl rfl) ?_
  refine w_gT H (o := 5) (t := 36) rfl (H.perm 5 rfl) rfl rfl rfl rfl rfl rfl ?_
  refine Ew_of (pcₚ := 26) (fun _ => x_aload_n rfl rfl) ?_
  refine w_gT H (o := 5) (t := 37) rfl (H.perm 5 rfl) rfl rfl rfl rfl rfl rfl ?_
  refine Ew_of (pcₚ := 32) (fun _ => x_sipush (z := 512) rfl (by decide)) ?_
  refine Ew_of (pcₚ := 33) (fun _ => x_iload_n rfl rfl) ?_
  refine w_imul rfl ?_
  have hv := ev1
  have hps : SH ((w33)) (64 * (a1)) 64 ((v1)) (lastOf ((a1))) := by rw [← hv]; exact (h2)
  have hp5 := p2_5 (o := (v1)) ⟨hps.1, hps.2.1⟩
  refine w_inv H (o := 5) rfl rfl rfl (H.perm 5 rfl) rfl rfl (by rfl) (M262_33_35_36_37 H (w33) (ew33) (w35) (ew35) (w36) (ew36) (w37) (ew37) (lastOf ((a1))) (show inr ((64 * a1)) from q_1338 h1) (show inr (64) from q_151) (show inr (v1) from q_1337 qv1) (show inr ((512 * a1)) from q_1336 h1) (hps) (show 0 ≤ ((64 * a1)) ∧ 1 ≤ (64) ∧ (64) ≤ 64 ∧ ((64 * a1)) + (64) ≤ 192 from q_1335 h1) (show 0 ≤ ((512 * a1)) ∧ ((512 * a1)) + p2 ((v1)) ≤ 1536 by omega) (show (64) * 5 ≤ 1536 from q_1334) (fun σ F2 A3 H hS4 hA5 wq7 ewq8 wq9 ewq10 wq11 ewq12 pz6_0 pz6_1 pz6_2 pz6_3 pz6_4 => ⟨rfl, ?_⟩))
  have : RT ((wq7)) ((wq9)) ((wq11)) ((w34)) := RT_lay (h3) (FRM_wide (by assumption) (by omega) (by omega)) (FRM_wide (by assumption) (by omega) (by omega)) (FRM_wide (by assumption) (by omega) (by omega)) (by rw [hv]; omega) (by rw [hv]; assumption)
  have : LD (sh ((w33)) (64 * (a1))) 64 (((w34)) ((a1))) (sh ((wq7)) (512 * (a1))) (sh ((wq9)) (512 * (a1))) (sh ((wq11)) (512 * (a1))) := by rw [hv]; exact pz6_4
  have : FRM ((w35)) ((wq7)) (512 * (a1)) (512 * (a1) + 512) := FRM_wide pz6_1 (by omega) (by omega)
  have : FRM ((w36)) ((wq9)) (512 * (a1)) (512 * (a1) + 512) := FRM_wide pz6_2 (by omega) (by omega)
  have : FRM ((w37)) ((wq11)) (512 * (a1)) (512 * (a1) + 512) := FRM_wide pz6_3 (by omega) (by omega)
  exact w_ret rfl (k σ _ _ H (SF_trans (SF_refl) hS4 (any_sub rfl)) (SA_trans (SA_refl) hA5 (any_subA rfl)) (wq7) (ewq8) (wq9) (ewq10) (wq11) (ewq12) (show RT ((wq7)) ((wq9)) ((wq11)) ((w34)) by assumption) (show LD (sh ((w33)) (64 * a1)) 64 (((w34)) (a1)) (sh ((wq7)) (512 * a1)) (sh ((wq9)) (512 * a1)) (sh ((wq11)) (512 * a1)) by assumption) (show FRM ((w35)) ((wq7)) (512 * a1) (512 * a1 + 512) by assumption) (show FRM ((w36)) ((wq9)) (512 * a1) (512 * a1 + 512) by assumption) (show FRM ((w37)) ((wq11)) (512 * a1) (512 * a1 + 512) by assumption))

theorem M264 {σ0 σ : rS} {D N : Nat → Nat} {F : hF} {A : hA} {d c s : Nat} {Q : wQ} (H : HS σ0 σ D N F A) {a1 : Int} (u5_19 : Int) (eu5_19 : F 5 19 = u5_19) (w33 : Int → Int) (ew33 : A 33 = w33) (w34 : Int → Int) (ew34 : A 34 = w34) (w35 : Int → Int) (ew35 : A 35 = w35) (w36 : Int → Int) (ew36 : A 36 = w36) (w37 : Int → Int) (ew37 : A 37 = w37) (w39 : Int → Int) (ew39 : A 39 = w39) (h0 : inr (a1)) (h1 : 0 ≤ (a1) ∧ (a1) ≤ 2) (h2 : SH ((w39)) 0 64 ((u5_19)) (lastOf ((a1)))) (h3 : RT ((w35)) ((w36)) ((w37)) ((w34))) (k : ∀ σ Fₚ Aₚ, HS σ0 σ D N Fₚ Aₚ → SF [] F Fₚ → SA [33, 34, 35, 36, 37, 41] A Aₚ → ∀ v33 : Int → Int, Aₚ 33 = v33 → ∀ v34 : Int → Int, Aₚ 34 = v34 → ∀ v35 : Int → Int, Aₚ 35 = v35 → ∀ v36 : Int → Int, Aₚ 36 = v36 → ∀ v37 : Int → Int, Aₚ 37 = v37 → (RT ((v35)) ((v36)) ((v37)) ((v34))) → (PS ((v33)) ((v34)) ((a1))) → (FRM ((w33)) ((v33)) (64 * (a1)) (64 * (a1) + 64)) → (FRM ((w34)) ((v34)) ((a1)) ((a1) + 1)) → (LD (sh ((v33)) (64 * (a1))) 64 ((u5_19)) (sh ((v35)) (512 * (a1))) (sh ((v36)) (512 * (a1))) (sh ((v37)) (512 * (a1)))) → (∀ k, 0 ≤ k → k < 64 → ((v33)) (64 * (a1) + k) = ((w39)) k) → (((v34)) ((a1)) = (u5_19)) → (FRM ((w35)) ((v35)) (512 * (a1)) (512 * (a1) + 512)) → (FRM ((w36)) ((v36)) (512 * (a1)) (512 * (a1) + 512)) → (FRM ((w37)) ((v37)) (512 * (a1)) (512 * (a1) + 512)) → Q none σ c s) : Ew 264 (d + 3) 0 (rargs 0 [.ref (D 5), I a1]) [] σ c s Q := by
  have r1 : (0 : Int) ≤ u5_19 ∧ u5_19 ≤ 20 := rngE (show (0 : Int) ≤ F 5 19 ∧ F 5 19 ≤ 20 from H.frng 5 19) (show F 5 19 = u5_19 from (eu5_19))
  have hsh : SH ((w39)) 0 64 ((u5_19)) (lastOf ((a1))) := h2
  have hp5 := p2_5 (o := (u5_19)) ⟨hsh.1, hsh.2.1⟩
  refine Ew_of (pcₚ := 1) (fun _ => x_iconst rfl) ?_
  refine Ew_of (pcₚ := 2) (fun _ => x_istore_n rfl) ?_
  have : ∀ k, (0 : Int) ≤ k → k < 0 → ((w33)) (64 * (a1) + k) = ((w39)) (0 + k) := fun k a b => absurd b (by omega)
  have : FRM ((w33)) ((w33)) (64 * (a1)) (64 * (a1) + 64) := FRM_refl
  suffices hl2 : ∀ (m : Nat), ∀ (ls : rO) (σ : rS) (F_2 : hF) (A_2 : hA) (x2_2 : Int), rlook ls 0 = some (.ref (D 5)) → rlook ls 1 = some (I (a1)) → rlook ls 2 = some (I (x2_2)) → HS σ0 σ D N F_2 A_2 → SF [] F F_2 → SA [33] A A_2 → ∀ w2_33 : Int → Int, A_2 33 = w2_33 → (inr (x2_2)) → ((0) ≤ (x2_2)) → ((x2_2) ≤ (0) ∨ (x2_2) ≤ ((64))) → (∀ k, 0 ≤ k → k < (x2_2) → ((w2_33)) (64 * (a1) + k) = ((w39)) (0 + k)) → (FRM ((w33)) ((w2_33)) (64 * (a1)) (64 * (a1) + 64)) → (((64)) - (x2_2)).toNat = m → Ew 264 (d + 3) 2 ls [] σ c s Q from
    hl2 _ _ σ _ _ (0) (rk_o (rfl) rfl rfl) (rk_o (rfl) rfl rfl) (rk_s) H (SF_refl) (SA_refl)  (w33) (ew33) (show inr (0) from q_2) (show (0) ≤ (0) from q_1) (show (0) ≤ (0) ∨ (0) ≤ ((64)) from q_1339) (show ∀ k, 0 ≤ k → k < (0) → ((w33)) (64 * (a1) + k) = ((w39)) (0 + k) by assumption) (show FRM ((w33)) ((w33)) (64 * (a1)) (64 * (a1) + 64) by assumption) rfl
  as_aux_lemma =>
  intro m
  induction m using Nat.strongRecOn with
  | _ m ih2 =>
    intro ls σ F_2 A_2 x2_2 l2_0 l2_1 l2_2 H hS_2 hA_2  w2_33 ew2_33 j2_0 j2_1 j2_2 j2_3 j2_4 hm2
    refine Ew_of (pcₚ := 3) (fun _ => x_iload_n rfl l2_2) ?_
    refine Ew_of (pcₚ := 5) (fun _ => x_bipush (z := 64) rfl (by decide)) ?_
    refine w_icmpge (t := 31) rfl rfl (show inr (x2_2) from j2_0) (show inr (64) from q_151) (fun b2 => ?_) (fun b2 => ?_)
    · have hpo : SH ((w2_33)) (64 * (a1)) 64 ((u5_19)) (lastOf ((a1))) := SH_copy hsh (fun k a b => j2_3 k a (by omega))
      have : PS ((w2_33)) (upd1 ((w34)) ((a1)) ((u5_19))) ((a1)) := by unfold PS; rw [upd1_s]; exact hpo
      have : RX ((w35)) ((w36)) ((w37)) (upd1 ((w34)) ((a1)) ((u5_19))) ((a1)) := RX_of (by assumption)
      have : FRM ((w34)) (upd1 ((w34)) ((a1)) ((u5_19))) ((a1)) ((a1) + 1) := FRM_upd FRM_refl (by omega) (by omega)
      have : ∀ k, 0 ≤ k → k < 64 → ((w2_33)) (64 * (a1) + k) = ((w39)) k := fun k a b => by have h := j2_3 k a (by omega); rw [Int.zero_add] at h; exact h
      have : (upd1 ((w34)) ((a1)) ((u5_19))) ((a1)) = (u5_19) := upd1_s
      refine Ew_of (pcₚ := 32) (fun _ => x_aload_n rfl l2_0) ?_
      refine w_gT H (o := 5) (t := 34) rfl (H.perm 5 rfl) rfl rfl rfl rfl rfl rfl ?_
      refine Ew_of (pcₚ := 36) (fun _ => x_iload_n rfl l2_1) ?_
      refine Ew_of (pcₚ := 37) (fun _ => x_aload_n rfl l2_0) ?_
      refine w_gI H (o := 5) (w := u5_19) rfl (H.perm 5 rfl) rfl rfl rfl (fun _ => rfl) ((hS_2 5 19 rfl).trans (eu5_19)) ?_
      refine w_sI H (o := 34) (n := 3) rfl (H.perm 34 rfl) rfl rfl (H.fix 34 rfl rfl) (show 0 ≤ a1 ∧ a1 < ((3 : Nat) : Int) from q_1333 h1) (by decide) (show (-1 : Int) ≤ u5_19 ∧ u5_19 ≤ 9 by omega) (fun σ H => ?_)
      refine Ew_of (pcₚ := 42) (fun _ => x_aload_n rfl l2_0) ?_
      refine Ew_of (pcₚ := 43) (fun _ => x_iload_n rfl l2_1) ?_
      refine w_inv H (o := 5) rfl rfl rfl (H.perm 5 rfl) rfl rfl (by rfl) (M263 H (w2_33) (ew2_33) (upd1 (w34) (a1) (u5_19)) (congrArg (fun q => upd1 q (a1) (u5_19)) ((funext (hA_2 34 rfl)).trans (ew34))) (w35) ((funext (hA_2 35 rfl)).trans (ew35)) (w36) ((funext (hA_2 36 rfl)).trans (ew36)) (w37) ((funext (hA_2 37 rfl)).trans (ew37)) (show inr (a1) from h0) (show 0 ≤ (a1) ∧ (a1) ≤ 2 from h1) (show PS ((w2_33)) ((upd1 (w34) (a1) (u5_19))) ((a1)) by assumption) (show RX ((w35)) ((w36)) ((w37)) ((upd1 (w34) (a1) (u5_19))) ((a1)) by assumption) (fun σ F3 A4 H hS5 hA6 wq8 ewq9 wq10 ewq11 wq12 ewq13 pz7_0 pz7_1 pz7_2 pz7_3 pz7_4 => ⟨rfl, ?_⟩))
      have : LD (sh ((w2_33)) (64 * (a1))) 64 ((u5_19)) (sh ((wq8)) (512 * (a1))) (sh ((wq10)) (512 * (a1))) (sh ((wq12)) (512 * (a1))) := by have h := pz7_1; rw [upd1_s] at h; exact h
      have : FRM ((w35)) ((wq8)) (512 * (a1)) (512 * (a1) + 512) := pz7_2
      have : FRM ((w36)) ((wq10)) (512 * (a1)) (512 * (a1) + 512) := pz7_3
      have : FRM ((w37)) ((wq12)) (512 * (a1)) (512 * (a1) + 512) := pz7_4
      exact w_ret rfl (k σ _ _ H (SF_trans (SF_trans (SF_refl) hS_2 (any_sub rfl)) hS5 (any_sub rfl)) (SA_trans (SA_upd (SA_trans (SA_refl) hA_2 (any_subA rfl)) rfl) hA6 (any_subA rfl)) (w2_33) ((funext (hA6 33 rfl)).trans (ew2_33)) (upd1 (w34) (a1) (u5_19)) ((funext (hA6 34 rfl)).trans (congrArg (fun q => upd1 q (a1) (u5_19)) ((funext (hA_2 34 rfl)).trans (ew34)))) (wq8) (ewq9) (wq10) (ewq11) (wq12) (ewq13) (pz7_0) (show PS ((w2_33)) ((upd1 (w34) (a1) (u5_19))) (a1) by assumption) (j2_4) (show FRM ((w34)) ((upd1 (w34) (a1) (u5_19))) (a1) (a1 + 1) by assumption) (show LD (sh ((w2_33)) (64 * a1)) 64 ((u5_19)) (sh ((wq8)) (512 * a1)) (sh ((wq10)) (512 * a1)) (sh ((wq12)) (512 * a1)) by assumption) (show ∀ k, 0 ≤ k → k < 64 → ((w2_33)) (64 * a1 + k) = ((w39)) k by assumption) (show ((upd1 (w34) (a1) (u5_19))) (a1) = (u5_19) by assumption) (pz7_2) (pz7_3) (pz7_4))
    · have hle := SH_le ((x2_2)) hsh (by omega) (by omega)
      rw [Int.zero_add] at hle
      refine Ew_of (pcₚ := 9) (fun _ => x_aload_n rfl l2_0) ?_
      refine w_gT H (o := 5) (t := 33) rfl (H.perm 5 rfl) rfl rfl rfl rfl rfl rfl ?_
      refine Ew_of (pcₚ := 14) (fun _ => x_bipush (z := 64) rfl (by decide)) ?_
      refine Ew_of (pcₚ := 15) (fun _ => x_iload_n rfl l2_1) ?_
      refine w_imul rfl ?_
      refine Ew_of (pcₚ := 17) (fun _ => x_iload_n rfl l2_2) ?_
      refine w_iadd rfl ?_
      refine Ew_of (pcₚ := 19) (fun _ => x_aload_n rfl l2_0) ?_
      refine w_gT H (o := 5) (t := 39) rfl (H.perm 5 rfl) rfl rfl rfl rfl rfl rfl ?_
      refine Ew_of (pcₚ := 23) (fun _ => x_iload_n rfl l2_2) ?_
      refine w_lI H (o := 39) (n := 256) rfl (H.perm 39 rfl) rfl rfl (H.fix 39 rfl rfl) (show 0 ≤ x2_2 ∧ x2_2 < ((256 : Nat) : Int) from q_1340 b2 j2_1) (by decide) (fun v14 ev14 qv14 => ?_)
      have qv14 : (-1 : Int) ≤ v14 ∧ v14 ≤ 1048576 := qv14
      have ev14 : (w39) (x2_2) = v14 := (congrFun ((funext (hA_2 39 rfl)).trans (ew39)) (x2_2)).symm.trans ev14
      refine w_sI H (o := 33) (n := 192) rfl (H.perm 33 rfl) rfl rfl (H.fix 33 rfl rfl) (show 0 ≤ ((64 * a1) + x2_2) ∧ ((64 * a1) + x2_2) < ((192 : Nat) : Int) from q_1341 b2 h1 j2_1) (by decide) (show (-1 : Int) ≤ v14 ∧ v14 ≤ 512 by omega) (fun σ H => ?_)
      refine Ew_of (pcₚ := 28) (fun _ => x_iinc (len := 3) rfl (l2_2)) ?_
      refine Ew_of (pcₚ := 2) (fun _ => x_goto rfl rfl) ?_
      have : ∀ k, (0 : Int) ≤ k → k < ((x2_2 + 1)) → ((upd1 (w2_33) (((64 * a1) + x2_2)) (v14))) (64 * (a1) + k) = ((w39)) (0 + k) := kd_upd j2_3 (by omega)
      have : FRM ((w33)) ((upd1 (w2_33) (((64 * a1) + x2_2)) (v14))) (64 * (a1)) (64 * (a1) + 64) := FRM_upd (by assumption) (by omega) (by omega)
      exact ih2 _ (msE hm2 q_1344 (q_1345 b2)) _ σ _ _ ((x2_2 + 1)) (rk_o (l2_0) rfl rfl) (rk_o (l2_1) rfl rfl) (rk_s) H (hS_2) (SA_upd (hA_2) rfl)  (upd1 (w2_33) (((64 * a1) + x2_2)) (v14)) (congrArg (fun q => upd1 q (((64 * a1) + x2_2)) (v14)) (ew2_33)) (show inr ((x2_2 + 1)) from q_1343 b2 j2_1) (show (0) ≤ ((x2_2 + 1)) from q_14 j2_1) (show ((x2_2 + 1)) ≤ (0) ∨ ((x2_2 + 1)) ≤ ((64)) from q_1342 b2) (show ∀ k, 0 ≤ k → k < ((x2_2 + 1)) → ((upd1 (w2_33) (((64 * a1) + x2_2)) (v14))) (64 * (a1) + k) = ((w39)) (0 + k) by assumption) (show FRM ((w33)) ((upd1 (w2_33) (((64 * a1) + x2_2)) (v14))) (64 * (a1)) (64 * (a1) + 64) by assumption) rfl

theorem M265 {σ0 σ : rS} {D N : Nat → Nat} {F : hF} {A : hA} {d c s : Nat} {Q : wQ} (H : HS σ0 σ D N F A) {a1 a2 a3 a4 : Int} (w33 : Int → Int) (ew33 : A 33 = w33) (h0 : inr (a1)) (h1 : inr (a2)) (h2 : inr (a3)) (h3 : inr (a4)) (h4 : 0 ≤ (a1) ∧ (a1) ≤ 2) (h5 : 0 ≤ (a2) ∧ 0 ≤ (a3) ∧ (a2) + (a3) ≤ 64) (h6 : -1 ≤ (a4) ∧ (a4) ≤ 4) (k : ∀ (z : Int) σ Fₚ Aₚ, HS σ0 σ D N Fₚ Aₚ → SF [] F Fₚ → SA [33] A Aₚ → ∀ v33 : Int → Int, Aₚ 33 = v33 → (inr (z)) → ((z) = (a2) + (a3)) → ((v33) = rns ((w33)) (64 * (a1) + (a2)) ((a3)) ((a4))) → Q (some (I z)) σ c s) : Ew 265 (d + 0) 0 (rargs 0 [.ref (D 5), I a1, I a2, I a3, I a4]) [] σ c s Q := by
  refine Ew_of (pcₚ := 1) (fun _ => x_iconst rfl) ?_
  refine Ew_of (pcₚ := 3) (fun _ => x_istore rfl) ?_
  have : (w33) = rns ((w33)) (64 * (a1) + (a2)) 0 ((a4)) := rns_0.symm
  suffices hl3 : ∀ (m : Nat), ∀ (ls : rO) (σ : rS) (F_3 : hF) (A_3 : hA) (x3_5 : Int), rlook ls 0 = some (.ref (D 5)) → rlook ls 1 = some (I (a1)) → rlook ls 2 = some (I (a2)) → rlook ls 3 = some (I (a3)) → rlook ls 4 = some (I (a4)) → rlook ls 5 = some (I (x3_5)) → HS σ0 σ D N F_3 A_3 → SF [] F F_3 → SA [33] A A_3 → ∀ w3_33 : Int → Int, A_3 33 = w3_33 → (inr (x3_5)) → ((0) ≤ (x3_5)) → ((x3_5) ≤ (0) ∨ (x3_5) ≤ ((a3))) → ((w3_33) = rns ((w33)) (64 * (a1) + (a2)) ((x3_5)) ((a4))) → (((a3)) - (x3_5)).toNat = m → Ew 265 (d + 0) 3 ls [] σ c s Q from
    hl3 _ _ σ _ _ (0) (rk_o (rfl) rfl rfl) (rk_o (rfl) rfl rfl) (rk_o (rfl) rfl rfl) (rk_o (rfl) rfl rfl) (rk_o (rfl) rfl rfl) (rk_s) H (SF_refl) (SA_refl)  (w33) (ew33) (show inr (0) from q_2) (show (0) ≤ (0) from q_1) (show (0) ≤ (0) ∨ (0) ≤ ((a3)) from q_5) (show (w33) = rns ((w33)) (64 * (a1) + (a2)) ((0)) ((a4)) by assumption) rfl
  as_aux_lemma =>
  intro m
  induction m using Nat.strongRecOn with
  | _ m ih3 =>
    intro ls σ F_3 A_3 x3_5 l3_0 l3_1 l3_2 l3_3 l3_4 l3_5 H hS_3 hA_3  w3_33 ew3_33 j3_0 j3_1 j3_2 j3_3 hm3
    refine Ew_of (pcₚ := 5) (fun _ => x_iload rfl l3_5) ?_
    refine Ew_of (pcₚ := 6) (fun _ => x_iload_n rfl l3_3) ?_
    refine w_icmpge (t := 31) rfl rfl (show inr (x3_5) from j3_0) (show inr (a3) from h2) (fun b1 => ?_) (fun b1 => ?_)
    · have : (w3_33) = rns ((w33)) (64 * (a1) + (a2)) ((a3)) ((a4)) := by rw [j3_3, show (x3_5) = (a3) by omega]
      refine Ew_of (pcₚ := 32) (fun _ => x_iload_n rfl l3_2) ?_
      refine Ew_of (pcₚ := 33) (fun _ => x_iload_n rfl l3_3) ?_
      refine w_iadd rfl ?_
      exact w_ireturn rfl (k ((a2 + a3)) σ _ _ H (SF_trans (SF_refl) hS_3 (any_sub rfl)) (SA_trans (SA_refl) hA_3 (any_subA rfl)) (w3_33) (ew3_33) (show inr ((a2 + a3)) from q_1347 h5) (show ((a2 + a3)) = a2 + a3 from q_1346) (show (w3_33) = rns ((w33)) (64 * a1 + a2) (a3) (a4) by assumption))
    · refine Ew_of (pcₚ := 10) (fun _ => x_aload_n rfl l3_0) ?_
      refine w_gT H (o := 5) (t := 33) rfl (H.perm 5 rfl) rfl rfl rfl rfl rfl rfl ?_
      refine Ew_of (pcₚ := 15) (fun _ => x_bipush (z := 64) rfl (by decide)) ?_
      refine Ew_of (pcₚ := 16) (fun _ => x_iload_n rfl l3_1) ?_
      refine w_imul rfl ?_
      refine Ew_of (pcₚ := 18) (fun _ => x_iload_n rfl l3_2) ?_
      refine w_iadd rfl ?_
      refine Ew_of (pcₚ := 21) (fun _ => x_iload rfl l3_5) ?_
      refine w_iadd rfl ?_
      refine Ew_of (pcₚ := 24) (fun _ => x_iload rfl l3_4) ?_
      refine w_sI H (o := 33) (n := 192) rfl (H.perm 33 rfl) rfl rfl (H.fix 33 rfl rfl) (show 0 ≤ (((64 * a1) + a2) + x3_5) ∧ (((64 * a1) + a2) + x3_5) < ((192 : Nat) : Int) from q_1349 b1 h4 h5 j3_1) (by decide) (show (-1 : Int) ≤ a4 ∧ a4 ≤ 512 from q_1348 h6) (fun σ H => ?_)
      refine Ew_of (pcₚ := 28) (fun _ => x_iinc (len := 3) rfl (l3_5)) ?_
      refine Ew_of (pcₚ := 3) (fun _ => x_goto rfl rfl) ?_
      have : (upd1 (w3_33) ((((64 * a1) + a2) + x3_5)) (a4)) = rns ((w33)) (64 * (a1) + (a2)) (((x3_5 + 1))) ((a4)) := by rw [j3_3]; exact rns_s (by omega)
      exact ih3 _ (msE hm3 q_16 (q_17 b1)) _ σ _ _ ((x3_5 + 1)) (rk_o (l3_0) rfl rfl) (rk_o (l3_1) rfl rfl) (rk_o (l3_2) rfl rfl) (rk_o (l3_3) rfl rfl) (rk_o (l3_4) rfl rfl) (rk_s) H (hS_3) (SA_upd (hA_3) rfl)  (upd1 (w3_33) ((((64 * a1) + a2) + x3_5)) (a4)) (congrArg (fun q => upd1 q ((((64 * a1) + a2) + x3_5)) (a4)) (ew3_33)) (show inr ((x3_5 + 1)) from q_1350 b1 h5 j3_1) (show (0) ≤ ((x3_5 + 1)) from q_14 j3_1) (show ((x3_5 + 1)) ≤ (0) ∨ ((x3_5 + 1)) ≤ ((a3)) from q_13 b1) (show (upd1 (w3_33) ((((64 * a1) + a2) + x3_5)) (a4)) = rns ((w33)) (64 * (a1) + (a2)) (((x3_5 + 1))) ((a4)) by assumption) rfl

theorem M266 {σ0 σ : rS} {D N : Nat → Nat} {F : hF} {A : hA} {d c s : Nat} {Q : wQ} (H : HS σ0 σ D N F A) {a1 : Int} (w34 : Int → Int) (ew34 : A 34 = w34) (w35 : Int → Int) (ew35 : A 35 = w35) (w36 : Int → Int) (ew36 : A 36 = w36) (w37 : Int → Int) (ew37 : A 37 = w37) (h0 : inr (a1)) (h1 : 0 ≤ (a1) ∧ (a1) ≤ 2) (h2 : RT ((w35)) ((w36)) ((w37)) ((w34))) (k : ∀ σ Fₚ Aₚ, HS σ0 σ D N Fₚ Aₚ → SF [] F Fₚ → SA [33, 34, 35, 36, 37, 41] A Aₚ → ∀ v33 : Int → Int, Aₚ 33 = v33 → ∀ v34 : Int → Int, Aₚ 34 = v34 → ∀ v35 : Int → Int, Aₚ 35 = v35 → ∀ v36 : Int → Int, Aₚ 36 = v36 → ∀ v37 : Int → Int, Aₚ 37 = v37 → (RT ((v35)) ((v36)) ((v37)) ((v34))) → (FRM ((w34)) ((v34)) ((a1)) ((a1) + 1)) → (0 ≤ ((v34)) ((a1))) → (LD (sh ((v33)) (64 * (a1))) 64 (if ((a1) : Int) = 1 then 5 else 6) (sh ((v35)) (512 * (a1))) (sh ((v36)) (512 * (a1))) (sh ((v37)) (512 * (a1)))) → (∀ k, 0 ≤ k → k < 64 → ((v33)) (64 * (a1) + k) = KK ((a1)) k) → (((v34)) ((a1)) = (if ((a1) : Int) = 1 then 5 else 6)) → (FRM ((w35)) ((v35)) (512 * (a1)) (512 * (a1) + 512)) → (FRM ((w36)) ((v36)) (512 * (a1)) (512 * (a1) + 512)) → (FRM ((w37)) ((v37)) (512 * (a1)) (512 * (a1) + 512)) → Q none σ c s) : Ew 266 (d + 3) 0 (rargs 0 [.ref (D 5), I a1]) [] σ c s Q := by
  refine Ew_of (pcₚ := 1) (fun _ => x_aload_n rfl rfl) ?_
  refine Ew_of (pcₚ := 2) (fun _ => x_iload_n rfl rfl) ?_
  refine Ew_of (pcₚ := 3) (fun _ => x_iconst rfl) ?_
  refine Ew_of (pcₚ := 5) (fun _ => x_bipush (z := 64) rfl (by decide)) ?_
  refine Ew_of (pcₚ := 6) (fun _ => x_iconst rfl) ?_
  refine w_inv H (o := 5) rfl rfl rfl (H.perm 5 rfl) rfl rfl (by rfl) (M265 H (A 33) (rfl) (show inr (a1) from h0) (show inr (0) from q_2) (show inr (64) from q_151) (show inr (0) from q_2) (show 0 ≤ (a1) ∧ (a1) ≤ 2 from h1) (show 0 ≤ (0) ∧ 0 ≤ (64) ∧ (0) + (64) ≤ 64 from q_1352) (show -1 ≤ (0) ∧ (0) ≤ 4 from q_1351) (fun z5 σ F1 A2 H hS3 hA4 wq6 ewq7 pz5_0 pz5_1 pz5_2 => ⟨rfl, ?_⟩))
  refine Ew_of (pcₚ := 10) (fun _ => x_istore_n rfl) ?_
  refine Ew_of (pcₚ := 11) (fun _ => x_iload_n rfl (rk_o (rfl) rfl rfl)) ?_
  refine w_ifne (t := 88) rfl rfl (show inr (a1) from h0) (fun b8 => ?_) (fun b8 => ?_)
  · refine Ew_of (pcₚ := 89) (fun _ => x_iload_n rfl (rk_o (rfl) rfl rfl)) ?_
    refine Ew_of (pcₚ := 90) (fun _ => x_iconst rfl) ?_
    refine w_icmpne (t := 128) rfl rfl (show inr (a1) from h0) (show inr (1) from q_135) (fun b9 => ?_) (fun b9 => ?_)
    · refine Ew_of (pcₚ := 129) (fun _ => x_aload_n rfl (rk_o (rfl) rfl rfl)) ?_
      refine Ew_of (pcₚ := 130) (fun _ => x_iload_n rfl (rk_o (rfl) rfl rfl)) ?_
      refine Ew_of (pcₚ := 131) (fun _ => x_aload_n rfl (rk_o (rfl) rfl rfl)) ?_
      refine Ew_of (pcₚ := 132) (fun _ => x_iload_n rfl (rk_o (rfl) rfl rfl)) ?_
      refine Ew_of (pcₚ := 133) (fun _ => x_aload_n rfl (rk_o (rfl) rfl rfl)) ?_
      refine Ew_of (pcₚ := 134) (fun _ => x_iload_n rfl (rk_o (rfl) rfl rfl)) ?_
      refine Ew_of (pcₚ := 135) (fun _ => x_iconst rfl) ?_
      refine Ew_of (pcₚ := 136) (fun _ => x_iconst rfl) ?_
      refine Ew_of (pcₚ := 137) (fun _ => x_iconst rfl) ?_
      refine w_inv H (o := 5) rfl rfl rfl (H.perm 5 rfl) rfl rfl (by rfl) (M265 H (wq6) (ewq7) (show inr (a1) from h0) (show inr (0) from q_2) (show inr (1) from q_135) (show inr (1) from q_135) (show 0 ≤ (a1) ∧ (a1) ≤ 2 from h1) (show 0 ≤ (0) ∧ 0 ≤ (1) ∧ (0) + (1) ≤ 64 from q_1354) (show -1 ≤ (1) ∧ (1) ≤ 4 from q_1353) (fun z14 σ F10 A11 H hS12 hA13 wq15 ewq16 pz14_0 pz14_1 pz14_2 => ⟨rfl, ?_⟩))
      refine Ew_of (pcₚ := 141) (fun _ => x_iconst rfl) ?_
      refine Ew_of (pcₚ := 142) (fun _ => x_iconst rfl) ?_
      refine w_inv H (o := 5) rfl rfl rfl (H.perm 5 rfl) rfl rfl (by rfl) (M265 H (wq15) (ewq16) (show inr (a1) from h0) (show inr (z14) from pz14_0) (show inr (1) from q_135) (show inr (4) from q_216) (show 0 ≤ (a1) ∧ (a1) ≤ 2 from h1) (show 0 ≤ (z14) ∧ 0 ≤ (1) ∧ (z14) + (1) ≤ 64 from q_1356 pz14_1) (show -1 ≤ (4) ∧ (4) ≤ 4 from q_1355) (fun z21 σ F17 A18 H hS19 hA20 wq22 ewq23 pz21_0 pz21_1 pz21_2 => ⟨rfl, ?_⟩))
      refine Ew_of (pcₚ := 146) (fun _ => x_iconst rfl) ?_
      refine Ew_of (pcₚ := 147) (fun _ => x_iconst rfl) ?_
      refine w_inv H (o := 5) rfl rfl rfl (H.perm 5 rfl) rfl rfl (by rfl) (M265 H (wq22) (ewq23) (show inr (a1) from h0) (show inr (z21) from pz21_0) (show inr (1) from q_135) (show inr (3) from q_246) (show 0 ≤ (a1) ∧ (a1) ≤ 2 from h1) (show 0 ≤ (z21) ∧ 0 ≤ (1) ∧ (z21) + (1) ≤ 64 from q_1358 pz14_1 pz21_1) (show -1 ≤ (3) ∧ (3) ≤ 4 from q_1357) (fun z28 σ F24 A25 H hS26 hA27 wq29 ewq30 pz28_0 pz28_1 pz28_2 => ⟨rfl, ?_⟩))
      refine Ew_of (pcₚ := 151) (fun _ => x_istore_n rfl) ?_
      refine Ew_of (pcₚ := 152) (fun _ => x_aload_n rfl (rk_o (rk_o (rfl) rfl rfl) rfl rfl)) ?_
      refine Ew_of (pcₚ := 153) (fun _ => x_iload_n rfl (rk_o (rk_o (rfl) rfl rfl) rfl rfl)) ?_
      refine Ew_of (pcₚ := 154) (fun _ => x_aload_n rfl (rk_o (rk_o (rfl) rfl rfl) rfl rfl)) ?_
      refine Ew_of (pcₚ := 155) (fun _ => x_iload_n rfl (rk_o (rk_o (rfl) rfl rfl) rfl rfl)) ?_
      refine Ew_of (pcₚ := 156) (fun _ => x_aload_n rfl (rk_o (rk_o (rfl) rfl rfl) rfl rfl)) ?_
      refine Ew_of (pcₚ := 157) (fun _ => x_iload_n rfl (rk_o (rk_o (rfl) rfl rfl) rfl rfl)) ?_
      refine Ew_of (pcₚ := 158) (fun _ => x_iload_n rfl rk_s) ?_
      refine Ew_of (pcₚ := 160) (fun _ => x_bipush (z := 6) rfl (by decide)) ?_
      refine Ew_of (pcₚ := 161) (fun _ => x_iconst rfl) ?_
      refine w_inv H (o := 5) rfl rfl rfl (H.perm 5 rfl) rfl rfl (by rfl) (M265 H (wq29) (ewq30) (show inr (a1) from h0) (show inr (z28) from pz28_0) (show inr (6) from q_756) (show inr (2) from q_122) (show 0 ≤ (a1) ∧ (a1) ≤ 2 from h1) (show 0 ≤ (z28) ∧ 0 ≤ (6) ∧ (z28) + (6) ≤ 64 from q_1360 pz14_1 pz21_1 pz28_1) (show -1 ≤ (2) ∧ (2) ≤ 4 from q_1359) (fun z35 σ F31 A32 H hS33 hA34 wq36 ewq37 pz35_0 pz35_1 pz35_2 => ⟨rfl, ?_⟩))
      refine Ew_of (pcₚ := 166) (fun _ => x_bipush (z := 37) rfl (by decide)) ?_
      refine Ew_of (pcₚ := 167) (fun _ => x_iconst rfl) ?_
      refine w_inv H (o := 5) rfl rfl rfl (H.perm 5 rfl) rfl rfl (by rfl) (M265 H (wq36) (ewq37) (show inr (a1) from h0) (show inr (z35) from pz35_0) (show inr (37) from q_1362) (show inr (1) from q_135) (show 0 ≤ (a1) ∧ (a1) ≤ 2 from h1) (show 0 ≤ (z35) ∧ 0 ≤ (37) ∧ (z35) + (37) ≤ 64 from q_1361 pz14_1 pz21_1 pz28_1 pz35_1) (show -1 ≤ (1) ∧ (1) ≤ 4 from q_1353) (fun z42 σ F38 A39 H hS40 hA41 wq43 ewq44 pz42_0 pz42_1 pz42_2 => ⟨rfl, ?_⟩))
      refine Ew_of (pcₚ := 172) (fun _ => x_bipush (z := 7) rfl (by decide)) ?_
      refine Ew_of (pcₚ := 173) (fun _ => x_iconst rfl) ?_
      refine w_inv H (o := 5) rfl rfl rfl (H.perm 5 rfl) rfl rfl (by rfl) (M265 H (wq43) (ewq44) (show inr (a1) from h0) (show inr (z42) from pz42_0) (show inr (7) from q_597) (show inr ((-1)) from q_63) (show 0 ≤ (a1) ∧ (a1) ≤ 2 from h1) (show 0 ≤ (z42) ∧ 0 ≤ (7) ∧ (z42) + (7) ≤ 64 by omega) (show -1 ≤ ((-1)) ∧ ((-1)) ≤ 4 from q_1363) (fun z49 σ F45 A46 H hS47 hA48 wq50 ewq51 pz49_0 pz49_1 pz49_2 => ⟨rfl, ?_⟩))
      have hkn : ∀ i, (0 : Int) ≤ i → i < 64 → ((wq50)) (64 * (a1) + i) = K2 i := by intro i h0 h1; rw [pz49_2, pz42_2, pz35_2, pz28_2, pz21_2, pz14_2, pz5_2]; simp only [rns, K2]; omega
      have hsh : SH ((wq50)) (64 * (a1)) 64 (if (a1) = 1 then 5 else 6) (lastOf ((a1))) := by rw [show lastOf ((a1)) = 52 by have := lastOf_eq ((a1)); omega, if_neg (by omega)]; exact SH_K2 hkn
      have hkk : ∀ k, 0 ≤ k → k < 64 → ((wq50)) (64 * (a1) + k) = KK ((a1)) k := fun i a b => by rw [hkn i a b]; unfold KK; rw [if_neg (by omega), if_neg (by omega)]
      refine Ew_of (pcₚ := 177) (fun _ => x_istore_n rfl) ?_
      refine Ew_of (pcₚ := 178) (fun _ => x_aload_n rfl (rk_o (rk_o (rk_o (rfl) rfl rfl) rfl rfl) rfl rfl)) ?_
      refine w_gT H (o := 5) (t := 34) rfl (H.perm 5 rfl) rfl rfl rfl rfl rfl rfl ?_
      refine Ew_of (pcₚ := 182) (fun _ => x_iload_n rfl (rk_o (rk_o (rk_o (rfl) rfl rfl) rfl rfl) rfl rfl)) ?_
      refine Ew_of (pcₚ := 183) (fun _ => x_iload_n rfl (rk_o (rk_o (rk_o (rfl) rfl rfl) rfl rfl) rfl rfl)) ?_
      refine Ew_of (pcₚ := 184) (fun _ => x_iconst rfl) ?_
      refine w_icmpne (t := 191) rfl rfl (show inr (a1) from h0) (show inr (1) from q_135) (fun b52 => ?_) (fun b52 => ?_)
      · refine Ew_of (pcₚ := 193) (fun _ => x_bipush (z := 6) rfl (by decide)) ?_
        have : PS ((wq50)) (upd1 ((w34)) ((a1)) ((6))) ((a1)) := by unfold PS; rw [upd1_s]; first | (rw [if_pos (by omega)] at hsh; exact hsh) | (rw [if_neg (by omega)] at hsh; exact hsh)
        have : RX ((w35)) ((w36)) ((w37)) (upd1 ((w34)) ((a1)) ((6))) ((a1)) := RX_of (by assumption)
        have : FRM ((w34)) (upd1 ((w34)) ((a1)) ((6))) ((a1)) ((a1) + 1) := FRM_upd FRM_refl (by omega) (by omega)
        have : (upd1 ((w34)) ((a1)) ((6))) ((a1)) = (6) := upd1_s
        have : (upd1 ((w34)) ((a1)) ((6))) ((a1)) = (if ((a1) : Int) = 1 then 5 else 6) := by rw [upd1_s]; first | (rw [if_pos (show ((a1) : Int) = 1 by omega)] <;> omega) | (rw [if_neg (show ¬ ((a1) : Int) = 1 by omega)] <;> omega)
        refine w_sI H (o := 34) (n := 3) rfl (H.perm 34 rfl) rfl rfl (H.fix 34 rfl rfl) (show 0 ≤ a1 ∧ a1 < ((3 : Nat) : Int) from q_1333 h1) (by decide) (show (-1 : Int) ≤ 6 ∧ 6 ≤ 9 from q_1364) (fun σ H => ?_)
        refine Ew_of (pcₚ := 195) (fun _ => x_aload_n rfl (rk_o (rk_o (rk_o (rfl) rfl rfl) rfl rfl) rfl rfl)) ?_
        refine Ew_of (pcₚ := 196) (fun _ => x_iload_n rfl (rk_o (rk_o (rk_o (rfl) rfl rfl) rfl rfl) rfl rfl)) ?_
        refine w_inv H (o := 5) rfl rfl rfl (H.perm 5 rfl) rfl rfl (by rfl) (M263 H (wq50) (ewq51) (upd1 (w34) (a1) (6)) (congrArg (fun q => upd1 q (a1) (6)) ((funext (hA48 34 rfl)).trans ((funext (hA41 34 rfl)).trans ((funext (hA34 34 rfl)).trans ((funext (hA27 34 rfl)).trans ((funext (hA20 34 rfl)).trans ((funext (hA13 34 rfl)).trans ((funext (hA4 34 rfl)).trans (ew34))))))))) (w35) ((funext (hA48 35 rfl)).trans ((funext (hA41 35 rfl)).trans ((funext (hA34 35 rfl)).trans ((funext (hA27 35 rfl)).trans ((funext (hA20 35 rfl)).trans ((funext (hA13 35 rfl)).trans ((funext (hA4 35 rfl)).trans (ew35)))))))) (w36) ((funext (hA48 36 rfl)).trans ((funext (hA41 36 rfl)).trans ((funext (hA34 36 rfl)).trans ((funext (hA27 36 rfl)).trans ((funext (hA20 36 rfl)).trans ((funext (hA13 36 rfl)).trans ((funext (hA4 36 rfl)).trans (ew36)))))))) (w37) ((funext (hA48 37 rfl)).trans ((funext (hA41 37 rfl)).trans ((funext (hA34 37 rfl)).trans ((funext (hA27 37 rfl)).trans ((funext (hA20 37 rfl)).trans ((funext (hA13 37 rfl)).trans ((funext (hA4 37 rfl)).trans (ew37)))))))) (show inr (a1) from h0) (show 0 ≤ (a1) ∧ (a1) ≤ 2 from h1) (show PS ((wq50)) ((upd1 (w34) (a1) (6))) ((a1)) by assumption) (show RX ((w35)) ((w36)) ((w37)) ((upd1 (w34) (a1) (6))) ((a1)) by assumption) (fun σ F53 A54 H hS55 hA56 wq58 ewq59 wq60 ewq61 wq62 ewq63 pz57_0 pz57_1 pz57_2 pz57_3 pz57_4 => ⟨rfl, ?_⟩))
        have : LD (sh ((wq50)) (64 * (a1))) 64 (if ((a1) : Int) = 1 then 5 else 6) (sh ((wq58)) (512 * (a1))) (sh ((wq60)) (512 * (a1))) (sh ((wq62)) (512 * (a1))) := by have h := pz57_1; rw [upd1_s] at h; first | (rw [if_pos (by omega)]; exact h) | (rw [if_neg (by omega)]; exact h)
        have : FRM ((w35)) ((wq58)) (512 * (a1)) (512 * (a1) + 512) := pz57_2
        have : FRM ((w36)) ((wq60)) (512 * (a1)) (512 * (a1) + 512) := pz57_3
        have : FRM ((w37)) ((wq62)) (512 * (a1)) (512 * (a1) + 512) := pz57_4
        exact w_ret rfl (k σ _ _ H (SF_trans (SF_trans (SF_trans (SF_trans (SF_trans (SF_trans (SF_trans (SF_trans (SF_refl) hS3 (any_sub rfl)) hS12 (any_sub rfl)) hS19 (any_sub rfl)) hS26 (any_sub rfl)) hS33 (any_sub rfl)) hS40 (any_sub rfl)) hS47 (any_sub rfl)) hS55 (any_sub rfl)) (SA_trans (SA_upd (SA_trans (SA_trans (SA_trans (SA_trans (SA_trans (SA_trans (SA_trans (SA_refl) hA4 (any_subA rfl)) hA13 (any_subA rfl)) hA20 (any_subA rfl)) hA27 (any_subA rfl)) hA34 (any_subA rfl)) hA41 (any_subA rfl)) hA48 (any_subA rfl)) rfl) hA56 (any_subA rfl)) (wq50) ((funext (hA56 33 rfl)).trans (ewq51)) (upd1 (w34) (a1) (6)) ((funext (hA56 34 rfl)).trans (congrArg (fun q => upd1 q (a1) (6)) ((funext (hA48 34 rfl)).trans ((funext (hA41 34 rfl)).trans ((funext (hA34 34 rfl)).trans ((funext (hA27 34 rfl)).trans ((funext (hA20 34 rfl)).trans ((funext (hA13 34 rfl)).trans ((funext (hA4 34 rfl)).trans (ew34)))))))))) (wq58) (ewq59) (wq60) (ewq61) (wq62) (ewq63) (pz57_0) (show FRM ((w34)) ((upd1 (w34) (a1) (6))) (a1) (a1 + 1) by assumption) (show 0 ≤ ((upd1 (w34) (a1) (6))) (a1) by omega) (show LD (sh ((wq50)) (64 * a1)) 64 (if (a1 : Int) = 1 then 5 else 6) (sh ((wq58)) (512 * a1)) (sh ((wq60)) (512 * a1)) (sh ((wq62)) (512 * a1)) by assumption) (hkk) (show ((upd1 (w34) (a1) (6))) (a1) = (if (a1 : Int) = 1 then 5 else 6) by assumption) (pz57_2) (pz57_3) (pz57_4))
      · refine Ew_of (pcₚ := 188) (fun _ => x_iconst rfl) ?_
        refine Ew_of (pcₚ := 193) (fun _ => x_goto rfl rfl) ?_
        have : PS ((wq50)) (upd1 ((w34)) ((a1)) ((5))) ((a1)) := by unfold PS; rw [upd1_s]; first | (rw [if_pos (by omega)] at hsh; exact hsh) | (rw [if_neg (by omega)] at hsh; exact hsh)
        have : RX ((w35)) ((w36)) ((w37)) (upd1 ((w34)) ((a1)) ((5))) ((a1)) := RX_of (by assumption)
        have : FRM ((w34)) (upd1 ((w34)) ((a1)) ((5))) ((a1)) ((a1) + 1) := FRM_upd FRM_refl (by omega) (by omega)
        have : (upd1 ((w34)) ((a1)) ((5))) ((a1)) = (5) := upd1_s
        have : (upd1 ((w34)) ((a1)) ((5))) ((a1)) = (if ((a1) : Int) = 1 then 5 else 6) := by rw [upd1_s]; first | (rw [if_pos (show ((a1) : Int) = 1 from b52)] <;> omega) | (rw [if_neg (show ¬ ((a1) : Int) = 1 by omega)] <;> omega)
        refine w_sI H (o := 34) (n := 3) rfl (H.perm 34 rfl) rfl rfl (H.fix 34 rfl rfl) (show 0 ≤ a1 ∧ a1 < ((3 : Nat) : Int) from q_1366 b52 h1) (by decide) (show (-1 : Int) ≤ 5 ∧ 5 ≤ 9 from q_1365) (fun σ H => ?_)
        refine Ew_of (pcₚ := 195) (fun _ => x_aload_n rfl (rk_o (rk_o (rk_o (rfl) rfl rfl) rfl rfl) rfl rfl)) ?_
        refine Ew_of (pcₚ := 196) (fun _ => x_iload_n rfl (rk_o (rk_o (rk_o (rfl) rfl rfl) rfl rfl) rfl rfl)) ?_
        refine w_inv H (o := 5) rfl rfl rfl (H.perm 5 rfl) rfl rfl (by rfl) (M263 H (wq50) (ewq51) (upd1 (w34) (a1) (5)) (congrArg (fun q => upd1 q (a1) (5)) ((funext (hA48 34 rfl)).trans ((funext (hA41 34 rfl)).trans ((funext (hA34 34 rfl)).trans ((funext (hA27 34 rfl)).trans ((funext (hA20 34 rfl)).trans ((funext (hA13 34 rfl)).trans ((funext (hA4 34 rfl)).trans (ew34))))))))) (w35) ((funext (hA48 35 rfl)).trans ((funext (hA41 35 rfl)).trans ((funext (hA34 35 rfl)).trans ((funext (hA27 35 rfl)).trans ((funext (hA20 35 rfl)).trans ((funext (hA13 35 rfl)).trans ((funext (hA4 35 rfl)).trans (ew35)))))))) (w36) ((funext (hA48 36 rfl)).trans ((funext (hA41 36 rfl)).trans ((funext (hA34 36 rfl)).trans ((funext (hA27 36 rfl)).trans ((funext (hA20 36 rfl)).trans ((funext (hA13 36 rfl)).trans ((funext (hA4 36 rfl)).trans (ew36)))))))) (w37) ((funext (hA48 37 rfl)).trans ((funext (hA41 37 rfl)).trans ((funext (hA34 37 rfl)).trans ((funext (hA27 37 rfl)).trans ((funext (hA20 37 rfl)).trans ((funext (hA13 37 rfl)).trans ((funext (hA4 37 rfl)).trans (ew37)))))))) (show inr (a1) from h0) (show 0 ≤ (a1) ∧ (a1) ≤ 2 from h1) (show PS ((wq50)) ((upd1 (w34) (a1) (5))) ((a1)) by assumption) (show RX ((w35)) ((w36)) ((w37)) ((upd1 (w34) (a1) (5))) ((a1)) by assumption) (fun σ F64 A65 H hS66 hA67 wq69 ewq70 wq71 ewq72 wq73 ewq74 pz68_0 pz68_1 pz68_2 pz68_3 pz68_4 => ⟨rfl, ?_⟩))
        have : LD (sh ((wq50)) (64 * (a1))) 64 (if ((a1) : Int) = 1 then 5 else 6) (sh ((wq69)) (512 * (a1))) (sh ((wq71)) (512 * (a1))) (sh ((wq73)) (512 * (a1))) := by have h := pz68_1; rw [upd1_s] at h; first | (rw [if_pos (by omega)]; exact h) | (rw [if_neg (by omega)]; exact h)
        have : FRM ((w35)) ((wq69)) (512 * (a1)) (512 * (a1) + 512) := pz68_2
        have : FRM ((w36)) ((wq71)) (512 * (a1)) (512 * (a1) + 512) := pz68_3
        have : FRM ((w37)) ((wq73)) (512 * (a1)) (512 * (a1) + 512) := pz68_4
        exact w_ret rfl (k σ _ _ H (SF_trans (SF_trans (SF_trans (SF_trans (SF_trans (SF_trans (SF_trans (SF_trans (SF_refl) hS3 (any_sub rfl)) hS12 (any_sub rfl)) hS19 (any_sub rfl)) hS26 (any_sub rfl)) hS33 (any_sub rfl)) hS40 (any_sub rfl)) hS47 (any_sub rfl)) hS66 (any_sub rfl)) (SA_trans (SA_upd (SA_trans (SA_trans (SA_trans (SA_trans (SA_trans (SA_trans (SA_trans (SA_refl) hA4 (any_subA rfl)) hA13 (any_subA rfl)) hA20 (any_subA rfl)) hA27 (any_subA rfl)) hA34 (any_subA rfl)) hA41 (any_subA rfl)) hA48 (any_subA rfl)) rfl) hA67 (any_subA rfl)) (wq50) ((funext (hA67 33 rfl)).trans (ewq51)) (upd1 (w34) (a1) (5)) ((funext (hA67 34 rfl)).trans (congrArg (fun q => upd1 q (a1) (5)) ((funext (hA48 34 rfl)).trans ((funext (hA41 34 rfl)).trans ((funext (hA34 34 rfl)).trans ((funext (hA27 34 rfl)).trans ((funext (hA20 34 rfl)).trans ((funext (hA13 34 rfl)).trans ((funext (hA4 34 rfl)).trans (ew34)))))))))) (wq69) (ewq70) (wq71) (ewq72) (wq73) (ewq74) (pz68_0) (show FRM ((w34)) ((upd1 (w34) (a1) (5))) (a1) (a1 + 1) by assumption) (show 0 ≤ ((upd1 (w34) (a1) (5))) (a1) by omega) (show LD (sh ((wq50)) (64 * a1)) 64 (if (a1 : Int) = 1 then 5 else 6) (sh ((wq69)) (512 * a1)) (sh ((wq71)) (512 * a1)) (sh ((wq73)) (512 * a1)) by assumption) (hkk) (show ((upd1 (w34) (a1) (5))) (a1) = (if (a1 : Int) = 1 then 5 else 6) by assumption) (pz68_2) (pz68_3) (pz68_4))
    · refine Ew_of (pcₚ := 94) (fun _ => x_aload_n rfl (rk_o (rfl) rfl rfl)) ?_
      refine Ew_of (pcₚ := 95) (fun _ => x_iload_n rfl (rk_o (rfl) rfl rfl)) ?_
      refine Ew_of (pcₚ := 96) (fun _ => x_aload_n rfl (rk_o (rfl) rfl rfl)) ?_
      refine Ew_of (pcₚ := 97) (fun _ => x_iload_n rfl (rk_o (rfl) rfl rfl)) ?_
      refine Ew_of (pcₚ := 98) (fun _ => x_aload_n rfl (rk_o (rfl) rfl rfl)) ?_
      refine Ew_of (pcₚ := 99) (fun _ => x_iload_n rfl (rk_o (rfl) rfl rfl)) ?_
      refine Ew_of (pcₚ := 100) (fun _ => x_aload_n rfl (rk_o (rfl) rfl rfl)) ?_
      refine Ew_of (pcₚ := 101) (fun _ => x_iload_n rfl (rk_o (rfl) rfl rfl)) ?_
      refine Ew_of (pcₚ := 102) (fun _ => x_iconst rfl) ?_
      refine Ew_of (pcₚ := 104) (fun _ => x_bipush (z := 6) rfl (by decide)) ?_
      refine Ew_of (pcₚ := 105) (fun _ => x_iconst rfl) ?_
      refine w_inv H (o := 5) rfl rfl rfl (H.perm 5 rfl) rfl rfl (by rfl) (M265 H (wq6) (ewq7) (show inr (a1) from h0) (show inr (0) from q_2) (show inr (6) from q_756) (show inr (1) from q_135) (show 0 ≤ (a1) ∧ (a1) ≤ 2 from h1) (show 0 ≤ (0) ∧ 0 ≤ (6) ∧ (0) + (6) ≤ 64 from q_1367) (show -1 ≤ (1) ∧ (1) ≤ 4 from q_1353) (fun z79 σ F75 A76 H hS77 hA78 wq80 ewq81 pz79_0 pz79_1 pz79_2 => ⟨rfl, ?_⟩))
      refine Ew_of (pcₚ := 109) (fun _ => x_iconst rfl) ?_
      refine Ew_of (pcₚ := 110) (fun _ => x_iconst rfl) ?_
      refine w_inv H (o := 5) rfl rfl rfl (H.perm 5 rfl) rfl rfl (by rfl) (M265 H (wq80) (ewq81) (show inr (a1) from h0) (show inr (z79) from pz79_0) (show inr (3) from q_246) (show inr (2) from q_122) (show 0 ≤ (a1) ∧ (a1) ≤ 2 from h1) (show 0 ≤ (z79) ∧ 0 ≤ (3) ∧ (z79) + (3) ≤ 64 from q_1368 pz79_1) (show -1 ≤ (2) ∧ (2) ≤ 4 from q_1359) (fun z86 σ F82 A83 H hS84 hA85 wq87 ewq88 pz86_0 pz86_1 pz86_2 => ⟨rfl, ?_⟩))
      refine Ew_of (pcₚ := 115) (fun _ => x_bipush (z := 15) rfl (by decide)) ?_
      refine Ew_of (pcₚ := 116) (fun _ => x_iconst rfl) ?_
      refine w_inv H (o := 5) rfl rfl rfl (H.perm 5 rfl) rfl rfl (by rfl) (M265 H (wq87) (ewq88) (show inr (a1) from h0) (show inr (z86) from pz86_0) (show inr (15) from q_399) (show inr (1) from q_135) (show 0 ≤ (a1) ∧ (a1) ≤ 2 from h1) (show 0 ≤ (z86) ∧ 0 ≤ (15) ∧ (z86) + (15) ≤ 64 from q_1369 pz79_1 pz86_1) (show -1 ≤ (1) ∧ (1) ≤ 4 from q_1353) (fun z93 σ F89 A90 H hS91 hA92 wq94 ewq95 pz93_0 pz93_1 pz93_2 => ⟨rfl, ?_⟩))
      refine Ew_of (pcₚ := 120) (fun _ => x_iconst rfl) ?_
      refine Ew_of (pcₚ := 121) (fun _ => x_iconst rfl) ?_
      refine w_inv H (o := 5) rfl rfl rfl (H.perm 5 rfl) rfl rfl (by rfl) (M265 H (wq94) (ewq95) (show inr (a1) from h0) (show inr (z93) from pz93_0) (show inr (5) from q_727) (show inr ((-1)) from q_63) (show 0 ≤ (a1) ∧ (a1) ≤ 2 from h1) (show 0 ≤ (z93) ∧ 0 ≤ (5) ∧ (z93) + (5) ≤ 64 from q_1370 pz79_1 pz86_1 pz93_1) (show -1 ≤ ((-1)) ∧ ((-1)) ≤ 4 from q_1363) (fun z100 σ F96 A97 H hS98 hA99 wq101 ewq102 pz100_0 pz100_1 pz100_2 => ⟨rfl, ?_⟩))
      have hkn : ∀ i, (0 : Int) ≤ i → i < 64 → ((wq101)) (64 * (a1) + i) = K1 i := by intro i h0 h1; rw [pz100_2, pz93_2, pz86_2, pz79_2, pz5_2]; simp only [rns, K1]; omega
      have hsh : SH ((wq101)) (64 * (a1)) 64 (if (a1) = 1 then 5 else 6) (lastOf ((a1))) := by rw [show lastOf ((a1)) = 31 by have := lastOf_eq ((a1)); omega, if_pos (by omega)]; exact SH_K1 hkn
      have hkk : ∀ k, 0 ≤ k → k < 64 → ((wq101)) (64 * (a1) + k) = KK ((a1)) k := fun i a b => by rw [hkn i a b]; unfold KK; rw [if_neg (by omega), if_pos (by omega)]
      refine Ew_of (pcₚ := 125) (fun _ => x_istore_n rfl) ?_
      refine Ew_of (pcₚ := 177) (fun _ => x_goto rfl rfl) ?_
      refine Ew_of (pcₚ := 178) (fun _ => x_aload_n rfl (rk_o (rk_o (rfl) rfl rfl) rfl rfl)) ?_
      refine w_gT H (o := 5) (t := 34) rfl (H.perm 5 rfl) rfl rfl rfl rfl rfl rfl ?_
      refine Ew_of (pcₚ := 182) (fun _ => x_iload_n rfl (rk_o (rk_o (rfl) rfl rfl) rfl rfl)) ?_
      refine Ew_of (pcₚ := 183) (fun _ => x_iload_n rfl (rk_o (rk_o (rfl) rfl rfl) rfl rfl)) ?_
      refine Ew_of (pcₚ := 184) (fun _ => x_iconst rfl) ?_
      refine w_icmpne (t := 191) rfl rfl (show inr (a1) from h0) (show inr (1) from q_135) (fun b103 => ?_) (fun b103 => ?_)
      · refine Ew_of (pcₚ := 193) (fun _ => x_bipush (z := 6) rfl (by decide)) ?_
        have : PS ((wq101)) (upd1 ((w34)) ((a1)) ((6))) ((a1)) := by unfold PS; rw [upd1_s]; first | (rw [if_pos (by omega)] at hsh; exact hsh) | (rw [if_neg (by omega)] at hsh; exact hsh)
        have : RX ((w35)) ((w36)) ((w37)) (upd1 ((w34)) ((a1)) ((6))) ((a1)) := RX_of (by assumption)
        have : FRM ((w34)) (upd1 ((w34)) ((a1)) ((6))) ((a1)) ((a1) + 1) := FRM_upd FRM_refl (by omega) (by omega)
        have : (upd1 ((w34)) ((a1)) ((6))) ((a1)) = (6) := upd1_s
        have : (upd1 ((w34)) ((a1)) ((6))) ((a1)) = (if ((a1) : Int) = 1 then 5 else 6) := by rw [upd1_s]; first | (rw [if_pos (show ((a1) : Int) = 1 from b9)] <;> omega) | (rw [if_neg (show ¬ ((a1) : Int) = 1 by omega)] <;> omega)
        refine w_sI H (o := 34) (n := 3) rfl (H.perm 34 rfl) rfl rfl (H.fix 34 rfl rfl) (show 0 ≤ a1 ∧ a1 < ((3 : Nat) : Int) from q_1366 b9 h1) (by decide) (show (-1 : Int) ≤ 6 ∧ 6 ≤ 9 from q_1364) (fun σ H => ?_)
        refine Ew_of (pcₚ := 195) (fun _ => x_aload_n rfl (rk_o (rk_o (rfl) rfl rfl) rfl rfl)) ?_
        refine Ew_of (pcₚ := 196) (fun _ => x_iload_n rfl (rk_o (rk_o (rfl) rfl rfl) rfl rfl)) ?_
        refine w_inv H (o := 5) rfl rfl rfl (H.perm 5 rfl) rfl rfl (by rfl) (M263 H (wq101) (ewq102) (upd1 (w34) (a1) (6)) (congrArg (fun q => upd1 q (a1) (6)) ((funext (hA99 34 rfl)).trans ((funext (hA92 34 rfl)).trans ((funext (hA85 34 rfl)).trans ((funext (hA78 34 rfl)).trans ((funext (hA4 34 rfl)).trans (ew34))))))) (w35) ((funext (hA99 35 rfl)).trans ((funext (hA92 35 rfl)).trans ((funext (hA85 35 rfl)).trans ((funext (hA78 35 rfl)).trans ((funext (hA4 35 rfl)).trans (ew35)))))) (w36) ((funext (hA99 36 rfl)).trans ((funext (hA92 36 rfl)).trans ((funext (hA85 36 rfl)).trans ((funext (hA78 36 rfl)).trans ((funext (hA4 36 rfl)).trans (ew36)))))) (w37) ((funext (hA99 37 rfl)).trans ((funext (hA92 37 rfl)).trans ((funext (hA85 37 rfl)).trans ((funext (hA78 37 rfl)).trans ((funext (hA4 37 rfl)).trans (ew37)))))) (show inr (a1) from h0) (show 0 ≤ (a1) ∧ (a1) ≤ 2 from h1) (show PS ((wq101)) ((upd1 (w34) (a1) (6))) ((a1)) by assumption) (show RX ((w35)) ((w36)) ((w37)) ((upd1 (w34) (a1) (6))) ((a1)) by assumption) (fun σ F104 A105 H hS106 hA107 wq109 ewq110 wq111 ewq112 wq113 ewq114 pz108_0 pz108_1 pz108_2 pz108_3 pz108_4 => ⟨rfl, ?_⟩))
        have : LD (sh ((wq101)) (64 * (a1))) 64 (if ((a1) : Int) = 1 then 5 else 6) (sh ((wq109)) (512 * (a1))) (sh ((wq111)) (512 * (a1))) (sh ((wq113)) (512 * (a1))) := by have h := pz108_1; rw [upd1_s] at h; first | (rw [if_pos (by omega)]; exact h) | (rw [if_neg (by omega)]; exact h)
        have : FRM ((w35)) ((wq109)) (512 * (a1)) (512 * (a1) + 512) := pz108_2
        have : FRM ((w36)) ((wq111)) (512 * (a1)) (512 * (a1) + 512) := pz108_3
        have : FRM ((w37)) ((wq113)) (512 * (a1)) (512 * (a1) + 512) := pz108_4
        exact w_ret rfl (k σ _ _ H (SF_trans (SF_trans (SF_trans (SF_trans (SF_trans (SF_trans (SF_refl) hS3 (any_sub rfl)) hS77 (any_sub rfl)) hS84 (any_sub rfl)) hS91 (any_sub rfl)) hS98 (any_sub rfl)) hS106 (any_sub rfl)) (SA_trans (SA_upd (SA_trans (SA_trans (SA_trans (SA_trans (SA_trans (SA_refl) hA4 (any_subA rfl)) hA78 (any_subA rfl)) hA85 (any_subA rfl)) hA92 (any_subA rfl)) hA99 (any_subA rfl)) rfl) hA107 (any_subA rfl)) (wq101) ((funext (hA107 33 rfl)).trans (ewq102)) (upd1 (w34) (a1) (6)) ((funext (hA107 34 rfl)).trans (congrArg (fun q => upd1 q (a1) (6)) ((funext (hA99 34 rfl)).trans ((funext (hA92 34 rfl)).trans ((funext (hA85 34 rfl)).trans ((funext (hA78 34 rfl)).trans ((funext (hA4 34 rfl)).trans (ew34)))))))) (wq109) (ewq110) (wq111) (ewq112) (wq113) (ewq114) (pz108_0) (show FRM ((w34)) ((upd1 (w34) (a1) (6))) (a1) (a1 + 1) by assumption) (show 0 ≤ ((upd1 (w34) (a1) (6))) (a1) by omega) (show LD (sh ((wq101)) (64 * a1)) 64 (if (a1 : Int) = 1 then 5 else 6) (sh ((wq109)) (512 * a1)) (sh ((wq111)) (512 * a1)) (sh ((wq113)) (512 * a1)) by assumption) (hkk) (show ((upd1 (w34) (a1) (6))) (a1) = (if (a1 : Int) = 1 then 5 else 6) by assumption) (pz108_2) (pz108_3) (pz108_4))
      · refine Ew_of (pcₚ := 188) (fun _ => x_iconst rfl) ?_
        refine Ew_of (pcₚ := 193) (fun _ => x_goto rfl rfl) ?_
        have : PS ((wq101)) (upd1 ((w34)) ((a1)) ((5))) ((a1)) := by unfold PS; rw [upd1_s]; first | (rw [if_pos (by omega)] at hsh; exact hsh) | (rw [if_neg (by omega)] at hsh; exact hsh)
        have : RX ((w35)) ((w36)) ((w37)) (upd1 ((w34)) ((a1)) ((5))) ((a1)) := RX_of (by assumption)
        have : FRM ((w34)) (upd1 ((w34)) ((a1)) ((5))) ((a1)) ((a1) + 1) := FRM_upd FRM_refl (by omega) (by omega)
        have : (upd1 ((w34)) ((a1)) ((5))) ((a1)) = (5) := upd1_s
        have : (upd1 ((w34)) ((a1)) ((5))) ((a1)) = (if ((a1) : Int) = 1 then 5 else 6) := by rw [upd1_s]; first | (rw [if_pos (show ((a1) : Int) = 1 from b103)] <;> omega) | (rw [if_neg (show ¬ ((a1) : Int) = 1 by omega)] <;> omega)
        refine w_sI H (o := 34) (n := 3) rfl (H.perm 34 rfl) rfl rfl (H.fix 34 rfl rfl) (show 0 ≤ a1 ∧ a1 < ((3 : Nat) : Int) from q_1366 b103 h1) (by decide) (show (-1 : Int) ≤ 5 ∧ 5 ≤ 9 from q_1365) (fun σ H => ?_)
        refine Ew_of (pcₚ := 195) (fun _ => x_aload_n rfl (rk_o (rk_o (rfl) rfl rfl) rfl rfl)) ?_
        refine Ew_of (pcₚ := 196) (fun _ => x_iload_n rfl (rk_o (rk_o (rfl) rfl rfl) rfl rfl)) ?_
        refine w_inv H (o := 5) rfl rfl rfl (H.perm 5 rfl) rfl rfl (by rfl) (M263 H (wq101) (ewq102) (upd1 (w34) (a1) (5)) (congrArg (fun q => upd1 q (a1) (5)) ((funext (hA99 34 rfl)).trans ((funext (hA92 34 rfl)).trans ((funext (hA85 34 rfl)).trans ((funext (hA78 34 rfl)).trans ((funext (hA4 34 rfl)).trans (ew34))))))) (w35) ((funext (hA99 35 rfl)).trans ((funext (hA92 35 rfl)).trans ((funext (hA85 35 rfl)).trans ((funext (hA78 35 rfl)).trans ((funext (hA4 35 rfl)).trans (ew35)))))) (w36) ((funext (hA99 36 rfl)).trans ((funext (hA92 36 rfl)).trans ((funext (hA85 36 rfl)).trans ((funext (hA78 36 rfl)).trans ((funext (hA4 36 rfl)).trans (ew36)))))) (w37) ((funext (hA99 37 rfl)).trans ((funext (hA92 37 rfl)).trans ((funext (hA85 37 rfl)).trans ((funext (hA78 37 rfl)).trans ((funext (hA4 37 rfl)).trans (ew37)))))) (show inr (a1) from h0) (show 0 ≤ (a1) ∧ (a1) ≤ 2 from h1) (show PS ((wq101)) ((upd1 (w34) (a1) (5))) ((a1)) by assumption) (show RX ((w35)) ((w36)) ((w37)) ((upd1 (w34) (a1) (5))) ((a1)) by assumption) (fun σ F115 A116 H hS117 hA118 wq120 ewq121 wq122 ewq123 wq124 ewq125 pz119_0 pz119_1 pz119_2 pz119_3 pz119_4 => ⟨rfl, ?_⟩))
        have : LD (sh ((wq101)) (64 * (a1))) 64 (if ((a1) : Int) = 1 then 5 else 6) (sh ((wq120)) (512 * (a1))) (sh ((wq122)) (512 * (a1))) (sh ((wq124)) (512 * (a1))) := by have h := pz119_1; rw [upd1_s] at h; first | (rw [if_pos (by omega)]; exact h) | (rw [if_neg (by omega)]; exact h)
        have : FRM ((w35)) ((wq120)) (512 * (a1)) (512 * (a1) + 512) := pz119_2
        have : FRM ((w36)) ((wq122)) (512 * (a1)) (512 * (a1) + 512) := pz119_3
        have : FRM ((w37)) ((wq124)) (512 * (a1)) (512 * (a1) + 512) := pz119_4
        exact w_ret rfl (k σ _ _ H (SF_trans (SF_trans (SF_trans (SF_trans (SF_trans (SF_trans (SF_refl) hS3 (any_sub rfl)) hS77 (any_sub rfl)) hS84 (any_sub rfl)) hS91 (any_sub rfl)) hS98 (any_sub rfl)) hS117 (any_sub rfl)) (SA_trans (SA_upd (SA_trans (SA_trans (SA_trans (SA_trans (SA_trans (SA_refl) hA4 (any_subA rfl)) hA78 (any_subA rfl)) hA85 (any_subA rfl)) hA92 (any_subA rfl)) hA99 (any_subA rfl)) rfl) hA118 (any_subA rfl)) (wq101) ((funext (hA118 33 rfl)).trans (ewq102)) (upd1 (w34) (a1) (5)) ((funext (hA118 34 rfl)).trans (congrArg (fun q => upd1 q (a1) (5)) ((funext (hA99 34 rfl)).trans ((funext (hA92 34 rfl)).trans ((funext (hA85 34 rfl)).trans ((funext (hA78 34 rfl)).trans ((funext (hA4 34 rfl)).trans (ew34)))))))) (wq120) (ewq121) (wq122) (ewq123) (wq124) (ewq125) (pz119_0) (show FRM ((w34)) ((upd1 (w34) (a1) (5))) (a1) (a1 + 1) by assumption) (show 0 ≤ ((upd1 (w34) (a1) (5))) (a1) by omega) (show LD (sh ((wq101)) (64 * a1)) 64 (if (a1 : Int) = 1 then 5 else 6) (sh ((wq120)) (512 * a1)) (sh ((wq122)) (512 * a1)) (sh ((wq124)) (512 * a1)) by assumption) (hkk) (show ((upd1 (w34) (a1) (5))) (a1) = (if (a1 : Int) = 1 then 5 else 6) by assumption) (pz119_2) (pz119_3) (pz119_4))
  · refine Ew_of (pcₚ := 15) (fun _ => x_aload_n rfl (rk_o (rfl) rfl rfl)) ?_
    refine Ew_of (pcₚ := 16) (fun _ => x_iload_n rfl (rk_o (rfl) rfl rfl)) ?_
    refine Ew_of (pcₚ := 17) (fun _ => x_aload_n rfl (rk_o (rfl) rfl rfl)) ?_
    refine Ew_of (pcₚ := 18) (fun _ => x_iload_n rfl (rk_o (rfl) rfl rfl)) ?_
    refine Ew_of (pcₚ := 19) (fun _ => x_aload_n rfl (rk_o (rfl) rfl rfl)) ?_
    refine Ew_of (pcₚ := 20) (fun _ => x_iload_n rfl (rk_o (rfl) rfl rfl)) ?_
    refine Ew_of (pcₚ := 21) (fun _ => x_iconst rfl) ?_
    refine Ew_of (pcₚ := 22) (fun _ => x_iconst rfl) ?_
    refine Ew_of (pcₚ := 23) (fun _ => x_iconst rfl) ?_
    refine w_inv H (o := 5) rfl rfl rfl (H.perm 5 rfl) rfl rfl (by rfl) (M265 H (wq6) (ewq7) (show inr (a1) from h0) (show inr (0) from q_2) (show inr (1) from q_135) (show inr (4) from q_216) (show 0 ≤ (a1) ∧ (a1) ≤ 2 from h1) (show 0 ≤ (0) ∧ 0 ≤ (1) ∧ (0) + (1) ≤ 64 from q_1354) (show -1 ≤ (4) ∧ (4) ≤ 4 from q_1355) (fun z130 σ F126 A127 H hS128 hA129 wq131 ewq132 pz130_0 pz130_1 pz130_2 => ⟨rfl, ?_⟩))
    refine Ew_of (pcₚ := 27) (fun _ => x_iconst rfl) ?_
    refine Ew_of (pcₚ := 28) (fun _ => x_iconst rfl) ?_
    refine w_inv H (o := 5) rfl rfl rfl (H.perm 5 rfl) rfl rfl (by rfl) (M265 H (wq131) (ewq132) (show inr (a1) from h0) (show inr (z130) from pz130_0) (show inr (1) from q_135) (show inr (3) from q_246) (show 0 ≤ (a1) ∧ (a1) ≤ 2 from h1) (show 0 ≤ (z130) ∧ 0 ≤ (1) ∧ (z130) + (1) ≤ 64 from q_1356 pz130_1) (show -1 ≤ (3) ∧ (3) ≤ 4 from q_1357) (fun z137 σ F133 A134 H hS135 hA136 wq138 ewq139 pz137_0 pz137_1 pz137_2 => ⟨rfl, ?_⟩))
    refine Ew_of (pcₚ := 33) (fun _ => x_bipush (z := 11) rfl (by decide)) ?_
    refine Ew_of (pcₚ := 34) (fun _ => x_iconst rfl) ?_
    refine w_inv H (o := 5) rfl rfl rfl (H.perm 5 rfl) rfl rfl (by rfl) (M265 H (wq138) (ewq139) (show inr (a1) from h0) (show inr (z137) from pz137_0) (show inr (11) from q_326) (show inr (2) from q_122) (show 0 ≤ (a1) ∧ (a1) ≤ 2 from h1) (show 0 ≤ (z137) ∧ 0 ≤ (11) ∧ (z137) + (11) ≤ 64 from q_1371 pz130_1 pz137_1) (show -1 ≤ (2) ∧ (2) ≤ 4 from q_1359) (fun z144 σ F140 A141 H hS142 hA143 wq145 ewq146 pz144_0 pz144_1 pz144_2 => ⟨rfl, ?_⟩))
    refine Ew_of (pcₚ := 38) (fun _ => x_istore_n rfl) ?_
    refine Ew_of (pcₚ := 39) (fun _ => x_aload_n rfl (rk_o (rk_o (rfl) rfl rfl) rfl rfl)) ?_
    refine Ew_of (pcₚ := 40) (fun _ => x_iload_n rfl (rk_o (rk_o (rfl) rfl rfl) rfl rfl)) ?_
    refine Ew_of (pcₚ := 41) (fun _ => x_aload_n rfl (rk_o (rk_o (rfl) rfl rfl) rfl rfl)) ?_
    refine Ew_of (pcₚ := 42) (fun _ => x_iload_n rfl (rk_o (rk_o (rfl) rfl rfl) rfl rfl)) ?_
    refine Ew_of (pcₚ := 43) (fun _ => x_aload_n rfl (rk_o (rk_o (rfl) rfl rfl) rfl rfl)) ?_
    refine Ew_of (pcₚ := 44) (fun _ => x_iload_n rfl (rk_o (rk_o (rfl) rfl rfl) rfl rfl)) ?_
    refine Ew_of (pcₚ := 45) (fun _ => x_aload_n rfl (rk_o (rk_o (rfl) rfl rfl) rfl rfl)) ?_
    refine Ew_of (pcₚ := 46) (fun _ => x_iload_n rfl (rk_o (rk_o (rfl) rfl rfl) rfl rfl)) ?_
    refine Ew_of (pcₚ := 47) (fun _ => x_iload_n rfl rk_s) ?_
    refine Ew_of (pcₚ := 48) (fun _ => x_iconst rfl) ?_
    refine Ew_of (pcₚ := 49) (fun _ => x_iconst rfl) ?_
    refine w_inv H (o := 5) rfl rfl rfl (H.perm 5 rfl) rfl rfl (by rfl) (M265 H (wq145) (ewq146) (show inr (a1) from h0) (show inr (z144) from pz144_0) (show inr (3) from q_246) (show inr (1) from q_135) (show 0 ≤ (a1) ∧ (a1) ≤ 2 from h1) (show 0 ≤ (z144) ∧ 0 ≤ (3) ∧ (z144) + (3) ≤ 64 from q_1372 pz130_1 pz137_1 pz144_1) (show -1 ≤ (1) ∧ (1) ≤ 4 from q_1353) (fun z151 σ F147 A148 H hS149 hA150 wq152 ewq153 pz151_0 pz151_1 pz151_2 => ⟨rfl, ?_⟩))
    refine Ew_of (pcₚ := 54) (fun _ => x_bipush (z := 9) rfl (by decide)) ?_
    refine Ew_of (pcₚ := 55) (fun _ => x_iconst rfl) ?_
    refine w_inv H (o := 5) rfl rfl rfl (H.perm 5 rfl) rfl rfl (by rfl) (M265 H (wq152) (ewq153) (show inr (a1) from h0) (show inr (z151) from pz151_0) (show inr (9) from q_291) (show inr (2) from q_122) (show 0 ≤ (a1) ∧ (a1) ≤ 2 from h1) (show 0 ≤ (z151) ∧ 0 ≤ (9) ∧ (z151) + (9) ≤ 64 from q_1373 pz130_1 pz137_1 pz144_1 pz151_1) (show -1 ≤ (2) ∧ (2) ≤ 4 from q_1359) (fun z158 σ F154 A155 H hS156 hA157 wq159 ewq160 pz158_0 pz158_1 pz158_2 => ⟨rfl, ?_⟩))
    refine Ew_of (pcₚ := 59) (fun _ => x_iconst rfl) ?_
    refine Ew_of (pcₚ := 60) (fun _ => x_iconst rfl) ?_
    refine w_inv H (o := 5) rfl rfl rfl (H.perm 5 rfl) rfl rfl (by rfl) (M265 H (wq159) (ewq160) (show inr (a1) from h0) (show inr (z158) from pz158_0) (show inr (1) from q_135) (show inr (3) from q_246) (show 0 ≤ (a1) ∧ (a1) ≤ 2 from h1) (show 0 ≤ (z158) ∧ 0 ≤ (1) ∧ (z158) + (1) ≤ 64 by omega) (show -1 ≤ (3) ∧ (3) ≤ 4 from q_1357) (fun z165 σ F161 A162 H hS163 hA164 wq166 ewq167 pz165_0 pz165_1 pz165_2 => ⟨rfl, ?_⟩))
    refine Ew_of (pcₚ := 64) (fun _ => x_iconst rfl) ?_
    refine Ew_of (pcₚ := 65) (fun _ => x_iconst rfl) ?_
    refine w_inv H (o := 5) rfl rfl rfl (H.perm 5 rfl) rfl rfl (by rfl) (M265 H (wq166) (ewq167) (show inr (a1) from h0) (show inr (z165) from pz165_0) (show inr (1) from q_135) (show inr (2) from q_122) (show 0 ≤ (a1) ∧ (a1) ≤ 2 from h1) (show 0 ≤ (z165) ∧ 0 ≤ (1) ∧ (z165) + (1) ≤ 64 by omega) (show -1 ≤ (2) ∧ (2) ≤ 4 from q_1359) (fun z172 σ F168 A169 H hS170 hA171 wq173 ewq174 pz172_0 pz172_1 pz172_2 => ⟨rfl, ?_⟩))
    refine Ew_of (pcₚ := 69) (fun _ => x_istore_n rfl) ?_
    refine Ew_of (pcₚ := 70) (fun _ => x_aload_n rfl (rk_o (rk_o (rk_o (rfl) rfl rfl) rfl rfl) rfl rfl)) ?_
    refine Ew_of (pcₚ := 71) (fun _ => x_iload_n rfl (rk_o (rk_o (rk_o (rfl) rfl rfl) rfl rfl) rfl rfl)) ?_
    refine Ew_of (pcₚ := 72) (fun _ => x_aload_n rfl (rk_o (rk_o (rk_o (rfl) rfl rfl) rfl rfl) rfl rfl)) ?_
    refine Ew_of (pcₚ := 73) (fun _ => x_iload_n rfl (rk_o (rk_o (rk_o (rfl) rfl rfl) rfl rfl) rfl rfl)) ?_
    refine Ew_of (pcₚ := 74) (fun _ => x_iload_n rfl rk_s) ?_
    refine Ew_of (pcₚ := 75) (fun _ => x_iconst rfl) ?_
    refine Ew_of (pcₚ := 76) (fun _ => x_iconst rfl) ?_
    refine w_inv H (o := 5) rfl rfl rfl (H.perm 5 rfl) rfl rfl (by rfl) (M265 H (wq173) (ewq174) (show inr (a1) from h0) (show inr (z172) from pz172_0) (show inr (5) from q_727) (show inr (1) from q_135) (show 0 ≤ (a1) ∧ (a1) ≤ 2 from h1) (show 0 ≤ (z172) ∧ 0 ≤ (5) ∧ (z172) + (5) ≤ 64 by omega) (show -1 ≤ (1) ∧ (1) ≤ 4 from q_1353) (fun z179 σ F175 A176 H hS177 hA178 wq180 ewq181 pz179_0 pz179_1 pz179_2 => ⟨rfl, ?_⟩))
    refine Ew_of (pcₚ := 80) (fun _ => x_iconst rfl) ?_
    refine Ew_of (pcₚ := 81) (fun _ => x_iconst rfl) ?_
    refine w_inv H (o := 5) rfl rfl rfl (H.perm 5 rfl) rfl rfl (by rfl) (M265 H (wq180) (ewq181) (show inr (a1) from h0) (show inr (z179) from pz179_0) (show inr (4) from q_216) (show inr ((-1)) from q_63) (show 0 ≤ (a1) ∧ (a1) ≤ 2 from h1) (show 0 ≤ (z179) ∧ 0 ≤ (4) ∧ (z179) + (4) ≤ 64 by omega) (show -1 ≤ ((-1)) ∧ ((-1)) ≤ 4 from q_1363) (fun z186 σ F182 A183 H hS184 hA185 wq187 ewq188 pz186_0 pz186_1 pz186_2 => ⟨rfl, ?_⟩))
    have hkn : ∀ i, (0 : Int) ≤ i → i < 64 → ((wq187)) (64 * (a1) + i) = K0 i := by intro i h0 h1; rw [pz186_2, pz179_2, pz172_2, pz165_2, pz158_2, pz151_2, pz144_2, pz137_2, pz130_2, pz5_2]; simp only [rns, K0]; omega
    have hsh : SH ((wq187)) (64 * (a1)) 64 (if (a1) = 1 then 5 else 6) (lastOf ((a1))) := by rw [show lastOf ((a1)) = 35 by have := lastOf_eq ((a1)); omega, if_neg (by omega)]; exact SH_K0 hkn
    have hkk : ∀ k, 0 ≤ k → k < 64 → ((wq187)) (64 * (a1) + k) = KK ((a1)) k := fun i a b => by rw [hkn i a b]; unfold KK; rw [if_pos (by omega)]
    refine Ew_of (pcₚ := 85) (fun _ => x_istore_n rfl) ?_
    refine Ew_of (pcₚ := 177) (fun _ => x_goto rfl rfl) ?_
    refine Ew_of (pcₚ := 178) (fun _ => x_aload_n rfl (rk_o (rk_o (rk_o (rk_o (rfl) rfl rfl) rfl rfl) rfl rfl) rfl rfl)) ?_
    refine w_gT H (o := 5) (t := 34) rfl (H.perm 5 rfl) rfl rfl rfl rfl rfl rfl ?_
    refine Ew_of (pcₚ := 182) (fun _ => x_iload_n rfl (rk_o (rk_o (rk_o (rk_o (rfl) rfl rfl) rfl rfl) rfl rfl) rfl rfl)) ?_
    refine Ew_of (pcₚ := 183) (fun _ => x_iload_n rfl (rk_o (rk_o (rk_o (rk_o (rfl) rfl rfl) rfl rfl) rfl rfl) rfl rfl)) ?_
    refine Ew_of (pcₚ := 184) (fun _ => x_iconst rfl) ?_
    refine w_icmpne (t := 191) rfl rfl (show inr (a1) from h0) (show inr (1) from q_135) (fun b189 => ?_) (fun b189 => ?_)
    · refine Ew_of (pcₚ := 193) (fun _ => x_bipush (z := 6) rfl (by decide)) ?_
      have : PS ((wq187)) (upd1 ((w34)) ((a1)) ((6))) ((a1)) := by unfold PS; rw [upd1_s]; first | (rw [if_pos (by omega)] at hsh; exact hsh) | (rw [if_neg (by omega)] at hsh; exact hsh)
      have : RX ((w35)) ((w36)) ((w37)) (upd1 ((w34)) ((a1)) ((6))) ((a1)) := RX_of (by assumption)
      have : FRM ((w34)) (upd1 ((w34)) ((a1)) ((6))) ((a1)) ((a1) + 1) := FRM_upd FRM_refl (by omega) (by omega)
      have : (upd1 ((w34)) ((a1)) ((6))) ((a1)) = (6) := upd1_s
      have : (upd1 ((w34)) ((a1)) ((6))) ((a1)) = (if ((a1) : Int) = 1 then 5 else 6) := by rw [upd1_s]; first | (rw [if_pos (show ((a1) : Int) = 1 by omega)] <;> omega) | (rw [if_neg (show ¬ ((a1) : Int) = 1 by omega)] <;> omega)
      refine w_sI H (o := 34) (n := 3) rfl (H.perm 34 rfl) rfl rfl (H.fix 34 rfl rfl) (show 0 ≤ a1 ∧ a1 < ((3 : Nat) : Int) from q_1374 b8 h1) (by decide) (show (-1 : Int) ≤ 6 ∧ 6 ≤ 9 from q_1364) (fun σ H => ?_)
      refine Ew_of (pcₚ := 195) (fun _ => x_aload_n rfl (rk_o (rk_o (rk_o (rk_o (rfl) rfl rfl) rfl rfl) rfl rfl) rfl rfl)) ?_
      refine Ew_of (pcₚ := 196) (fun _ => x_iload_n rfl (rk_o (rk_o (rk_o (rk_o (rfl) rfl rfl) rfl rfl) rfl rfl) rfl rfl)) ?_
      refine w_inv H (o := 5) rfl rfl rfl (H.perm 5 rfl) rfl rfl (by rfl) (M263 H (wq187) (ewq188) (upd1 (w34) (a1) (6)) (congrArg (fun q => upd1 q (a1) (6)) ((funext (hA185 34 rfl)).trans ((funext (hA178 34 rfl)).trans ((funext (hA171 34 rfl)).trans ((funext (hA164 34 rfl)).trans ((funext (hA157 34 rfl)).trans ((funext (hA150 34 rfl)).trans ((funext (hA143 34 rfl)).trans ((funext (hA136 34 rfl)).trans ((funext (hA129 34 rfl)).trans ((funext (hA4 34 rfl)).trans (ew34)))))))))))) (w35) ((funext (hA185 35 rfl)).trans ((funext (hA178 35 rfl)).trans ((funext (hA171 35 rfl)).trans ((funext (hA164 35 rfl)).trans ((funext (hA157 35 rfl)).trans ((funext (hA150 35 rfl)).trans ((funext (hA143 35 rfl)).trans ((funext (hA136 35 rfl)).trans ((funext (hA129 35 rfl)).trans ((funext (hA4 35 rfl)).trans (ew35))))))))))) (w36) ((funext (hA185 36 rfl)).trans ((funext (hA178 36 rfl)).trans ((funext (hA171 36 rfl)).trans ((funext (hA164 36 rfl)).trans ((funext (hA157 36 rfl)).trans ((funext (hA150 36 rfl)).trans ((funext (hA143 36 rfl)).trans ((funext (hA136 36 rfl)).trans ((funext (hA129 36 rfl)).trans ((funext (hA4 36 rfl)).trans (ew36))))))))))) (w37) ((funext (hA185 37 rfl)).trans ((funext (hA178 37 rfl)).trans ((funext (hA171 37 rfl)).trans ((funext (hA164 37 rfl)).trans ((funext (hA157 37 rfl)).trans ((funext (hA150 37 rfl)).trans ((funext (hA143 37 rfl)).trans ((funext (hA136 37 rfl)).trans ((funext (hA129 37 rfl)).trans ((funext (hA4 37 rfl)).trans (ew37))))))))))) (show inr (a1) from h0) (show 0 ≤ (a1) ∧ (a1) ≤ 2 from h1) (show PS ((wq187)) ((upd1 (w34) (a1) (6))) ((a1)) by assumption) (show RX ((w35)) ((w36)) ((w37)) ((upd1 (w34) (a1) (6))) ((a1)) by assumption) (fun σ F190 A191 H hS192 hA193 wq195 ewq196 wq197 ewq198 wq199 ewq200 pz194_0 pz194_1 pz194_2 pz194_3 pz194_4 => ⟨rfl, ?_⟩))
      have : LD (sh ((wq187)) (64 * (a1))) 64 (if ((a1) : Int) = 1 then 5 else 6) (sh ((wq195)) (512 * (a1))) (sh ((wq197)) (512 * (a1))) (sh ((wq199)) (512 * (a1))) := by have h := pz194_1; rw [upd1_s] at h; first | (rw [if_pos (by omega)]; exact h) | (rw [if_neg (by omega)]; exact h)
      have : FRM ((w35)) ((wq195)) (512 * (a1)) (512 * (a1) + 512) := pz194_2
      have : FRM ((w36)) ((wq197)) (512 * (a1)) (512 * (a1) + 512) := pz194_3
      have : FRM ((w37)) ((wq199)) (512 * (a1)) (512 * (a1) + 512) := pz194_4
      exact w_ret rfl (k σ _ _ H (SF_trans (SF_trans (SF_trans (SF_trans (SF_trans (SF_trans (SF_trans (SF_trans (SF_trans (SF_trans (SF_trans (SF_refl) hS3 (any_sub rfl)) hS128 (any_sub rfl)) hS135 (any_sub rfl)) hS142 (any_sub rfl)) hS149 (any_sub rfl)) hS156 (any_sub rfl)) hS163 (any_sub rfl)) hS170 (any_sub rfl)) hS177 (any_sub rfl)) hS184 (any_sub rfl)) hS192 (any_sub rfl)) (SA_trans (SA_upd (SA_trans (SA_trans (SA_trans (SA_trans (SA_trans (SA_trans (SA_trans (SA_trans (SA_trans (SA_trans (SA_refl) hA4 (any_subA rfl)) hA129 (any_subA rfl)) hA136 (any_subA rfl)) hA143 (any_subA rfl)) hA150 (any_subA rfl)) hA157 (any_subA rfl)) hA164 (any_subA rfl)) hA171 (any_subA rfl)) hA178 (any_subA rfl)) hA185 (any_subA rfl)) rfl) hA193 (any_subA rfl)) (wq187) ((funext (hA193 33 rfl)).trans (ewq188)) (upd1 (w34) (a1) (6)) ((funext (hA193 34 rfl)).trans (congrArg (fun q => upd1 q (a1) (6)) ((funext (hA185 34 rfl)).trans ((funext (hA178 34 rfl)).trans ((funext (hA171 34 rfl)).trans ((funext (hA164 34 rfl)).trans ((funext (hA157 34 rfl)).trans ((funext (hA150 34 rfl)).trans ((funext (hA143 34 rfl)).trans ((funext (hA136 34 rfl)).trans ((funext (hA129 34 rfl)).trans ((funext (hA4 34 rfl)).trans (ew34))))))))))))) (wq195) (ewq196) (wq197) (ewq198) (wq199) (ewq200) (pz194_0) (show FRM ((w34)) ((upd1 (w34) (a1) (6))) (a1) (a1 + 1) by assumption) (show 0 ≤ ((upd1 (w34) (a1) (6))) (a1) by omega) (show LD (sh ((wq187)) (64 * a1)) 64 (if (a1 : Int) = 1 then 5 else 6) (sh ((wq195)) (512 * a1)) (sh ((wq197)) (512 * a1)) (sh ((wq199)) (512 * a1)) by assumption) (hkk) (show ((upd1 (w34) (a1) (6))) (a1) = (if (a1 : Int) = 1 then 5 else 6) by assumption) (pz194_2) (pz194_3) (pz194_4))
    · refine Ew_of (pcₚ := 188) (fun _ => x_iconst rfl) ?_
      refine Ew_of (pcₚ := 193) (fun _ => x_goto rfl rfl) ?_
      have : PS ((wq187)) (upd1 ((w34)) ((a1)) ((5))) ((a1)) := by unfold PS; rw [upd1_s]; first | (rw [if_pos (by omega)] at hsh; exact hsh) | (rw [if_neg (by omega)] at hsh; exact hsh)
      have : RX ((w35)) ((w36)) ((w37)) (upd1 ((w34)) ((a1)) ((5))) ((a1)) := RX_of (by assumption)
      have : FRM ((w34)) (upd1 ((w34)) ((a1)) ((5))) ((a1)) ((a1) + 1) := FRM_upd FRM_refl (by omega) (by omega)
      have : (upd1 ((w34)) ((a1)) ((5))) ((a1)) = (5) := upd1_s
      have : (upd1 ((w34)) ((a1)) ((5))) ((a1)) = (if ((a1) : Int) = 1 then 5 else 6) := by rw [upd1_s]; first | (rw [if_pos (show ((a1) : Int) = 1 from b189)] <;> omega) | (rw [if_neg (show ¬ ((a1) : Int) = 1 by omega)] <;> omega)
      refine w_sI H (o := 34) (n := 3) rfl (H.perm 34 rfl) rfl rfl (H.fix 34 rfl rfl) (show 0 ≤ a1 ∧ a1 < ((3 : Nat) : Int) from q_1366 b189 h1) (by decide) (show (-1 : Int) ≤ 5 ∧ 5 ≤ 9 from q_1365) (fun σ H => ?_)
      refine Ew_of (pcₚ := 195) (fun _ => x_aload_n rfl (rk_o (rk_o (rk_o (rk_o (rfl) rfl rfl) rfl rfl) rfl rfl) rfl rfl)) ?_
      refine Ew_of (pcₚ := 196) (fun _ => x_iload_n rfl (rk_o (rk_o (rk_o (rk_o (rfl) rfl rfl) rfl rfl) rfl rfl) rfl rfl)) ?_
      refine w_inv H (o := 5) rfl rfl rfl (H.perm 5 rfl) rfl rfl (by rfl) (M263 H (wq187) (ewq188) (upd1 (w34) (a1) (5)) (congrArg (fun q => upd1 q (a1) (5)) ((funext (hA185 34 rfl)).trans ((funext (hA178 34 rfl)).trans ((funext (hA171 34 rfl)).trans ((funext (hA164 34 rfl)).trans ((funext (hA157 34 rfl)).trans ((funext (hA150 34 rfl)).trans ((funext (hA143 34 rfl)).trans ((funext (hA136 34 rfl)).trans ((funext (hA129 34 rfl)).trans ((funext (hA4 34 rfl)).trans (ew34)))))))))))) (w35) ((funext (hA185 35 rfl)).trans ((funext (hA178 35 rfl)).trans ((funext (hA171 35 rfl)).trans ((funext (hA164 35 rfl)).trans ((funext (hA157 35 rfl)).trans ((funext (hA150 35 rfl)).trans ((funext (hA143 35 rfl)).trans ((funext (hA136 35 rfl)).trans ((funext (hA129 35 rfl)).trans ((funext (hA4 35 rfl)).trans (ew35))))))))))) (w36) ((funext (hA185 36 rfl)).trans ((funext (hA178 36 rfl)).trans ((funext (hA171 36 rfl)).trans ((funext (hA164 36 rfl)).trans ((funext (hA157 36 rfl)).trans ((funext (hA150 36 rfl)).trans ((funext (hA143 36 rfl)).trans ((funext (hA136 36 rfl)).trans ((funext (hA129 36 rfl)).trans ((funext (hA4 36 rfl)).trans (ew36))))))))))) (w37) ((funext (hA185 37 rfl)).trans ((funext (hA178 37 rfl)).trans ((funext (hA171 37 rfl)).trans ((funext (hA164 37 rfl)).trans ((funext (hA157 37 rfl)).trans ((funext (hA150 37 rfl)).trans ((funext (hA143 37 rfl)).trans ((funext (hA136 37 rfl)).trans ((funext (hA129 37 rfl)).trans ((funext (hA4 37 rfl)).trans (ew37))))))))))) (show inr (a1) from h0) (show 0 ≤ (a1) ∧ (a1) ≤ 2 from h1) (show PS ((wq187)) ((upd1 (w34) (a1) (5))) ((a1)) by assumption) (show RX ((w35)) ((w36)) ((w37)) ((upd1 (w34) (a1) (5))) ((a1)) by assumption) (fun σ F201 A202 H hS203 hA204 wq206 ewq207 wq208 ewq209 wq210 ewq211 pz205_0 pz205_1 pz205_2 pz205_3 pz205_4 => ⟨rfl, ?_⟩))
      have : LD (sh ((wq187)) (64 * (a1))) 64 (if ((a1) : Int) = 1 then 5 else 6) (sh ((wq206)) (512 * (a1))) (sh ((wq208)) (512 * (a1))) (sh ((wq210)) (512 * (a1))) := by have h := pz205_1; rw [upd1_s] at h; first | (rw [if_pos (by omega)]; exact h) | (rw [if_neg (by omega)]; exact h)
      have : FRM ((w35)) ((wq206)) (512 * (a1)) (512 * (a1) + 512) := pz205_2
      have : FRM ((w36)) ((wq208)) (512 * (a1)) (512 * (a1) + 512) := pz205_3
      have : FRM ((w37)) ((wq210)) (512 * (a1)) (512 * (a1) + 512) := pz205_4
      exact w_ret rfl (k σ _ _ H (SF_trans (SF_trans (SF_trans (SF_trans (SF_trans (SF_trans (SF_trans (SF_trans (SF_trans (SF_trans (SF_trans (SF_refl) hS3 (any_sub rfl)) hS128 (any_sub rfl)) hS135 (any_sub rfl)) hS142 (any_sub rfl)) hS149 (any_sub rfl)) hS156 (any_sub rfl)) hS163 (any_sub rfl)) hS170 (any_sub rfl)) hS177 (any_sub rfl)) hS184 (any_sub rfl)) hS203 (any_sub rfl)) (SA_trans (SA_upd (SA_trans (SA_trans (SA_trans (SA_trans (SA_trans (SA_trans (SA_trans (SA_trans (SA_trans (SA_trans (SA_refl) hA4 (any_subA rfl)) hA129 (any_subA rfl)) hA136 (any_subA rfl)) hA143 (any_subA rfl)) hA150 (any_subA rfl)) hA157 (any_subA rfl)) hA164 (any_subA rfl)) hA171 (any_subA rfl)) hA178 (any_subA rfl)) hA185 (any_subA rfl)) rfl) hA204 (any_subA rfl)) (wq187) ((funext (hA204 33 rfl)).trans (ewq188)) (upd1 (w34) (a1) (5)) ((funext (hA204 34 rfl)).trans (congrArg (fun q => upd1 q (a1) (5)) ((funext (hA185 34 rfl)).trans ((funext (hA178 34 rfl)).trans ((funext (hA171 34 rfl)).trans ((funext (hA164 34 rfl)).trans ((funext (hA157 34 rfl)).trans ((funext (hA150 34 rfl)).trans ((funext (hA143 34 rfl)).trans ((funext (hA136 34 rfl)).trans ((funext (hA129 34 rfl)).trans ((funext (hA4 34 rfl)).trans (ew34))))))))))))) (wq206) (ewq207) (wq208) (ewq209) (wq210) (ewq211) (pz205_0) (show FRM ((w34)) ((upd1 (w34) (a1) (5))) (a1) (a1 + 1) by assumption) (show 0 ≤ ((upd1 (w34) (a1) (5))) (a1) by omega) (show LD (sh ((wq187)) (64 * a1)) 64 (if (a1 : Int) = 1 then 5 else 6) (sh ((wq206)) (512 * a1)) (sh ((wq208)) (512 * a1)) (sh ((wq210)) (512 * a1)) by assumption) (hkk) (show ((upd1 (w34) (a1) (5))) (a1) = (if (a1 : Int) = 1 then 5 else 6) by assumption) (pz205_2) (pz205_3) (pz205_4))

theorem M267 {σ0 σ : rS} {D N : Nat → Nat} {F : hF} {A : hA} {d c s : Nat} {Q : wQ} (H : HS σ0 σ D N F A) {a1 a2 : Int} (w14 : Int → Int) (ew14 : A 14 = w14) (h0 : inr (a1)) (h1 : inr (a2)) (h2 : 0 ≤ (a1) ∧ (a1) ≤ 65536 ∧ 0 ≤ (a2) ∧ (a2) ≤ 65536) (k : ∀ (z : Int) σ Fₚ Aₚ, HS σ0 σ D N Fₚ Aₚ → SF [(5, 44), (5, 45)] F Fₚ → SA [] A Aₚ → ∀ y5_44 : Int, Fₚ 5 44 = y5_44 → ∀ y5_45 : Int, Fₚ 5 45 = y5_45 → ((z) = 0 ∨ (z) = 1) → ((z) = 1 → (a1) < (a2) ∧ (y5_44) = 8 * (a1) ∧ 0 ≤ (y5_45) ∧ (y5_45) ≤ 8 * ((a2) - (a1)) - 1) → (OPS ((w14)) ((a1)) ((a2)) ((z)) ((y5_45))) → Q (some (I z)) σ c s) : Ew 267 (d + 1) 0 (rargs 0 [.ref (D 5), I a1, I a2]) [] σ c s Q := by
  refine Ew_of (pcₚ := 1) (fun _ => x_iload_n rfl rfl) ?_
  refine Ew_of (pcₚ := 2) (fun _ => x_iload_n rfl rfl) ?_
  refine w_icmpge (t := 19) rfl rfl (show inr (a1) from h0) (show inr (a2) from h1) (fun b1 => ?_) (fun b1 => ?_)
  · refine Ew_of (pcₚ := 20) (fun _ => x_iconst rfl) ?_
    have r2 : (-100 : Int) ≤ F 5 45 ∧ F 5 45 ≤ 524288 := H.frng 5 45
    have : OPS ((w14)) ((a1)) ((a2)) 0 ((F 5 45)) := by first | exact .inl ⟨rfl, .inl (by omega)⟩ | exact .inl ⟨rfl, .inr (hv.trans (by omega))⟩
    have r3 : (0 : Int) ≤ F 5 44 ∧ F 5 44 ≤ 524288 := H.frng 5 44
    exact w_ireturn rfl (k (0) σ _ _ H (SF_refl) (SA_refl) (F 5 44) (rfl) (F 5 45) (rfl) (show (0) = 0 ∨ (0) = 1 by first | exact q_45 | omega) (show (0) = 1 → a1 < a2 ∧ (F 5 44) = 8 * a1 ∧ 0 ≤ (F 5 45) ∧ (F 5 45) ≤ 8 * (a2 - a1) - 1 by first | exact q_1375 h2 r2 r3 | omega) (show OPS ((w14)) (a1) (a2) ((0)) ((F 5 45)) by assumption))
  · refine Ew_of (pcₚ := 6) (fun _ => x_aload_n rfl rfl) ?_
    refine w_gT H (o := 5) (t := 1) rfl (H.perm 5 rfl) rfl rfl rfl rfl rfl rfl ?_
    refine w_gT H (o := 1) (t := 14) rfl (H.perm 1 rfl) rfl rfl rfl rfl rfl rfl ?_
    refine Ew_of (pcₚ := 13) (fun _ => x_iload_n rfl rfl) ?_
    refine Ew_of (pcₚ := 14) (fun _ => x_iconst rfl) ?_
    refine w_isub rfl ?_
    refine w_lI H (o := 14) (n := 65536) rfl (H.perm 14 rfl) rfl rfl (H.fix 14 rfl rfl) (show 0 ≤ (a2 - 1) ∧ (a2 - 1) < ((65536 : Nat) : Int) from q_1376 b1 h2) (by decide) (fun v4 ev4 qv4 => ?_)
    have qv4 : (0 : Int) ≤ v4 ∧ v4 ≤ 255 := qv4
    have ev4 : (w14) ((a2 - 1)) = v4 := (congrFun (ew14) ((a2 - 1))).symm.trans ev4
    have hv := ev4
    refine w_ifne (t := 21) rfl rfl (show inr (v4) from q_299 qv4) (fun b5 => ?_) (fun b5 => ?_)
    · refine Ew_of (pcₚ := 22) (fun _ => x_aload_n rfl rfl) ?_
      refine Ew_of (pcₚ := 24) (fun _ => x_bipush (z := 8) rfl (by decide)) ?_
      refine Ew_of (pcₚ := 25) (fun _ => x_iload_n rfl rfl) ?_
      refine w_imul rfl ?_
      refine w_pI H (o := 5) rfl rfl (H.perm 5 rfl) rfl rfl rfl (fun _ => rfl) rfl (show (0 : Int) ≤ (8 * a1) ∧ (8 * a1) ≤ 524288 from q_1377 h2) (fun σ H => ?_)
      refine Ew_of (pcₚ := 30) (fun _ => x_aload_n rfl rfl) ?_
      refine Ew_of (pcₚ := 32) (fun _ => x_bipush (z := 8) rfl (by decide)) ?_
      refine Ew_of (pcₚ := 33) (fun _ => x_iload_n rfl rfl) ?_
      refine Ew_of (pcₚ := 34) (fun _ => x_iconst rfl) ?_
      refine w_isub rfl ?_
      refine Ew_of (pcₚ := 36) (fun _ => x_iload_n rfl rfl) ?_
      refine w_isub rfl ?_
      refine w_imul rfl ?_
      refine Ew_of (pcₚ := 39) (fun _ => x_aload_n rfl rfl) ?_
      refine w_gT H (o := 5) (t := 1) rfl (H.perm 5 rfl) rfl rfl rfl rfl rfl rfl ?_
      refine w_gT H (o := 1) (t := 14) rfl (H.perm 1 rfl) rfl rfl rfl rfl rfl rfl ?_
      refine Ew_of (pcₚ := 46) (fun _ => x_iload_n rfl rfl) ?_
      refine Ew_of (pcₚ := 47) (fun _ => x_iconst rfl) ?_
      refine w_isub rfl ?_
      refine w_lI H (o := 14) (n := 65536) rfl (H.perm 14 rfl) rfl rfl (H.fix 14 rfl rfl) (show 0 ≤ (a2 - 1) ∧ (a2 - 1) < ((65536 : Nat) : Int) from q_1376 b1 h2) (by decide) (fun v6 ev6 qv6 => ?_)
      have qv6 : (0 : Int) ≤ v6 ∧ v6 ≤ 255 := qv6
      have ev6 : (w14) ((a2 - 1)) = v6 := (congrFun (ew14) ((a2 - 1))).symm.trans ev6
      have hv2 := ev6
      refine w_stat24 rfl rfl (by rfl) (M260 H (show inr (v6) from q_299 qv6) (show 0 ≤ (v6) from q_1378 qv6) (fun z11 σ F7 A8 H hS9 hA10 pz11_0 pz11_1 pz11_2 => ⟨rfl, ?_⟩))
      have : (z11) < 8 := p2_lt (by omega) (by rw [show p2 8 = 256 from by decide]; omega)
      refine w_iadd rfl ?_
      refine w_pI H (o := 5) rfl rfl (H.perm 5 rfl) rfl rfl rfl (fun _ => rfl) rfl (show (-100 : Int) ≤ ((8 * ((a2 - 1) - a1)) + z11) ∧ ((8 * ((a2 - 1) - a1)) + z11) ≤ 524288 by omega) (fun σ H => ?_)
      refine Ew_of (pcₚ := 57) (fun _ => x_iconst rfl) ?_
      have : OPS ((w14)) ((a1)) ((a2)) 1 ((((8 * ((a2 - 1) - a1)) + z11))) := .inr ⟨rfl, by omega, by rw [hv2]; omega, z11, by omega, by rw [hv2]; omega, by rw [hv2]; omega, by omega⟩
      exact w_ireturn rfl (k (1) σ _ _ H (SF_upd (SF_trans (SF_upd (SF_refl) rfl) hS9 (any_sub rfl)) rfl) (SA_trans (SA_refl) hA10 (any_subA rfl)) ((8 * a1)) ((hS9 5 44 rfl)) (((8 * ((a2 - 1) - a1)) + z11)) (rfl) (show (1) = 0 ∨ (1) = 1 by first | exact q_49 | omega) (show (1) = 1 → a1 < a2 ∧ ((8 * a1)) = 8 * a1 ∧ 0 ≤ (((8 * ((a2 - 1) - a1)) + z11)) ∧ (((8 * ((a2 - 1) - a1)) + z11)) ≤ 8 * (a2 - a1) - 1 by omega) (show OPS ((w14)) (a1) (a2) ((1)) ((((8 * ((a2 - 1) - a1)) + z11))) by assumption))
    · refine Ew_of (pcₚ := 20) (fun _ => x_iconst rfl) ?_
      have r12 : (-100 : Int) ≤ F 5 45 ∧ F 5 45 ≤ 524288 := H.frng 5 45
      have : OPS ((w14)) ((a1)) ((a2)) 0 ((F 5 45)) := by first | exact .inl ⟨rfl, .inl (by omega)⟩ | exact .inl ⟨rfl, .inr (hv.trans (by omega))⟩
      have r13 : (0 : Int) ≤ F 5 44 ∧ F 5 44 ≤ 524288 := H.frng 5 44
      exact w_ireturn rfl (k (0) σ _ _ H (SF_refl) (SA_refl) (F 5 44) (rfl) (F 5 45) (rfl) (show (0) = 0 ∨ (0) = 1 by first | exact q_45 | omega) (show (0) = 1 → a1 < a2 ∧ (F 5 44) = 8 * a1 ∧ 0 ≤ (F 5 45) ∧ (F 5 45) ≤ 8 * (a2 - a1) - 1 by first | exact q_1379 b1 h2 r12 r13 | omega) (show OPS ((w14)) (a1) (a2) ((0)) ((F 5 45)) by assumption))

theorem M268 {σ0 σ : rS} {D N : Nat → Nat} {F : hF} {A : hA} {d c s : Nat} {Q : wQ} (H : HS σ0 σ D N F A) {a1 : Int} (u5_44 : Int) (eu5_44 : F 5 44 = u5_44) (u5_45 : Int) (eu5_45 : F 5 45 = u5_45) (w14 : Int → Int) (ew14 : A 14 = w14) (h0 : inr (a1)) (h1 : 0 ≤ (a1) ∧ (a1) ≤ 31) (h2 : 0 ≤ (u5_44) ∧ (u5_44) + (u5_45) ≤ 524288) (h3 : (a1) ≤ (u5_45)) (k : ∀ (z : Int) σ Fₚ Aₚ, HS σ0 σ D N Fₚ Aₚ → SF [(5, 45)] F Fₚ → SA [] A Aₚ → ∀ y5_45 : Int, Fₚ 5 45 = y5_45 → (inrJ (z)) → ((y5_45) = (u5_45) - (a1)) → (0 ≤ (z) ∧ (z) < p2 ((a1))) → ((z) = bv ((w14)) ((u5_44) + (u5_45) - (a1)) ((a1) : Int).toNat) → Q (some (J z)) σ c s) : Ew 268 (d + 1) 0 (rargs 0 [.ref (D 5), I a1]) [] σ c s Q := by
  have r1 : (0 : Int) ≤ u5_44 ∧ u5_44 ≤ 524288 := rngE (show (0 : Int) ≤ F 5 44 ∧ F 5 44 ≤ 524288 from H.frng 5 44) (show F 5 44 = u5_44 from (eu5_44))
  have r2 : (-100 : Int) ≤ u5_45 ∧ u5_45 ≤ 524288 := rngE (show (-100 : Int) ≤ F 5 45 ∧ F 5 45 ≤ 524288 from H.frng 5 45) (show F 5 45 = u5_45 from (eu5_45))
  refine Ew_of (pcₚ := 1) (fun _ => x_lconst (z := 0) rfl (by decide)) ?_
  refine Ew_of (pcₚ := 2) (fun _ => x_lstore_n rfl) ?_
  refine Ew_of (pcₚ := 3) (fun _ => x_iconst rfl) ?_
  refine Ew_of (pcₚ := 5) (fun _ => x_istore rfl) ?_
  have : p2 0 = 1 := by decide
  have : (0 : Int) = bv ((w14)) ((u5_44) + (u5_45) - 0) (0 : Int).toNat := rfl
  suffices hl5 : ∀ (m : Nat), ∀ (ls : rO) (σ : rS) (F_5 : hF) (A_5 : hA) (x5_2 : Int) (x5_4 : Int), rlook ls 0 = some (.ref (D 5)) → rlook ls 1 = some (I (a1)) → rlook ls 2 = some (J (x5_2)) → rlook ls 4 = some (I (x5_4)) → HS σ0 σ D N F_5 A_5 → SF [(5, 45)] F F_5 → SA [] A A_5 → ∀ y5_5_45 : Int, F_5 5 45 = y5_5_45 → (inrJ (x5_2)) → (inr (x5_4)) → ((0) ≤ (x5_4)) → ((x5_4) ≤ (0) ∨ (x5_4) ≤ ((a1))) → ((y5_5_45) = (u5_45) - (x5_4)) → (0 ≤ (x5_2) ∧ (x5_2) < p2 ((x5_4))) → ((x5_2) = bv ((w14)) ((u5_44) + (u5_45) - (x5_4)) ((x5_4) : Int).toNat) → (((a1)) - (x5_4)).toNat = m → Ew 268 (d + 1) 5 ls [] σ c s Q from
    hl5 _ _ σ _ _ (0) (0) (rk_o (rk2_o (rfl) rfl rfl) rfl rfl) (rk_o (rk2_o (rfl) rfl rfl) rfl rfl) (rk_o (rk2_s) rfl rfl) (rk_s) H (SF_refl) (SA_refl) (u5_45) ((eu5_45))  (show inrJ (0) from q_340) (show inr (0) from q_2) (show (0) ≤ (0) from q_1) (show (0) ≤ (0) ∨ (0) ≤ ((a1)) from q_5) (show (u5_45) = (u5_45) - (0) from q_1380) (show 0 ≤ (0) ∧ (0) < p2 ((0)) by omega) (show (0) = bv ((w14)) ((u5_44) + (u5_45) - (0)) ((0) : Int).toNat by assumption) rfl
  as_aux_lemma =>
  intro m
  induction m using Nat.strongRecOn with
  | _ m ih5 =>
    intro ls σ F_5 A_5 x5_2 x5_4 l5_0 l5_1 l5_2 l5_4 H hS_5 hA_5 y5_5_45 ey5_5_45  j5_0 j5_1 j5_2 j5_3 j5_4 j5_5 j5_6 hm5
    have r3 : (-100 : Int) ≤ y5_5_45 ∧ y5_5_45 ≤ 524288 := rngE (show (-100 : Int) ≤ F_5 5 45 ∧ F_5 5 45 ≤ 524288 from H.frng 5 45) (show F_5 5 45 = y5_5_45 from (ey5_5_45))
    have j5_v : (x5_2) = bv ((w14)) ((u5_44) + (u5_45) - (x5_4)) ((x5_4) : Int).toNat := by assumption
    refine Ew_of (pcₚ := 7) (fun _ => x_iload rfl l5_4) ?_
    refine Ew_of (pcₚ := 8) (fun _ => x_iload_n rfl l5_1) ?_
    refine w_icmpge (t := 48) rfl rfl (show inr (x5_4) from j5_1) (show inr (a1) from h0) (fun b4 => ?_) (fun b4 => ?_)
    · have : (x5_2) = bv ((w14)) ((u5_44) + (u5_45) - (a1)) ((a1) : Int).toNat := by rw [show (a1) = (x5_4) by omega]; exact j5_v
      have : p2 ((x5_4)) = p2 ((a1)) := by rw [show (x5_4) = (a1) by omega]
      have : p2 ((a1)) ≤ p2 31 := p2_mono (by omega)
      have : p2 31 = 2147483648 := by decide
      refine Ew_of (pcₚ := 49) (fun _ => x_lload_n rfl l5_2) ?_
      exact w_lreturn rfl (k (x5_2) σ _ _ H (SF_trans (SF_refl) hS_5 (any_sub rfl)) (SA_trans (SA_refl) hA_5 (any_subA rfl)) (y5_5_45) ((ey5_5_45)) (show inrJ (x5_2) from j5_0) (show (y5_5_45) = (u5_45) - a1 from q_1381 b4 h1 j5_3 j5_4) (show 0 ≤ (x5_2) ∧ (x5_2) < p2 (a1) by omega) (show (x5_2) = bv ((w14)) ((u5_44) + (u5_45) - a1) (a1 : Int).toNat by assumption))
    · have := p2_s (y := (x5_4)) (by omega)
      have : p2 ((x5_4)) ≤ p2 31 := p2_mono (by omega)
      have : p2 31 = 2147483648 := by decide
      refine Ew_of (pcₚ := 12) (fun _ => x_aload_n rfl l5_0) ?_
      refine Ew_of (pcₚ := 13) (fun _ => x_dup rfl rfl) ?_
      refine w_gI H (o := 5) (w := y5_5_45) rfl (H.perm 5 rfl) rfl rfl rfl (fun _ => rfl) (ey5_5_45) ?_
      refine Ew_of (pcₚ := 17) (fun _ => x_iconst rfl) ?_
      refine w_isub rfl ?_
      refine w_pI H (o := 5) rfl rfl (H.perm 5 rfl) rfl rfl rfl (fun _ => rfl) rfl (show (-100 : Int) ≤ (y5_5_45 - 1) ∧ (y5_5_45 - 1) ≤ 524288 from q_1382 b4 h3 j5_4 r3) (fun σ H => ?_)
      refine Ew_of (pcₚ := 24) (fun _ => x_ldc2 (z := 2) rfl (by decide)) ?_
      refine Ew_of (pcₚ := 25) (fun _ => x_lload_n rfl l5_2) ?_
      refine w_lmul rfl ?_
      refine Ew_of (pcₚ := 27) (fun _ => x_aload_n rfl l5_0) ?_
      refine Ew_of (pcₚ := 28) (fun _ => x_aload_n rfl l5_0) ?_
      refine w_gI H (o := 5) (w := u5_44) rfl (H.perm 5 rfl) rfl rfl rfl (fun _ => rfl) ((hS_5 5 44 rfl).trans (eu5_44)) ?_
      refine Ew_of (pcₚ := 32) (fun _ => x_aload_n rfl l5_0) ?_
      refine w_gI H (o := 5) (w := (y5_5_45 - 1)) rfl (H.perm 5 rfl) rfl rfl rfl (fun _ => rfl) rfl ?_
      refine w_iadd rfl ?_
      refine w_inv H (o := 5) rfl rfl rfl (H.perm 5 rfl) rfl rfl (by rfl) (M259 H (w14) ((funext (hA_5 14 rfl)).trans (ew14)) (show inr ((u5_44 + (y5_5_45 - 1))) from q_1384 r1 r3) (show 0 ≤ ((u5_44 + (y5_5_45 - 1))) ∧ ((u5_44 + (y5_5_45 - 1))) < 524288 from q_1383 b4 h2 h3 j5_2 j5_4 r1) (fun z9 σ F5 A6 H hS7 hA8 pz9_0 pz9_1 pz9_2 => ⟨rfl, ?_⟩))
      have hb := pz9_2
      refine w_i2l rfl (show inr (z9) from pz9_0) ?_
      refine w_ladd rfl ?_
      have : (((2 * x5_2) + z9)) = bv ((w14)) ((u5_44) + (u5_45) - ((x5_4) + 1)) ((x5_4) + 1 : Int).toNat := tk_s (lz := (u5_45)) j5_v (by omega) rfl hb (by omega) rfl rfl
      refine Ew_of (pcₚ := 42) (fun _ => x_lstore_n rfl) ?_
      refine Ew_of (pcₚ := 45) (fun _ => x_iinc (len := 3) rfl (rk2_o (l5_4) rfl rfl)) ?_
      refine Ew_of (pcₚ := 5) (fun _ => x_goto rfl rfl) ?_
      exact ih5 _ (msE hm5 q_16 (q_17 b4)) _ σ _ _ (((2 * x5_2) + z9)) ((x5_4 + 1)) (rk_o (rk2_o (l5_0) rfl rfl) rfl rfl) (rk_o (rk2_o (l5_1) rfl rfl) rfl rfl) (rk_o (rk2_s) rfl rfl) (rk_s) H (SF_trans (SF_upd (hS_5) rfl) hS7 (any_sub rfl)) (SA_trans (hA_5) hA8 (any_subA rfl)) ((y5_5_45 - 1)) ((hS7 5 45 rfl))  (show inrJ (((2 * x5_2) + z9)) by omega) (show inr ((x5_4 + 1)) from q_1386 b4 h1 j5_2) (show (0) ≤ ((x5_4 + 1)) from q_14 j5_2) (show ((x5_4 + 1)) ≤ (0) ∨ ((x5_4 + 1)) ≤ ((a1)) from q_13 b4) (show ((y5_5_45 - 1)) = (u5_45) - ((x5_4 + 1)) from q_1385 j5_4) (show 0 ≤ (((2 * x5_2) + z9)) ∧ (((2 * x5_2) + z9)) < p2 (((x5_4 + 1))) by omega) (show (((2 * x5_2) + z9)) = bv ((w14)) ((u5_44) + (u5_45) - ((x5_4 + 1))) (((x5_4 + 1)) : Int).toNat by assumption) rfl

theorem M269 {σ0 σ : rS} {D N : Nat → Nat} {F : hF} {A : hA} {d c s : Nat} {Q : wQ} (H : HS σ0 σ D N F A)  (u5_10 : Int) (eu5_10 : F 5 10 = u5_10) (w31 : Int → Int) (ew31 : A 31 = w31) (h0 : CI ((w31)) ((u5_10))) (k : ∀ σ Fₚ Aₚ, HS σ0 σ D N Fₚ Aₚ → SF [] F Fₚ → SA [32] A Aₚ → ∀ v32 : Int → Int, Aₚ 32 = v32 → (fl ((v32)) (p2 ((u5_10))) = CELS ((w31)) ((u5_10))) → Q none σ c s) : Ew 269 (d + 0) 0 (rargs 0 [.ref (D 5)]) [] σ c s Q := by
  have r1 : (0 : Int) ≤ u5_10 ∧ u5_10 ≤ 11 := rngE (show (0 : Int) ≤ F 5 10 ∧ F 5 10 ≤ 11 from H.frng 5 10) (show F 5 10 = u5_10 from (eu5_10))
  refine Ew_of (pcₚ := 1) (fun _ => x_iconst rfl) ?_
  refine Ew_of (pcₚ := 2) (fun _ => x_istore_n rfl) ?_
  refine Ew_of (pcₚ := 3) (fun _ => x_iconst rfl) ?_
  refine Ew_of (pcₚ := 4) (fun _ => x_istore_n rfl) ?_
  have hci : CI ((w31)) ((u5_10)) := h0
  have := kq_1 hci.2.2.1
  have := p2_11 hci.2.1
  have : fl ((A 32)) 0 = CLa ((w31)) ((u5_10)) (1 - 1 : Int).toNat := rfl
  suffices hl4 : ∀ (m : Nat), ∀ (ls : rO) (σ : rS) (F_4 : hF) (A_4 : hA) (x4_1 : Int) (x4_2 : Int), rlook ls 0 = some (.ref (D 5)) → rlook ls 1 = some (I (x4_1)) → rlook ls 2 = some (I (x4_2)) → HS σ0 σ D N F_4 A_4 → SF [] F F_4 → SA [32] A A_4 → ∀ w4_32 : Int → Int, A_4 32 = w4_32 → (inr (x4_1)) → (inr (x4_2)) → ((1) ≤ (x4_2)) → ((x4_2) ≤ (1) ∨ (x4_2) ≤ (((u5_10) + 1))) → (1 ≤ (x4_2)) → ((x4_1) = su (kq ((w31)) ((u5_10)) ((x4_2))) 256) → (fl ((w4_32)) ((x4_1)) = CLa ((w31)) ((u5_10)) ((x4_2) - 1 : Int).toNat) → ((((u5_10) + 1)) - (x4_2)).toNat = m → Ew 269 (d + 0) 4 ls [] σ c s Q from
    hl4 _ _ σ _ _ (0) (1) (rk_o (rk_o (rfl) rfl rfl) rfl rfl) (rk_o (rk_s) rfl rfl) (rk_s) H (SF_refl) (SA_refl)  (A 32) (rfl) (show inr (0) from q_2) (show inr (1) from q_135) (show (1) ≤ (1) from q_1387) (show (1) ≤ (1) ∨ (1) ≤ (((u5_10) + 1)) from q_1388) (show 1 ≤ (1) from q_1387) (show (0) = su (kq ((w31)) ((u5_10)) ((1))) 256 by omega) (show fl ((A 32)) ((0)) = CLa ((w31)) ((u5_10)) ((1) - 1 : Int).toNat by assumption) rfl
  as_aux_lemma =>
  intro m
  induction m using Nat.strongRecOn with
  | _ m ih4 =>
    intro ls σ F_4 A_4 x4_1 x4_2 l4_0 l4_1 l4_2 H hS_4 hA_4  w4_32 ew4_32 j4_0 j4_1 j4_2 j4_3 j4_4 j4_5 j4_6 hm4
    have j4_k : (x4_1) = su (kq ((w31)) ((u5_10)) ((x4_2))) 256 := j4_5
    have j4_c : fl ((w4_32)) ((x4_1)) = CLa ((w31)) ((u5_10)) ((x4_2) - 1 : Int).toNat := by assumption
    refine Ew_of (pcₚ := 5) (fun _ => x_iload_n rfl l4_2) ?_
    refine Ew_of (pcₚ := 6) (fun _ => x_aload_n rfl l4_0) ?_
    refine w_gI H (o := 5) (w := u5_10) rfl (H.perm 5 rfl) rfl rfl rfl (fun _ => rfl) ((hS_4 5 10 rfl).trans (eu5_10)) ?_
    refine w_icmpgt (t := 91) rfl rfl (show inr (x4_2) from j4_1) (show inr (u5_10) from q_1389 r1) (fun b2 => ?_) (fun b2 => ?_)
    · have hall := CI_all hci
      have : fl ((w4_32)) (p2 ((u5_10))) = CELS ((w31)) ((u5_10)) := by rw [show (x4_2) = (u5_10) + 1 by omega] at j4_c j4_k; rw [← hall, ← j4_k, j4_c]; unfold CELS; rw [show (u5_10) + 1 - 1 = (u5_10) by omega]
      exact w_ret rfl (k σ _ _ H (SF_trans (SF_refl) hS_4 (any_sub rfl)) (SA_trans (SA_refl) hA_4 (any_subA rfl)) (w4_32) (ew4_32) (show fl ((w4_32)) (p2 ((u5_10))) = CELS ((w31)) ((u5_10)) by assumption))
    · refine Ew_of (pcₚ := 13) (fun _ => x_iconst rfl) ?_
      refine Ew_of (pcₚ := 14) (fun _ => x_istore_n rfl) ?_
      have : su (ke ((w31)) ((u5_10)) ((x4_2))) (0 : Int).toNat = 0 := rfl
      have : fl ((w4_32)) ((x4_1)) = CLa ((w31)) ((u5_10)) ((x4_2) - 1 : Int).toNat ++ CLw ((w31)) ((u5_10)) ((x4_2)) (0 : Int).toNat := by rw [j4_c]; exact (List.append_nil _).symm
      suffices hl14 : ∀ (m : Nat), ∀ (ls : rO) (σ : rS) (F_14 : hF) (A_14 : hA) (x14_1 : Int) (x14_3 : Int), rlook ls 0 = some (.ref (D 5)) → rlook ls 1 = some (I (x14_1)) → rlook ls 2 = some (I (x4_2)) → rlook ls 3 = some (I (x14_3)) → HS σ0 σ D N F_14 A_14 → SF [] F_4 F_14 → SA [32] A_4 A_14 → ∀ w14_32 : Int → Int, A_14 32 = w14_32 → (inr (x14_1)) → (inr (x14_3)) → ((0) ≤ (x14_3)) → ((x14_3) ≤ (0) ∨ (x14_3) ≤ ((256))) → ((x14_1) = su (kq ((w31)) ((u5_10)) ((x4_2))) 256 + su (ke ((w31)) ((u5_10)) ((x4_2))) ((x14_3) : Int).toNat) → (fl ((w14_32)) ((x14_1)) = CLa ((w31)) ((u5_10)) ((x4_2) - 1 : Int).toNat ++ CLw ((w31)) ((u5_10)) ((x4_2)) ((x14_3) : Int).toNat) → (((256)) - (x14_3)).toNat = m → Ew 269 (d + 0) 14 ls [] σ c s Q from
        hl14 _ _ σ _ _ (x4_1) (0) (rk_o (l4_0) rfl rfl) (rk_o (l4_1) rfl rfl) (rk_o (l4_2) rfl rfl) (rk_s) H (SF_refl) (SA_refl)  (w4_32) (ew4_32) (show inr (x4_1) from j4_0) (show inr (0) from q_2) (show (0) ≤ (0) from q_1) (show (0) ≤ (0) ∨ (0) ≤ ((256)) from q_0) (show (x4_1) = su (kq ((w31)) ((u5_10)) ((x4_2))) 256 + su (ke ((w31)) ((u5_10)) ((x4_2))) ((0) : Int).toNat by omega) (show fl ((w4_32)) ((x4_1)) = CLa ((w31)) ((u5_10)) ((x4_2) - 1 : Int).toNat ++ CLw ((w31)) ((u5_10)) ((x4_2)) ((0) : Int).toNat by assumption) rfl
      as_aux_lemma =>
      intro m
      induction m using Nat.strongRecOn with
      | _ m ih14 =>
        intro ls σ F_14 A_14 x14_1 x14_3 l14_0 l14_1 l14_2 l14_3 H hS_14 hA_14  w14_32 ew14_32 j14_0 j14_1 j14_2 j14_3 j14_4 j14_5 hm14
        have j14_c : fl ((w14_32)) ((x14_1)) = CLa ((w31)) ((u5_10)) ((x4_2) - 1 : Int).toNat ++ CLw ((w31)) ((u5_10)) ((x4_2)) ((x14_3) : Int).toNat := by assumption
        obtain ⟨q3, hq3⟩ : ∃ q : Int, q = (x14_3) := ⟨_, rfl⟩
        refine Ew_of (pcₚ := 15) (fun _ => x_iload_n rfl l14_3) ?_
        refine Ew_of (pcₚ := 18) (fun _ => x_sipush (z := 256) rfl (by decide)) ?_
        refine w_icmpge (t := 85) rfl rfl (show inr (x14_3) from j14_1) (show inr (256) from q_3) (fun b3 => ?_) (fun b3 => ?_)
        · have : su (ke ((w31)) ((u5_10)) ((x4_2))) ((x14_3) : Int).toNat = su (ke ((w31)) ((u5_10)) ((x4_2))) 256 := by rw [show (x14_3) = 256 by omega]; rfl
          have := kq_s (g := (w31)) (T := (u5_10)) (w := (x4_2)) (n := 256)
          have : fl ((w14_32)) ((x14_1)) = CLa ((w31)) ((u5_10)) ((x4_2) + 1 - 1 : Int).toNat := CEL_a j14_c (by omega) (by omega) rfl
          refine Ew_of (pcₚ := 88) (fun _ => x_iinc (len := 3) rfl (l14_2)) ?_
          refine Ew_of (pcₚ := 4) (fun _ => x_goto rfl rfl) ?_
          exact ih4 _ (msE hm4 q_77 (q_890 b2)) _ σ _ _ (x14_1) ((x4_2 + 1)) (rk_o (l14_0) rfl rfl) (rk_o (l14_1) rfl rfl) (rk_s) H (SF_trans (hS_4) hS_14 (any_sub rfl)) (SA_trans (hA_4) hA_14 (any_subA rfl))  (w14_32) (ew14_32) (show inr (x14_1) from j14_0) (show inr ((x4_2 + 1)) from q_1391 b2 j4_4 r1) (show (1) ≤ ((x4_2 + 1)) from q_888 j4_4) (show ((x4_2 + 1)) ≤ (1) ∨ ((x4_2 + 1)) ≤ (((u5_10) + 1)) from q_1390 b2) (show 1 ≤ ((x4_2 + 1)) from q_888 j4_4) (show (x14_1) = su (kq ((w31)) ((u5_10)) (((x4_2 + 1)))) 256 by omega) (show fl ((w14_32)) ((x14_1)) = CLa ((w31)) ((u5_10)) (((x4_2 + 1)) - 1 : Int).toNat by assumption) rfl
        · have hks := su_s (f := ke ((w31)) ((u5_10)) ((x4_2))) (i := (x14_3)) (by omega)
          have hke := ke_eq ((w31)) ((u5_10)) ((x4_2)) ((x14_3))
          have hro := CI_room (w := (x4_2)) (s := (x14_3) + 1) hci (by omega) (by omega)
          have hpp := p2_pos ((x4_2) - 1)
          have hro2 := CI_room (w := (x4_2)) (s := (x14_3)) hci (by omega) (by omega)
          refine Ew_of (pcₚ := 22) (fun _ => x_aload_n rfl l14_0) ?_
          refine w_gT H (o := 5) (t := 31) rfl (H.perm 5 rfl) rfl rfl rfl rfl rfl rfl ?_
          refine Ew_of (pcₚ := 26) (fun _ => x_iload_n rfl l14_3) ?_
          refine w_lI H (o := 31) (n := 256) rfl (H.perm 31 rfl) rfl rfl (H.fix 31 rfl rfl) (show 0 ≤ x14_3 ∧ x14_3 < ((256 : Nat) : Int) from q_23 b3 j14_2) (by decide) (fun v4 ev4 qv4 => ?_)
          have qv4 : (0 : Int) ≤ v4 ∧ v4 ≤ 11 := qv4
          have ev4 : (w31) (x14_3) = v4 := (congrFun ((funext (hA_14 31 rfl)).trans ((funext (hA_4 31 rfl)).trans (ew31))) (x14_3)).symm.trans ev4
          have hl1 := ev4
          refine w_ifeq (t := 79) rfl rfl (show inr (v4) from q_1389 qv4) (fun b5 => ?_) (fun b5 => ?_)
          · refine Ew_of (pcₚ := 82) (fun _ => x_iinc (len := 3) rfl (l14_3)) ?_
            refine Ew_of (pcₚ := 14) (fun _ => x_goto rfl rfl) ?_
            have : fl ((w14_32)) ((x14_1)) = CLa ((w31)) ((u5_10)) ((x4_2) - 1 : Int).toNat ++ CLw ((w31)) ((u5_10)) ((x4_2)) (((x14_3 + 1)) : Int).toNat := by first | exact CEL_y j53_c (by omega) (by omega) (by omega) (by omega) | exact CEL_n j14_c (by omega) (by omega) (by omega)
            exact ih14 _ (msE hm14 q_26 (q_27 b3)) _ σ _ _ (x14_1) ((x14_3 + 1)) (rk_o (l14_0) rfl rfl) (rk_o (l14_1) rfl rfl) (rk_o (l14_2) rfl rfl) (rk_s) H (hS_14) (hA_14)  (w14_32) (ew14_32) (show inr (x14_1) from j14_0) (show inr ((x14_3 + 1)) from q_25 b3 j14_2) (show (0) ≤ ((x14_3 + 1)) from q_14 j14_2) (show ((x14_3 + 1)) ≤ (0) ∨ ((x14_3 + 1)) ≤ ((256)) from q_24 b3) (show (x14_1) = su (kq ((w31)) ((u5_10)) ((x4_2))) 256 + su (ke ((w31)) ((u5_10)) ((x4_2))) (((x14_3 + 1)) : Int).toNat by omega) (show fl ((w14_32)) ((x14_1)) = CLa ((w31)) ((u5_10)) ((x4_2) - 1 : Int).toNat ++ CLw ((w31)) ((u5_10)) ((x4_2)) (((x14_3 + 1)) : Int).toNat by assumption) rfl
          · refine Ew_of (pcₚ := 31) (fun _ => x_aload_n rfl l14_0) ?_
            refine w_gI H (o := 5) (w := u5_10) rfl (H.perm 5 rfl) rfl rfl rfl (fun _ => rfl) (((hS_14 5 10 rfl).trans (hS_4 5 10 rfl)).trans (eu5_10)) ?_
            refine Ew_of (pcₚ := 35) (fun _ => x_iconst rfl) ?_
            refine w_iadd rfl ?_
            refine Ew_of (pcₚ := 37) (fun _ => x_aload_n rfl l14_0) ?_
            refine w_gT H (o := 5) (t := 31) rfl (H.perm 5 rfl) rfl rfl rfl rfl rfl rfl ?_
            refine Ew_of (pcₚ := 41) (fun _ => x_iload_n rfl l14_3) ?_
            refine w_lI H (o := 31) (n := 256) rfl (H.perm 31 rfl) rfl rfl (H.fix 31 rfl rfl) (show 0 ≤ x14_3 ∧ x14_3 < ((256 : Nat) : Int) from q_23 b3 j14_2) (by decide) (fun v6 ev6 qv6 => ?_)
            have qv6 : (0 : Int) ≤ v6 ∧ v6 ≤ 11 := qv6
            have ev6 : (w31) (x14_3) = v6 := (congrFun ((funext (hA_14 31 rfl)).trans ((funext (hA_4 31 rfl)).trans (ew31))) (x14_3)).symm.trans ev6
            have hl2 := ev6
            refine w_isub rfl ?_
            refine Ew_of (pcₚ := 44) (fun _ => x_iload_n rfl l14_2) ?_
            refine w_icmpeq (t := 50) rfl rfl (show inr (((u5_10 + 1) - v6)) from q_1392 qv6 r1) (show inr (x4_2) from j4_1) (fun b7 => ?_) (fun b7 => ?_)
            · refine Ew_of (pcₚ := 51) (fun _ => x_iconst rfl) ?_
              refine Ew_of (pcₚ := 53) (fun _ => x_istore rfl) ?_
              have : fl ((w14_32)) ((x14_1)) = (CLa ((w31)) ((u5_10)) ((x4_2) - 1 : Int).toNat ++ CLw ((w31)) ((u5_10)) ((x4_2)) ((x14_3) : Int).toNat) ++ List.replicate (0 : Int).toNat ((x14_3)) := by rw [j14_c]; exact (List.append_nil _).symm
              suffices hl53 : ∀ (m : Nat), ∀ (ls : rO) (σ : rS) (F_53 : hF) (A_53 : hA) (x53_1 : Int) (x53_4 : Int), rlook ls 0 = some (.ref (D 5)) → rlook ls 1 = some (I (x53_1)) → rlook ls 2 = some (I (x4_2)) → rlook ls 3 = some (I (x14_3)) → rlook ls 4 = some (I (x53_4)) → HS σ0 σ D N F_53 A_53 → SF [] F_14 F_53 → SA [32] A_14 A_53 → ∀ w53_32 : Int → Int, A_53 32 = w53_32 → (inr (x53_1)) → (inr (x53_4)) → (0 ≤ (x53_4) ∧ (x53_4) ≤ p2 ((x4_2) - 1)) → ((x53_1) = (x14_1) + (x53_4)) → (fl ((w53_32)) ((x53_1)) = (CLa ((w31)) ((u5_10)) ((x4_2) - 1 : Int).toNat ++ CLw ((w31)) ((u5_10)) ((x4_2)) ((x14_3) : Int).toNat) ++ List.replicate ((x53_4) : Int).toNat ((x14_3))) → (p2 ((x4_2) - 1) - (x53_4)).toNat = m → Ew 269 (d + 0) 53 ls [] σ c s Q from
                hl53 _ _ σ _ _ (x14_1) (0) (rk_o (l14_0) rfl rfl) (rk_o (l14_1) rfl rfl) (rk_o (l14_2) rfl rfl) (rk_o (l14_3) rfl rfl) (rk_s) H (SF_refl) (SA_refl)  (w14_32) (ew14_32) (show inr (x14_1) from j14_0) (show inr (0) from q_2) (show 0 ≤ (0) ∧ (0) ≤ p2 ((x4_2) - 1) by omega) (show (x14_1) = (x14_1) + (0) from q_365) (show fl ((w14_32)) ((x14_1)) = (CLa ((w31)) ((u5_10)) ((x4_2) - 1 : Int).toNat ++ CLw ((w31)) ((u5_10)) ((x4_2)) ((x14_3) : Int).toNat) ++ List.replicate ((0) : Int).toNat ((x14_3)) by assumption) rfl
              as_aux_lemma =>
              intro m
              induction m using Nat.strongRecOn with
              | _ m ih53 =>
                intro ls σ F_53 A_53 x53_1 x53_4 l53_0 l53_1 l53_2 l53_3 l53_4 H hS_53 hA_53  w53_32 ew53_32 j53_0 j53_1 j53_2 j53_3 j53_4 hm53
                have j53_c : fl ((w53_32)) ((x53_1)) = (CLa ((w31)) ((u5_10)) ((x4_2) - 1 : Int).toNat ++ CLw ((w31)) ((u5_10)) ((x4_2)) ((x14_3) : Int).toNat) ++ List.replicate ((x53_4) : Int).toNat ((x14_3)) := by assumption
                obtain ⟨q4, hq4⟩ : ∃ q : Int, q = (x53_4) := ⟨_, rfl⟩
                refine Ew_of (pcₚ := 55) (fun _ => x_iload rfl l53_4) ?_
                refine Ew_of (pcₚ := 56) (fun _ => x_iconst rfl) ?_
                refine Ew_of (pcₚ := 57) (fun _ => x_iload_n rfl l53_2) ?_
                refine Ew_of (pcₚ := 58) (fun _ => x_iconst rfl) ?_
                refine w_isub rfl ?_
                refine w_ishl1 rfl (show 0 ≤ (x4_2 - 1) ∧ (x4_2 - 1) ≤ 31 from q_1393 b2 j4_4 r1) ?_
                refine w_icmpge (t := 79) rfl rfl (show inr (x53_4) from j53_1) (show inr (p2 ((x4_2 - 1))) by omega) (fun b9 => ?_) (fun b9 => ?_)
                · refine Ew_of (pcₚ := 82) (fun _ => x_iinc (len := 3) rfl (l53_3)) ?_
                  refine Ew_of (pcₚ := 14) (fun _ => x_goto rfl rfl) ?_
                  have : fl ((w53_32)) ((x53_1)) = CLa ((w31)) ((u5_10)) ((x4_2) - 1 : Int).toNat ++ CLw ((w31)) ((u5_10)) ((x4_2)) (((x14_3 + 1)) : Int).toNat := by first | exact CEL_y j53_c (by omega) (by omega) (by omega) (by omega) | exact CEL_n j14_c (by omega) (by omega) (by omega)
                  exact ih14 _ (msE hm14 q_26 (q_27 b3)) _ σ _ _ (x53_1) ((x14_3 + 1)) (rk_o (l53_0) rfl rfl) (rk_o (l53_1) rfl rfl) (rk_o (l53_2) rfl rfl) (rk_s) H (SF_trans (hS_14) hS_53 (any_sub rfl)) (SA_trans (hA_14) hA_53 (any_subA rfl))  (w53_32) (ew53_32) (show inr (x53_1) from j53_0) (show inr ((x14_3 + 1)) from q_25 b3 j14_2) (show (0) ≤ ((x14_3 + 1)) from q_14 j14_2) (show ((x14_3 + 1)) ≤ (0) ∨ ((x14_3 + 1)) ≤ ((256)) from q_24 b3) (show (x53_1) = su (kq ((w31)) ((u5_10)) ((x4_2))) 256 + su (ke ((w31)) ((u5_10)) ((x4_2))) (((x14_3 + 1)) : Int).toNat by omega) (show fl ((w53_32)) ((x53_1)) = CLa ((w31)) ((u5_10)) ((x4_2) - 1 : Int).toNat ++ CLw ((w31)) ((u5_10)) ((x4_2)) (((x14_3 + 1)) : Int).toNat by assumption) rfl
                · refine Ew_of (pcₚ := 64) (fun _ => x_aload_n rfl l53_0) ?_
                  refine w_gT H (o := 5) (t := 32) rfl (H.perm 5 rfl) rfl rfl rfl rfl rfl rfl ?_
                  refine Ew_of (pcₚ := 68) (fun _ => x_iload_n rfl l53_1) ?_
                  refine Ew_of (pcₚ := 69) (fun _ => x_iload_n rfl l53_3) ?_
                  refine w_sI H (o := 32) (n := 2048) rfl (H.perm 32 rfl) rfl rfl (H.fix 32 rfl rfl) (show 0 ≤ x53_1 ∧ x53_1 < ((2048 : Nat) : Int) by omega) (by decide) (show (0 : Int) ≤ x14_3 ∧ x14_3 ≤ 255 from q_1394 b3 j14_2) (fun σ H => ?_)
                  refine Ew_of (pcₚ := 73) (fun _ => x_iinc (len := 3) rfl (l53_1)) ?_
                  refine Ew_of (pcₚ := 76) (fun _ => x_iinc (len := 3) rfl (rk_o (l53_4) rfl rfl)) ?_
                  refine Ew_of (pcₚ := 53) (fun _ => x_goto rfl rfl) ?_
                  have : fl ((upd1 (w53_32) (x53_1) (x14_3))) (((x53_1 + 1))) = (CLa ((w31)) ((u5_10)) ((x4_2) - 1 : Int).toNat ++ CLw ((w31)) ((u5_10)) ((x4_2)) ((x14_3) : Int).toNat) ++ List.replicate (((x53_4 + 1)) : Int).toNat ((x14_3)) := CEL_k j53_c (by omega) (by omega) rfl rfl
                  exact ih53 _ (msE hm53 q_16 (q_17 b9)) _ σ _ _ ((x53_1 + 1)) ((x53_4 + 1)) (rk_o (rk_o (l53_0) rfl rfl) rfl rfl) (rk_o (rk_s) rfl rfl) (rk_o (rk_o (l53_2) rfl rfl) rfl rfl) (rk_o (rk_o (l53_3) rfl rfl) rfl rfl) (rk_s) H (hS_53) (SA_upd (hA_53) rfl)  (upd1 (w53_32) (x53_1) (x14_3)) (congrArg (fun q => upd1 q (x53_1) (x14_3)) (ew53_32)) (show inr ((x53_1 + 1)) by omega) (show inr ((x53_4 + 1)) by omega) (show 0 ≤ ((x53_4 + 1)) ∧ ((x53_4 + 1)) ≤ p2 ((x4_2) - 1) from q_1395 b9 j53_2) (show ((x53_1 + 1)) = (x14_1) + ((x53_4 + 1)) from q_541 j53_3) (show fl ((upd1 (w53_32) (x53_1) (x14_3))) (((x53_1 + 1))) = (CLa ((w31)) ((u5_10)) ((x4_2) - 1 : Int).toNat ++ CLw ((w31)) ((u5_10)) ((x4_2)) ((x14_3) : Int).toNat) ++ List.replicate (((x53_4 + 1)) : Int).toNat ((x14_3)) by assumption) rfl
            · refine Ew_of (pcₚ := 79) (fun _ => x_goto rfl rfl) ?_
              refine Ew_of (pcₚ := 82) (fun _ => x_iinc (len := 3) rfl (l14_3)) ?_
              refine Ew_of (pcₚ := 14) (fun _ => x_goto rfl rfl) ?_
              have : fl ((w14_32)) ((x14_1)) = CLa ((w31)) ((u5_10)) ((x4_2) - 1 : Int).toNat ++ CLw ((w31)) ((u5_10)) ((x4_2)) (((x14_3 + 1)) : Int).toNat := by first | exact CEL_y j53_c (by omega) (by omega) (by omega) (by omega) | exact CEL_n j14_c (by omega) (by omega) (by omega)
              exact ih14 _ (msE hm14 q_26 (q_27 b3)) _ σ _ _ (x14_1) ((x14_3 + 1)) (rk_o (l14_0) rfl rfl) (rk_o (l14_1) rfl rfl) (rk_o (l14_2) rfl rfl) (rk_s) H (hS_14) (hA_14)  (w14_32) (ew14_32) (show inr (x14_1) from j14_0) (show inr ((x14_3 + 1)) from q_25 b3 j14_2) (show (0) ≤ ((x14_3 + 1)) from q_14 j14_2) (show ((x14_3 + 1)) ≤ (0) ∨ ((x14_3 + 1)) ≤ ((256)) from q_24 b3) (show (x14_1) = su (kq ((w31)) ((u5_10)) ((x4_2))) 256 + su (ke ((w31)) ((u5_10)) ((x4_2))) (((x14_3 + 1)) : Int).toNat by omega) (show fl ((w14_32)) ((x14_1)) = CLa ((w31)) ((u5_10)) ((x4_2) - 1 : Int).toNat ++ CLw ((w31)) ((u5_10)) ((x4_2)) (((x14_3 + 1)) : Int).toNat by assumption) rfl

theorem M270 {σ0 σ : rS} {D N : Nat → Nat} {F : hF} {A : hA} {d c s : Nat} {Q : wQ} (H : HS σ0 σ D N F A) {a1 : Int} (h0 : inr (a1)) (k : ∀ (z : Int) σ Fₚ Aₚ, HS σ0 σ D N Fₚ Aₚ → SF [] F Fₚ → SA [] A Aₚ → ((z) = 0 ∨ (z) = 1) → ((z) = 1 → IP ((a1))) → (IMP (((z) : Int) = 0) (¬ IP ((a1)))) → Q (some (I z)) σ c s) : Ew 270 (d + 1) 0 (rargs 0 [.ref (D 5), I a1]) [] σ c s Q := by
  refine Ew_of (pcₚ := 1) (fun _ => x_iload_n rfl rfl) ?_
  refine w_ifle (t := 18) rfl rfl (show inr (a1) from h0) (fun b1 => ?_) (fun b1 => ?_)
  · refine Ew_of (pcₚ := 19) (fun _ => x_iconst rfl) ?_
    have : IMP (((0) : Int) = 0) (¬ IP ((a1))) := by first | exact fun z => absurd z (by omega) | exact fun _ => hnp (by omega) | exact fun _ q => by obtain ⟨h, h0, e⟩ := q; have := p2_pos h; omega
    exact w_ireturn rfl (k (0) σ _ _ H (SF_refl) (SA_refl) (show (0) = 0 ∨ (0) = 1 by first | exact q_45 | omega) (show (0) = 1 → IP (a1) by first | assumption | exact fun h => absurd rfl h | exact fun h => absurd h (by decide) | omega) (show IMP (((0) : Int) = 0) (¬ IP (a1)) by assumption))
  · refine Ew_of (pcₚ := 5) (fun _ => x_iconst rfl) ?_
    refine Ew_of (pcₚ := 6) (fun _ => x_iload_n rfl rfl) ?_
    refine w_stat24 rfl rfl (by rfl) (M260 H (show inr (a1) from h0) (show 0 ≤ (a1) from q_1396 b1) (fun z6 σ F2 A3 H hS4 hA5 pz6_0 pz6_1 pz6_2 => ⟨rfl, ?_⟩))
    have hex : p2 ((z6)) = (a1) → ((1 : Int) = 1 → IP ((a1))) := fun e _ => ⟨(z6), by omega, e⟩
    have hnp : p2 ((z6)) ≠ (a1) → ¬ IP ((a1)) := fun e q => e (IP_eq q (by omega) (by omega) (by omega))
    refine w_ishl1 rfl (show 0 ≤ z6 ∧ z6 ≤ 31 from q_1397 b1 pz6_1 pz6_2) ?_
    refine Ew_of (pcₚ := 11) (fun _ => x_iload_n rfl rfl) ?_
    refine w_icmpne (t := 18) rfl rfl (show inr (p2 (z6)) from q_1398 b1 h0 hnp pz6_2) (show inr (a1) from h0) (fun b8 => ?_) (fun b8 => ?_)
    · refine Ew_of (pcₚ := 19) (fun _ => x_iconst rfl) ?_
      have : IMP (((0) : Int) = 0) (¬ IP ((a1))) := by first | exact fun z => absurd z (by omega) | exact fun _ => hnp (by omega) | exact fun _ q => by obtain ⟨h, h0, e⟩ := q; have := p2_pos h; omega
      exact w_ireturn rfl (k (0) σ _ _ H (SF_trans (SF_refl) hS4 (any_sub rfl)) (SA_trans (SA_refl) hA5 (any_subA rfl)) (show (0) = 0 ∨ (0) = 1 by first | exact q_45 | omega) (show (0) = 1 → IP (a1) by first | assumption | exact fun h => absurd rfl h | exact fun h => absurd h (by decide) | omega) (show IMP (((0) : Int) = 0) (¬ IP (a1)) by assumption))
    · have := hex (by omega)
      refine Ew_of (pcₚ := 15) (fun _ => x_iconst rfl) ?_
      refine Ew_of (pcₚ := 19) (fun _ => x_goto rfl rfl) ?_
      have : IMP (((1) : Int) = 0) (¬ IP ((a1))) := by first | exact fun z => absurd z (by omega) | exact fun _ => hnp (by omega) | exact fun _ q => by obtain ⟨h, h0, e⟩ := q; have := p2_pos h; omega
      exact w_ireturn rfl (k (1) σ _ _ H (SF_trans (SF_refl) hS4 (any_sub rfl)) (SA_trans (SA_refl) hA5 (any_subA rfl)) (show (1) = 0 ∨ (1) = 1 by first | exact q_49 | omega) (show (1) = 1 → IP (a1) by first | assumption | exact fun h => absurd rfl h | exact fun h => absurd h (by decide) | omega) (show IMP (((1) : Int) = 0) (¬ IP (a1)) by assumption))

