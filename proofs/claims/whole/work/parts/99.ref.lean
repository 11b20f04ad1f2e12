/-- Model.load -/
theorem M74p {σ0 σ : rS} {D N : Nat → Nat} {F : hF} {A : hA} {d c s : Nat} {Q : wQ} (H : HS σ0 σ D N F A) {a1 : Int} (w10 : Int → Int) (ew10 : A 10 = w10) (w11 : Int → Int) (ew11 : A 11 = w11) (h0 : inr (a1)) (h1 : 0 ≤ (a1) ∧ (a1) ≤ 3) (k : ∀ σ F' A', HS σ0 σ D N F' A' → SF [(1, 1)] F F' → SA [14] A A' → ∀ y1_1 : Int, F' 1 1 = y1_1 → ∀ v14 : Int → Int, A' 14 = v14 → ((y1_1) = ((w11)) ((a1))) → (sc ((v14)) 0 ((y1_1)) = rwR ((w10)) ((w11)) ((a1))) → Q none σ c s) : Ew 74 (d + 0) 0 (rargs 0 [.ref (D 0), I a1]) [] σ c s Q := by
  have hSz : ∀ i, (0 : Int) ≤ (w11) i ∧ (w11) i ≤ 65536 := fun i => by have h1 : (0 : Int) ≤ A 11 i ∧ A 11 i ≤ 65536 := H.arng 11 i; rw [show A 11 = w11 from ew11] at h1; exact h1
  have hsa := hSz ((a1))
  refine Ew_of (pc' := 1) (fun _ => x_iconst rfl) ?_
  refine Ew_of (pc' := 2) (fun _ => x_istore_n rfl) ?_
  have : ∀ k, 0 ≤ k → k < 0 → ((A 14)) k = ((w10)) (65536 * (a1) + k) := fun k a b => absurd b (by omega)
  suffices hl2 : ∀ (m : Nat), ∀ (ls : rO) (σ : rS) (F_2 : hF) (A_2 : hA) (x2_2 : Int), rlook ls 0 = some (.ref (D 0)) → rlook ls 1 = some (I (a1)) → rlook ls 2 = some (I (x2_2)) → HS σ0 σ D N F_2 A_2 → SF [] F F_2 → SA [14] A A_2 → ∀ w2_14 : Int → Int, A_2 14 = w2_14 → (inr (x2_2)) → (0 ≤ (x2_2) ∧ (x2_2) ≤ ((w11)) ((a1))) → (∀ k, 0 ≤ k → k < (x2_2) → ((w2_14)) k = ((w10)) (65536 * (a1) + k)) → (65536 - (x2_2)).toNat = m → Ew 74 (d + 0) 2 ls [] σ c s Q from
    hl2 _ _ σ _ _ (0) (rk_o (rfl) rfl rfl) (rk_o (rfl) rfl rfl) (rk_s) H (SF_refl) (SA_refl)  (A 14) (rfl) (show inr (0) by omega) (show 0 ≤ (0) ∧ (0) ≤ ((w11)) ((a1)) by omega) (show ∀ k, 0 ≤ k → k < (0) → ((A 14)) k = ((w10)) (65536 * (a1) + k) by assumption) rfl
  as_aux_lemma =>
  intro m
  induction m using Nat.strongRecOn with
  | _ m ih2 =>
    intro ls σ F_2 A_2 x2_2 l2_0 l2_1 l2_2 H hS_2 hA_2  w2_14 ew2_14 j2_0 j2_1 j2_2 hm2
    have j2_a : ∀ k, 0 ≤ k → k < (x2_2) → ((w2_14)) k = ((w10)) (65536 * (a1) + k) := by assumption
    obtain ⟨q2, hq2⟩ : ∃ q : Int, q = (x2_2) := ⟨_, rfl⟩
    refine Ew_of (pc' := 3) (fun _ => x_iload_n rfl l2_2) ?_
    refine Ew_of (pc' := 4) (fun _ => x_aload_n rfl l2_0) ?_
    refine w_gT H (o := 0) (t := 11) rfl (H.perm 0 rfl) rfl rfl rfl rfl rfl rfl ?_
    refine Ew_of (pc' := 8) (fun _ => x_iload_n rfl l2_1) ?_
    refine w_lI H (o := 11) (n := 4) rfl (H.perm 11 rfl) rfl rfl (H.fix 11 rfl rfl) (show 0 ≤ a1 ∧ a1 < ((4 : Nat) : Int) by omega) (by decide) (fun v1 ev1 qv1 => ?_)
    have qv1 : (0 : Int) ≤ v1 ∧ v1 ≤ 65536 := qv1
    have ev1 : (w11) (a1) = v1 := (congrFun ((funext (hA_2 11 rfl)).trans (ew11)) (a1)).symm.trans ev1
    have hs9 := ev1
    refine w_icmpge (t := 38) rfl rfl (show inr (x2_2) by omega) (show inr (v1) by omega) (fun b2 => ?_) (fun b2 => ?_)
    · refine Ew_of (pc' := 39) (fun _ => x_aload_n rfl l2_0) ?_
      refine w_gT H (o := 0) (t := 1) rfl (H.perm 0 rfl) rfl rfl rfl rfl rfl rfl ?_
      refine Ew_of (pc' := 43) (fun _ => x_aload_n rfl l2_0) ?_
      refine w_gT H (o := 0) (t := 11) rfl (H.perm 0 rfl) rfl rfl rfl rfl rfl rfl ?_
      refine Ew_of (pc' := 47) (fun _ => x_iload_n rfl l2_1) ?_
      refine w_lI H (o := 11) (n := 4) rfl (H.perm 11 rfl) rfl rfl (H.fix 11 rfl rfl) (show 0 ≤ a1 ∧ a1 < ((4 : Nat) : Int) by omega) (by decide) (fun v3 ev3 qv3 => ?_)
      have qv3 : (0 : Int) ≤ v3 ∧ v3 ≤ 65536 := qv3
      have ev3 : (w11) (a1) = v3 := (congrFun ((funext (hA_2 11 rfl)).trans (ew11)) (a1)).symm.trans ev3
      have hs48 := ev3
      refine w_pI H (o := 1) rfl rfl (H.perm 1 rfl) rfl rfl rfl (fun _ => rfl) rfl (show (0 : Int) ≤ v3 ∧ v3 ≤ 65536 by omega) (fun σ H => ?_)
      have : sc ((w2_14)) 0 ((v3)) = rwR ((w10)) ((w11)) ((a1)) := rwR_in (by omega) (fun k a b => j2_a k a (by omega))
      exact w_ret rfl (k σ _ _ H (SF_upd (SF_trans (SF_refl) hS_2 (any_sub rfl)) rfl) (SA_trans (SA_refl) hA_2 (any_subA rfl)) (v3) (rfl) (w2_14) (ew2_14) (show (v3) = ((w11)) (a1) by omega) (show sc ((w2_14)) 0 ((v3)) = rwR ((w10)) ((w11)) (a1) by assumption))
    · refine Ew_of (pc' := 13) (fun _ => x_aload_n rfl l2_0) ?_
      refine w_gT H (o := 0) (t := 1) rfl (H.perm 0 rfl) rfl rfl rfl rfl rfl rfl ?_
      refine w_gT H (o := 1) (t := 14) rfl (H.perm 1 rfl) rfl rfl rfl rfl rfl rfl ?_
      refine Ew_of (pc' := 20) (fun _ => x_iload_n rfl l2_2) ?_
      refine Ew_of (pc' := 21) (fun _ => x_aload_n rfl l2_0) ?_
      refine w_gT H (o := 0) (t := 10) rfl (H.perm 0 rfl) rfl rfl rfl rfl rfl rfl ?_
      refine Ew_of (pc' := 26) (fun _ => x_ldc (z := 65536) rfl (by decide)) ?_
      refine Ew_of (pc' := 27) (fun _ => x_iload_n rfl l2_1) ?_
      refine w_imul rfl ?_
      refine Ew_of (pc' := 29) (fun _ => x_iload_n rfl l2_2) ?_
      refine w_iadd rfl ?_
      refine w_lI H (o := 10) (n := 262144) rfl (H.perm 10 rfl) rfl rfl (H.fix 10 rfl rfl) (show 0 ≤ ((65536 * a1) + x2_2) ∧ ((65536 * a1) + x2_2) < ((262144 : Nat) : Int) by omega) (by decide) (fun v4 ev4 qv4 => ?_)
      have qv4 : (0 : Int) ≤ v4 ∧ v4 ≤ 255 := qv4
      have ev4 : (w10) (((65536 * a1) + x2_2)) = v4 := (congrFun ((funext (hA_2 10 rfl)).trans (ew10)) (((65536 * a1) + x2_2))).symm.trans ev4
      have hv31 := ev4
      refine w_sI H (o := 14) (n := 65536) rfl (H.perm 14 rfl) rfl rfl (H.fix 14 rfl rfl) (show 0 ≤ x2_2 ∧ x2_2 < ((65536 : Nat) : Int) by omega) (by decide) (show (0 : Int) ≤ v4 ∧ v4 ≤ 255 by omega) (fun σ H => ?_)
      refine Ew_of (pc' := 35) (fun _ => x_iinc (len := 3) rfl (l2_2)) ?_
      refine Ew_of (pc' := 2) (fun _ => x_goto rfl rfl) ?_
      have : ∀ k, 0 ≤ k → k < ((x2_2 + 1)) → ((upd1 (w2_14) (x2_2) (v4))) k = ((w10)) (65536 * (a1) + k) := fun k x y => by by_cases e : k = q2; (rw [e, hq2, upd1_s]; exact hv31.symm); (rw [upd1_o (by omega)]; exact j2_a k x (by omega))
      exact ih2 _ (by omega) _ σ _ _ ((x2_2 + 1)) (rk_o (l2_0) rfl rfl) (rk_o (l2_1) rfl rfl) (rk_s) H (hS_2) (SA_upd (hA_2) rfl)  (upd1 (w2_14) (x2_2) (v4)) (congrArg (fun q => upd1 q (x2_2) (v4)) (ew2_14)) (show inr ((x2_2 + 1)) by omega) (show 0 ≤ ((x2_2 + 1)) ∧ ((x2_2 + 1)) ≤ ((w11)) ((a1)) by omega) (show ∀ k, 0 ≤ k → k < ((x2_2 + 1)) → ((upd1 (w2_14) (x2_2) (v4))) k = ((w10)) (65536 * (a1) + k) by assumption) rfl
/-- Model.store -/
theorem M75p {σ0 σ : rS} {D N : Nat → Nat} {F : hF} {A : hA} {d c s : Nat} {Q : wQ} (H : HS σ0 σ D N F A) {a1 : Int} (u1_3 : Int) (eu1_3 : F 1 3 = u1_3) (w10 : Int → Int) (ew10 : A 10 = w10) (w11 : Int → Int) (ew11 : A 11 = w11) (w15 : Int → Int) (ew15 : A 15 = w15) (h0 : inr (a1)) (h1 : 0 ≤ (a1) ∧ (a1) ≤ 3) (k : ∀ σ F' A', HS σ0 σ D N F' A' → SF [] F F' → SA [10, 11] A A' → ∀ v10 : Int → Int, A' 10 = v10 → ∀ v11 : Int → Int, A' 11 = v11 → (RWC ((w10)) ((w11)) ((v10)) ((v11)) ((a1)) (sc ((w15)) 0 ((u1_3)))) → Q none σ c s) : Ew 75 (d + 0) 0 (rargs 0 [.ref (D 0), I a1]) [] σ c s Q := by
  have r1 : (0 : Int) ≤ u1_3 ∧ u1_3 ≤ 65536 := by have h1 : (0 : Int) ≤ F 1 3 ∧ F 1 3 ≤ 65536 := H.frng 1 3; rw [show F 1 3 = u1_3 from (eu1_3)] at h1; exact h1
  have hSz : ∀ i, (0 : Int) ≤ (w11) i ∧ (w11) i ≤ 65536 := fun i => by have h1 : (0 : Int) ≤ A 11 i ∧ A 11 i ≤ 65536 := H.arng 11 i; rw [show A 11 = w11 from ew11] at h1; exact h1
  have hOu : ∀ i, (0 : Int) ≤ (w15) i ∧ (w15) i ≤ 255 := fun i => by have h1 : (0 : Int) ≤ A 15 i ∧ A 15 i ≤ 255 := H.arng 15 i; rw [show A 15 = w15 from ew15] at h1; exact h1
  refine Ew_of (pc' := 1) (fun _ => x_iconst rfl) ?_
  refine Ew_of (pc' := 2) (fun _ => x_istore_n rfl) ?_
  have : ∀ k, 0 ≤ k → k < 0 → ((w10)) (65536 * (a1) + k) = ((w15)) k := fun k a b => absurd b (by omega)
  have : ∀ i, i < 65536 * (a1) ∨ 65536 * (a1) + 0 ≤ i → ((w10)) i = ((w10)) i := fun _ _ => rfl
  suffices hl2 : ∀ (m : Nat), ∀ (ls : rO) (σ : rS) (F_2 : hF) (A_2 : hA) (x2_2 : Int), rlook ls 0 = some (.ref (D 0)) → rlook ls 1 = some (I (a1)) → rlook ls 2 = some (I (x2_2)) → HS σ0 σ D N F_2 A_2 → SF [] F F_2 → SA [10] A A_2 → ∀ w2_10 : Int → Int, A_2 10 = w2_10 → (inr (x2_2)) → (0 ≤ (x2_2) ∧ (x2_2) ≤ (u1_3)) → (∀ k, 0 ≤ k → k < (x2_2) → ((w2_10)) (65536 * (a1) + k) = ((w15)) k) → (∀ i, i < 65536 * (a1) ∨ 65536 * (a1) + (x2_2) ≤ i → ((w2_10)) i = ((w10)) i) → (65536 - (x2_2)).toNat = m → Ew 75 (d + 0) 2 ls [] σ c s Q from
    hl2 _ _ σ _ _ (0) (rk_o (rfl) rfl rfl) (rk_o (rfl) rfl rfl) (rk_s) H (SF_refl) (SA_refl)  (w10) (ew10) (show inr (0) by omega) (show 0 ≤ (0) ∧ (0) ≤ (u1_3) by omega) (show ∀ k, 0 ≤ k → k < (0) → ((w10)) (65536 * (a1) + k) = ((w15)) k by assumption) (show ∀ i, i < 65536 * (a1) ∨ 65536 * (a1) + (0) ≤ i → ((w10)) i = ((w10)) i by assumption) rfl
  as_aux_lemma =>
  intro m
  induction m using Nat.strongRecOn with
  | _ m ih2 =>
    intro ls σ F_2 A_2 x2_2 l2_0 l2_1 l2_2 H hS_2 hA_2  w2_10 ew2_10 j2_0 j2_1 j2_2 j2_3 hm2
    have j2_a : ∀ k, 0 ≤ k → k < (x2_2) → ((w2_10)) (65536 * (a1) + k) = ((w15)) k := by assumption
    have j2_o : ∀ i, i < 65536 * (a1) ∨ 65536 * (a1) + (x2_2) ≤ i → ((w2_10)) i = ((w10)) i := by assumption
    obtain ⟨q2, hq2⟩ : ∃ q : Int, q = (x2_2) := ⟨_, rfl⟩
    refine Ew_of (pc' := 3) (fun _ => x_iload_n rfl l2_2) ?_
    refine Ew_of (pc' := 4) (fun _ => x_aload_n rfl l2_0) ?_
    refine w_gT H (o := 0) (t := 1) rfl (H.perm 0 rfl) rfl rfl rfl rfl rfl rfl ?_
    refine w_gI H (o := 1) (w := u1_3) rfl (H.perm 1 rfl) rfl rfl rfl (fun _ => rfl) ((hS_2 1 3 rfl).trans (eu1_3)) ?_
    refine w_icmpge (t := 39) rfl rfl (show inr (x2_2) by omega) (show inr (u1_3) by omega) (fun b2 => ?_) (fun b2 => ?_)
    · refine Ew_of (pc' := 40) (fun _ => x_aload_n rfl l2_0) ?_
      refine w_gT H (o := 0) (t := 11) rfl (H.perm 0 rfl) rfl rfl rfl rfl rfl rfl ?_
      refine Ew_of (pc' := 44) (fun _ => x_iload_n rfl l2_1) ?_
      refine Ew_of (pc' := 45) (fun _ => x_aload_n rfl l2_0) ?_
      refine w_gT H (o := 0) (t := 1) rfl (H.perm 0 rfl) rfl rfl rfl rfl rfl rfl ?_
      refine w_gI H (o := 1) (w := u1_3) rfl (H.perm 1 rfl) rfl rfl rfl (fun _ => rfl) ((hS_2 1 3 rfl).trans (eu1_3)) ?_
      refine w_sI H (o := 11) (n := 4) rfl (H.perm 11 rfl) rfl rfl (H.fix 11 rfl rfl) (show 0 ≤ a1 ∧ a1 < ((4 : Nat) : Int) by omega) (by decide) (show (0 : Int) ≤ u1_3 ∧ u1_3 ≤ 65536 by omega) (fun σ H => ?_)
      have : RWC ((w10)) ((w11)) ((w2_10)) ((upd1 (w11) (a1) (u1_3))) ((a1)) (sc ((w15)) 0 ((u1_3))) := RWC_st hSz (by omega) (by omega) (fun k a b => j2_a k a (by omega)) (fun i x => j2_o i (by omega)) rfl
      exact w_ret rfl (k σ _ _ H (SF_trans (SF_refl) hS_2 (any_sub rfl)) (SA_upd (SA_trans (SA_refl) hA_2 (any_subA rfl)) rfl) (w2_10) (ew2_10) (upd1 (w11) (a1) (u1_3)) (congrArg (fun q => upd1 q (a1) (u1_3)) ((funext (hA_2 11 rfl)).trans (ew11))) (show RWC ((w10)) ((w11)) ((w2_10)) ((upd1 (w11) (a1) (u1_3))) (a1) (sc ((w15)) 0 ((u1_3))) by assumption))
    · refine Ew_of (pc' := 14) (fun _ => x_aload_n rfl l2_0) ?_
      refine w_gT H (o := 0) (t := 10) rfl (H.perm 0 rfl) rfl rfl rfl rfl rfl rfl ?_
      refine Ew_of (pc' := 19) (fun _ => x_ldc (z := 65536) rfl (by decide)) ?_
      refine Ew_of (pc' := 20) (fun _ => x_iload_n rfl l2_1) ?_
      refine w_imul rfl ?_
      refine Ew_of (pc' := 22) (fun _ => x_iload_n rfl l2_2) ?_
      refine w_iadd rfl ?_
      refine Ew_of (pc' := 24) (fun _ => x_aload_n rfl l2_0) ?_
      refine w_gT H (o := 0) (t := 1) rfl (H.perm 0 rfl) rfl rfl rfl rfl rfl rfl ?_
      refine w_gT H (o := 1) (t := 15) rfl (H.perm 1 rfl) rfl rfl rfl rfl rfl rfl ?_
      refine Ew_of (pc' := 31) (fun _ => x_iload_n rfl l2_2) ?_
      refine w_lI H (o := 15) (n := 65536) rfl (H.perm 15 rfl) rfl rfl (H.fix 15 rfl rfl) (show 0 ≤ x2_2 ∧ x2_2 < ((65536 : Nat) : Int) by omega) (by decide) (fun v3 ev3 qv3 => ?_)
      have qv3 : (0 : Int) ≤ v3 ∧ v3 ≤ 255 := qv3
      have ev3 : (w15) (x2_2) = v3 := (congrFun ((funext (hA_2 15 rfl)).trans (ew15)) (x2_2)).symm.trans ev3
      have hv32 := ev3
      have hvr := hOu ((x2_2))
      rw [hv32] at hvr
      refine w_sI H (o := 10) (n := 262144) rfl (H.perm 10 rfl) rfl rfl (H.fix 10 rfl rfl) (show 0 ≤ ((65536 * a1) + x2_2) ∧ ((65536 * a1) + x2_2) < ((262144 : Nat) : Int) by omega) (by decide) (show (0 : Int) ≤ v3 ∧ v3 ≤ 255 by omega) (fun σ H => ?_)
      refine Ew_of (pc' := 36) (fun _ => x_iinc (len := 3) rfl (l2_2)) ?_
      refine Ew_of (pc' := 2) (fun _ => x_goto rfl rfl) ?_
      have : ∀ k, 0 ≤ k → k < ((x2_2 + 1)) → ((upd1 (w2_10) (((65536 * a1) + x2_2)) (v3))) (65536 * (a1) + k) = ((w15)) k := fun k x y => by by_cases e : k = q2; (rw [e, hq2, upd1_s]; exact hv32.symm); (rw [upd1_o (by omega)]; exact j2_a k x (by omega))
      have : ∀ i, i < 65536 * (a1) ∨ 65536 * (a1) + ((x2_2 + 1)) ≤ i → ((upd1 (w2_10) (((65536 * a1) + x2_2)) (v3))) i = ((w10)) i := fun i x => by rw [upd1_o (by omega)]; exact j2_o i (by omega)
      exact ih2 _ (by omega) _ σ _ _ ((x2_2 + 1)) (rk_o (l2_0) rfl rfl) (rk_o (l2_1) rfl rfl) (rk_s) H (hS_2) (SA_upd (hA_2) rfl)  (upd1 (w2_10) (((65536 * a1) + x2_2)) (v3)) (congrArg (fun q => upd1 q (((65536 * a1) + x2_2)) (v3)) (ew2_10)) (show inr ((x2_2 + 1)) by omega) (show 0 ≤ ((x2_2 + 1)) ∧ ((x2_2 + 1)) ≤ (u1_3) by omega) (show ∀ k, 0 ≤ k → k < ((x2_2 + 1)) → ((upd1 (w2_10) (((65536 * a1) + x2_2)) (v3))) (65536 * (a1) + k) = ((w15)) k by assumption) (show ∀ i, i < 65536 * (a1) ∨ 65536 * (a1) + ((x2_2 + 1)) ≤ i → ((upd1 (w2_10) (((65536 * a1) + x2_2)) (v3))) i = ((w10)) i by assumption) rfl
/-- Model.narrow -/
theorem M71p {σ0 σ : rS} {D N : Nat → Nat} {F : hF} {A : hA} {d c s : Nat} {Q : wQ} (H : HS σ0 σ D N F A) {a1 a2 a3 a4 : Int} (w10 : Int → Int) (ew10 : A 10 = w10) (w11 : Int → Int) (ew11 : A 11 = w11) (h0 : inr (a1)) (h1 : inr (a2)) (h2 : inr (a3)) (h3 : inr (a4)) (k : ∀ (z : Int) σ F' A', HS σ0 σ D N F' A' → SF [(2, 1)] F F' → SA [] A A' → (inr (z)) → (((0 ≤ (a1) ∧ (a1) ≤ 3) ∧ ((z) : Int) = NSL (prL (rwR ((w10)) ((w11)) ((a1))) ((a2)) ((a3))) ((a4)) ∨ ¬ (0 ≤ (a1) ∧ (a1) ≤ 3) ∧ ((z) : Int) = 0)) → Q (some (I z)) σ c s) : Ew 71 (d + 4) 0 (rargs 0 [.ref (D 0), I a1, I a2, I a3, I a4]) [] σ c s Q := by
  have hSz : ∀ i, (0 : Int) ≤ (w11) i ∧ (w11) i ≤ 65536 := fun i => by have h1 : (0 : Int) ≤ A 11 i ∧ A 11 i ≤ 65536 := H.arng 11 i; rw [show A 11 = w11 from ew11] at h1; exact h1
  have hl0 := rwR_len (ro := (w10)) (si := (w11)) (r := (a1)) (hSz ((a1))).1
  have hsa := hSz ((a1))
  refine Ew_of (pc' := 1) (fun _ => x_iload_n rfl rfl) ?_
  refine w_stat24 rfl rfl (by rfl) (M56p H (show inr (a1) by omega) (fun z5 σ F1 A2 H hS3 hA4 pz5_0 pz5_1 => ⟨rretB rfl pz5_0, ?_⟩))
  refine w_ifne (t := 9) rfl rfl (show inr (z5) by omega) (fun b6 => ?_) (fun b6 => ?_)
  · refine Ew_of (pc' := 10) (fun _ => x_aload_n rfl rfl) ?_
    refine w_gT H (o := 0) (t := 2) rfl (H.perm 0 rfl) rfl rfl rfl rfl rfl rfl ?_
    refine Ew_of (pc' := 15) (fun _ => x_ldc (z := 65536) rfl (by decide)) ?_
    refine Ew_of (pc' := 16) (fun _ => x_iload_n rfl rfl) ?_
    refine w_imul rfl ?_
    refine w_inv H (o := 2) rfl rfl rfl (H.perm 2 rfl) rfl rfl (by rfl) (M304b H (show inr ((65536 * a1)) by omega) (fun σ F7 A8 H hS9 hA10 y12 ey13 pz11_0 => ⟨rfl, ?_⟩))
    have r14 : (-2147483648 : Int) ≤ y12 ∧ y12 ≤ 2147483647 := by have h1 : (-2147483648 : Int) ≤ F7 2 1 ∧ F7 2 1 ≤ 2147483647 := H.frng 2 1; rw [show F7 2 1 = y12 from (ey13)] at h1; exact h1
    refine Ew_of (pc' := 21) (fun _ => x_aload_n rfl rfl) ?_
    refine Ew_of (pc' := 22) (fun _ => x_iload_n rfl rfl) ?_
    refine Ew_of (pc' := 23) (fun _ => x_iload_n rfl rfl) ?_
    refine Ew_of (pc' := 24) (fun _ => x_iload_n rfl rfl) ?_
    refine w_inv H (o := 0) rfl rfl rfl (H.perm 0 rfl) rfl rfl (by rfl) (M62p H (w11) ((funext (hA10 11 rfl)).trans ((funext (hA4 11 rfl)).trans (ew11))) (show inr (a1) by omega) (show inr (a2) by omega) (show inr (a3) by omega) (show 0 ≤ (a1) ∧ (a1) ≤ 3 by omega) (fun z19 σ F15 A16 H hS17 hA18 pz19_0 pz19_1 => ⟨rretB rfl pz19_0, ?_⟩))
    refine w_ifeq (t := 44) rfl rfl (show inr (z19) by omega) (fun b20 => ?_) (fun b20 => ?_)
    · refine Ew_of (pc' := 45) (fun _ => x_aload_n rfl rfl) ?_
      refine w_gT H (o := 0) (t := 2) rfl (H.perm 0 rfl) rfl rfl rfl rfl rfl rfl ?_
      refine Ew_of (pc' := 49) (fun _ => x_iconst rfl) ?_
      refine Ew_of (pc' := 50) (fun _ => x_iconst rfl) ?_
      refine Ew_of (pc' := 52) (fun _ => x_iload rfl rfl) ?_
      refine w_inv H (o := 2) rfl rfl rfl (H.perm 2 rfl) rfl rfl (by rfl) (M309 H (y12) (((hS17 2 1 rfl).trans (ey13))) (w10) ((funext (hA18 10 rfl)).trans ((funext (hA10 10 rfl)).trans ((funext (hA4 10 rfl)).trans (ew10)))) (show inr (0) by omega) (show inr (0) by omega) (show inr (a4) by omega) (show 0 ≤ (y12) ∧ (y12) ≤ 196608 by omega) (show 0 ≤ (0) ∧ (0) ≤ (0) ∧ (0) ≤ 65536 by omega) (fun z25 σ F21 A22 H hS23 hA24 pz25_0 pz25_1 => ⟨rfl, ?_⟩))
      have : ((0 ≤ (a1) ∧ (a1) ≤ 3) ∧ ((z25) : Int) = NSL (prL (rwR ((w10)) ((w11)) ((a1))) ((a2)) ((a3))) ((a4)) ∨ ¬ (0 ≤ (a1) ∧ (a1) ≤ 3) ∧ ((z25) : Int) = 0) := by first | exact .inl ⟨by omega, (pzMISS_1).trans (by rw [NSM_L (b := (a3)) (by omega) (by omega), pr_sc (f := sh ((w10)) (65536 * (a1))) (n := ((w11)) ((a1))) (L := rwR ((w10)) ((w11)) ((a1))) rfl (by omega), shf_sh, show (y12) = 65536 * (a1) by omega])⟩ | exact .inl ⟨by omega, (pz25_1).trans (by rw [NSM_L (b := 0) (by omega) (by omega), pr_nil (f := sh ((w10)) (65536 * (a1))) (n := ((w11)) ((a1))) (L := rwR ((w10)) ((w11)) ((a1))) rfl (hSz ((a1))).1 (by omega), sc_nil (by omega)])⟩
      exact w_ireturn rfl (k (z25) σ _ _ H (SF_trans (SF_trans (SF_trans (SF_trans (SF_refl) hS3 (any_sub rfl)) hS9 (any_sub rfl)) hS17 (any_sub rfl)) hS23 (any_sub rfl)) (SA_trans (SA_trans (SA_trans (SA_trans (SA_refl) hA4 (any_subA rfl)) hA10 (any_subA rfl)) hA18 (any_subA rfl)) hA24 (any_subA rfl)) (show inr (z25) by omega) (show ((0 ≤ a1 ∧ a1 ≤ 3) ∧ ((z25) : Int) = NSL (prL (rwR ((w10)) ((w11)) (a1)) (a2) (a3)) (a4) ∨ ¬ (0 ≤ a1 ∧ a1 ≤ 3) ∧ ((z25) : Int) = 0) by assumption))
    · refine Ew_of (pc' := 31) (fun _ => x_aload_n rfl rfl) ?_
      refine w_gT H (o := 0) (t := 2) rfl (H.perm 0 rfl) rfl rfl rfl rfl rfl rfl ?_
      refine Ew_of (pc' := 35) (fun _ => x_iload_n rfl rfl) ?_
      refine Ew_of (pc' := 36) (fun _ => x_iload_n rfl rfl) ?_
      refine Ew_of (pc' := 38) (fun _ => x_iload rfl rfl) ?_
      refine w_inv H (o := 2) rfl rfl rfl (H.perm 2 rfl) rfl rfl (by rfl) (M309 H (y12) (((hS17 2 1 rfl).trans (ey13))) (w10) ((funext (hA18 10 rfl)).trans ((funext (hA10 10 rfl)).trans ((funext (hA4 10 rfl)).trans (ew10)))) (show inr (a2) by omega) (show inr (a3) by omega) (show inr (a4) by omega) (show 0 ≤ (y12) ∧ (y12) ≤ 196608 by omega) (show 0 ≤ (a2) ∧ (a2) ≤ (a3) ∧ (a3) ≤ 65536 by omega) (fun z30 σ F26 A27 H hS28 hA29 pz30_0 pz30_1 => ⟨rfl, ?_⟩))
      refine Ew_of (pc' := 55) (fun _ => x_goto rfl rfl) ?_
      have : ((0 ≤ (a1) ∧ (a1) ≤ 3) ∧ ((z30) : Int) = NSL (prL (rwR ((w10)) ((w11)) ((a1))) ((a2)) ((a3))) ((a4)) ∨ ¬ (0 ≤ (a1) ∧ (a1) ≤ 3) ∧ ((z30) : Int) = 0) := by first | exact .inl ⟨by omega, (pz30_1).trans (by rw [NSM_L (b := (a3)) (by omega) (by omega), pr_sc (f := sh ((w10)) (65536 * (a1))) (n := ((w11)) ((a1))) (L := rwR ((w10)) ((w11)) ((a1))) rfl (by omega), shf_sh, show (y12) = 65536 * (a1) by omega])⟩ | exact .inl ⟨by omega, (pz25_1).trans (by rw [NSM_L (b := 0) (by omega) (by omega), pr_nil (f := sh ((w10)) (65536 * (a1))) (n := ((w11)) ((a1))) (L := rwR ((w10)) ((w11)) ((a1))) rfl (hSz ((a1))).1 (by omega), sc_nil (by omega)])⟩
      exact w_ireturn rfl (k (z30) σ _ _ H (SF_trans (SF_trans (SF_trans (SF_trans (SF_refl) hS3 (any_sub rfl)) hS9 (any_sub rfl)) hS17 (any_sub rfl)) hS28 (any_sub rfl)) (SA_trans (SA_trans (SA_trans (SA_trans (SA_refl) hA4 (any_subA rfl)) hA10 (any_subA rfl)) hA18 (any_subA rfl)) hA29 (any_subA rfl)) (show inr (z30) by omega) (show ((0 ≤ a1 ∧ a1 ≤ 3) ∧ ((z30) : Int) = NSL (prL (rwR ((w10)) ((w11)) (a1)) (a2) (a3)) (a4) ∨ ¬ (0 ≤ a1 ∧ a1 ≤ 3) ∧ ((z30) : Int) = 0) by assumption))
  · refine Ew_of (pc' := 8) (fun _ => x_iconst rfl) ?_
    have : ((0 ≤ (a1) ∧ (a1) ≤ 3) ∧ (0 : Int) = NSL (prL (rwR ((w10)) ((w11)) ((a1))) ((a2)) ((a3))) ((a4)) ∨ ¬ (0 ≤ (a1) ∧ (a1) ≤ 3) ∧ (0 : Int) = 0) := .inr ⟨by omega, rfl⟩
    exact w_ireturn rfl (k (0) σ _ _ H (SF_trans (SF_refl) hS3 (any_sub rfl)) (SA_trans (SA_refl) hA4 (any_subA rfl)) (show inr (0) by omega) (show ((0 ≤ a1 ∧ a1 ≤ 3) ∧ ((0) : Int) = NSL (prL (rwR ((w10)) ((w11)) (a1)) (a2) (a3)) (a4) ∨ ¬ (0 ≤ a1 ∧ a1 ≤ 3) ∧ ((0) : Int) = 0) by assumption))
/-- Model.wide -/
theorem M72p {σ0 σ : rS} {D N : Nat → Nat} {F : hF} {A : hA} {d c s : Nat} {Q : wQ} (H : HS σ0 σ D N F A) {a1 a2 a3 a4 : Int} (w10 : Int → Int) (ew10 : A 10 = w10) (w11 : Int → Int) (ew11 : A 11 = w11) (h0 : inr (a1)) (h1 : inr (a2)) (h2 : inr (a3)) (h3 : inrJ (a4)) (k : ∀ (z : Int) σ F' A', HS σ0 σ D N F' A' → SF [(2, 1)] F F' → SA [] A A' → (inrJ (z)) → (((0 ≤ (a1) ∧ (a1) ≤ 3) ∧ ((z) : Int) = WDX (prL (rwR ((w10)) ((w11)) ((a1))) ((a2)) ((a3))) ((a4)) ∨ ¬ (0 ≤ (a1) ∧ (a1) ≤ 3) ∧ ((z) : Int) = 0)) → Q (some (J z)) σ c s) : Ew 72 (d + 5) 0 (rargs 0 [.ref (D 0), I a1, I a2, I a3, J a4]) [] σ c s Q := by
  have hSz : ∀ i, (0 : Int) ≤ (w11) i ∧ (w11) i ≤ 65536 := fun i => by have h1 : (0 : Int) ≤ A 11 i ∧ A 11 i ≤ 65536 := H.arng 11 i; rw [show A 11 = w11 from ew11] at h1; exact h1
  have hl0 := rwR_len (ro := (w10)) (si := (w11)) (r := (a1)) (hSz ((a1))).1
  have hsa := hSz ((a1))
  refine Ew_of (pc' := 1) (fun _ => x_iload_n rfl rfl) ?_
  refine w_stat24 rfl rfl (by rfl) (M56p H (show inr (a1) by omega) (fun z5 σ F1 A2 H hS3 hA4 pz5_0 pz5_1 => ⟨rretB rfl pz5_0, ?_⟩))
  refine w_ifne (t := 9) rfl rfl (show inr (z5) by omega) (fun b6 => ?_) (fun b6 => ?_)
  · refine Ew_of (pc' := 10) (fun _ => x_aload_n rfl rfl) ?_
    refine w_gT H (o := 0) (t := 2) rfl (H.perm 0 rfl) rfl rfl rfl rfl rfl rfl ?_
    refine Ew_of (pc' := 15) (fun _ => x_ldc (z := 65536) rfl (by decide)) ?_
    refine Ew_of (pc' := 16) (fun _ => x_iload_n rfl rfl) ?_
    refine w_imul rfl ?_
    refine w_inv H (o := 2) rfl rfl rfl (H.perm 2 rfl) rfl rfl (by rfl) (M304b H (show inr ((65536 * a1)) by omega) (fun σ F7 A8 H hS9 hA10 y12 ey13 pz11_0 => ⟨rfl, ?_⟩))
    have r14 : (-2147483648 : Int) ≤ y12 ∧ y12 ≤ 2147483647 := by have h1 : (-2147483648 : Int) ≤ F7 2 1 ∧ F7 2 1 ≤ 2147483647 := H.frng 2 1; rw [show F7 2 1 = y12 from (ey13)] at h1; exact h1
    refine Ew_of (pc' := 21) (fun _ => x_aload_n rfl rfl) ?_
    refine Ew_of (pc' := 22) (fun _ => x_iload_n rfl rfl) ?_
    refine Ew_of (pc' := 23) (fun _ => x_iload_n rfl rfl) ?_
    refine Ew_of (pc' := 24) (fun _ => x_iload_n rfl rfl) ?_
    refine w_inv H (o := 0) rfl rfl rfl (H.perm 0 rfl) rfl rfl (by rfl) (M62p H (w11) ((funext (hA10 11 rfl)).trans ((funext (hA4 11 rfl)).trans (ew11))) (show inr (a1) by omega) (show inr (a2) by omega) (show inr (a3) by omega) (show 0 ≤ (a1) ∧ (a1) ≤ 3 by omega) (fun z19 σ F15 A16 H hS17 hA18 pz19_0 pz19_1 => ⟨rretB rfl pz19_0, ?_⟩))
    refine w_ifeq (t := 44) rfl rfl (show inr (z19) by omega) (fun b20 => ?_) (fun b20 => ?_)
    · refine Ew_of (pc' := 45) (fun _ => x_aload_n rfl rfl) ?_
      refine w_gT H (o := 0) (t := 2) rfl (H.perm 0 rfl) rfl rfl rfl rfl rfl rfl ?_
      refine Ew_of (pc' := 49) (fun _ => x_iconst rfl) ?_
      refine Ew_of (pc' := 50) (fun _ => x_iconst rfl) ?_
      refine Ew_of (pc' := 52) (fun _ => x_lload rfl rfl) ?_
      refine w_inv H (o := 2) rfl rfl rfl (H.perm 2 rfl) rfl rfl (by rfl) (M314 H (y12) (((hS17 2 1 rfl).trans (ey13))) (w10) ((funext (hA18 10 rfl)).trans ((funext (hA10 10 rfl)).trans ((funext (hA4 10 rfl)).trans (ew10)))) (show inr (0) by omega) (show inr (0) by omega) (show inrJ (a4) by omega) (show 0 ≤ (y12) ∧ (y12) ≤ 196608 by omega) (show 0 ≤ (0) ∧ (0) ≤ (0) ∧ (0) ≤ 65536 by omega) (fun z25 σ F21 A22 H hS23 hA24 pz25_0 pz25_1 => ⟨rfl, ?_⟩))
      have : ((0 ≤ (a1) ∧ (a1) ≤ 3) ∧ ((z25) : Int) = WDX (prL (rwR ((w10)) ((w11)) ((a1))) ((a2)) ((a3))) ((a4)) ∨ ¬ (0 ≤ (a1) ∧ (a1) ≤ 3) ∧ ((z25) : Int) = 0) := by first | exact .inl ⟨by omega, (pzMISS_1).trans (by rw [WDS_X (b := (a3)) (by omega) (by omega), pr_sc (f := sh ((w10)) (65536 * (a1))) (n := ((w11)) ((a1))) (L := rwR ((w10)) ((w11)) ((a1))) rfl (by omega), shf_sh, show (y12) = 65536 * (a1) by omega])⟩ | exact .inl ⟨by omega, (pz25_1).trans (by rw [WDS_X (b := 0) (by omega) (by omega), pr_nil (f := sh ((w10)) (65536 * (a1))) (n := ((w11)) ((a1))) (L := rwR ((w10)) ((w11)) ((a1))) rfl (hSz ((a1))).1 (by omega), sc_nil (by omega)])⟩
      exact w_lreturn rfl (k (z25) σ _ _ H (SF_trans (SF_trans (SF_trans (SF_trans (SF_refl) hS3 (any_sub rfl)) hS9 (any_sub rfl)) hS17 (any_sub rfl)) hS23 (any_sub rfl)) (SA_trans (SA_trans (SA_trans (SA_trans (SA_refl) hA4 (any_subA rfl)) hA10 (any_subA rfl)) hA18 (any_subA rfl)) hA24 (any_subA rfl)) (show inrJ (z25) by omega) (show ((0 ≤ a1 ∧ a1 ≤ 3) ∧ ((z25) : Int) = WDX (prL (rwR ((w10)) ((w11)) (a1)) (a2) (a3)) (a4) ∨ ¬ (0 ≤ a1 ∧ a1 ≤ 3) ∧ ((z25) : Int) = 0) by assumption))
    · refine Ew_of (pc' := 31) (fun _ => x_aload_n rfl rfl) ?_
      refine w_gT H (o := 0) (t := 2) rfl (H.perm 0 rfl) rfl rfl rfl rfl rfl rfl ?_
      refine Ew_of (pc' := 35) (fun _ => x_iload_n rfl rfl) ?_
      refine Ew_of (pc' := 36) (fun _ => x_iload_n rfl rfl) ?_
      refine Ew_of (pc' := 38) (fun _ => x_lload rfl rfl) ?_
      refine w_inv H (o := 2) rfl rfl rfl (H.perm 2 rfl) rfl rfl (by rfl) (M314 H (y12) (((hS17 2 1 rfl).trans (ey13))) (w10) ((funext (hA18 10 rfl)).trans ((funext (hA10 10 rfl)).trans ((funext (hA4 10 rfl)).trans (ew10)))) (show inr (a2) by omega) (show inr (a3) by omega) (show inrJ (a4) by omega) (show 0 ≤ (y12) ∧ (y12) ≤ 196608 by omega) (show 0 ≤ (a2) ∧ (a2) ≤ (a3) ∧ (a3) ≤ 65536 by omega) (fun z30 σ F26 A27 H hS28 hA29 pz30_0 pz30_1 => ⟨rfl, ?_⟩))
      refine Ew_of (pc' := 55) (fun _ => x_goto rfl rfl) ?_
      have : ((0 ≤ (a1) ∧ (a1) ≤ 3) ∧ ((z30) : Int) = WDX (prL (rwR ((w10)) ((w11)) ((a1))) ((a2)) ((a3))) ((a4)) ∨ ¬ (0 ≤ (a1) ∧ (a1) ≤ 3) ∧ ((z30) : Int) = 0) := by first | exact .inl ⟨by omega, (pz30_1).trans (by rw [WDS_X (b := (a3)) (by omega) (by omega), pr_sc (f := sh ((w10)) (65536 * (a1))) (n := ((w11)) ((a1))) (L := rwR ((w10)) ((w11)) ((a1))) rfl (by omega), shf_sh, show (y12) = 65536 * (a1) by omega])⟩ | exact .inl ⟨by omega, (pz25_1).trans (by rw [WDS_X (b := 0) (by omega) (by omega), pr_nil (f := sh ((w10)) (65536 * (a1))) (n := ((w11)) ((a1))) (L := rwR ((w10)) ((w11)) ((a1))) rfl (hSz ((a1))).1 (by omega), sc_nil (by omega)])⟩
      exact w_lreturn rfl (k (z30) σ _ _ H (SF_trans (SF_trans (SF_trans (SF_trans (SF_refl) hS3 (any_sub rfl)) hS9 (any_sub rfl)) hS17 (any_sub rfl)) hS28 (any_sub rfl)) (SA_trans (SA_trans (SA_trans (SA_trans (SA_refl) hA4 (any_subA rfl)) hA10 (any_subA rfl)) hA18 (any_subA rfl)) hA29 (any_subA rfl)) (show inrJ (z30) by omega) (show ((0 ≤ a1 ∧ a1 ≤ 3) ∧ ((z30) : Int) = WDX (prL (rwR ((w10)) ((w11)) (a1)) (a2) (a3)) (a4) ∨ ¬ (0 ≤ a1 ∧ a1 ≤ 3) ∧ ((z30) : Int) = 0) by assumption))
  · refine Ew_of (pc' := 8) (fun _ => x_lconst (z := 0) rfl (by decide)) ?_
    have : ((0 ≤ (a1) ∧ (a1) ≤ 3) ∧ (0 : Int) = WDX (prL (rwR ((w10)) ((w11)) ((a1))) ((a2)) ((a3))) ((a4)) ∨ ¬ (0 ≤ (a1) ∧ (a1) ≤ 3) ∧ (0 : Int) = 0) := .inr ⟨by omega, rfl⟩
    exact w_lreturn rfl (k (0) σ _ _ H (SF_trans (SF_refl) hS3 (any_sub rfl)) (SA_trans (SA_refl) hA4 (any_subA rfl)) (show inrJ (0) by omega) (show ((0 ≤ a1 ∧ a1 ≤ 3) ∧ ((0) : Int) = WDX (prL (rwR ((w10)) ((w11)) (a1)) (a2) (a3)) (a4) ∨ ¬ (0 ≤ a1 ∧ a1 ≤ 3) ∧ ((0) : Int) = 0) by assumption))
/-- Tokens.remember -/
theorem M354p {σ0 σ : rS} {D N : Nat → Nat} {F : hF} {A : hA} {d c s : Nat} {Q : wQ} (H : HS σ0 σ D N F A)  (u1_1 : Int) (eu1_1 : F 1 1 = u1_1) (w14 : Int → Int) (ew14 : A 14 = w14) (k : ∀ σ F' A', HS σ0 σ D N F' A' → SF [(3, 2)] F F' → SA [16] A A' → ∀ y3_2 : Int, F' 3 2 = y3_2 → ∀ v16 : Int → Int, A' 16 = v16 → ((y3_2) = (u1_1)) → (sc ((v16)) 0 ((y3_2)) = sc ((w14)) 0 ((u1_1))) → Q none σ c s) : Ew 354 (d + 0) 0 (rargs 0 [.ref (D 3)]) [] σ c s Q := by
  have r1 : (0 : Int) ≤ u1_1 ∧ u1_1 ≤ 65536 := by have h1 : (0 : Int) ≤ F 1 1 ∧ F 1 1 ≤ 65536 := H.frng 1 1; rw [show F 1 1 = u1_1 from (eu1_1)] at h1; exact h1
  have hIn : ∀ i, (0 : Int) ≤ (w14) i ∧ (w14) i ≤ 255 := fun i => by have h1 : (0 : Int) ≤ A 14 i ∧ A 14 i ≤ 255 := H.arng 14 i; rw [show A 14 = w14 from ew14] at h1; exact h1
  refine Ew_of (pc' := 1) (fun _ => x_iconst rfl) ?_
  refine Ew_of (pc' := 2) (fun _ => x_istore_n rfl) ?_
  have : ∀ k, 0 ≤ k → k < 0 → ((A 16)) k = ((w14)) k := fun k a b => absurd b (by omega)
  suffices hl2 : ∀ (m : Nat), ∀ (ls : rO) (σ : rS) (F_2 : hF) (A_2 : hA) (x2_1 : Int), rlook ls 0 = some (.ref (D 3)) → rlook ls 1 = some (I (x2_1)) → HS σ0 σ D N F_2 A_2 → SF [] F F_2 → SA [16] A A_2 → ∀ w2_16 : Int → Int, A_2 16 = w2_16 → (inr (x2_1)) → (0 ≤ (x2_1) ∧ (x2_1) ≤ (u1_1)) → (∀ k, 0 ≤ k → k < (x2_1) → ((w2_16)) k = ((w14)) k) → (65536 - (x2_1)).toNat = m → Ew 354 (d + 0) 2 ls [] σ c s Q from
    hl2 _ _ σ _ _ (0) (rk_o (rfl) rfl rfl) (rk_s) H (SF_refl) (SA_refl)  (A 16) (rfl) (show inr (0) by omega) (show 0 ≤ (0) ∧ (0) ≤ (u1_1) by omega) (show ∀ k, 0 ≤ k → k < (0) → ((A 16)) k = ((w14)) k by assumption) rfl
  as_aux_lemma =>
  intro m
  induction m using Nat.strongRecOn with
  | _ m ih2 =>
    intro ls σ F_2 A_2 x2_1 l2_0 l2_1 H hS_2 hA_2  w2_16 ew2_16 j2_0 j2_1 j2_2 hm2
    have j2_a : ∀ k, 0 ≤ k → k < (x2_1) → ((w2_16)) k = ((w14)) k := by assumption
    obtain ⟨q1, hq1⟩ : ∃ q : Int, q = (x2_1) := ⟨_, rfl⟩
    refine Ew_of (pc' := 3) (fun _ => x_iload_n rfl l2_1) ?_
    refine Ew_of (pc' := 4) (fun _ => x_aload_n rfl l2_0) ?_
    refine w_gT H (o := 3) (t := 1) rfl (H.perm 3 rfl) rfl rfl rfl rfl rfl rfl ?_
    refine w_gI H (o := 1) (w := u1_1) rfl (H.perm 1 rfl) rfl rfl rfl (fun _ => rfl) ((hS_2 1 1 rfl).trans (eu1_1)) ?_
    refine w_icmpge (t := 34) rfl rfl (show inr (x2_1) by omega) (show inr (u1_1) by omega) (fun b2 => ?_) (fun b2 => ?_)
    · refine Ew_of (pc' := 35) (fun _ => x_aload_n rfl l2_0) ?_
      refine Ew_of (pc' := 36) (fun _ => x_aload_n rfl l2_0) ?_
      refine w_gT H (o := 3) (t := 1) rfl (H.perm 3 rfl) rfl rfl rfl rfl rfl rfl ?_
      refine w_gI H (o := 1) (w := u1_1) rfl (H.perm 1 rfl) rfl rfl rfl (fun _ => rfl) ((hS_2 1 1 rfl).trans (eu1_1)) ?_
      refine w_pI H (o := 3) rfl rfl (H.perm 3 rfl) rfl rfl rfl (fun _ => rfl) rfl (show (0 : Int) ≤ u1_1 ∧ u1_1 ≤ 65536 by omega) (fun σ H => ?_)
      have : sc ((w2_16)) 0 ((u1_1)) = sc ((w14)) 0 ((u1_1)) := by rw [show (u1_1) = (u1_1) by omega]; exact sc_same (fun k a b => j2_a k a (by omega))
      exact w_ret rfl (k σ _ _ H (SF_upd (SF_trans (SF_refl) hS_2 (any_sub rfl)) rfl) (SA_trans (SA_refl) hA_2 (any_subA rfl)) (u1_1) (rfl) (w2_16) (ew2_16) (show (u1_1) = (u1_1) by omega) (show sc ((w2_16)) 0 ((u1_1)) = sc ((w14)) 0 ((u1_1)) by assumption))
    · refine Ew_of (pc' := 14) (fun _ => x_aload_n rfl l2_0) ?_
      refine w_gT H (o := 3) (t := 16) rfl (H.perm 3 rfl) rfl rfl rfl rfl rfl rfl ?_
      refine Ew_of (pc' := 18) (fun _ => x_iload_n rfl l2_1) ?_
      refine Ew_of (pc' := 19) (fun _ => x_aload_n rfl l2_0) ?_
      refine w_gT H (o := 3) (t := 1) rfl (H.perm 3 rfl) rfl rfl rfl rfl rfl rfl ?_
      refine w_gT H (o := 1) (t := 14) rfl (H.perm 1 rfl) rfl rfl rfl rfl rfl rfl ?_
      refine Ew_of (pc' := 26) (fun _ => x_iload_n rfl l2_1) ?_
      refine w_lI H (o := 14) (n := 65536) rfl (H.perm 14 rfl) rfl rfl (H.fix 14 rfl rfl) (show 0 ≤ x2_1 ∧ x2_1 < ((65536 : Nat) : Int) by omega) (by decide) (fun v3 ev3 qv3 => ?_)
      have qv3 : (0 : Int) ≤ v3 ∧ v3 ≤ 255 := qv3
      have ev3 : (w14) (x2_1) = v3 := (congrFun ((funext (hA_2 14 rfl)).trans (ew14)) (x2_1)).symm.trans ev3
      have hv27 := ev3
      have hvr := hIn ((x2_1))
      rw [hv27] at hvr
      refine w_sI H (o := 16) (n := 65536) rfl (H.perm 16 rfl) rfl rfl (H.fix 16 rfl rfl) (show 0 ≤ x2_1 ∧ x2_1 < ((65536 : Nat) : Int) by omega) (by decide) (show (0 : Int) ≤ v3 ∧ v3 ≤ 255 by omega) (fun σ H => ?_)
      refine Ew_of (pc' := 31) (fun _ => x_iinc (len := 3) rfl (l2_1)) ?_
      refine Ew_of (pc' := 2) (fun _ => x_goto rfl rfl) ?_
      have : ∀ k, 0 ≤ k → k < ((x2_1 + 1)) → ((upd1 (w2_16) (x2_1) (v3))) k = ((w14)) k := fun k x y => by by_cases e : k = q1; (rw [e, hq1, upd1_s]; exact hv27.symm); (rw [upd1_o (by omega)]; exact j2_a k x (by omega))
      exact ih2 _ (by omega) _ σ _ _ ((x2_1 + 1)) (rk_o (l2_0) rfl rfl) (rk_s) H (hS_2) (SA_upd (hA_2) rfl)  (upd1 (w2_16) (x2_1) (v3)) (congrArg (fun q => upd1 q (x2_1) (v3)) (ew2_16)) (show inr ((x2_1 + 1)) by omega) (show 0 ≤ ((x2_1 + 1)) ∧ ((x2_1 + 1)) ≤ (u1_1) by omega) (show ∀ k, 0 ≤ k → k < ((x2_1 + 1)) → ((upd1 (w2_16) (x2_1) (v3))) k = ((w14)) k by assumption) rfl
/-- Model.history -/
theorem M76p {σ0 σ : rS} {D N : Nat → Nat} {F : hF} {A : hA} {d c s : Nat} {Q : wQ} (H : HS σ0 σ D N F A) {a1 : Int} (u3_2 : Int) (eu3_2 : F 3 2 = u3_2) (w10 : Int → Int) (ew10 : A 10 = w10) (w11 : Int → Int) (ew11 : A 11 = w11) (w16 : Int → Int) (ew16 : A 16 = w16) (h0 : inr (a1)) (k : ∀ (z : Int) σ F' A', HS σ0 σ D N F' A' → SF [(1, 1), (3, 2)] F F' → SA [14, 16] A A' → ∀ y3_2 : Int, F' 3 2 = y3_2 → ∀ v16 : Int → Int, A' 16 = v16 → ((z) = 0 ∨ (z) = 1) → (((0 ≤ (a1) ∧ (a1) ≤ 3) ∧ ((z) : Int) = 1 ∧ sc ((v16)) 0 ((y3_2)) = rwR ((w10)) ((w11)) ((a1)) ∨ ¬ (0 ≤ (a1) ∧ (a1) ≤ 3) ∧ ((z) : Int) = 0 ∧ sc ((v16)) 0 ((y3_2)) = sc ((w16)) 0 ((u3_2)))) → Q (some (I z)) σ c s) : Ew 76 (d + 1) 0 (rargs 0 [.ref (D 0), I a1]) [] σ c s Q := by
  have r1 : (0 : Int) ≤ u3_2 ∧ u3_2 ≤ 65536 := by have h1 : (0 : Int) ≤ F 3 2 ∧ F 3 2 ≤ 65536 := H.frng 3 2; rw [show F 3 2 = u3_2 from (eu3_2)] at h1; exact h1
  refine Ew_of (pc' := 1) (fun _ => x_iload_n rfl rfl) ?_
  refine w_stat24 rfl rfl (by rfl) (M56p H (show inr (a1) by omega) (fun z6 σ F2 A3 H hS4 hA5 pz6_0 pz6_1 => ⟨rretB rfl pz6_0, ?_⟩))
  refine w_ifne (t := 9) rfl rfl (show inr (z6) by omega) (fun b7 => ?_) (fun b7 => ?_)
  · refine Ew_of (pc' := 10) (fun _ => x_aload_n rfl rfl) ?_
    refine Ew_of (pc' := 11) (fun _ => x_iload_n rfl rfl) ?_
    refine w_inv H (o := 0) rfl rfl rfl (H.perm 0 rfl) rfl rfl (by rfl) (M74p H (w10) ((funext (hA5 10 rfl)).trans (ew10)) (w11) ((funext (hA5 11 rfl)).trans (ew11)) (show inr (a1) by omega) (show 0 ≤ (a1) ∧ (a1) ≤ 3 by omega) (fun σ F8 A9 H hS10 hA11 y13 ey14 wq15 ewq16 pz12_0 pz12_1 => ⟨rfl, ?_⟩))
    have r17 : (0 : Int) ≤ y13 ∧ y13 ≤ 65536 := by have h1 : (0 : Int) ≤ F8 1 1 ∧ F8 1 1 ≤ 65536 := H.frng 1 1; rw [show F8 1 1 = y13 from (ey14)] at h1; exact h1
    refine Ew_of (pc' := 15) (fun _ => x_aload_n rfl rfl) ?_
    refine w_gT H (o := 0) (t := 3) rfl (H.perm 0 rfl) rfl rfl rfl rfl rfl rfl ?_
    refine w_inv H (o := 3) rfl rfl rfl (H.perm 3 rfl) rfl rfl (by rfl) (M354p H (y13) ((ey14)) (wq15) (ewq16)  (fun σ F18 A19 H hS20 hA21 y23 ey24 wq25 ewq26 pz22_0 pz22_1 => ⟨rfl, ?_⟩))
    have r27 : (0 : Int) ≤ y23 ∧ y23 ≤ 65536 := by have h1 : (0 : Int) ≤ F18 3 2 ∧ F18 3 2 ≤ 65536 := H.frng 3 2; rw [show F18 3 2 = y23 from (ey24)] at h1; exact h1
    refine Ew_of (pc' := 22) (fun _ => x_iconst rfl) ?_
    have : ((0 ≤ (a1) ∧ (a1) ≤ 3) ∧ (1 : Int) = 1 ∧ sc ((wq25)) 0 ((y23)) = rwR ((w10)) ((w11)) ((a1)) ∨ ¬ (0 ≤ (a1) ∧ (a1) ≤ 3) ∧ (1 : Int) = 0 ∧ sc ((wq25)) 0 ((y23)) = sc ((w16)) 0 ((u3_2))) := .inl ⟨by omega, rfl, pz22_1.trans pz12_1⟩
    exact w_ireturn rfl (k (1) σ _ _ H (SF_trans (SF_trans (SF_trans (SF_refl) hS4 (any_sub rfl)) hS10 (any_sub rfl)) hS20 (any_sub rfl)) (SA_trans (SA_trans (SA_trans (SA_refl) hA5 (any_subA rfl)) hA11 (any_subA rfl)) hA21 (any_subA rfl)) (y23) ((ey24)) (wq25) (ewq26) (show (1) = 0 ∨ (1) = 1 by omega) (show ((0 ≤ a1 ∧ a1 ≤ 3) ∧ ((1) : Int) = 1 ∧ sc ((wq25)) 0 ((y23)) = rwR ((w10)) ((w11)) (a1) ∨ ¬ (0 ≤ a1 ∧ a1 ≤ 3) ∧ ((1) : Int) = 0 ∧ sc ((wq25)) 0 ((y23)) = sc ((w16)) 0 ((u3_2))) by assumption))
  · refine Ew_of (pc' := 8) (fun _ => x_iconst rfl) ?_
    have : ((0 ≤ (a1) ∧ (a1) ≤ 3) ∧ (0 : Int) = 1 ∧ sc ((w16)) 0 ((u3_2)) = rwR ((w10)) ((w11)) ((a1)) ∨ ¬ (0 ≤ (a1) ∧ (a1) ≤ 3) ∧ (0 : Int) = 0 ∧ sc ((w16)) 0 ((u3_2)) = sc ((w16)) 0 ((u3_2))) := .inr ⟨by omega, rfl, rfl⟩
    exact w_ireturn rfl (k (0) σ _ _ H (SF_trans (SF_refl) hS4 (any_sub rfl)) (SA_trans (SA_refl) hA5 (any_subA rfl)) (u3_2) (((hS4 3 2 rfl).trans (eu3_2))) (w16) ((funext (hA5 16 rfl)).trans (ew16)) (show (0) = 0 ∨ (0) = 1 by omega) (show ((0 ≤ a1 ∧ a1 ≤ 3) ∧ ((0) : Int) = 1 ∧ sc ((w16)) 0 ((u3_2)) = rwR ((w10)) ((w11)) (a1) ∨ ¬ (0 ≤ a1 ∧ a1 ≤ 3) ∧ ((0) : Int) = 0 ∧ sc ((w16)) 0 ((u3_2)) = sc ((w16)) 0 ((u3_2))) by assumption))
