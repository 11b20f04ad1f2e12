/-- Model.again -/
theorem M60p {σ0 σ : rS} {D N : Nat → Nat} {F : hF} {A : hA} {d c s : Nat} {Q : wQ} (H : HS σ0 σ D N F A) {a1 a2 a3 : Int} (w10 : Int → Int) (ew10 : A 10 = w10) (w11 : Int → Int) (ew11 : A 11 = w11) (h0 : inr (a1)) (h1 : inr (a2)) (h2 : inr (a3)) (k : ∀ (z : Int) σ F' A', HS σ0 σ D N F' A' → SF [] F F' → SA [10, 11] A A' → ∀ v10 : Int → Int, A' 10 = v10 → ∀ v11 : Int → Int, A' 11 = v11 → ((z) = 0 ∨ (z) = 1) → (CHQ ((0 ≤ (a1) ∧ (a1) ≤ 3) ∧ (1 ≤ (a2) ∧ (a2) ≤ ((rwR ((w10)) ((w11)) ((a1))).length : Int)) ∧ 0 ≤ (a3) ∧ (a2) * (a3) ≤ 65536 - ((rwR ((w10)) ((w11)) ((a1))).length : Int)) (rwR ((w10)) ((w11)) ((a1))) (cpb (rwR ((w10)) ((w11)) ((a1))) ((a2)) ((a2) * (a3) : Int).toNat) ((z)) (rwR ((v10)) ((v11)) ((a1)))) → (∀ q, 0 ≤ q → q ≤ 3 → q ≠ (a1) → rwR ((v10)) ((v11)) (q) = rwR ((w10)) ((w11)) (q)) → Q (some (I z)) σ c s) : Ew 60 (d + 1) 0 (rargs 0 [.ref (D 0), I a1, I a2, I a3]) [] σ c s Q := by
  have hSz : ∀ i, (0 : Int) ≤ (w11) i ∧ (w11) i ≤ 65536 := fun i => by have h1 : (0 : Int) ≤ A 11 i ∧ A 11 i ≤ 65536 := H.arng 11 i; rw [show A 11 = w11 from ew11] at h1; exact h1
  have hl0 := rwR_len (ro := (w10)) (si := (w11)) (r := (a1)) (hSz ((a1))).1
  refine Ew_of (pc' := 1) (fun _ => x_iload_n rfl rfl) ?_
  refine w_stat24 rfl rfl (by rfl) (M56p H (show inr (a1) by omega) (fun z5 σ F1 A2 H hS3 hA4 pz5_0 pz5_1 => ⟨rretB rfl pz5_0, ?_⟩))
  refine w_ifeq (t := 45) rfl rfl (show inr (z5) by omega) (fun b6 => ?_) (fun b6 => ?_)
  · have : CHQ ((0 ≤ (a1) ∧ (a1) ≤ 3) ∧ (1 ≤ (a2) ∧ (a2) ≤ ((rwR ((w10)) ((w11)) ((a1))).length : Int)) ∧ 0 ≤ (a3) ∧ (a2) * (a3) ≤ 65536 - ((rwR ((w10)) ((w11)) ((a1))).length : Int)) (rwR ((w10)) ((w11)) ((a1))) (cpb (rwR ((w10)) ((w11)) ((a1))) ((a2)) ((a2) * (a3) : Int).toNat) (0) (rwR ((w10)) ((w11)) ((a1))) := .inr ⟨fun q => by omega, rfl, rfl⟩
    have : ∀ q, 0 ≤ q → q ≤ 3 → q ≠ (a1) → rwR ((w10)) ((w11)) (q) = rwR ((w10)) ((w11)) (q) := fun _ _ _ _ => rfl
    refine Ew_of (pc' := 46) (fun _ => x_iconst rfl) ?_
    exact w_ireturn rfl (k (0) σ _ _ H (SF_trans (SF_refl) hS3 (any_sub rfl)) (SA_trans (SA_refl) hA4 (any_subA rfl)) (w10) ((funext (hA4 10 rfl)).trans (ew10)) (w11) ((funext (hA4 11 rfl)).trans (ew11)) (show (0) = 0 ∨ (0) = 1 by omega) (show CHQ ((0 ≤ a1 ∧ a1 ≤ 3) ∧ (1 ≤ a2 ∧ a2 ≤ ((rwR ((w10)) ((w11)) (a1)).length : Int)) ∧ 0 ≤ a3 ∧ a2 * a3 ≤ 65536 - ((rwR ((w10)) ((w11)) (a1)).length : Int)) (rwR ((w10)) ((w11)) (a1)) (cpb (rwR ((w10)) ((w11)) (a1)) (a2) (a2 * a3 : Int).toNat) ((0)) (rwR ((w10)) ((w11)) (a1)) by assumption) (show ∀ q, 0 ≤ q → q ≤ 3 → q ≠ a1 → rwR ((w10)) ((w11)) (q) = rwR ((w10)) ((w11)) (q) by assumption))
  · refine Ew_of (pc' := 8) (fun _ => x_iload_n rfl rfl) ?_
    refine Ew_of (pc' := 9) (fun _ => x_iconst rfl) ?_
    refine w_icmplt (t := 45) rfl rfl (show inr (a2) by omega) (show inr (1) by omega) (fun b7 => ?_) (fun b7 => ?_)
    · have : CHQ ((0 ≤ (a1) ∧ (a1) ≤ 3) ∧ (1 ≤ (a2) ∧ (a2) ≤ ((rwR ((w10)) ((w11)) ((a1))).length : Int)) ∧ 0 ≤ (a3) ∧ (a2) * (a3) ≤ 65536 - ((rwR ((w10)) ((w11)) ((a1))).length : Int)) (rwR ((w10)) ((w11)) ((a1))) (cpb (rwR ((w10)) ((w11)) ((a1))) ((a2)) ((a2) * (a3) : Int).toNat) (0) (rwR ((w10)) ((w11)) ((a1))) := .inr ⟨fun q => by omega, rfl, rfl⟩
      have : ∀ q, 0 ≤ q → q ≤ 3 → q ≠ (a1) → rwR ((w10)) ((w11)) (q) = rwR ((w10)) ((w11)) (q) := fun _ _ _ _ => rfl
      refine Ew_of (pc' := 46) (fun _ => x_iconst rfl) ?_
      exact w_ireturn rfl (k (0) σ _ _ H (SF_trans (SF_refl) hS3 (any_sub rfl)) (SA_trans (SA_refl) hA4 (any_subA rfl)) (w10) ((funext (hA4 10 rfl)).trans (ew10)) (w11) ((funext (hA4 11 rfl)).trans (ew11)) (show (0) = 0 ∨ (0) = 1 by omega) (show CHQ ((0 ≤ a1 ∧ a1 ≤ 3) ∧ (1 ≤ a2 ∧ a2 ≤ ((rwR ((w10)) ((w11)) (a1)).length : Int)) ∧ 0 ≤ a3 ∧ a2 * a3 ≤ 65536 - ((rwR ((w10)) ((w11)) (a1)).length : Int)) (rwR ((w10)) ((w11)) (a1)) (cpb (rwR ((w10)) ((w11)) (a1)) (a2) (a2 * a3 : Int).toNat) ((0)) (rwR ((w10)) ((w11)) (a1)) by assumption) (show ∀ q, 0 ≤ q → q ≤ 3 → q ≠ a1 → rwR ((w10)) ((w11)) (q) = rwR ((w10)) ((w11)) (q) by assumption))
    · refine Ew_of (pc' := 13) (fun _ => x_iload_n rfl rfl) ?_
      refine Ew_of (pc' := 14) (fun _ => x_aload_n rfl rfl) ?_
      refine w_gT H (o := 0) (t := 11) rfl (H.perm 0 rfl) rfl rfl rfl rfl rfl rfl ?_
      refine Ew_of (pc' := 18) (fun _ => x_iload_n rfl rfl) ?_
      refine w_lI H (o := 11) (n := 4) rfl (H.perm 11 rfl) rfl rfl (H.fix 11 rfl rfl) (show 0 ≤ a1 ∧ a1 < ((4 : Nat) : Int) by omega) (by decide) (fun v8 ev8 qv8 => ?_)
      have qv8 : (0 : Int) ≤ v8 ∧ v8 ≤ 65536 := qv8
      have ev8 : (w11) (a1) = v8 := (congrFun ((funext (hA4 11 rfl)).trans (ew11)) (a1)).symm.trans ev8
      have hs19 := ev8
      refine w_icmpgt (t := 45) rfl rfl (show inr (a2) by omega) (show inr (v8) by omega) (fun b9 => ?_) (fun b9 => ?_)
      · have : CHQ ((0 ≤ (a1) ∧ (a1) ≤ 3) ∧ (1 ≤ (a2) ∧ (a2) ≤ ((rwR ((w10)) ((w11)) ((a1))).length : Int)) ∧ 0 ≤ (a3) ∧ (a2) * (a3) ≤ 65536 - ((rwR ((w10)) ((w11)) ((a1))).length : Int)) (rwR ((w10)) ((w11)) ((a1))) (cpb (rwR ((w10)) ((w11)) ((a1))) ((a2)) ((a2) * (a3) : Int).toNat) (0) (rwR ((w10)) ((w11)) ((a1))) := .inr ⟨fun q => by omega, rfl, rfl⟩
        have : ∀ q, 0 ≤ q → q ≤ 3 → q ≠ (a1) → rwR ((w10)) ((w11)) (q) = rwR ((w10)) ((w11)) (q) := fun _ _ _ _ => rfl
        refine Ew_of (pc' := 46) (fun _ => x_iconst rfl) ?_
        exact w_ireturn rfl (k (0) σ _ _ H (SF_trans (SF_refl) hS3 (any_sub rfl)) (SA_trans (SA_refl) hA4 (any_subA rfl)) (w10) ((funext (hA4 10 rfl)).trans (ew10)) (w11) ((funext (hA4 11 rfl)).trans (ew11)) (show (0) = 0 ∨ (0) = 1 by omega) (show CHQ ((0 ≤ a1 ∧ a1 ≤ 3) ∧ (1 ≤ a2 ∧ a2 ≤ ((rwR ((w10)) ((w11)) (a1)).length : Int)) ∧ 0 ≤ a3 ∧ a2 * a3 ≤ 65536 - ((rwR ((w10)) ((w11)) (a1)).length : Int)) (rwR ((w10)) ((w11)) (a1)) (cpb (rwR ((w10)) ((w11)) (a1)) (a2) (a2 * a3 : Int).toNat) ((0)) (rwR ((w10)) ((w11)) (a1)) by assumption) (show ∀ q, 0 ≤ q → q ≤ 3 → q ≠ a1 → rwR ((w10)) ((w11)) (q) = rwR ((w10)) ((w11)) (q) by assumption))
      · refine Ew_of (pc' := 23) (fun _ => x_iload_n rfl rfl) ?_
        refine w_iflt (t := 45) rfl rfl (show inr (a3) by omega) (fun b10 => ?_) (fun b10 => ?_)
        · have : CHQ ((0 ≤ (a1) ∧ (a1) ≤ 3) ∧ (1 ≤ (a2) ∧ (a2) ≤ ((rwR ((w10)) ((w11)) ((a1))).length : Int)) ∧ 0 ≤ (a3) ∧ (a2) * (a3) ≤ 65536 - ((rwR ((w10)) ((w11)) ((a1))).length : Int)) (rwR ((w10)) ((w11)) ((a1))) (cpb (rwR ((w10)) ((w11)) ((a1))) ((a2)) ((a2) * (a3) : Int).toNat) (0) (rwR ((w10)) ((w11)) ((a1))) := .inr ⟨fun q => by omega, rfl, rfl⟩
          have : ∀ q, 0 ≤ q → q ≤ 3 → q ≠ (a1) → rwR ((w10)) ((w11)) (q) = rwR ((w10)) ((w11)) (q) := fun _ _ _ _ => rfl
          refine Ew_of (pc' := 46) (fun _ => x_iconst rfl) ?_
          exact w_ireturn rfl (k (0) σ _ _ H (SF_trans (SF_refl) hS3 (any_sub rfl)) (SA_trans (SA_refl) hA4 (any_subA rfl)) (w10) ((funext (hA4 10 rfl)).trans (ew10)) (w11) ((funext (hA4 11 rfl)).trans (ew11)) (show (0) = 0 ∨ (0) = 1 by omega) (show CHQ ((0 ≤ a1 ∧ a1 ≤ 3) ∧ (1 ≤ a2 ∧ a2 ≤ ((rwR ((w10)) ((w11)) (a1)).length : Int)) ∧ 0 ≤ a3 ∧ a2 * a3 ≤ 65536 - ((rwR ((w10)) ((w11)) (a1)).length : Int)) (rwR ((w10)) ((w11)) (a1)) (cpb (rwR ((w10)) ((w11)) (a1)) (a2) (a2 * a3 : Int).toNat) ((0)) (rwR ((w10)) ((w11)) (a1)) by assumption) (show ∀ q, 0 ≤ q → q ≤ 3 → q ≠ a1 → rwR ((w10)) ((w11)) (q) = rwR ((w10)) ((w11)) (q) by assumption))
        · refine Ew_of (pc' := 27) (fun _ => x_iload_n rfl rfl) ?_
          refine w_i2l rfl (show inr (a2) by omega) ?_
          refine Ew_of (pc' := 29) (fun _ => x_iload_n rfl rfl) ?_
          refine w_i2l rfl (show inr (a3) by omega) ?_
          have hm0 : 0 ≤ (a2) * (a3) := Int.mul_nonneg (by omega) (by omega)
          have hm1 : (a2) * (a3) ≤ 65536 * 2147483647 := Int.mul_le_mul (by omega) (by omega) (by omega) (by omega)
          refine w_lmul rfl ?_
          refine Ew_of (pc' := 33) (fun _ => x_ldc (z := 65536) rfl (by decide)) ?_
          refine Ew_of (pc' := 34) (fun _ => x_aload_n rfl rfl) ?_
          refine w_gT H (o := 0) (t := 11) rfl (H.perm 0 rfl) rfl rfl rfl rfl rfl rfl ?_
          refine Ew_of (pc' := 38) (fun _ => x_iload_n rfl rfl) ?_
          refine w_lI H (o := 11) (n := 4) rfl (H.perm 11 rfl) rfl rfl (H.fix 11 rfl rfl) (show 0 ≤ a1 ∧ a1 < ((4 : Nat) : Int) by omega) (by decide) (fun v11 ev11 qv11 => ?_)
          have qv11 : (0 : Int) ≤ v11 ∧ v11 ≤ 65536 := qv11
          have ev11 : (w11) (a1) = v11 := (congrFun ((funext (hA4 11 rfl)).trans (ew11)) (a1)).symm.trans ev11
          have hs39 := ev11
          refine w_isub rfl ?_
          refine w_i2l rfl (show inr ((65536 - v11)) by omega) ?_
          refine w_lcmp rfl (show inrJ ((a2 * a3)) by omega) (show inrJ ((65536 - v11)) by omega) (fun z12 gz12 gaz12 gbz12 => ?_)
          refine w_ifle (t := 47) rfl rfl (show inr (z12) by omega) (fun b13 => ?_) (fun b13 => ?_)
          · refine Ew_of (pc' := 48) (fun _ => x_iconst rfl) ?_
            refine Ew_of (pc' := 50) (fun _ => x_istore rfl) ?_
            refine Ew_of (pc' := 51) (fun _ => x_iconst rfl) ?_
            refine Ew_of (pc' := 53) (fun _ => x_istore rfl) ?_
            have : RWC ((w10)) ((w11)) ((w10)) ((w11)) ((a1)) (cpb (rwR ((w10)) ((w11)) ((a1))) ((a2)) (0 : Int).toNat) := RWC_0
            suffices hl53 : ∀ (m : Nat), ∀ (ls : rO) (σ : rS) (F_53 : hF) (A_53 : hA) (x53_4 : Int) (x53_5 : Int), rlook ls 0 = some (.ref (D 0)) → rlook ls 1 = some (I (a1)) → rlook ls 2 = some (I (a2)) → rlook ls 3 = some (I (a3)) → rlook ls 4 = some (I (x53_4)) → rlook ls 5 = some (I (x53_5)) → HS σ0 σ D N F_53 A_53 → SF [] F1 F_53 → SA [10, 11] A2 A_53 → ∀ w53_10 : Int → Int, A_53 10 = w53_10 → ∀ w53_11 : Int → Int, A_53 11 = w53_11 → (inr (x53_4)) → (inr (x53_5)) → ((x53_4) = 1) → (0 ≤ (x53_5) ∧ (x53_5) ≤ (a2) * (a3)) → (((w53_11)) ((a1)) = ((w11)) ((a1)) + (x53_5)) → (RWC ((w10)) ((w11)) ((w53_10)) ((w53_11)) ((a1)) (cpb (rwR ((w10)) ((w11)) ((a1))) ((a2)) ((x53_5) : Int).toNat)) → ((a2) * (a3) - (x53_5)).toNat = m → Ew 60 (d + 1) 53 ls [] σ c s Q from
              hl53 _ _ σ _ _ (1) (0) (rk_o (rk_o (rfl) rfl rfl) rfl rfl) (rk_o (rk_o (rfl) rfl rfl) rfl rfl) (rk_o (rk_o (rfl) rfl rfl) rfl rfl) (rk_o (rk_o (rfl) rfl rfl) rfl rfl) (rk_o (rk_s) rfl rfl) (rk_s) H (SF_refl) (SA_refl)  (w10) ((funext (hA4 10 rfl)).trans (ew10)) (w11) ((funext (hA4 11 rfl)).trans (ew11)) (show inr (1) by omega) (show inr (0) by omega) (show (1) = 1 by omega) (show 0 ≤ (0) ∧ (0) ≤ (a2) * (a3) by omega) (show ((w11)) ((a1)) = ((w11)) ((a1)) + (0) by omega) (show RWC ((w10)) ((w11)) ((w10)) ((w11)) ((a1)) (cpb (rwR ((w10)) ((w11)) ((a1))) ((a2)) ((0) : Int).toNat) by assumption) rfl
            as_aux_lemma =>
            intro m
            induction m using Nat.strongRecOn with
            | _ m ih53 =>
              intro ls σ F_53 A_53 x53_4 x53_5 l53_0 l53_1 l53_2 l53_3 l53_4 l53_5 H hS_53 hA_53  w53_10 ew53_10 w53_11 ew53_11 j53_0 j53_1 j53_2 j53_3 j53_4 j53_5 hm53
              have j53_c : RWC ((w10)) ((w11)) ((w53_10)) ((w53_11)) ((a1)) (cpb (rwR ((w10)) ((w11)) ((a1))) ((a2)) ((x53_5) : Int).toNat) := by assumption
              have hSz2 : ∀ i, (0 : Int) ≤ (w53_11) i ∧ (w53_11) i ≤ 65536 := fun i => by have h1 : (0 : Int) ≤ A_53 11 i ∧ A_53 11 i ≤ 65536 := H.arng 11 i; rw [show A_53 11 = w53_11 from ew53_11] at h1; exact h1
              have hRo : ∀ i, (0 : Int) ≤ (w53_10) i ∧ (w53_10) i ≤ 255 := fun i => by have h1 : (0 : Int) ≤ A_53 10 i ∧ A_53 10 i ≤ 255 := H.arng 10 i; rw [show A_53 10 = w53_10 from ew53_10] at h1; exact h1
              obtain ⟨q5, hq5⟩ : ∃ q : Int, q = (x53_5) := ⟨_, rfl⟩
              refine Ew_of (pc' := 55) (fun _ => x_iload rfl l53_5) ?_
              refine Ew_of (pc' := 56) (fun _ => x_iload_n rfl l53_2) ?_
              refine Ew_of (pc' := 57) (fun _ => x_iload_n rfl l53_3) ?_
              refine w_imul rfl ?_
              refine w_icmpge (t := 105) rfl rfl (show inr (x53_5) by omega) (show inr ((a2 * a3)) by omega) (fun b14 => ?_) (fun b14 => ?_)
              · have hc12 : RWC ((w10)) ((w11)) ((w53_10)) ((w53_11)) ((a1)) (cpb (rwR ((w10)) ((w11)) ((a1))) ((a2)) ((a2) * (a3) : Int).toNat) := by have h := j53_c; rw [show (x53_5) = (a2) * (a3) by omega] at h; exact h
                have : CHQ ((0 ≤ (a1) ∧ (a1) ≤ 3) ∧ (1 ≤ (a2) ∧ (a2) ≤ ((rwR ((w10)) ((w11)) ((a1))).length : Int)) ∧ 0 ≤ (a3) ∧ (a2) * (a3) ≤ 65536 - ((rwR ((w10)) ((w11)) ((a1))).length : Int)) (rwR ((w10)) ((w11)) ((a1))) (cpb (rwR ((w10)) ((w11)) ((a1))) ((a2)) ((a2) * (a3) : Int).toNat) ((x53_4)) (rwR ((w53_10)) ((w53_11)) ((a1))) := .inl ⟨⟨by omega, by omega, by omega, by omega⟩, by omega, hc12.1⟩
                have : ∀ q, 0 ≤ q → q ≤ 3 → q ≠ (a1) → rwR ((w53_10)) ((w53_11)) (q) = rwR ((w10)) ((w11)) (q) := hc12.2
                refine Ew_of (pc' := 107) (fun _ => x_iload rfl l53_4) ?_
                exact w_ireturn rfl (k (x53_4) σ _ _ H (SF_trans (SF_trans (SF_refl) hS3 (any_sub rfl)) hS_53 (any_sub rfl)) (SA_trans (SA_trans (SA_refl) hA4 (any_subA rfl)) hA_53 (any_subA rfl)) (w53_10) (ew53_10) (w53_11) (ew53_11) (show (x53_4) = 0 ∨ (x53_4) = 1 by omega) (show CHQ ((0 ≤ a1 ∧ a1 ≤ 3) ∧ (1 ≤ a2 ∧ a2 ≤ ((rwR ((w10)) ((w11)) (a1)).length : Int)) ∧ 0 ≤ a3 ∧ a2 * a3 ≤ 65536 - ((rwR ((w10)) ((w11)) (a1)).length : Int)) (rwR ((w10)) ((w11)) (a1)) (cpb (rwR ((w10)) ((w11)) (a1)) (a2) (a2 * a3 : Int).toNat) ((x53_4)) (rwR ((w53_10)) ((w53_11)) (a1)) by assumption) (show ∀ q, 0 ≤ q → q ≤ 3 → q ≠ a1 → rwR ((w53_10)) ((w53_11)) (q) = rwR ((w10)) ((w11)) (q) by assumption))
              · refine Ew_of (pc' := 62) (fun _ => x_aload_n rfl l53_0) ?_
                refine Ew_of (pc' := 63) (fun _ => x_iload_n rfl l53_1) ?_
                refine Ew_of (pc' := 64) (fun _ => x_aload_n rfl l53_0) ?_
                refine w_gT H (o := 0) (t := 10) rfl (H.perm 0 rfl) rfl rfl rfl rfl rfl rfl ?_
                refine Ew_of (pc' := 69) (fun _ => x_ldc (z := 65536) rfl (by decide)) ?_
                refine Ew_of (pc' := 70) (fun _ => x_iload_n rfl l53_1) ?_
                refine w_imul rfl ?_
                refine Ew_of (pc' := 72) (fun _ => x_aload_n rfl l53_0) ?_
                refine w_gT H (o := 0) (t := 11) rfl (H.perm 0 rfl) rfl rfl rfl rfl rfl rfl ?_
                refine Ew_of (pc' := 76) (fun _ => x_iload_n rfl l53_1) ?_
                refine w_lI H (o := 11) (n := 4) rfl (H.perm 11 rfl) rfl rfl (H.fix 11 rfl rfl) (show 0 ≤ a1 ∧ a1 < ((4 : Nat) : Int) by omega) (by decide) (fun v15 ev15 qv15 => ?_)
                have qv15 : (0 : Int) ≤ v15 ∧ v15 ≤ 65536 := qv15
                have ev15 : (w53_11) (a1) = v15 := (congrFun (ew53_11) (a1)).symm.trans ev15
                have hs77 := ev15
                refine w_iadd rfl ?_
                refine Ew_of (pc' := 79) (fun _ => x_iload_n rfl l53_2) ?_
                refine w_isub rfl ?_
                refine w_lI H (o := 10) (n := 262144) rfl (H.perm 10 rfl) rfl rfl (H.fix 10 rfl rfl) (show 0 ≤ (((65536 * a1) + v15) - a2) ∧ (((65536 * a1) + v15) - a2) < ((262144 : Nat) : Int) by omega) (by decide) (fun v16 ev16 qv16 => ?_)
                have qv16 : (0 : Int) ≤ v16 ∧ v16 ≤ 255 := qv16
                have ev16 : (w53_10) ((((65536 * a1) + v15) - a2)) = v16 := (congrFun (ew53_10) ((((65536 * a1) + v15) - a2))).symm.trans ev16
                have hv81 := ev16
                obtain ⟨qv, hqv⟩ : ∃ q : Int, q = (v16) := ⟨_, rfl⟩
                have hlc : ((cpb (rwR ((w10)) ((w11)) ((a1))) ((a2)) (q5 : Int).toNat).length : Int) = ((w53_11)) ((a1)) := by rw [hq5, ← j53_c.1]; exact rwR_len (hSz2 ((a1))).1
                have hcd : 0 ≤ (a2) ∧ (a2) ≤ ((cpb (rwR ((w10)) ((w11)) ((a1))) ((a2)) (q5 : Int).toNat).length : Int) := by omega
                have hcv : ap (cpb (rwR ((w10)) ((w11)) ((a1))) ((a2)) (q5 : Int).toNat) (((cpb (rwR ((w10)) ((w11)) ((a1))) ((a2)) (q5 : Int).toNat).length : Int) - (a2)) = u8 qv := by rw [hlc, hq5, ← j53_c.1, rwR_g (by omega) (by omega) hRo, u8_id (by omega), hqv, ← hv81, hs77]; congr 1; omega
                refine w_inv H (o := 0) rfl rfl rfl (H.perm 0 rfl) rfl rfl (by rfl) (M57p H (w53_10) (ew53_10) (w53_11) (ew53_11) (show inr (a1) by omega) (show inr (v16) by omega) (show 0 ≤ (a1) ∧ (a1) ≤ 3 by omega) (fun z21 σ F17 A18 H hS19 hA20 wq22 ewq23 wq24 ewq25 pz21_0 pz21_1 pz21_2 => ⟨rretB rfl pz21_0, ?_⟩))
                have hap := APQ_1 pz21_1 hSz2 (by omega) (by omega)
                have hr1 := hap.1
                have hsz3 := hap.2.2
                refine w_ifeq (t := 96) rfl rfl (show inr (z21) by omega) (fun b26 => ?_) (fun b26 => ?_)
                · refine Ew_of (pc' := 97) (fun _ => x_iconst rfl) ?_
                  refine Ew_of (pc' := 99) (fun _ => x_istore rfl) ?_
                  refine Ew_of (pc' := 102) (fun _ => x_iinc (len := 3) rfl (rk_o (l53_5) rfl rfl)) ?_
                  refine Ew_of (pc' := 53) (fun _ => x_goto rfl rfl) ?_
                  have : RWC ((w10)) ((w11)) ((wq22)) ((wq24)) ((a1)) (cpb (rwR ((w10)) ((w11)) ((a1))) ((a2)) (((x53_5 + 1)) : Int).toNat) := by first | exact RWC_e (RWC_t j53_c hap.2.1) (by rw [cpb_sp (n := q5) (m := ((x53_5 + 1))) (v := u8 qv) (by omega) (by omega) hcv hcd, hq5, ← j53_c.1, hqv]) | (exfalso; omega)
                  exact ih53 _ (by omega) _ σ _ _ (0) ((x53_5 + 1)) (rk_o (rk_o (l53_0) rfl rfl) rfl rfl) (rk_o (rk_o (l53_1) rfl rfl) rfl rfl) (rk_o (rk_o (l53_2) rfl rfl) rfl rfl) (rk_o (rk_o (l53_3) rfl rfl) rfl rfl) (rk_o (rk_s) rfl rfl) (rk_s) H (SF_trans (hS_53) hS19 (any_sub rfl)) (SA_trans (hA_53) hA20 (any_subA rfl))  (wq22) (ewq23) (wq24) (ewq25) (show inr (0) by omega) (show inr ((x53_5 + 1)) by omega) (show (0) = 1 by omega) (show 0 ≤ ((x53_5 + 1)) ∧ ((x53_5 + 1)) ≤ (a2) * (a3) by omega) (show ((wq24)) ((a1)) = ((w11)) ((a1)) + ((x53_5 + 1)) by omega) (show RWC ((w10)) ((w11)) ((wq22)) ((wq24)) ((a1)) (cpb (rwR ((w10)) ((w11)) ((a1))) ((a2)) (((x53_5 + 1)) : Int).toNat) by assumption) rfl
                · refine Ew_of (pc' := 89) (fun _ => x_iload rfl l53_4) ?_
                  refine w_ifeq (t := 96) rfl rfl (show inr (x53_4) by omega) (fun b27 => ?_) (fun b27 => ?_)
                  · refine Ew_of (pc' := 97) (fun _ => x_iconst rfl) ?_
                    refine Ew_of (pc' := 99) (fun _ => x_istore rfl) ?_
                    refine Ew_of (pc' := 102) (fun _ => x_iinc (len := 3) rfl (rk_o (l53_5) rfl rfl)) ?_
                    refine Ew_of (pc' := 53) (fun _ => x_goto rfl rfl) ?_
                    have : RWC ((w10)) ((w11)) ((wq22)) ((wq24)) ((a1)) (cpb (rwR ((w10)) ((w11)) ((a1))) ((a2)) (((x53_5 + 1)) : Int).toNat) := by first | exact RWC_e (RWC_t j53_c hap.2.1) (by rw [cpb_sp (n := q5) (m := ((x53_5 + 1))) (v := u8 qv) (by omega) (by omega) hcv hcd, hq5, ← j53_c.1, hqv]) | (exfalso; omega)
                    exact ih53 _ (by omega) _ σ _ _ (0) ((x53_5 + 1)) (rk_o (rk_o (l53_0) rfl rfl) rfl rfl) (rk_o (rk_o (l53_1) rfl rfl) rfl rfl) (rk_o (rk_o (l53_2) rfl rfl) rfl rfl) (rk_o (rk_o (l53_3) rfl rfl) rfl rfl) (rk_o (rk_s) rfl rfl) (rk_s) H (SF_trans (hS_53) hS19 (any_sub rfl)) (SA_trans (hA_53) hA20 (any_subA rfl))  (wq22) (ewq23) (wq24) (ewq25) (show inr (0) by omega) (show inr ((x53_5 + 1)) by omega) (show (0) = 1 by omega) (show 0 ≤ ((x53_5 + 1)) ∧ ((x53_5 + 1)) ≤ (a2) * (a3) by omega) (show ((wq24)) ((a1)) = ((w11)) ((a1)) + ((x53_5 + 1)) by omega) (show RWC ((w10)) ((w11)) ((wq22)) ((wq24)) ((a1)) (cpb (rwR ((w10)) ((w11)) ((a1))) ((a2)) (((x53_5 + 1)) : Int).toNat) by assumption) rfl
                  · refine Ew_of (pc' := 93) (fun _ => x_iconst rfl) ?_
                    refine Ew_of (pc' := 97) (fun _ => x_goto rfl rfl) ?_
                    refine Ew_of (pc' := 99) (fun _ => x_istore rfl) ?_
                    refine Ew_of (pc' := 102) (fun _ => x_iinc (len := 3) rfl (rk_o (l53_5) rfl rfl)) ?_
                    refine Ew_of (pc' := 53) (fun _ => x_goto rfl rfl) ?_
                    have : RWC ((w10)) ((w11)) ((wq22)) ((wq24)) ((a1)) (cpb (rwR ((w10)) ((w11)) ((a1))) ((a2)) (((x53_5 + 1)) : Int).toNat) := by first | exact RWC_e (RWC_t j53_c hap.2.1) (by rw [cpb_sp (n := q5) (m := ((x53_5 + 1))) (v := u8 qv) (by omega) (by omega) hcv hcd, hq5, ← j53_c.1, hqv]) | (exfalso; omega)
                    exact ih53 _ (by omega) _ σ _ _ (1) ((x53_5 + 1)) (rk_o (rk_o (l53_0) rfl rfl) rfl rfl) (rk_o (rk_o (l53_1) rfl rfl) rfl rfl) (rk_o (rk_o (l53_2) rfl rfl) rfl rfl) (rk_o (rk_o (l53_3) rfl rfl) rfl rfl) (rk_o (rk_s) rfl rfl) (rk_s) H (SF_trans (hS_53) hS19 (any_sub rfl)) (SA_trans (hA_53) hA20 (any_subA rfl))  (wq22) (ewq23) (wq24) (ewq25) (show inr (1) by omega) (show inr ((x53_5 + 1)) by omega) (show (1) = 1 by omega) (show 0 ≤ ((x53_5 + 1)) ∧ ((x53_5 + 1)) ≤ (a2) * (a3) by omega) (show ((wq24)) ((a1)) = ((w11)) ((a1)) + ((x53_5 + 1)) by omega) (show RWC ((w10)) ((w11)) ((wq22)) ((wq24)) ((a1)) (cpb (rwR ((w10)) ((w11)) ((a1))) ((a2)) (((x53_5 + 1)) : Int).toNat) by assumption) rfl
          · have : CHQ ((0 ≤ (a1) ∧ (a1) ≤ 3) ∧ (1 ≤ (a2) ∧ (a2) ≤ ((rwR ((w10)) ((w11)) ((a1))).length : Int)) ∧ 0 ≤ (a3) ∧ (a2) * (a3) ≤ 65536 - ((rwR ((w10)) ((w11)) ((a1))).length : Int)) (rwR ((w10)) ((w11)) ((a1))) (cpb (rwR ((w10)) ((w11)) ((a1))) ((a2)) ((a2) * (a3) : Int).toNat) (0) (rwR ((w10)) ((w11)) ((a1))) := .inr ⟨fun q => by omega, rfl, rfl⟩
            have : ∀ q, 0 ≤ q → q ≤ 3 → q ≠ (a1) → rwR ((w10)) ((w11)) (q) = rwR ((w10)) ((w11)) (q) := fun _ _ _ _ => rfl
            refine Ew_of (pc' := 46) (fun _ => x_iconst rfl) ?_
            exact w_ireturn rfl (k (0) σ _ _ H (SF_trans (SF_refl) hS3 (any_sub rfl)) (SA_trans (SA_refl) hA4 (any_subA rfl)) (w10) ((funext (hA4 10 rfl)).trans (ew10)) (w11) ((funext (hA4 11 rfl)).trans (ew11)) (show (0) = 0 ∨ (0) = 1 by omega) (show CHQ ((0 ≤ a1 ∧ a1 ≤ 3) ∧ (1 ≤ a2 ∧ a2 ≤ ((rwR ((w10)) ((w11)) (a1)).length : Int)) ∧ 0 ≤ a3 ∧ a2 * a3 ≤ 65536 - ((rwR ((w10)) ((w11)) (a1)).length : Int)) (rwR ((w10)) ((w11)) (a1)) (cpb (rwR ((w10)) ((w11)) (a1)) (a2) (a2 * a3 : Int).toNat) ((0)) (rwR ((w10)) ((w11)) (a1)) by assumption) (show ∀ q, 0 ≤ q → q ≤ 3 → q ≠ a1 → rwR ((w10)) ((w11)) (q) = rwR ((w10)) ((w11)) (q) by assumption))
/-- Model.cut -/
theorem M61p {σ0 σ : rS} {D N : Nat → Nat} {F : hF} {A : hA} {d c s : Nat} {Q : wQ} (H : HS σ0 σ D N F A) {a1 a2 : Int} (w10 : Int → Int) (ew10 : A 10 = w10) (w11 : Int → Int) (ew11 : A 11 = w11) (h0 : inr (a1)) (h1 : inr (a2)) (k : ∀ (z : Int) σ F' A', HS σ0 σ D N F' A' → SF [] F F' → SA [11] A A' → ∀ v10 : Int → Int, A' 10 = v10 → ∀ v11 : Int → Int, A' 11 = v11 → ((z) = 0 ∨ (z) = 1) → (CHQ ((0 ≤ (a1) ∧ (a1) ≤ 3) ∧ (0 ≤ (a2) ∧ (a2) ≤ ((rwR ((w10)) ((w11)) ((a1))).length : Int))) (rwR ((w10)) ((w11)) ((a1))) ((rwR ((w10)) ((w11)) ((a1))).take ((a2) : Int).toNat) ((z)) (rwR ((v10)) ((v11)) ((a1)))) → (∀ q, 0 ≤ q → q ≤ 3 → q ≠ (a1) → rwR ((v10)) ((v11)) (q) = rwR ((w10)) ((w11)) (q)) → Q (some (I z)) σ c s) : Ew 61 (d + 1) 0 (rargs 0 [.ref (D 0), I a1, I a2]) [] σ c s Q := by
  have hSz : ∀ i, (0 : Int) ≤ (w11) i ∧ (w11) i ≤ 65536 := fun i => by have h1 : (0 : Int) ≤ A 11 i ∧ A 11 i ≤ 65536 := H.arng 11 i; rw [show A 11 = w11 from ew11] at h1; exact h1
  have hl0 := rwR_len (ro := (w10)) (si := (w11)) (r := (a1)) (hSz ((a1))).1
  refine Ew_of (pc' := 1) (fun _ => x_iload_n rfl rfl) ?_
  refine w_stat24 rfl rfl (by rfl) (M56p H (show inr (a1) by omega) (fun z5 σ F1 A2 H hS3 hA4 pz5_0 pz5_1 => ⟨rretB rfl pz5_0, ?_⟩))
  refine w_ifeq (t := 21) rfl rfl (show inr (z5) by omega) (fun b6 => ?_) (fun b6 => ?_)
  · have : CHQ ((0 ≤ (a1) ∧ (a1) ≤ 3) ∧ (0 ≤ (a2) ∧ (a2) ≤ ((rwR ((w10)) ((w11)) ((a1))).length : Int))) (rwR ((w10)) ((w11)) ((a1))) ((rwR ((w10)) ((w11)) ((a1))).take ((a2) : Int).toNat) (0) (rwR ((w10)) ((w11)) ((a1))) := .inr ⟨fun q => by omega, rfl, rfl⟩
    have : ∀ q, 0 ≤ q → q ≤ 3 → q ≠ (a1) → rwR ((w10)) ((w11)) (q) = rwR ((w10)) ((w11)) (q) := fun _ _ _ _ => rfl
    refine Ew_of (pc' := 22) (fun _ => x_iconst rfl) ?_
    exact w_ireturn rfl (k (0) σ _ _ H (SF_trans (SF_refl) hS3 (any_sub rfl)) (SA_trans (SA_refl) hA4 (any_subA rfl)) (w10) ((funext (hA4 10 rfl)).trans (ew10)) (w11) ((funext (hA4 11 rfl)).trans (ew11)) (show (0) = 0 ∨ (0) = 1 by omega) (show CHQ ((0 ≤ a1 ∧ a1 ≤ 3) ∧ (0 ≤ a2 ∧ a2 ≤ ((rwR ((w10)) ((w11)) (a1)).length : Int))) (rwR ((w10)) ((w11)) (a1)) ((rwR ((w10)) ((w11)) (a1)).take (a2 : Int).toNat) ((0)) (rwR ((w10)) ((w11)) (a1)) by assumption) (show ∀ q, 0 ≤ q → q ≤ 3 → q ≠ a1 → rwR ((w10)) ((w11)) (q) = rwR ((w10)) ((w11)) (q) by assumption))
  · refine Ew_of (pc' := 8) (fun _ => x_iload_n rfl rfl) ?_
    refine w_iflt (t := 21) rfl rfl (show inr (a2) by omega) (fun b7 => ?_) (fun b7 => ?_)
    · have : CHQ ((0 ≤ (a1) ∧ (a1) ≤ 3) ∧ (0 ≤ (a2) ∧ (a2) ≤ ((rwR ((w10)) ((w11)) ((a1))).length : Int))) (rwR ((w10)) ((w11)) ((a1))) ((rwR ((w10)) ((w11)) ((a1))).take ((a2) : Int).toNat) (0) (rwR ((w10)) ((w11)) ((a1))) := .inr ⟨fun q => by omega, rfl, rfl⟩
      have : ∀ q, 0 ≤ q → q ≤ 3 → q ≠ (a1) → rwR ((w10)) ((w11)) (q) = rwR ((w10)) ((w11)) (q) := fun _ _ _ _ => rfl
      refine Ew_of (pc' := 22) (fun _ => x_iconst rfl) ?_
      exact w_ireturn rfl (k (0) σ _ _ H (SF_trans (SF_refl) hS3 (any_sub rfl)) (SA_trans (SA_refl) hA4 (any_subA rfl)) (w10) ((funext (hA4 10 rfl)).trans (ew10)) (w11) ((funext (hA4 11 rfl)).trans (ew11)) (show (0) = 0 ∨ (0) = 1 by omega) (show CHQ ((0 ≤ a1 ∧ a1 ≤ 3) ∧ (0 ≤ a2 ∧ a2 ≤ ((rwR ((w10)) ((w11)) (a1)).length : Int))) (rwR ((w10)) ((w11)) (a1)) ((rwR ((w10)) ((w11)) (a1)).take (a2 : Int).toNat) ((0)) (rwR ((w10)) ((w11)) (a1)) by assumption) (show ∀ q, 0 ≤ q → q ≤ 3 → q ≠ a1 → rwR ((w10)) ((w11)) (q) = rwR ((w10)) ((w11)) (q) by assumption))
    · refine Ew_of (pc' := 12) (fun _ => x_iload_n rfl rfl) ?_
      refine Ew_of (pc' := 13) (fun _ => x_aload_n rfl rfl) ?_
      refine w_gT H (o := 0) (t := 11) rfl (H.perm 0 rfl) rfl rfl rfl rfl rfl rfl ?_
      refine Ew_of (pc' := 17) (fun _ => x_iload_n rfl rfl) ?_
      refine w_lI H (o := 11) (n := 4) rfl (H.perm 11 rfl) rfl rfl (H.fix 11 rfl rfl) (show 0 ≤ a1 ∧ a1 < ((4 : Nat) : Int) by omega) (by decide) (fun v8 ev8 qv8 => ?_)
      have qv8 : (0 : Int) ≤ v8 ∧ v8 ≤ 65536 := qv8
      have ev8 : (w11) (a1) = v8 := (congrFun ((funext (hA4 11 rfl)).trans (ew11)) (a1)).symm.trans ev8
      have hs18 := ev8
      refine w_icmple (t := 23) rfl rfl (show inr (a2) by omega) (show inr (v8) by omega) (fun b9 => ?_) (fun b9 => ?_)
      · refine Ew_of (pc' := 24) (fun _ => x_aload_n rfl rfl) ?_
        refine w_gT H (o := 0) (t := 11) rfl (H.perm 0 rfl) rfl rfl rfl rfl rfl rfl ?_
        refine Ew_of (pc' := 28) (fun _ => x_iload_n rfl rfl) ?_
        refine Ew_of (pc' := 29) (fun _ => x_iload_n rfl rfl) ?_
        refine w_sI H (o := 11) (n := 4) rfl (H.perm 11 rfl) rfl rfl (H.fix 11 rfl rfl) (show 0 ≤ a1 ∧ a1 < ((4 : Nat) : Int) by omega) (by decide) (show (0 : Int) ≤ a2 ∧ a2 ≤ 65536 by omega) (fun σ H => ?_)
        have : CHQ ((0 ≤ (a1) ∧ (a1) ≤ 3) ∧ (0 ≤ (a2) ∧ (a2) ≤ ((rwR ((w10)) ((w11)) ((a1))).length : Int))) (rwR ((w10)) ((w11)) ((a1))) ((rwR ((w10)) ((w11)) ((a1))).take ((a2) : Int).toNat) (1) (rwR ((w10)) ((upd1 (w11) (a1) (a2))) ((a1))) := .inl ⟨⟨by omega, by omega⟩, rfl, by unfold rwR; rw [upd1_s, sc_tk (by omega) (by omega)]⟩
        have : ∀ q, 0 ≤ q → q ≤ 3 → q ≠ (a1) → rwR ((w10)) ((upd1 (w11) (a1) (a2))) (q) = rwR ((w10)) ((w11)) (q) := fun q _ _ z => by unfold rwR; rw [upd1_o z]
        refine Ew_of (pc' := 31) (fun _ => x_iconst rfl) ?_
        exact w_ireturn rfl (k (1) σ _ _ H (SF_trans (SF_refl) hS3 (any_sub rfl)) (SA_upd (SA_trans (SA_refl) hA4 (any_subA rfl)) rfl) (w10) ((funext (hA4 10 rfl)).trans (ew10)) (upd1 (w11) (a1) (a2)) (congrArg (fun q => upd1 q (a1) (a2)) ((funext (hA4 11 rfl)).trans (ew11))) (show (1) = 0 ∨ (1) = 1 by omega) (show CHQ ((0 ≤ a1 ∧ a1 ≤ 3) ∧ (0 ≤ a2 ∧ a2 ≤ ((rwR ((w10)) ((w11)) (a1)).length : Int))) (rwR ((w10)) ((w11)) (a1)) ((rwR ((w10)) ((w11)) (a1)).take (a2 : Int).toNat) ((1)) (rwR ((w10)) ((upd1 (w11) (a1) (a2))) (a1)) by assumption) (show ∀ q, 0 ≤ q → q ≤ 3 → q ≠ a1 → rwR ((w10)) ((upd1 (w11) (a1) (a2))) (q) = rwR ((w10)) ((w11)) (q) by assumption))
      · have : CHQ ((0 ≤ (a1) ∧ (a1) ≤ 3) ∧ (0 ≤ (a2) ∧ (a2) ≤ ((rwR ((w10)) ((w11)) ((a1))).length : Int))) (rwR ((w10)) ((w11)) ((a1))) ((rwR ((w10)) ((w11)) ((a1))).take ((a2) : Int).toNat) (0) (rwR ((w10)) ((w11)) ((a1))) := .inr ⟨fun q => by omega, rfl, rfl⟩
        have : ∀ q, 0 ≤ q → q ≤ 3 → q ≠ (a1) → rwR ((w10)) ((w11)) (q) = rwR ((w10)) ((w11)) (q) := fun _ _ _ _ => rfl
        refine Ew_of (pc' := 22) (fun _ => x_iconst rfl) ?_
        exact w_ireturn rfl (k (0) σ _ _ H (SF_trans (SF_refl) hS3 (any_sub rfl)) (SA_trans (SA_refl) hA4 (any_subA rfl)) (w10) ((funext (hA4 10 rfl)).trans (ew10)) (w11) ((funext (hA4 11 rfl)).trans (ew11)) (show (0) = 0 ∨ (0) = 1 by omega) (show CHQ ((0 ≤ a1 ∧ a1 ≤ 3) ∧ (0 ≤ a2 ∧ a2 ≤ ((rwR ((w10)) ((w11)) (a1)).length : Int))) (rwR ((w10)) ((w11)) (a1)) ((rwR ((w10)) ((w11)) (a1)).take (a2 : Int).toNat) ((0)) (rwR ((w10)) ((w11)) (a1)) by assumption) (show ∀ q, 0 ≤ q → q ≤ 3 → q ≠ a1 → rwR ((w10)) ((w11)) (q) = rwR ((w10)) ((w11)) (q) by assumption))
/-- Model.join -/
theorem M63p {σ0 σ : rS} {D N : Nat → Nat} {F : hF} {A : hA} {d c s : Nat} {Q : wQ} (H : HS σ0 σ D N F A) {a1 a2 a3 a4 : Int} (w10 : Int → Int) (ew10 : A 10 = w10) (w11 : Int → Int) (ew11 : A 11 = w11) (h0 : inr (a1)) (h1 : inr (a2)) (h2 : inr (a3)) (h3 : inr (a4)) (k : ∀ (z : Int) σ F' A', HS σ0 σ D N F' A' → SF [] F F' → SA [10, 11] A A' → ∀ v10 : Int → Int, A' 10 = v10 → ∀ v11 : Int → Int, A' 11 = v11 → ((z) = 0 ∨ (z) = 1) → (CHQ ((0 ≤ (a1) ∧ (a1) ≤ 3) ∧ (0 ≤ (a2) ∧ (a2) ≤ 3) ∧ ((prL (rwR ((w10)) ((w11)) ((a2))) ((a3)) ((a4))).length : Int) ≤ 65536 - ((rwR ((w10)) ((w11)) ((a1))).length : Int)) (rwR ((w10)) ((w11)) ((a1))) (rwR ((w10)) ((w11)) ((a1)) ++ prL (rwR ((w10)) ((w11)) ((a2))) ((a3)) ((a4))) ((z)) (rwR ((v10)) ((v11)) ((a1)))) → (∀ q, 0 ≤ q → q ≤ 3 → q ≠ (a1) → rwR ((v10)) ((v11)) (q) = rwR ((w10)) ((w11)) (q)) → Q (some (I z)) σ c s) : Ew 63 (d + 1) 0 (rargs 0 [.ref (D 0), I a1, I a2, I a3, I a4]) [] σ c s Q := by
  have hSz : ∀ i, (0 : Int) ≤ (w11) i ∧ (w11) i ≤ 65536 := fun i => by have h1 : (0 : Int) ≤ A 11 i ∧ A 11 i ≤ 65536 := H.arng 11 i; rw [show A 11 = w11 from ew11] at h1; exact h1
  have hl0 := rwR_len (ro := (w10)) (si := (w11)) (r := (a1)) (hSz ((a1))).1
  have hl2 := rwR_len (ro := (w10)) (si := (w11)) (r := (a2)) (hSz ((a2))).1
  have hsa2 := hSz ((a2))
  refine Ew_of (pc' := 1) (fun _ => x_iload_n rfl rfl) ?_
  refine w_stat24 rfl rfl (by rfl) (M56p H (show inr (a1) by omega) (fun z5 σ F1 A2 H hS3 hA4 pz5_0 pz5_1 => ⟨rretB rfl pz5_0, ?_⟩))
  refine w_ifeq (t := 14) rfl rfl (show inr (z5) by omega) (fun b6 => ?_) (fun b6 => ?_)
  · have : CHQ ((0 ≤ (a1) ∧ (a1) ≤ 3) ∧ (0 ≤ (a2) ∧ (a2) ≤ 3) ∧ ((prL (rwR ((w10)) ((w11)) ((a2))) ((a3)) ((a4))).length : Int) ≤ 65536 - ((rwR ((w10)) ((w11)) ((a1))).length : Int)) (rwR ((w10)) ((w11)) ((a1))) (rwR ((w10)) ((w11)) ((a1)) ++ prL (rwR ((w10)) ((w11)) ((a2))) ((a3)) ((a4))) (0) (rwR ((w10)) ((w11)) ((a1))) := .inr ⟨fun q => by omega, rfl, rfl⟩
    have : ∀ q, 0 ≤ q → q ≤ 3 → q ≠ (a1) → rwR ((w10)) ((w11)) (q) = rwR ((w10)) ((w11)) (q) := fun _ _ _ _ => rfl
    refine Ew_of (pc' := 15) (fun _ => x_iconst rfl) ?_
    exact w_ireturn rfl (k (0) σ _ _ H (SF_trans (SF_refl) hS3 (any_sub rfl)) (SA_trans (SA_refl) hA4 (any_subA rfl)) (w10) ((funext (hA4 10 rfl)).trans (ew10)) (w11) ((funext (hA4 11 rfl)).trans (ew11)) (show (0) = 0 ∨ (0) = 1 by omega) (show CHQ ((0 ≤ a1 ∧ a1 ≤ 3) ∧ (0 ≤ a2 ∧ a2 ≤ 3) ∧ ((prL (rwR ((w10)) ((w11)) (a2)) (a3) (a4)).length : Int) ≤ 65536 - ((rwR ((w10)) ((w11)) (a1)).length : Int)) (rwR ((w10)) ((w11)) (a1)) (rwR ((w10)) ((w11)) (a1) ++ prL (rwR ((w10)) ((w11)) (a2)) (a3) (a4)) ((0)) (rwR ((w10)) ((w11)) (a1)) by assumption) (show ∀ q, 0 ≤ q → q ≤ 3 → q ≠ a1 → rwR ((w10)) ((w11)) (q) = rwR ((w10)) ((w11)) (q) by assumption))
  · refine Ew_of (pc' := 8) (fun _ => x_iload_n rfl rfl) ?_
    refine w_stat24 rfl rfl (by rfl) (M56p H (show inr (a2) by omega) (fun z11 σ F7 A8 H hS9 hA10 pz11_0 pz11_1 => ⟨rretB rfl pz11_0, ?_⟩))
    refine w_ifne (t := 16) rfl rfl (show inr (z11) by omega) (fun b12 => ?_) (fun b12 => ?_)
    · have hc35 : ∀ (tc35_0 : Int), ∀ (ls : rO) (σ : rS) (F_c35 : hF) (A_c35 : hA) , rlook ls 0 = some (.ref (D 0)) → rlook ls 1 = some (I (a1)) → rlook ls 2 = some (I (a2)) → rlook ls 3 = some (I (a3)) → HS σ0 σ D N F_c35 A_c35 → SF [] F7 F_c35 → SA [] A8 A_c35 → (inr (tc35_0)) → (((tc35_0) = (a4) - (a3) ∧ (0 ≤ (a3) ∧ (a3) ≤ (a4) ∧ (a4) ≤ ((w11)) ((a2))) ∨ (tc35_0) = 0 ∧ ¬ (0 ≤ (a3) ∧ (a3) ≤ (a4) ∧ (a4) ≤ ((w11)) ((a2))))) → (0 ≤ (tc35_0) ∧ (tc35_0) ≤ 65536) → Ew 63 (d + 1) 35 ls [I (tc35_0)] σ c s Q := by
       as_aux_lemma =>
        intro tc35_0 ls σ F_c35 A_c35  lc35_0 lc35_1 lc35_2 lc35_3 H hS_c35 hA_c35   jc35_0 jc35_1 jc35_2
        refine Ew_of (pc' := 37) (fun _ => x_istore rfl) ?_
        have h35 : ((tc35_0) = (a4) - (a3) ∧ (0 ≤ (a3) ∧ (a3) ≤ (a4) ∧ (a4) ≤ ((w11)) ((a2))) ∨ (tc35_0) = 0 ∧ ¬ (0 ≤ (a3) ∧ (a3) ≤ (a4) ∧ (a4) ≤ ((w11)) ((a2)))) := by omega
        have hpl : ((prL (rwR ((w10)) ((w11)) ((a2))) ((a3)) ((a4))).length : Int) = (tc35_0) := by rcases h35 with ⟨a, b⟩ | ⟨a, b⟩; (rw [prL_y (by rw [hl2]; exact b), sc_lenI (by omega)]; omega); (rw [prL_n (by rw [hl2]; exact b)]; simp only [List.length_nil]; omega)
        have hpe : prL (rwR ((w10)) ((w11)) ((a2))) ((a3)) ((a4)) = sc (sh ((w10)) (65536 * (a2))) ((a3)) ((a3) + (tc35_0)) := by rcases h35 with ⟨a, b⟩ | ⟨a, b⟩; (rw [a, show (a3) + ((a4) - (a3)) = (a4) by omega]; exact pr_sc rfl b); (rw [a, Int.add_zero, sc_nil (Int.le_refl _)]; exact prL_n (by rw [hl2]; exact b))
        refine Ew_of (pc' := 39) (fun _ => x_iload rfl rk_s) ?_
        refine Ew_of (pc' := 41) (fun _ => x_ldc (z := 65536) rfl (by decide)) ?_
        refine Ew_of (pc' := 42) (fun _ => x_aload_n rfl (rk_o (lc35_0) rfl rfl)) ?_
        refine w_gT H (o := 0) (t := 11) rfl (H.perm 0 rfl) rfl rfl rfl rfl rfl rfl ?_
        refine Ew_of (pc' := 46) (fun _ => x_iload_n rfl (rk_o (lc35_1) rfl rfl)) ?_
        refine w_lI H (o := 11) (n := 4) rfl (H.perm 11 rfl) rfl rfl (H.fix 11 rfl rfl) (show 0 ≤ a1 ∧ a1 < ((4 : Nat) : Int) by omega) (by decide) (fun v13 ev13 qv13 => ?_)
        have qv13 : (0 : Int) ≤ v13 ∧ v13 ≤ 65536 := qv13
        have ev13 : (w11) (a1) = v13 := (congrFun ((funext (hA_c35 11 rfl)).trans ((funext (hA10 11 rfl)).trans ((funext (hA4 11 rfl)).trans (ew11)))) (a1)).symm.trans ev13
        have hs47 := ev13
        refine w_isub rfl ?_
        refine w_icmple (t := 53) rfl rfl (show inr (tc35_0) by omega) (show inr ((65536 - v13)) by omega) (fun b14 => ?_) (fun b14 => ?_)
        · refine Ew_of (pc' := 54) (fun _ => x_iconst rfl) ?_
          refine Ew_of (pc' := 56) (fun _ => x_istore rfl) ?_
          refine Ew_of (pc' := 57) (fun _ => x_iconst rfl) ?_
          refine Ew_of (pc' := 59) (fun _ => x_istore rfl) ?_
          have : RWC ((w10)) ((w11)) ((w10)) ((w11)) ((a1)) (rwR ((w10)) ((w11)) ((a1)) ++ sc (sh ((w10)) (65536 * (a2))) ((a3)) ((a3) + 0)) := RWC_e RWC_0 (by rw [Int.add_zero, sc_nil (Int.le_refl _), List.append_nil])
          have : ∀ k, 0 ≤ k → k < ((w11)) ((a2)) → ((w10)) (65536 * (a2) + k) = ((w10)) (65536 * (a2) + k) := fun _ _ _ => rfl
          suffices hl59 : ∀ (m : Nat), ∀ (ls : rO) (σ : rS) (F_59 : hF) (A_59 : hA) (x59_6 : Int) (x59_7 : Int), rlook ls 0 = some (.ref (D 0)) → rlook ls 1 = some (I (a1)) → rlook ls 2 = some (I (a2)) → rlook ls 3 = some (I (a3)) → rlook ls 5 = some (I (tc35_0)) → rlook ls 6 = some (I (x59_6)) → rlook ls 7 = some (I (x59_7)) → HS σ0 σ D N F_59 A_59 → SF [] F_c35 F_59 → SA [10, 11] A_c35 A_59 → ∀ w59_10 : Int → Int, A_59 10 = w59_10 → ∀ w59_11 : Int → Int, A_59 11 = w59_11 → (inr (x59_6)) → (inr (x59_7)) → ((x59_6) = 1) → (0 ≤ (x59_7) ∧ (x59_7) ≤ (tc35_0)) → (((w59_11)) ((a1)) = ((w11)) ((a1)) + (x59_7)) → (RWC ((w10)) ((w11)) ((w59_10)) ((w59_11)) ((a1)) (rwR ((w10)) ((w11)) ((a1)) ++ sc (sh ((w10)) (65536 * (a2))) ((a3)) ((a3) + (x59_7)))) → (∀ k, 0 ≤ k → k < ((w11)) ((a2)) → ((w59_10)) (65536 * (a2) + k) = ((w10)) (65536 * (a2) + k)) → ((tc35_0) - (x59_7)).toNat = m → Ew 63 (d + 1) 59 ls [] σ c s Q from
            hl59 _ _ σ _ _ (1) (0) (rk_o (rk_o (rk_o (lc35_0) rfl rfl) rfl rfl) rfl rfl) (rk_o (rk_o (rk_o (lc35_1) rfl rfl) rfl rfl) rfl rfl) (rk_o (rk_o (rk_o (lc35_2) rfl rfl) rfl rfl) rfl rfl) (rk_o (rk_o (rk_o (lc35_3) rfl rfl) rfl rfl) rfl rfl) (rk_o (rk_o (rk_s) rfl rfl) rfl rfl) (rk_o (rk_s) rfl rfl) (rk_s) H (SF_refl) (SA_refl)  (w10) ((funext (hA_c35 10 rfl)).trans ((funext (hA10 10 rfl)).trans ((funext (hA4 10 rfl)).trans (ew10)))) (w11) ((funext (hA_c35 11 rfl)).trans ((funext (hA10 11 rfl)).trans ((funext (hA4 11 rfl)).trans (ew11)))) (show inr (1) by omega) (show inr (0) by omega) (show (1) = 1 by omega) (show 0 ≤ (0) ∧ (0) ≤ (tc35_0) by omega) (show ((w11)) ((a1)) = ((w11)) ((a1)) + (0) by omega) (show RWC ((w10)) ((w11)) ((w10)) ((w11)) ((a1)) (rwR ((w10)) ((w11)) ((a1)) ++ sc (sh ((w10)) (65536 * (a2))) ((a3)) ((a3) + (0))) by assumption) (show ∀ k, 0 ≤ k → k < ((w11)) ((a2)) → ((w10)) (65536 * (a2) + k) = ((w10)) (65536 * (a2) + k) by assumption) rfl
          as_aux_lemma =>
          intro m
          induction m using Nat.strongRecOn with
          | _ m ih59 =>
            intro ls σ F_59 A_59 x59_6 x59_7 l59_0 l59_1 l59_2 l59_3 l59_5 l59_6 l59_7 H hS_59 hA_59  w59_10 ew59_10 w59_11 ew59_11 j59_0 j59_1 j59_2 j59_3 j59_4 j59_5 j59_6 hm59
            have j59_c : RWC ((w10)) ((w11)) ((w59_10)) ((w59_11)) ((a1)) (rwR ((w10)) ((w11)) ((a1)) ++ sc (sh ((w10)) (65536 * (a2))) ((a3)) ((a3) + (x59_7))) := by assumption
            have j59_k : ∀ k, 0 ≤ k → k < ((w11)) ((a2)) → ((w59_10)) (65536 * (a2) + k) = ((w10)) (65536 * (a2) + k) := by assumption
            have hSz2 : ∀ i, (0 : Int) ≤ (w59_11) i ∧ (w59_11) i ≤ 65536 := fun i => by have h1 : (0 : Int) ≤ A_59 11 i ∧ A_59 11 i ≤ 65536 := H.arng 11 i; rw [show A_59 11 = w59_11 from ew59_11] at h1; exact h1
            obtain ⟨q7, hq7⟩ : ∃ q : Int, q = (x59_7) := ⟨_, rfl⟩
            have hje : (a1) = (a2) → ((w11)) ((a2)) ≤ ((w59_11)) ((a1)) := fun e => by rw [← e]; omega
            refine Ew_of (pc' := 61) (fun _ => x_iload rfl l59_7) ?_
            refine Ew_of (pc' := 63) (fun _ => x_iload rfl l59_5) ?_
            refine w_icmpge (t := 106) rfl rfl (show inr (x59_7) by omega) (show inr (tc35_0) by omega) (fun b15 => ?_) (fun b15 => ?_)
            · have hc12 : RWC ((w10)) ((w11)) ((w59_10)) ((w59_11)) ((a1)) (rwR ((w10)) ((w11)) ((a1)) ++ sc (sh ((w10)) (65536 * (a2))) ((a3)) ((a3) + (tc35_0))) := by have h := j59_c; rw [show (x59_7) = (tc35_0) by omega] at h; exact h
              have : CHQ ((0 ≤ (a1) ∧ (a1) ≤ 3) ∧ (0 ≤ (a2) ∧ (a2) ≤ 3) ∧ ((prL (rwR ((w10)) ((w11)) ((a2))) ((a3)) ((a4))).length : Int) ≤ 65536 - ((rwR ((w10)) ((w11)) ((a1))).length : Int)) (rwR ((w10)) ((w11)) ((a1))) (rwR ((w10)) ((w11)) ((a1)) ++ prL (rwR ((w10)) ((w11)) ((a2))) ((a3)) ((a4))) ((x59_6)) (rwR ((w59_10)) ((w59_11)) ((a1))) := .inl ⟨⟨by omega, by omega, by omega⟩, by omega, hc12.1.trans (by rw [hpe])⟩
              have : ∀ q, 0 ≤ q → q ≤ 3 → q ≠ (a1) → rwR ((w59_10)) ((w59_11)) (q) = rwR ((w10)) ((w11)) (q) := hc12.2
              refine Ew_of (pc' := 108) (fun _ => x_iload rfl l59_6) ?_
              exact w_ireturn rfl (k (x59_6) σ _ _ H (SF_trans (SF_trans (SF_trans (SF_trans (SF_refl) hS3 (any_sub rfl)) hS9 (any_sub rfl)) hS_c35 (any_sub rfl)) hS_59 (any_sub rfl)) (SA_trans (SA_trans (SA_trans (SA_trans (SA_refl) hA4 (any_subA rfl)) hA10 (any_subA rfl)) hA_c35 (any_subA rfl)) hA_59 (any_subA rfl)) (w59_10) (ew59_10) (w59_11) (ew59_11) (show (x59_6) = 0 ∨ (x59_6) = 1 by omega) (show CHQ ((0 ≤ a1 ∧ a1 ≤ 3) ∧ (0 ≤ a2 ∧ a2 ≤ 3) ∧ ((prL (rwR ((w10)) ((w11)) (a2)) (a3) (a4)).length : Int) ≤ 65536 - ((rwR ((w10)) ((w11)) (a1)).length : Int)) (rwR ((w10)) ((w11)) (a1)) (rwR ((w10)) ((w11)) (a1) ++ prL (rwR ((w10)) ((w11)) (a2)) (a3) (a4)) ((x59_6)) (rwR ((w59_10)) ((w59_11)) (a1)) by assumption) (show ∀ q, 0 ≤ q → q ≤ 3 → q ≠ a1 → rwR ((w59_10)) ((w59_11)) (q) = rwR ((w10)) ((w11)) (q) by assumption))
            · refine Ew_of (pc' := 67) (fun _ => x_aload_n rfl l59_0) ?_
              refine Ew_of (pc' := 68) (fun _ => x_iload_n rfl l59_1) ?_
              refine Ew_of (pc' := 69) (fun _ => x_aload_n rfl l59_0) ?_
              refine w_gT H (o := 0) (t := 10) rfl (H.perm 0 rfl) rfl rfl rfl rfl rfl rfl ?_
              refine Ew_of (pc' := 74) (fun _ => x_ldc (z := 65536) rfl (by decide)) ?_
              refine Ew_of (pc' := 75) (fun _ => x_iload_n rfl l59_2) ?_
              refine w_imul rfl ?_
              refine Ew_of (pc' := 77) (fun _ => x_iload_n rfl l59_3) ?_
              refine w_iadd rfl ?_
              refine Ew_of (pc' := 80) (fun _ => x_iload rfl l59_7) ?_
              refine w_iadd rfl ?_
              refine w_lI H (o := 10) (n := 262144) rfl (H.perm 10 rfl) rfl rfl (H.fix 10 rfl rfl) (show 0 ≤ (((65536 * a2) + a3) + x59_7) ∧ (((65536 * a2) + a3) + x59_7) < ((262144 : Nat) : Int) by omega) (by decide) (fun v16 ev16 qv16 => ?_)
              have qv16 : (0 : Int) ≤ v16 ∧ v16 ≤ 255 := qv16
              have ev16 : (w59_10) ((((65536 * a2) + a3) + x59_7)) = v16 := (congrFun (ew59_10) ((((65536 * a2) + a3) + x59_7))).symm.trans ev16
              have hv82 := ev16
              have hqv2 : u8 ((v16)) = u8 ((sh ((w10)) (65536 * (a2))) ((a3) + (x59_7))) := by rw [← hv82]; congr 1; unfold sh; rw [show 65536 * (a2) + (a3) + (x59_7) = 65536 * (a2) + ((a3) + (x59_7)) by omega]; exact j59_k _ (by omega) (by omega)
              refine w_inv H (o := 0) rfl rfl rfl (H.perm 0 rfl) rfl rfl (by rfl) (M57p H (w59_10) (ew59_10) (w59_11) (ew59_11) (show inr (a1) by omega) (show inr (v16) by omega) (show 0 ≤ (a1) ∧ (a1) ≤ 3 by omega) (fun z21 σ F17 A18 H hS19 hA20 wq22 ewq23 wq24 ewq25 pz21_0 pz21_1 pz21_2 => ⟨rretB rfl pz21_0, ?_⟩))
              have hap := APQ_1 pz21_1 hSz2 (by omega) (by omega)
              have hr1 := hap.1
              have hsz3 := hap.2.2
              refine w_ifeq (t := 97) rfl rfl (show inr (z21) by omega) (fun b26 => ?_) (fun b26 => ?_)
              · refine Ew_of (pc' := 98) (fun _ => x_iconst rfl) ?_
                refine Ew_of (pc' := 100) (fun _ => x_istore rfl) ?_
                refine Ew_of (pc' := 103) (fun _ => x_iinc (len := 3) rfl (rk_o (l59_7) rfl rfl)) ?_
                refine Ew_of (pc' := 59) (fun _ => x_goto rfl rfl) ?_
                have : RWC ((w10)) ((w11)) ((wq22)) ((wq24)) ((a1)) (rwR ((w10)) ((w11)) ((a1)) ++ sc (sh ((w10)) (65536 * (a2))) ((a3)) ((a3) + ((x59_7 + 1)))) := RWC_e (RWC_a j59_c hap.2.1) (by rw [List.append_assoc, sc_snoc (b := (a3) + q7) (c := (a3) + ((x59_7 + 1))) (by omega) (by omega), hq7, ← hqv2])
                have : ∀ k, 0 ≤ k → k < ((w11)) ((a2)) → ((wq22)) (65536 * (a2) + k) = ((w10)) (65536 * (a2) + k) := fun k x y => (APQ_k pz21_1 hSz2 (by omega) (by omega) (by omega) x (by have := hSz ((a2)); omega) (fun e => by have := hje e; omega)).trans (j59_k k x y)
                exact ih59 _ (by omega) _ σ _ _ (0) ((x59_7 + 1)) (rk_o (rk_o (l59_0) rfl rfl) rfl rfl) (rk_o (rk_o (l59_1) rfl rfl) rfl rfl) (rk_o (rk_o (l59_2) rfl rfl) rfl rfl) (rk_o (rk_o (l59_3) rfl rfl) rfl rfl) (rk_o (rk_o (l59_5) rfl rfl) rfl rfl) (rk_o (rk_s) rfl rfl) (rk_s) H (SF_trans (hS_59) hS19 (any_sub rfl)) (SA_trans (hA_59) hA20 (any_subA rfl))  (wq22) (ewq23) (wq24) (ewq25) (show inr (0) by omega) (show inr ((x59_7 + 1)) by omega) (show (0) = 1 by omega) (show 0 ≤ ((x59_7 + 1)) ∧ ((x59_7 + 1)) ≤ (tc35_0) by omega) (show ((wq24)) ((a1)) = ((w11)) ((a1)) + ((x59_7 + 1)) by omega) (show RWC ((w10)) ((w11)) ((wq22)) ((wq24)) ((a1)) (rwR ((w10)) ((w11)) ((a1)) ++ sc (sh ((w10)) (65536 * (a2))) ((a3)) ((a3) + ((x59_7 + 1)))) by assumption) (show ∀ k, 0 ≤ k → k < ((w11)) ((a2)) → ((wq22)) (65536 * (a2) + k) = ((w10)) (65536 * (a2) + k) by assumption) rfl
              · refine Ew_of (pc' := 90) (fun _ => x_iload rfl l59_6) ?_
                refine w_ifeq (t := 97) rfl rfl (show inr (x59_6) by omega) (fun b27 => ?_) (fun b27 => ?_)
                · refine Ew_of (pc' := 98) (fun _ => x_iconst rfl) ?_
                  refine Ew_of (pc' := 100) (fun _ => x_istore rfl) ?_
                  refine Ew_of (pc' := 103) (fun _ => x_iinc (len := 3) rfl (rk_o (l59_7) rfl rfl)) ?_
                  refine Ew_of (pc' := 59) (fun _ => x_goto rfl rfl) ?_
                  have : RWC ((w10)) ((w11)) ((wq22)) ((wq24)) ((a1)) (rwR ((w10)) ((w11)) ((a1)) ++ sc (sh ((w10)) (65536 * (a2))) ((a3)) ((a3) + ((x59_7 + 1)))) := RWC_e (RWC_a j59_c hap.2.1) (by rw [List.append_assoc, sc_snoc (b := (a3) + q7) (c := (a3) + ((x59_7 + 1))) (by omega) (by omega), hq7, ← hqv2])
                  have : ∀ k, 0 ≤ k → k < ((w11)) ((a2)) → ((wq22)) (65536 * (a2) + k) = ((w10)) (65536 * (a2) + k) := fun k x y => (APQ_k pz21_1 hSz2 (by omega) (by omega) (by omega) x (by have := hSz ((a2)); omega) (fun e => by have := hje e; omega)).trans (j59_k k x y)
                  exact ih59 _ (by omega) _ σ _ _ (0) ((x59_7 + 1)) (rk_o (rk_o (l59_0) rfl rfl) rfl rfl) (rk_o (rk_o (l59_1) rfl rfl) rfl rfl) (rk_o (rk_o (l59_2) rfl rfl) rfl rfl) (rk_o (rk_o (l59_3) rfl rfl) rfl rfl) (rk_o (rk_o (l59_5) rfl rfl) rfl rfl) (rk_o (rk_s) rfl rfl) (rk_s) H (SF_trans (hS_59) hS19 (any_sub rfl)) (SA_trans (hA_59) hA20 (any_subA rfl))  (wq22) (ewq23) (wq24) (ewq25) (show inr (0) by omega) (show inr ((x59_7 + 1)) by omega) (show (0) = 1 by omega) (show 0 ≤ ((x59_7 + 1)) ∧ ((x59_7 + 1)) ≤ (tc35_0) by omega) (show ((wq24)) ((a1)) = ((w11)) ((a1)) + ((x59_7 + 1)) by omega) (show RWC ((w10)) ((w11)) ((wq22)) ((wq24)) ((a1)) (rwR ((w10)) ((w11)) ((a1)) ++ sc (sh ((w10)) (65536 * (a2))) ((a3)) ((a3) + ((x59_7 + 1)))) by assumption) (show ∀ k, 0 ≤ k → k < ((w11)) ((a2)) → ((wq22)) (65536 * (a2) + k) = ((w10)) (65536 * (a2) + k) by assumption) rfl
                · refine Ew_of (pc' := 94) (fun _ => x_iconst rfl) ?_
                  refine Ew_of (pc' := 98) (fun _ => x_goto rfl rfl) ?_
                  refine Ew_of (pc' := 100) (fun _ => x_istore rfl) ?_
                  refine Ew_of (pc' := 103) (fun _ => x_iinc (len := 3) rfl (rk_o (l59_7) rfl rfl)) ?_
                  refine Ew_of (pc' := 59) (fun _ => x_goto rfl rfl) ?_
                  have : RWC ((w10)) ((w11)) ((wq22)) ((wq24)) ((a1)) (rwR ((w10)) ((w11)) ((a1)) ++ sc (sh ((w10)) (65536 * (a2))) ((a3)) ((a3) + ((x59_7 + 1)))) := RWC_e (RWC_a j59_c hap.2.1) (by rw [List.append_assoc, sc_snoc (b := (a3) + q7) (c := (a3) + ((x59_7 + 1))) (by omega) (by omega), hq7, ← hqv2])
                  have : ∀ k, 0 ≤ k → k < ((w11)) ((a2)) → ((wq22)) (65536 * (a2) + k) = ((w10)) (65536 * (a2) + k) := fun k x y => (APQ_k pz21_1 hSz2 (by omega) (by omega) (by omega) x (by have := hSz ((a2)); omega) (fun e => by have := hje e; omega)).trans (j59_k k x y)
                  exact ih59 _ (by omega) _ σ _ _ (1) ((x59_7 + 1)) (rk_o (rk_o (l59_0) rfl rfl) rfl rfl) (rk_o (rk_o (l59_1) rfl rfl) rfl rfl) (rk_o (rk_o (l59_2) rfl rfl) rfl rfl) (rk_o (rk_o (l59_3) rfl rfl) rfl rfl) (rk_o (rk_o (l59_5) rfl rfl) rfl rfl) (rk_o (rk_s) rfl rfl) (rk_s) H (SF_trans (hS_59) hS19 (any_sub rfl)) (SA_trans (hA_59) hA20 (any_subA rfl))  (wq22) (ewq23) (wq24) (ewq25) (show inr (1) by omega) (show inr ((x59_7 + 1)) by omega) (show (1) = 1 by omega) (show 0 ≤ ((x59_7 + 1)) ∧ ((x59_7 + 1)) ≤ (tc35_0) by omega) (show ((wq24)) ((a1)) = ((w11)) ((a1)) + ((x59_7 + 1)) by omega) (show RWC ((w10)) ((w11)) ((wq22)) ((wq24)) ((a1)) (rwR ((w10)) ((w11)) ((a1)) ++ sc (sh ((w10)) (65536 * (a2))) ((a3)) ((a3) + ((x59_7 + 1)))) by assumption) (show ∀ k, 0 ≤ k → k < ((w11)) ((a2)) → ((wq22)) (65536 * (a2) + k) = ((w10)) (65536 * (a2) + k) by assumption) rfl
        · refine Ew_of (pc' := 52) (fun _ => x_iconst rfl) ?_
          have : CHQ ((0 ≤ (a1) ∧ (a1) ≤ 3) ∧ (0 ≤ (a2) ∧ (a2) ≤ 3) ∧ ((prL (rwR ((w10)) ((w11)) ((a2))) ((a3)) ((a4))).length : Int) ≤ 65536 - ((rwR ((w10)) ((w11)) ((a1))).length : Int)) (rwR ((w10)) ((w11)) ((a1))) (rwR ((w10)) ((w11)) ((a1)) ++ prL (rwR ((w10)) ((w11)) ((a2))) ((a3)) ((a4))) (0) (rwR ((w10)) ((w11)) ((a1))) := .inr ⟨fun q => by have := q.2.2; omega, rfl, rfl⟩
          have : ∀ q, 0 ≤ q → q ≤ 3 → q ≠ (a1) → rwR ((w10)) ((w11)) (q) = rwR ((w10)) ((w11)) (q) := fun _ _ _ _ => rfl
          exact w_ireturn rfl (k (0) σ _ _ H (SF_trans (SF_trans (SF_trans (SF_refl) hS3 (any_sub rfl)) hS9 (any_sub rfl)) hS_c35 (any_sub rfl)) (SA_trans (SA_trans (SA_trans (SA_refl) hA4 (any_subA rfl)) hA10 (any_subA rfl)) hA_c35 (any_subA rfl)) (w10) ((funext (hA_c35 10 rfl)).trans ((funext (hA10 10 rfl)).trans ((funext (hA4 10 rfl)).trans (ew10)))) (w11) ((funext (hA_c35 11 rfl)).trans ((funext (hA10 11 rfl)).trans ((funext (hA4 11 rfl)).trans (ew11)))) (show (0) = 0 ∨ (0) = 1 by omega) (show CHQ ((0 ≤ a1 ∧ a1 ≤ 3) ∧ (0 ≤ a2 ∧ a2 ≤ 3) ∧ ((prL (rwR ((w10)) ((w11)) (a2)) (a3) (a4)).length : Int) ≤ 65536 - ((rwR ((w10)) ((w11)) (a1)).length : Int)) (rwR ((w10)) ((w11)) (a1)) (rwR ((w10)) ((w11)) (a1) ++ prL (rwR ((w10)) ((w11)) (a2)) (a3) (a4)) ((0)) (rwR ((w10)) ((w11)) (a1)) by assumption) (show ∀ q, 0 ≤ q → q ≤ 3 → q ≠ a1 → rwR ((w10)) ((w11)) (q) = rwR ((w10)) ((w11)) (q) by assumption))
      refine Ew_of (pc' := 17) (fun _ => x_aload_n rfl rfl) ?_
      refine Ew_of (pc' := 18) (fun _ => x_iload_n rfl rfl) ?_
      refine Ew_of (pc' := 19) (fun _ => x_iload_n rfl rfl) ?_
      refine Ew_of (pc' := 21) (fun _ => x_iload rfl rfl) ?_
      refine w_inv H (o := 0) rfl rfl rfl (H.perm 0 rfl) rfl rfl (by rfl) (M62p H (w11) ((funext (hA10 11 rfl)).trans ((funext (hA4 11 rfl)).trans (ew11))) (show inr (a2) by omega) (show inr (a3) by omega) (show inr (a4) by omega) (show 0 ≤ (a2) ∧ (a2) ≤ 3 by omega) (fun z32 σ F28 A29 H hS30 hA31 pz32_0 pz32_1 => ⟨rretB rfl pz32_0, ?_⟩))
      refine w_ifeq (t := 34) rfl rfl (show inr (z32) by omega) (fun b33 => ?_) (fun b33 => ?_)
      · refine Ew_of (pc' := 35) (fun _ => x_iconst rfl) ?_
        exact hc35 (0) _ σ _ _  (rfl) (rfl) (rfl) (rfl) H (SF_trans (SF_refl) hS30 (any_sub rfl)) (SA_trans (SA_refl) hA31 (any_subA rfl))   (show inr (0) by omega) (show ((0) = (a4) - (a3) ∧ (0 ≤ (a3) ∧ (a3) ≤ (a4) ∧ (a4) ≤ ((w11)) ((a2))) ∨ (0) = 0 ∧ ¬ (0 ≤ (a3) ∧ (a3) ≤ (a4) ∧ (a4) ≤ ((w11)) ((a2)))) by omega) (show 0 ≤ (0) ∧ (0) ≤ 65536 by omega)
      · refine Ew_of (pc' := 29) (fun _ => x_iload rfl rfl) ?_
        refine Ew_of (pc' := 30) (fun _ => x_iload_n rfl rfl) ?_
        refine w_isub rfl ?_
        refine Ew_of (pc' := 35) (fun _ => x_goto rfl rfl) ?_
        exact hc35 ((a4 - a3)) _ σ _ _  (rfl) (rfl) (rfl) (rfl) H (SF_trans (SF_refl) hS30 (any_sub rfl)) (SA_trans (SA_refl) hA31 (any_subA rfl))   (show inr ((a4 - a3)) by omega) (show (((a4 - a3)) = (a4) - (a3) ∧ (0 ≤ (a3) ∧ (a3) ≤ (a4) ∧ (a4) ≤ ((w11)) ((a2))) ∨ ((a4 - a3)) = 0 ∧ ¬ (0 ≤ (a3) ∧ (a3) ≤ (a4) ∧ (a4) ≤ ((w11)) ((a2)))) by omega) (show 0 ≤ ((a4 - a3)) ∧ ((a4 - a3)) ≤ 65536 by omega)
    · have : CHQ ((0 ≤ (a1) ∧ (a1) ≤ 3) ∧ (0 ≤ (a2) ∧ (a2) ≤ 3) ∧ ((prL (rwR ((w10)) ((w11)) ((a2))) ((a3)) ((a4))).length : Int) ≤ 65536 - ((rwR ((w10)) ((w11)) ((a1))).length : Int)) (rwR ((w10)) ((w11)) ((a1))) (rwR ((w10)) ((w11)) ((a1)) ++ prL (rwR ((w10)) ((w11)) ((a2))) ((a3)) ((a4))) (0) (rwR ((w10)) ((w11)) ((a1))) := .inr ⟨fun q => by omega, rfl, rfl⟩
      have : ∀ q, 0 ≤ q → q ≤ 3 → q ≠ (a1) → rwR ((w10)) ((w11)) (q) = rwR ((w10)) ((w11)) (q) := fun _ _ _ _ => rfl
      refine Ew_of (pc' := 15) (fun _ => x_iconst rfl) ?_
      exact w_ireturn rfl (k (0) σ _ _ H (SF_trans (SF_trans (SF_refl) hS3 (any_sub rfl)) hS9 (any_sub rfl)) (SA_trans (SA_trans (SA_refl) hA4 (any_subA rfl)) hA10 (any_subA rfl)) (w10) ((funext (hA10 10 rfl)).trans ((funext (hA4 10 rfl)).trans (ew10))) (w11) ((funext (hA10 11 rfl)).trans ((funext (hA4 11 rfl)).trans (ew11))) (show (0) = 0 ∨ (0) = 1 by omega) (show CHQ ((0 ≤ a1 ∧ a1 ≤ 3) ∧ (0 ≤ a2 ∧ a2 ≤ 3) ∧ ((prL (rwR ((w10)) ((w11)) (a2)) (a3) (a4)).length : Int) ≤ 65536 - ((rwR ((w10)) ((w11)) (a1)).length : Int)) (rwR ((w10)) ((w11)) (a1)) (rwR ((w10)) ((w11)) (a1) ++ prL (rwR ((w10)) ((w11)) (a2)) (a3) (a4)) ((0)) (rwR ((w10)) ((w11)) (a1)) by assumption) (show ∀ q, 0 ≤ q → q ≤ 3 → q ≠ a1 → rwR ((w10)) ((w11)) (q) = rwR ((w10)) ((w11)) (q) by assumption))
/-- Model.size -/
theorem M64p {σ0 σ : rS} {D N : Nat → Nat} {F : hF} {A : hA} {d c s : Nat} {Q : wQ} (H : HS σ0 σ D N F A) {a1 : Int} (w10 : Int → Int) (ew10 : A 10 = w10) (w11 : Int → Int) (ew11 : A 11 = w11) (h0 : inr (a1)) (k : ∀ (z : Int) σ F' A', HS σ0 σ D N F' A' → SF [] F F' → SA [] A A' → (inr (z)) → ((0 ≤ (a1) ∧ (a1) ≤ 3 ∧ (z) = ((rwR ((w10)) ((w11)) ((a1))).length : Int) ∨ ¬ (0 ≤ (a1) ∧ (a1) ≤ 3) ∧ (z) = -1)) → Q (some (I z)) σ c s) : Ew 64 (d + 1) 0 (rargs 0 [.ref (D 0), I a1]) [] σ c s Q := by
  have hSz : ∀ i, (0 : Int) ≤ (w11) i ∧ (w11) i ≤ 65536 := fun i => by have h1 : (0 : Int) ≤ A 11 i ∧ A 11 i ≤ 65536 := H.arng 11 i; rw [show A 11 = w11 from ew11] at h1; exact h1
  have hl0 := rwR_len (ro := (w10)) (si := (w11)) (r := (a1)) (hSz ((a1))).1
  refine Ew_of (pc' := 1) (fun _ => x_iload_n rfl rfl) ?_
  refine w_stat24 rfl rfl (by rfl) (M56p H (show inr (a1) by omega) (fun z5 σ F1 A2 H hS3 hA4 pz5_0 pz5_1 => ⟨rretB rfl pz5_0, ?_⟩))
  refine w_ifeq (t := 16) rfl rfl (show inr (z5) by omega) (fun b6 => ?_) (fun b6 => ?_)
  · refine Ew_of (pc' := 17) (fun _ => x_iconst rfl) ?_
    have : (0 ≤ (a1) ∧ (a1) ≤ 3 ∧ ((-1)) = ((rwR ((w10)) ((w11)) ((a1))).length : Int) ∨ ¬ (0 ≤ (a1) ∧ (a1) ≤ 3) ∧ ((-1)) = -1) := by first | exact .inl ⟨by omega, by omega, by omega⟩ | exact .inr ⟨by omega, rfl⟩
    exact w_ireturn rfl (k ((-1)) σ _ _ H (SF_trans (SF_refl) hS3 (any_sub rfl)) (SA_trans (SA_refl) hA4 (any_subA rfl)) (show inr ((-1)) by omega) (show (0 ≤ a1 ∧ a1 ≤ 3 ∧ ((-1)) = ((rwR ((w10)) ((w11)) (a1)).length : Int) ∨ ¬ (0 ≤ a1 ∧ a1 ≤ 3) ∧ ((-1)) = -1) by assumption))
  · refine Ew_of (pc' := 8) (fun _ => x_aload_n rfl rfl) ?_
    refine w_gT H (o := 0) (t := 11) rfl (H.perm 0 rfl) rfl rfl rfl rfl rfl rfl ?_
    refine Ew_of (pc' := 12) (fun _ => x_iload_n rfl rfl) ?_
    refine w_lI H (o := 11) (n := 4) rfl (H.perm 11 rfl) rfl rfl (H.fix 11 rfl rfl) (show 0 ≤ a1 ∧ a1 < ((4 : Nat) : Int) by omega) (by decide) (fun v7 ev7 qv7 => ?_)
    have qv7 : (0 : Int) ≤ v7 ∧ v7 ≤ 65536 := qv7
    have ev7 : (w11) (a1) = v7 := (congrFun ((funext (hA4 11 rfl)).trans (ew11)) (a1)).symm.trans ev7
    have hs13 := ev7
    refine Ew_of (pc' := 17) (fun _ => x_goto rfl rfl) ?_
    have : (0 ≤ (a1) ∧ (a1) ≤ 3 ∧ (v7) = ((rwR ((w10)) ((w11)) ((a1))).length : Int) ∨ ¬ (0 ≤ (a1) ∧ (a1) ≤ 3) ∧ (v7) = -1) := by first | exact .inl ⟨by omega, by omega, by omega⟩ | exact .inr ⟨by omega, rfl⟩
    exact w_ireturn rfl (k (v7) σ _ _ H (SF_trans (SF_refl) hS3 (any_sub rfl)) (SA_trans (SA_refl) hA4 (any_subA rfl)) (show inr (v7) by omega) (show (0 ≤ a1 ∧ a1 ≤ 3 ∧ (v7) = ((rwR ((w10)) ((w11)) (a1)).length : Int) ∨ ¬ (0 ≤ a1 ∧ a1 ≤ 3) ∧ (v7) = -1) by assumption))
/-- Model.byteAt -/
theorem M65p {σ0 σ : rS} {D N : Nat → Nat} {F : hF} {A : hA} {d c s : Nat} {Q : wQ} (H : HS σ0 σ D N F A) {a1 a2 : Int} (w10 : Int → Int) (ew10 : A 10 = w10) (w11 : Int → Int) (ew11 : A 11 = w11) (h0 : inr (a1)) (h1 : inr (a2)) (k : ∀ (z : Int) σ F' A', HS σ0 σ D N F' A' → SF [] F F' → SA [] A A' → (inr (z)) → (((0 ≤ (a1) ∧ (a1) ≤ 3) ∧ (0 ≤ (a2) ∧ (a2) < ((rwR ((w10)) ((w11)) ((a1))).length : Int)) ∧ (z) = ap (rwR ((w10)) ((w11)) ((a1))) ((a2)) ∨ ¬ ((0 ≤ (a1) ∧ (a1) ≤ 3) ∧ 0 ≤ (a2) ∧ (a2) < ((rwR ((w10)) ((w11)) ((a1))).length : Int)) ∧ (z) = -1)) → Q (some (I z)) σ c s) : Ew 65 (d + 1) 0 (rargs 0 [.ref (D 0), I a1, I a2]) [] σ c s Q := by
  have hSz : ∀ i, (0 : Int) ≤ (w11) i ∧ (w11) i ≤ 65536 := fun i => by have h1 : (0 : Int) ≤ A 11 i ∧ A 11 i ≤ 65536 := H.arng 11 i; rw [show A 11 = w11 from ew11] at h1; exact h1
  have hl0 := rwR_len (ro := (w10)) (si := (w11)) (r := (a1)) (hSz ((a1))).1
  have hRo : ∀ i, (0 : Int) ≤ (w10) i ∧ (w10) i ≤ 255 := fun i => by have h1 : (0 : Int) ≤ A 10 i ∧ A 10 i ≤ 255 := H.arng 10 i; rw [show A 10 = w10 from ew10] at h1; exact h1
  refine Ew_of (pc' := 1) (fun _ => x_iload_n rfl rfl) ?_
  refine w_stat24 rfl rfl (by rfl) (M56p H (show inr (a1) by omega) (fun z5 σ F1 A2 H hS3 hA4 pz5_0 pz5_1 => ⟨rretB rfl pz5_0, ?_⟩))
  refine w_ifeq (t := 35) rfl rfl (show inr (z5) by omega) (fun b6 => ?_) (fun b6 => ?_)
  · refine Ew_of (pc' := 36) (fun _ => x_iconst rfl) ?_
    have : ((0 ≤ (a1) ∧ (a1) ≤ 3) ∧ (0 ≤ (a2) ∧ (a2) < ((rwR ((w10)) ((w11)) ((a1))).length : Int)) ∧ ((-1)) = ap (rwR ((w10)) ((w11)) ((a1))) ((a2)) ∨ ¬ ((0 ≤ (a1) ∧ (a1) ≤ 3) ∧ 0 ≤ (a2) ∧ (a2) < ((rwR ((w10)) ((w11)) ((a1))).length : Int)) ∧ ((-1)) = -1) := by first | exact .inl ⟨by omega, by omega, by rw [rwR_g (by omega) (by omega) hRo]; exact hv32.symm⟩ | exact .inr ⟨by omega, rfl⟩
    exact w_ireturn rfl (k ((-1)) σ _ _ H (SF_trans (SF_refl) hS3 (any_sub rfl)) (SA_trans (SA_refl) hA4 (any_subA rfl)) (show inr ((-1)) by omega) (show ((0 ≤ a1 ∧ a1 ≤ 3) ∧ (0 ≤ a2 ∧ a2 < ((rwR ((w10)) ((w11)) (a1)).length : Int)) ∧ ((-1)) = ap (rwR ((w10)) ((w11)) (a1)) (a2) ∨ ¬ ((0 ≤ a1 ∧ a1 ≤ 3) ∧ 0 ≤ a2 ∧ a2 < ((rwR ((w10)) ((w11)) (a1)).length : Int)) ∧ ((-1)) = -1) by assumption))
  · refine Ew_of (pc' := 8) (fun _ => x_iload_n rfl rfl) ?_
    refine w_iflt (t := 35) rfl rfl (show inr (a2) by omega) (fun b7 => ?_) (fun b7 => ?_)
    · refine Ew_of (pc' := 36) (fun _ => x_iconst rfl) ?_
      have : ((0 ≤ (a1) ∧ (a1) ≤ 3) ∧ (0 ≤ (a2) ∧ (a2) < ((rwR ((w10)) ((w11)) ((a1))).length : Int)) ∧ ((-1)) = ap (rwR ((w10)) ((w11)) ((a1))) ((a2)) ∨ ¬ ((0 ≤ (a1) ∧ (a1) ≤ 3) ∧ 0 ≤ (a2) ∧ (a2) < ((rwR ((w10)) ((w11)) ((a1))).length : Int)) ∧ ((-1)) = -1) := by first | exact .inl ⟨by omega, by omega, by rw [rwR_g (by omega) (by omega) hRo]; exact hv32.symm⟩ | exact .inr ⟨by omega, rfl⟩
      exact w_ireturn rfl (k ((-1)) σ _ _ H (SF_trans (SF_refl) hS3 (any_sub rfl)) (SA_trans (SA_refl) hA4 (any_subA rfl)) (show inr ((-1)) by omega) (show ((0 ≤ a1 ∧ a1 ≤ 3) ∧ (0 ≤ a2 ∧ a2 < ((rwR ((w10)) ((w11)) (a1)).length : Int)) ∧ ((-1)) = ap (rwR ((w10)) ((w11)) (a1)) (a2) ∨ ¬ ((0 ≤ a1 ∧ a1 ≤ 3) ∧ 0 ≤ a2 ∧ a2 < ((rwR ((w10)) ((w11)) (a1)).length : Int)) ∧ ((-1)) = -1) by assumption))
    · refine Ew_of (pc' := 12) (fun _ => x_iload_n rfl rfl) ?_
      refine Ew_of (pc' := 13) (fun _ => x_aload_n rfl rfl) ?_
      refine w_gT H (o := 0) (t := 11) rfl (H.perm 0 rfl) rfl rfl rfl rfl rfl rfl ?_
      refine Ew_of (pc' := 17) (fun _ => x_iload_n rfl rfl) ?_
      refine w_lI H (o := 11) (n := 4) rfl (H.perm 11 rfl) rfl rfl (H.fix 11 rfl rfl) (show 0 ≤ a1 ∧ a1 < ((4 : Nat) : Int) by omega) (by decide) (fun v8 ev8 qv8 => ?_)
      have qv8 : (0 : Int) ≤ v8 ∧ v8 ≤ 65536 := qv8
      have ev8 : (w11) (a1) = v8 := (congrFun ((funext (hA4 11 rfl)).trans (ew11)) (a1)).symm.trans ev8
      have hs18 := ev8
      refine w_icmpge (t := 35) rfl rfl (show inr (a2) by omega) (show inr (v8) by omega) (fun b9 => ?_) (fun b9 => ?_)
      · refine Ew_of (pc' := 36) (fun _ => x_iconst rfl) ?_
        have : ((0 ≤ (a1) ∧ (a1) ≤ 3) ∧ (0 ≤ (a2) ∧ (a2) < ((rwR ((w10)) ((w11)) ((a1))).length : Int)) ∧ ((-1)) = ap (rwR ((w10)) ((w11)) ((a1))) ((a2)) ∨ ¬ ((0 ≤ (a1) ∧ (a1) ≤ 3) ∧ 0 ≤ (a2) ∧ (a2) < ((rwR ((w10)) ((w11)) ((a1))).length : Int)) ∧ ((-1)) = -1) := by first | exact .inl ⟨by omega, by omega, by rw [rwR_g (by omega) (by omega) hRo]; exact hv32.symm⟩ | exact .inr ⟨by omega, rfl⟩
        exact w_ireturn rfl (k ((-1)) σ _ _ H (SF_trans (SF_refl) hS3 (any_sub rfl)) (SA_trans (SA_refl) hA4 (any_subA rfl)) (show inr ((-1)) by omega) (show ((0 ≤ a1 ∧ a1 ≤ 3) ∧ (0 ≤ a2 ∧ a2 < ((rwR ((w10)) ((w11)) (a1)).length : Int)) ∧ ((-1)) = ap (rwR ((w10)) ((w11)) (a1)) (a2) ∨ ¬ ((0 ≤ a1 ∧ a1 ≤ 3) ∧ 0 ≤ a2 ∧ a2 < ((rwR ((w10)) ((w11)) (a1)).length : Int)) ∧ ((-1)) = -1) by assumption))
      · refine Ew_of (pc' := 22) (fun _ => x_aload_n rfl rfl) ?_
        refine w_gT H (o := 0) (t := 10) rfl (H.perm 0 rfl) rfl rfl rfl rfl rfl rfl ?_
        refine Ew_of (pc' := 27) (fun _ => x_ldc (z := 65536) rfl (by decide)) ?_
        refine Ew_of (pc' := 28) (fun _ => x_iload_n rfl rfl) ?_
        refine w_imul rfl ?_
        refine Ew_of (pc' := 30) (fun _ => x_iload_n rfl rfl) ?_
        refine w_iadd rfl ?_
        refine w_lI H (o := 10) (n := 262144) rfl (H.perm 10 rfl) rfl rfl (H.fix 10 rfl rfl) (show 0 ≤ ((65536 * a1) + a2) ∧ ((65536 * a1) + a2) < ((262144 : Nat) : Int) by omega) (by decide) (fun v10 ev10 qv10 => ?_)
        have qv10 : (0 : Int) ≤ v10 ∧ v10 ≤ 255 := qv10
        have ev10 : (w10) (((65536 * a1) + a2)) = v10 := (congrFun ((funext (hA4 10 rfl)).trans (ew10)) (((65536 * a1) + a2))).symm.trans ev10
        have hv32 := ev10
        refine Ew_of (pc' := 36) (fun _ => x_goto rfl rfl) ?_
        have : ((0 ≤ (a1) ∧ (a1) ≤ 3) ∧ (0 ≤ (a2) ∧ (a2) < ((rwR ((w10)) ((w11)) ((a1))).length : Int)) ∧ (v10) = ap (rwR ((w10)) ((w11)) ((a1))) ((a2)) ∨ ¬ ((0 ≤ (a1) ∧ (a1) ≤ 3) ∧ 0 ≤ (a2) ∧ (a2) < ((rwR ((w10)) ((w11)) ((a1))).length : Int)) ∧ (v10) = -1) := by first | exact .inl ⟨by omega, by omega, by rw [rwR_g (by omega) (by omega) hRo]; exact hv32.symm⟩ | exact .inr ⟨by omega, rfl⟩
        exact w_ireturn rfl (k (v10) σ _ _ H (SF_trans (SF_refl) hS3 (any_sub rfl)) (SA_trans (SA_refl) hA4 (any_subA rfl)) (show inr (v10) by omega) (show ((0 ≤ a1 ∧ a1 ≤ 3) ∧ (0 ≤ a2 ∧ a2 < ((rwR ((w10)) ((w11)) (a1)).length : Int)) ∧ (v10) = ap (rwR ((w10)) ((w11)) (a1)) (a2) ∨ ¬ ((0 ≤ a1 ∧ a1 ≤ 3) ∧ 0 ≤ a2 ∧ a2 < ((rwR ((w10)) ((w11)) (a1)).length : Int)) ∧ (v10) = -1) by assumption))
/-- Model.differ -/
theorem M66p {σ0 σ : rS} {D N : Nat → Nat} {F : hF} {A : hA} {d c s : Nat} {Q : wQ} (H : HS σ0 σ D N F A) {a1 a2 : Int} (w10 : Int → Int) (ew10 : A 10 = w10) (w11 : Int → Int) (ew11 : A 11 = w11) (h0 : inr (a1)) (h1 : inr (a2)) (k : ∀ (z : Int) σ F' A', HS σ0 σ D N F' A' → SF [] F F' → SA [] A A' → (inr (z)) → (((0 ≤ (a1) ∧ (a1) ≤ 3) ∧ (0 ≤ (a2) ∧ (a2) ≤ 3) ∧ DFF (rwR ((w10)) ((w11)) ((a1))) (rwR ((w10)) ((w11)) ((a2))) ((z)) ∨ ¬ ((0 ≤ (a1) ∧ (a1) ≤ 3) ∧ 0 ≤ (a2) ∧ (a2) ≤ 3) ∧ (z) = -2)) → Q (some (I z)) σ c s) : Ew 66 (d + 1) 0 (rargs 0 [.ref (D 0), I a1, I a2]) [] σ c s Q := by
  have hSz : ∀ i, (0 : Int) ≤ (w11) i ∧ (w11) i ≤ 65536 := fun i => by have h1 : (0 : Int) ≤ A 11 i ∧ A 11 i ≤ 65536 := H.arng 11 i; rw [show A 11 = w11 from ew11] at h1; exact h1
  have hl0 := rwR_len (ro := (w10)) (si := (w11)) (r := (a1)) (hSz ((a1))).1
  have hRo : ∀ i, (0 : Int) ≤ (w10) i ∧ (w10) i ≤ 255 := fun i => by have h1 : (0 : Int) ≤ A 10 i ∧ A 10 i ≤ 255 := H.arng 10 i; rw [show A 10 = w10 from ew10] at h1; exact h1
  have hl2 := rwR_len (ro := (w10)) (si := (w11)) (r := (a2)) (hSz ((a2))).1
  have hsa := hSz ((a1))
  have hsb := hSz ((a2))
  refine Ew_of (pc' := 1) (fun _ => x_iload_n rfl rfl) ?_
  refine w_stat24 rfl rfl (by rfl) (M56p H (show inr (a1) by omega) (fun z5 σ F1 A2 H hS3 hA4 pz5_0 pz5_1 => ⟨rretB rfl pz5_0, ?_⟩))
  refine w_ifeq (t := 14) rfl rfl (show inr (z5) by omega) (fun b6 => ?_) (fun b6 => ?_)
  · refine Ew_of (pc' := 16) (fun _ => x_bipush (z := -2) rfl (by decide)) ?_
    have : ((0 ≤ (a1) ∧ (a1) ≤ 3) ∧ (0 ≤ (a2) ∧ (a2) ≤ 3) ∧ DFF (rwR ((w10)) ((w11)) ((a1))) (rwR ((w10)) ((w11)) ((a2))) (-2) ∨ ¬ ((0 ≤ (a1) ∧ (a1) ≤ 3) ∧ 0 ≤ (a2) ∧ (a2) ≤ 3) ∧ -2 = -2) := .inr ⟨by omega, rfl⟩
    exact w_ireturn rfl (k ((-2)) σ _ _ H (SF_trans (SF_refl) hS3 (any_sub rfl)) (SA_trans (SA_refl) hA4 (any_subA rfl)) (show inr ((-2)) by omega) (show ((0 ≤ a1 ∧ a1 ≤ 3) ∧ (0 ≤ a2 ∧ a2 ≤ 3) ∧ DFF (rwR ((w10)) ((w11)) (a1)) (rwR ((w10)) ((w11)) (a2)) (((-2))) ∨ ¬ ((0 ≤ a1 ∧ a1 ≤ 3) ∧ 0 ≤ a2 ∧ a2 ≤ 3) ∧ ((-2)) = -2) by assumption))
  · refine Ew_of (pc' := 8) (fun _ => x_iload_n rfl rfl) ?_
    refine w_stat24 rfl rfl (by rfl) (M56p H (show inr (a2) by omega) (fun z11 σ F7 A8 H hS9 hA10 pz11_0 pz11_1 => ⟨rretB rfl pz11_0, ?_⟩))
    refine w_ifne (t := 17) rfl rfl (show inr (z11) by omega) (fun b12 => ?_) (fun b12 => ?_)
    · refine Ew_of (pc' := 18) (fun _ => x_iconst rfl) ?_
      refine Ew_of (pc' := 19) (fun _ => x_istore_n rfl) ?_
      have : ∀ k, 0 ≤ k → k < 0 → ap (rwR ((w10)) ((w11)) ((a1))) k = ap (rwR ((w10)) ((w11)) ((a2))) k := fun k x y => absurd y (by omega)
      suffices hl19 : ∀ (m : Nat), ∀ (ls : rO) (σ : rS) (F_19 : hF) (A_19 : hA) (x19_3 : Int), rlook ls 0 = some (.ref (D 0)) → rlook ls 1 = some (I (a1)) → rlook ls 2 = some (I (a2)) → rlook ls 3 = some (I (x19_3)) → HS σ0 σ D N F_19 A_19 → SF [] F7 F_19 → SA [] A8 A_19 → (inr (x19_3)) → (0 ≤ (x19_3) ∧ (x19_3) ≤ ((w11)) ((a1)) ∧ (x19_3) ≤ ((w11)) ((a2))) → (∀ k, 0 ≤ k → k < (x19_3) → ap (rwR ((w10)) ((w11)) ((a1))) k = ap (rwR ((w10)) ((w11)) ((a2))) k) → (65536 - (x19_3)).toNat = m → Ew 66 (d + 1) 19 ls [] σ c s Q from
        hl19 _ _ σ _ _ (0) (rk_o (rfl) rfl rfl) (rk_o (rfl) rfl rfl) (rk_o (rfl) rfl rfl) (rk_s) H (SF_refl) (SA_refl)   (show inr (0) by omega) (show 0 ≤ (0) ∧ (0) ≤ ((w11)) ((a1)) ∧ (0) ≤ ((w11)) ((a2)) by omega) (show ∀ k, 0 ≤ k → k < (0) → ap (rwR ((w10)) ((w11)) ((a1))) k = ap (rwR ((w10)) ((w11)) ((a2))) k by assumption) rfl
      as_aux_lemma =>
      intro m
      induction m using Nat.strongRecOn with
      | _ m ih19 =>
        intro ls σ F_19 A_19 x19_3 l19_0 l19_1 l19_2 l19_3 H hS_19 hA_19   j19_0 j19_1 j19_2 hm19
        have j19_a : ∀ k, 0 ≤ k → k < (x19_3) → ap (rwR ((w10)) ((w11)) ((a1))) k = ap (rwR ((w10)) ((w11)) ((a2))) k := by assumption
        obtain ⟨q3, hq3⟩ : ∃ q : Int, q = (x19_3) := ⟨_, rfl⟩
        refine Ew_of (pc' := 20) (fun _ => x_iload_n rfl l19_3) ?_
        refine Ew_of (pc' := 21) (fun _ => x_aload_n rfl l19_0) ?_
        refine w_gT H (o := 0) (t := 11) rfl (H.perm 0 rfl) rfl rfl rfl rfl rfl rfl ?_
        refine Ew_of (pc' := 25) (fun _ => x_iload_n rfl l19_1) ?_
        refine w_lI H (o := 11) (n := 4) rfl (H.perm 11 rfl) rfl rfl (H.fix 11 rfl rfl) (show 0 ≤ a1 ∧ a1 < ((4 : Nat) : Int) by omega) (by decide) (fun v13 ev13 qv13 => ?_)
        have qv13 : (0 : Int) ≤ v13 ∧ v13 ≤ 65536 := qv13
        have ev13 : (w11) (a1) = v13 := (congrFun ((funext (hA_19 11 rfl)).trans ((funext (hA10 11 rfl)).trans ((funext (hA4 11 rfl)).trans (ew11)))) (a1)).symm.trans ev13
        have hs26 := ev13
        refine w_icmpge (t := 70) rfl rfl (show inr (x19_3) by omega) (show inr (v13) by omega) (fun b14 => ?_) (fun b14 => ?_)
        · refine Ew_of (pc' := 71) (fun _ => x_iload_n rfl l19_3) ?_
          refine Ew_of (pc' := 72) (fun _ => x_aload_n rfl l19_0) ?_
          refine w_gT H (o := 0) (t := 11) rfl (H.perm 0 rfl) rfl rfl rfl rfl rfl rfl ?_
          refine Ew_of (pc' := 76) (fun _ => x_iload_n rfl l19_1) ?_
          refine w_lI H (o := 11) (n := 4) rfl (H.perm 11 rfl) rfl rfl (H.fix 11 rfl rfl) (show 0 ≤ a1 ∧ a1 < ((4 : Nat) : Int) by omega) (by decide) (fun v15 ev15 qv15 => ?_)
          have qv15 : (0 : Int) ≤ v15 ∧ v15 ≤ 65536 := qv15
          have ev15 : (w11) (a1) = v15 := (congrFun ((funext (hA_19 11 rfl)).trans ((funext (hA10 11 rfl)).trans ((funext (hA4 11 rfl)).trans (ew11)))) (a1)).symm.trans ev15
          have hs77 := ev15
          refine w_icmpne (t := 94) rfl rfl (show inr (x19_3) by omega) (show inr (v15) by omega) (fun b16 => ?_) (fun b16 => ?_)
          · refine Ew_of (pc' := 95) (fun _ => x_iload_n rfl l19_3) ?_
            have : ((0 ≤ (a1) ∧ (a1) ≤ 3) ∧ (0 ≤ (a2) ∧ (a2) ≤ 3) ∧ DFF (rwR ((w10)) ((w11)) ((a1))) (rwR ((w10)) ((w11)) ((a2))) ((x19_3)) ∨ ¬ ((0 ≤ (a1) ∧ (a1) ≤ 3) ∧ 0 ≤ (a2) ∧ (a2) ≤ 3) ∧ (x19_3) = -2) := by first | exact .inl ⟨by omega, by omega, .inl ⟨rfl, DFF_eq (by omega) (fun k x y => j19_a k x (by omega))⟩⟩ | exact .inl ⟨by omega, by omega, .inr ⟨by omega, by omega, by omega, fun k x y => j19_a k x y, .inl ⟨by omega, by omega, by rw [rwR_g (by omega) (by omega) hRo, rwR_g (by omega) (by omega) hRo, hv50, hv61]; omega⟩⟩⟩ | exact .inl ⟨by omega, by omega, .inr ⟨by omega, by omega, by omega, fun k x y => j19_a k x y, .inr ⟨by omega, by omega⟩⟩⟩
            exact w_ireturn rfl (k (x19_3) σ _ _ H (SF_trans (SF_trans (SF_trans (SF_refl) hS3 (any_sub rfl)) hS9 (any_sub rfl)) hS_19 (any_sub rfl)) (SA_trans (SA_trans (SA_trans (SA_refl) hA4 (any_subA rfl)) hA10 (any_subA rfl)) hA_19 (any_subA rfl)) (show inr (x19_3) by omega) (show ((0 ≤ a1 ∧ a1 ≤ 3) ∧ (0 ≤ a2 ∧ a2 ≤ 3) ∧ DFF (rwR ((w10)) ((w11)) (a1)) (rwR ((w10)) ((w11)) (a2)) ((x19_3)) ∨ ¬ ((0 ≤ a1 ∧ a1 ≤ 3) ∧ 0 ≤ a2 ∧ a2 ≤ 3) ∧ (x19_3) = -2) by assumption))
          · refine Ew_of (pc' := 81) (fun _ => x_iload_n rfl l19_3) ?_
            refine Ew_of (pc' := 82) (fun _ => x_aload_n rfl l19_0) ?_
            refine w_gT H (o := 0) (t := 11) rfl (H.perm 0 rfl) rfl rfl rfl rfl rfl rfl ?_
            refine Ew_of (pc' := 86) (fun _ => x_iload_n rfl l19_2) ?_
            refine w_lI H (o := 11) (n := 4) rfl (H.perm 11 rfl) rfl rfl (H.fix 11 rfl rfl) (show 0 ≤ a2 ∧ a2 < ((4 : Nat) : Int) by omega) (by decide) (fun v17 ev17 qv17 => ?_)
            have qv17 : (0 : Int) ≤ v17 ∧ v17 ≤ 65536 := qv17
            have ev17 : (w11) (a2) = v17 := (congrFun ((funext (hA_19 11 rfl)).trans ((funext (hA10 11 rfl)).trans ((funext (hA4 11 rfl)).trans (ew11)))) (a2)).symm.trans ev17
            have hs87 := ev17
            refine w_icmpne (t := 94) rfl rfl (show inr (x19_3) by omega) (show inr (v17) by omega) (fun b18 => ?_) (fun b18 => ?_)
            · refine Ew_of (pc' := 95) (fun _ => x_iload_n rfl l19_3) ?_
              have : ((0 ≤ (a1) ∧ (a1) ≤ 3) ∧ (0 ≤ (a2) ∧ (a2) ≤ 3) ∧ DFF (rwR ((w10)) ((w11)) ((a1))) (rwR ((w10)) ((w11)) ((a2))) ((x19_3)) ∨ ¬ ((0 ≤ (a1) ∧ (a1) ≤ 3) ∧ 0 ≤ (a2) ∧ (a2) ≤ 3) ∧ (x19_3) = -2) := by first | exact .inl ⟨by omega, by omega, .inl ⟨rfl, DFF_eq (by omega) (fun k x y => j19_a k x (by omega))⟩⟩ | exact .inl ⟨by omega, by omega, .inr ⟨by omega, by omega, by omega, fun k x y => j19_a k x y, .inl ⟨by omega, by omega, by rw [rwR_g (by omega) (by omega) hRo, rwR_g (by omega) (by omega) hRo, hv50, hv61]; omega⟩⟩⟩ | exact .inl ⟨by omega, by omega, .inr ⟨by omega, by omega, by omega, fun k x y => j19_a k x y, .inr ⟨by omega, by omega⟩⟩⟩
              exact w_ireturn rfl (k (x19_3) σ _ _ H (SF_trans (SF_trans (SF_trans (SF_refl) hS3 (any_sub rfl)) hS9 (any_sub rfl)) hS_19 (any_sub rfl)) (SA_trans (SA_trans (SA_trans (SA_refl) hA4 (any_subA rfl)) hA10 (any_subA rfl)) hA_19 (any_subA rfl)) (show inr (x19_3) by omega) (show ((0 ≤ a1 ∧ a1 ≤ 3) ∧ (0 ≤ a2 ∧ a2 ≤ 3) ∧ DFF (rwR ((w10)) ((w11)) (a1)) (rwR ((w10)) ((w11)) (a2)) ((x19_3)) ∨ ¬ ((0 ≤ a1 ∧ a1 ≤ 3) ∧ 0 ≤ a2 ∧ a2 ≤ 3) ∧ (x19_3) = -2) by assumption))
            · refine Ew_of (pc' := 91) (fun _ => x_iconst rfl) ?_
              refine Ew_of (pc' := 95) (fun _ => x_goto rfl rfl) ?_
              have : ((0 ≤ (a1) ∧ (a1) ≤ 3) ∧ (0 ≤ (a2) ∧ (a2) ≤ 3) ∧ DFF (rwR ((w10)) ((w11)) ((a1))) (rwR ((w10)) ((w11)) ((a2))) (((-1))) ∨ ¬ ((0 ≤ (a1) ∧ (a1) ≤ 3) ∧ 0 ≤ (a2) ∧ (a2) ≤ 3) ∧ ((-1)) = -2) := by first | exact .inl ⟨by omega, by omega, .inl ⟨rfl, DFF_eq (by omega) (fun k x y => j19_a k x (by omega))⟩⟩ | exact .inl ⟨by omega, by omega, .inr ⟨by omega, by omega, by omega, fun k x y => j19_a k x y, .inl ⟨by omega, by omega, by rw [rwR_g (by omega) (by omega) hRo, rwR_g (by omega) (by omega) hRo, hv50, hv61]; omega⟩⟩⟩ | exact .inl ⟨by omega, by omega, .inr ⟨by omega, by omega, by omega, fun k x y => j19_a k x y, .inr ⟨by omega, by omega⟩⟩⟩
              exact w_ireturn rfl (k ((-1)) σ _ _ H (SF_trans (SF_trans (SF_trans (SF_refl) hS3 (any_sub rfl)) hS9 (any_sub rfl)) hS_19 (any_sub rfl)) (SA_trans (SA_trans (SA_trans (SA_refl) hA4 (any_subA rfl)) hA10 (any_subA rfl)) hA_19 (any_subA rfl)) (show inr ((-1)) by omega) (show ((0 ≤ a1 ∧ a1 ≤ 3) ∧ (0 ≤ a2 ∧ a2 ≤ 3) ∧ DFF (rwR ((w10)) ((w11)) (a1)) (rwR ((w10)) ((w11)) (a2)) (((-1))) ∨ ¬ ((0 ≤ a1 ∧ a1 ≤ 3) ∧ 0 ≤ a2 ∧ a2 ≤ 3) ∧ ((-1)) = -2) by assumption))
        · refine Ew_of (pc' := 30) (fun _ => x_iload_n rfl l19_3) ?_
          refine Ew_of (pc' := 31) (fun _ => x_aload_n rfl l19_0) ?_
          refine w_gT H (o := 0) (t := 11) rfl (H.perm 0 rfl) rfl rfl rfl rfl rfl rfl ?_
          refine Ew_of (pc' := 35) (fun _ => x_iload_n rfl l19_2) ?_
          refine w_lI H (o := 11) (n := 4) rfl (H.perm 11 rfl) rfl rfl (H.fix 11 rfl rfl) (show 0 ≤ a2 ∧ a2 < ((4 : Nat) : Int) by omega) (by decide) (fun v19 ev19 qv19 => ?_)
          have qv19 : (0 : Int) ≤ v19 ∧ v19 ≤ 65536 := qv19
          have ev19 : (w11) (a2) = v19 := (congrFun ((funext (hA_19 11 rfl)).trans ((funext (hA10 11 rfl)).trans ((funext (hA4 11 rfl)).trans (ew11)))) (a2)).symm.trans ev19
          have hs36 := ev19
          refine w_icmpge (t := 70) rfl rfl (show inr (x19_3) by omega) (show inr (v19) by omega) (fun b20 => ?_) (fun b20 => ?_)
          · refine Ew_of (pc' := 71) (fun _ => x_iload_n rfl l19_3) ?_
            refine Ew_of (pc' := 72) (fun _ => x_aload_n rfl l19_0) ?_
            refine w_gT H (o := 0) (t := 11) rfl (H.perm 0 rfl) rfl rfl rfl rfl rfl rfl ?_
            refine Ew_of (pc' := 76) (fun _ => x_iload_n rfl l19_1) ?_
            refine w_lI H (o := 11) (n := 4) rfl (H.perm 11 rfl) rfl rfl (H.fix 11 rfl rfl) (show 0 ≤ a1 ∧ a1 < ((4 : Nat) : Int) by omega) (by decide) (fun v21 ev21 qv21 => ?_)
            have qv21 : (0 : Int) ≤ v21 ∧ v21 ≤ 65536 := qv21
            have ev21 : (w11) (a1) = v21 := (congrFun ((funext (hA_19 11 rfl)).trans ((funext (hA10 11 rfl)).trans ((funext (hA4 11 rfl)).trans (ew11)))) (a1)).symm.trans ev21
            have hs77 := ev21
            refine w_icmpne (t := 94) rfl rfl (show inr (x19_3) by omega) (show inr (v21) by omega) (fun b22 => ?_) (fun b22 => ?_)
            · refine Ew_of (pc' := 95) (fun _ => x_iload_n rfl l19_3) ?_
              have : ((0 ≤ (a1) ∧ (a1) ≤ 3) ∧ (0 ≤ (a2) ∧ (a2) ≤ 3) ∧ DFF (rwR ((w10)) ((w11)) ((a1))) (rwR ((w10)) ((w11)) ((a2))) ((x19_3)) ∨ ¬ ((0 ≤ (a1) ∧ (a1) ≤ 3) ∧ 0 ≤ (a2) ∧ (a2) ≤ 3) ∧ (x19_3) = -2) := by first | exact .inl ⟨by omega, by omega, .inl ⟨rfl, DFF_eq (by omega) (fun k x y => j19_a k x (by omega))⟩⟩ | exact .inl ⟨by omega, by omega, .inr ⟨by omega, by omega, by omega, fun k x y => j19_a k x y, .inl ⟨by omega, by omega, by rw [rwR_g (by omega) (by omega) hRo, rwR_g (by omega) (by omega) hRo, hv50, hv61]; omega⟩⟩⟩ | exact .inl ⟨by omega, by omega, .inr ⟨by omega, by omega, by omega, fun k x y => j19_a k x y, .inr ⟨by omega, by omega⟩⟩⟩
              exact w_ireturn rfl (k (x19_3) σ _ _ H (SF_trans (SF_trans (SF_trans (SF_refl) hS3 (any_sub rfl)) hS9 (any_sub rfl)) hS_19 (any_sub rfl)) (SA_trans (SA_trans (SA_trans (SA_refl) hA4 (any_subA rfl)) hA10 (any_subA rfl)) hA_19 (any_subA rfl)) (show inr (x19_3) by omega) (show ((0 ≤ a1 ∧ a1 ≤ 3) ∧ (0 ≤ a2 ∧ a2 ≤ 3) ∧ DFF (rwR ((w10)) ((w11)) (a1)) (rwR ((w10)) ((w11)) (a2)) ((x19_3)) ∨ ¬ ((0 ≤ a1 ∧ a1 ≤ 3) ∧ 0 ≤ a2 ∧ a2 ≤ 3) ∧ (x19_3) = -2) by assumption))
            · refine Ew_of (pc' := 81) (fun _ => x_iload_n rfl l19_3) ?_
              refine Ew_of (pc' := 82) (fun _ => x_aload_n rfl l19_0) ?_
              refine w_gT H (o := 0) (t := 11) rfl (H.perm 0 rfl) rfl rfl rfl rfl rfl rfl ?_
              refine Ew_of (pc' := 86) (fun _ => x_iload_n rfl l19_2) ?_
              refine w_lI H (o := 11) (n := 4) rfl (H.perm 11 rfl) rfl rfl (H.fix 11 rfl rfl) (show 0 ≤ a2 ∧ a2 < ((4 : Nat) : Int) by omega) (by decide) (fun v23 ev23 qv23 => ?_)
              have qv23 : (0 : Int) ≤ v23 ∧ v23 ≤ 65536 := qv23
              have ev23 : (w11) (a2) = v23 := (congrFun ((funext (hA_19 11 rfl)).trans ((funext (hA10 11 rfl)).trans ((funext (hA4 11 rfl)).trans (ew11)))) (a2)).symm.trans ev23
              have hs87 := ev23
              refine w_icmpne (t := 94) rfl rfl (show inr (x19_3) by omega) (show inr (v23) by omega) (fun b24 => ?_) (fun b24 => ?_)
              · refine Ew_of (pc' := 95) (fun _ => x_iload_n rfl l19_3) ?_
                have : ((0 ≤ (a1) ∧ (a1) ≤ 3) ∧ (0 ≤ (a2) ∧ (a2) ≤ 3) ∧ DFF (rwR ((w10)) ((w11)) ((a1))) (rwR ((w10)) ((w11)) ((a2))) ((x19_3)) ∨ ¬ ((0 ≤ (a1) ∧ (a1) ≤ 3) ∧ 0 ≤ (a2) ∧ (a2) ≤ 3) ∧ (x19_3) = -2) := by first | exact .inl ⟨by omega, by omega, .inl ⟨rfl, DFF_eq (by omega) (fun k x y => j19_a k x (by omega))⟩⟩ | exact .inl ⟨by omega, by omega, .inr ⟨by omega, by omega, by omega, fun k x y => j19_a k x y, .inl ⟨by omega, by omega, by rw [rwR_g (by omega) (by omega) hRo, rwR_g (by omega) (by omega) hRo, hv50, hv61]; omega⟩⟩⟩ | exact .inl ⟨by omega, by omega, .inr ⟨by omega, by omega, by omega, fun k x y => j19_a k x y, .inr ⟨by omega, by omega⟩⟩⟩
                exact w_ireturn rfl (k (x19_3) σ _ _ H (SF_trans (SF_trans (SF_trans (SF_refl) hS3 (any_sub rfl)) hS9 (any_sub rfl)) hS_19 (any_sub rfl)) (SA_trans (SA_trans (SA_trans (SA_refl) hA4 (any_subA rfl)) hA10 (any_subA rfl)) hA_19 (any_subA rfl)) (show inr (x19_3) by omega) (show ((0 ≤ a1 ∧ a1 ≤ 3) ∧ (0 ≤ a2 ∧ a2 ≤ 3) ∧ DFF (rwR ((w10)) ((w11)) (a1)) (rwR ((w10)) ((w11)) (a2)) ((x19_3)) ∨ ¬ ((0 ≤ a1 ∧ a1 ≤ 3) ∧ 0 ≤ a2 ∧ a2 ≤ 3) ∧ (x19_3) = -2) by assumption))
              · refine Ew_of (pc' := 91) (fun _ => x_iconst rfl) ?_
                refine Ew_of (pc' := 95) (fun _ => x_goto rfl rfl) ?_
                have : ((0 ≤ (a1) ∧ (a1) ≤ 3) ∧ (0 ≤ (a2) ∧ (a2) ≤ 3) ∧ DFF (rwR ((w10)) ((w11)) ((a1))) (rwR ((w10)) ((w11)) ((a2))) (((-1))) ∨ ¬ ((0 ≤ (a1) ∧ (a1) ≤ 3) ∧ 0 ≤ (a2) ∧ (a2) ≤ 3) ∧ ((-1)) = -2) := by first | exact .inl ⟨by omega, by omega, .inl ⟨rfl, DFF_eq (by omega) (fun k x y => j19_a k x (by omega))⟩⟩ | exact .inl ⟨by omega, by omega, .inr ⟨by omega, by omega, by omega, fun k x y => j19_a k x y, .inl ⟨by omega, by omega, by rw [rwR_g (by omega) (by omega) hRo, rwR_g (by omega) (by omega) hRo, hv50, hv61]; omega⟩⟩⟩ | exact .inl ⟨by omega, by omega, .inr ⟨by omega, by omega, by omega, fun k x y => j19_a k x y, .inr ⟨by omega, by omega⟩⟩⟩
                exact w_ireturn rfl (k ((-1)) σ _ _ H (SF_trans (SF_trans (SF_trans (SF_refl) hS3 (any_sub rfl)) hS9 (any_sub rfl)) hS_19 (any_sub rfl)) (SA_trans (SA_trans (SA_trans (SA_refl) hA4 (any_subA rfl)) hA10 (any_subA rfl)) hA_19 (any_subA rfl)) (show inr ((-1)) by omega) (show ((0 ≤ a1 ∧ a1 ≤ 3) ∧ (0 ≤ a2 ∧ a2 ≤ 3) ∧ DFF (rwR ((w10)) ((w11)) (a1)) (rwR ((w10)) ((w11)) (a2)) (((-1))) ∨ ¬ ((0 ≤ a1 ∧ a1 ≤ 3) ∧ 0 ≤ a2 ∧ a2 ≤ 3) ∧ ((-1)) = -2) by assumption))
          · refine Ew_of (pc' := 40) (fun _ => x_aload_n rfl l19_0) ?_
            refine w_gT H (o := 0) (t := 10) rfl (H.perm 0 rfl) rfl rfl rfl rfl rfl rfl ?_
            refine Ew_of (pc' := 45) (fun _ => x_ldc (z := 65536) rfl (by decide)) ?_
            refine Ew_of (pc' := 46) (fun _ => x_iload_n rfl l19_1) ?_
            refine w_imul rfl ?_
            refine Ew_of (pc' := 48) (fun _ => x_iload_n rfl l19_3) ?_
            refine w_iadd rfl ?_
            refine w_lI H (o := 10) (n := 262144) rfl (H.perm 10 rfl) rfl rfl (H.fix 10 rfl rfl) (show 0 ≤ ((65536 * a1) + x19_3) ∧ ((65536 * a1) + x19_3) < ((262144 : Nat) : Int) by omega) (by decide) (fun v25 ev25 qv25 => ?_)
            have qv25 : (0 : Int) ≤ v25 ∧ v25 ≤ 255 := qv25
            have ev25 : (w10) (((65536 * a1) + x19_3)) = v25 := (congrFun ((funext (hA_19 10 rfl)).trans ((funext (hA10 10 rfl)).trans ((funext (hA4 10 rfl)).trans (ew10)))) (((65536 * a1) + x19_3))).symm.trans ev25
            have hv50 := ev25
            refine Ew_of (pc' := 51) (fun _ => x_aload_n rfl l19_0) ?_
            refine w_gT H (o := 0) (t := 10) rfl (H.perm 0 rfl) rfl rfl rfl rfl rfl rfl ?_
            refine Ew_of (pc' := 56) (fun _ => x_ldc (z := 65536) rfl (by decide)) ?_
            refine Ew_of (pc' := 57) (fun _ => x_iload_n rfl l19_2) ?_
            refine w_imul rfl ?_
            refine Ew_of (pc' := 59) (fun _ => x_iload_n rfl l19_3) ?_
            refine w_iadd rfl ?_
            refine w_lI H (o := 10) (n := 262144) rfl (H.perm 10 rfl) rfl rfl (H.fix 10 rfl rfl) (show 0 ≤ ((65536 * a2) + x19_3) ∧ ((65536 * a2) + x19_3) < ((262144 : Nat) : Int) by omega) (by decide) (fun v26 ev26 qv26 => ?_)
            have qv26 : (0 : Int) ≤ v26 ∧ v26 ≤ 255 := qv26
            have ev26 : (w10) (((65536 * a2) + x19_3)) = v26 := (congrFun ((funext (hA_19 10 rfl)).trans ((funext (hA10 10 rfl)).trans ((funext (hA4 10 rfl)).trans (ew10)))) (((65536 * a2) + x19_3))).symm.trans ev26
            have hv61 := ev26
            refine w_icmpne (t := 70) rfl rfl (show inr (v25) by omega) (show inr (v26) by omega) (fun b27 => ?_) (fun b27 => ?_)
            · refine Ew_of (pc' := 71) (fun _ => x_iload_n rfl l19_3) ?_
              refine Ew_of (pc' := 72) (fun _ => x_aload_n rfl l19_0) ?_
              refine w_gT H (o := 0) (t := 11) rfl (H.perm 0 rfl) rfl rfl rfl rfl rfl rfl ?_
              refine Ew_of (pc' := 76) (fun _ => x_iload_n rfl l19_1) ?_
              refine w_lI H (o := 11) (n := 4) rfl (H.perm 11 rfl) rfl rfl (H.fix 11 rfl rfl) (show 0 ≤ a1 ∧ a1 < ((4 : Nat) : Int) by omega) (by decide) (fun v28 ev28 qv28 => ?_)
              have qv28 : (0 : Int) ≤ v28 ∧ v28 ≤ 65536 := qv28
              have ev28 : (w11) (a1) = v28 := (congrFun ((funext (hA_19 11 rfl)).trans ((funext (hA10 11 rfl)).trans ((funext (hA4 11 rfl)).trans (ew11)))) (a1)).symm.trans ev28
              have hs77 := ev28
              refine w_icmpne (t := 94) rfl rfl (show inr (x19_3) by omega) (show inr (v28) by omega) (fun b29 => ?_) (fun b29 => ?_)
              · refine Ew_of (pc' := 95) (fun _ => x_iload_n rfl l19_3) ?_
                have : ((0 ≤ (a1) ∧ (a1) ≤ 3) ∧ (0 ≤ (a2) ∧ (a2) ≤ 3) ∧ DFF (rwR ((w10)) ((w11)) ((a1))) (rwR ((w10)) ((w11)) ((a2))) ((x19_3)) ∨ ¬ ((0 ≤ (a1) ∧ (a1) ≤ 3) ∧ 0 ≤ (a2) ∧ (a2) ≤ 3) ∧ (x19_3) = -2) := by first | exact .inl ⟨by omega, by omega, .inl ⟨rfl, DFF_eq (by omega) (fun k x y => j19_a k x (by omega))⟩⟩ | exact .inl ⟨by omega, by omega, .inr ⟨by omega, by omega, by omega, fun k x y => j19_a k x y, .inl ⟨by omega, by omega, by rw [rwR_g (by omega) (by omega) hRo, rwR_g (by omega) (by omega) hRo, hv50, hv61]; omega⟩⟩⟩ | exact .inl ⟨by omega, by omega, .inr ⟨by omega, by omega, by omega, fun k x y => j19_a k x y, .inr ⟨by omega, by omega⟩⟩⟩
                exact w_ireturn rfl (k (x19_3) σ _ _ H (SF_trans (SF_trans (SF_trans (SF_refl) hS3 (any_sub rfl)) hS9 (any_sub rfl)) hS_19 (any_sub rfl)) (SA_trans (SA_trans (SA_trans (SA_refl) hA4 (any_subA rfl)) hA10 (any_subA rfl)) hA_19 (any_subA rfl)) (show inr (x19_3) by omega) (show ((0 ≤ a1 ∧ a1 ≤ 3) ∧ (0 ≤ a2 ∧ a2 ≤ 3) ∧ DFF (rwR ((w10)) ((w11)) (a1)) (rwR ((w10)) ((w11)) (a2)) ((x19_3)) ∨ ¬ ((0 ≤ a1 ∧ a1 ≤ 3) ∧ 0 ≤ a2 ∧ a2 ≤ 3) ∧ (x19_3) = -2) by assumption))
              · refine Ew_of (pc' := 81) (fun _ => x_iload_n rfl l19_3) ?_
                refine Ew_of (pc' := 82) (fun _ => x_aload_n rfl l19_0) ?_
                refine w_gT H (o := 0) (t := 11) rfl (H.perm 0 rfl) rfl rfl rfl rfl rfl rfl ?_
                refine Ew_of (pc' := 86) (fun _ => x_iload_n rfl l19_2) ?_
                refine w_lI H (o := 11) (n := 4) rfl (H.perm 11 rfl) rfl rfl (H.fix 11 rfl rfl) (show 0 ≤ a2 ∧ a2 < ((4 : Nat) : Int) by omega) (by decide) (fun v30 ev30 qv30 => ?_)
                have qv30 : (0 : Int) ≤ v30 ∧ v30 ≤ 65536 := qv30
                have ev30 : (w11) (a2) = v30 := (congrFun ((funext (hA_19 11 rfl)).trans ((funext (hA10 11 rfl)).trans ((funext (hA4 11 rfl)).trans (ew11)))) (a2)).symm.trans ev30
                have hs87 := ev30
                refine w_icmpne (t := 94) rfl rfl (show inr (x19_3) by omega) (show inr (v30) by omega) (fun b31 => ?_) (fun b31 => ?_)
                · refine Ew_of (pc' := 95) (fun _ => x_iload_n rfl l19_3) ?_
                  have : ((0 ≤ (a1) ∧ (a1) ≤ 3) ∧ (0 ≤ (a2) ∧ (a2) ≤ 3) ∧ DFF (rwR ((w10)) ((w11)) ((a1))) (rwR ((w10)) ((w11)) ((a2))) ((x19_3)) ∨ ¬ ((0 ≤ (a1) ∧ (a1) ≤ 3) ∧ 0 ≤ (a2) ∧ (a2) ≤ 3) ∧ (x19_3) = -2) := by first | exact .inl ⟨by omega, by omega, .inl ⟨rfl, DFF_eq (by omega) (fun k x y => j19_a k x (by omega))⟩⟩ | exact .inl ⟨by omega, by omega, .inr ⟨by omega, by omega, by omega, fun k x y => j19_a k x y, .inl ⟨by omega, by omega, by rw [rwR_g (by omega) (by omega) hRo, rwR_g (by omega) (by omega) hRo, hv50, hv61]; omega⟩⟩⟩ | exact .inl ⟨by omega, by omega, .inr ⟨by omega, by omega, by omega, fun k x y => j19_a k x y, .inr ⟨by omega, by omega⟩⟩⟩
                  exact w_ireturn rfl (k (x19_3) σ _ _ H (SF_trans (SF_trans (SF_trans (SF_refl) hS3 (any_sub rfl)) hS9 (any_sub rfl)) hS_19 (any_sub rfl)) (SA_trans (SA_trans (SA_trans (SA_refl) hA4 (any_subA rfl)) hA10 (any_subA rfl)) hA_19 (any_subA rfl)) (show inr (x19_3) by omega) (show ((0 ≤ a1 ∧ a1 ≤ 3) ∧ (0 ≤ a2 ∧ a2 ≤ 3) ∧ DFF (rwR ((w10)) ((w11)) (a1)) (rwR ((w10)) ((w11)) (a2)) ((x19_3)) ∨ ¬ ((0 ≤ a1 ∧ a1 ≤ 3) ∧ 0 ≤ a2 ∧ a2 ≤ 3) ∧ (x19_3) = -2) by assumption))
                · refine Ew_of (pc' := 91) (fun _ => x_iconst rfl) ?_
                  refine Ew_of (pc' := 95) (fun _ => x_goto rfl rfl) ?_
                  have : ((0 ≤ (a1) ∧ (a1) ≤ 3) ∧ (0 ≤ (a2) ∧ (a2) ≤ 3) ∧ DFF (rwR ((w10)) ((w11)) ((a1))) (rwR ((w10)) ((w11)) ((a2))) (((-1))) ∨ ¬ ((0 ≤ (a1) ∧ (a1) ≤ 3) ∧ 0 ≤ (a2) ∧ (a2) ≤ 3) ∧ ((-1)) = -2) := by first | exact .inl ⟨by omega, by omega, .inl ⟨rfl, DFF_eq (by omega) (fun k x y => j19_a k x (by omega))⟩⟩ | exact .inl ⟨by omega, by omega, .inr ⟨by omega, by omega, by omega, fun k x y => j19_a k x y, .inl ⟨by omega, by omega, by rw [rwR_g (by omega) (by omega) hRo, rwR_g (by omega) (by omega) hRo, hv50, hv61]; omega⟩⟩⟩ | exact .inl ⟨by omega, by omega, .inr ⟨by omega, by omega, by omega, fun k x y => j19_a k x y, .inr ⟨by omega, by omega⟩⟩⟩
                  exact w_ireturn rfl (k ((-1)) σ _ _ H (SF_trans (SF_trans (SF_trans (SF_refl) hS3 (any_sub rfl)) hS9 (any_sub rfl)) hS_19 (any_sub rfl)) (SA_trans (SA_trans (SA_trans (SA_refl) hA4 (any_subA rfl)) hA10 (any_subA rfl)) hA_19 (any_subA rfl)) (show inr ((-1)) by omega) (show ((0 ≤ a1 ∧ a1 ≤ 3) ∧ (0 ≤ a2 ∧ a2 ≤ 3) ∧ DFF (rwR ((w10)) ((w11)) (a1)) (rwR ((w10)) ((w11)) (a2)) (((-1))) ∨ ¬ ((0 ≤ a1 ∧ a1 ≤ 3) ∧ 0 ≤ a2 ∧ a2 ≤ 3) ∧ ((-1)) = -2) by assumption))
            · refine Ew_of (pc' := 67) (fun _ => x_iinc (len := 3) rfl (l19_3)) ?_
              refine Ew_of (pc' := 19) (fun _ => x_goto rfl rfl) ?_
              have : ∀ k, 0 ≤ k → k < ((x19_3 + 1)) → ap (rwR ((w10)) ((w11)) ((a1))) k = ap (rwR ((w10)) ((w11)) ((a2))) k := fun k x y => by by_cases e : k = q3; (rw [e, hq3, rwR_g (by omega) (by omega) hRo, rwR_g (by omega) (by omega) hRo, hv50, hv61]; omega); exact j19_a k x (by omega)
              exact ih19 _ (by omega) _ σ _ _ ((x19_3 + 1)) (rk_o (l19_0) rfl rfl) (rk_o (l19_1) rfl rfl) (rk_o (l19_2) rfl rfl) (rk_s) H (hS_19) (hA_19)   (show inr ((x19_3 + 1)) by omega) (show 0 ≤ ((x19_3 + 1)) ∧ ((x19_3 + 1)) ≤ ((w11)) ((a1)) ∧ ((x19_3 + 1)) ≤ ((w11)) ((a2)) by omega) (show ∀ k, 0 ≤ k → k < ((x19_3 + 1)) → ap (rwR ((w10)) ((w11)) ((a1))) k = ap (rwR ((w10)) ((w11)) ((a2))) k by assumption) rfl
    · refine Ew_of (pc' := 16) (fun _ => x_bipush (z := -2) rfl (by decide)) ?_
      have : ((0 ≤ (a1) ∧ (a1) ≤ 3) ∧ (0 ≤ (a2) ∧ (a2) ≤ 3) ∧ DFF (rwR ((w10)) ((w11)) ((a1))) (rwR ((w10)) ((w11)) ((a2))) (-2) ∨ ¬ ((0 ≤ (a1) ∧ (a1) ≤ 3) ∧ 0 ≤ (a2) ∧ (a2) ≤ 3) ∧ -2 = -2) := .inr ⟨by omega, rfl⟩
      exact w_ireturn rfl (k ((-2)) σ _ _ H (SF_trans (SF_trans (SF_refl) hS3 (any_sub rfl)) hS9 (any_sub rfl)) (SA_trans (SA_trans (SA_refl) hA4 (any_subA rfl)) hA10 (any_subA rfl)) (show inr ((-2)) by omega) (show ((0 ≤ a1 ∧ a1 ≤ 3) ∧ (0 ≤ a2 ∧ a2 ≤ 3) ∧ DFF (rwR ((w10)) ((w11)) (a1)) (rwR ((w10)) ((w11)) (a2)) (((-2))) ∨ ¬ ((0 ≤ a1 ∧ a1 ≤ 3) ∧ 0 ≤ a2 ∧ a2 ≤ 3) ∧ ((-2)) = -2) by assumption))
