section
/-! 98.ref -/
theorem M60p {σ0 σ : rS} {D N : Nat → Nat} {F : hF} {A : hA} {d c s : Nat} {Q : wQ} (H : HS σ0 σ D N F A) {a1 a2 a3 : Int} (w10 : Int → Int) (ew10 : A 10 = w10) (w11 : Int → Int) (ew11 : A 11 = w11) (h0 : inr (a1)) (h1 : inr (a2)) (h2 : inr (a3)) (k : ∀ (z : Int) σ Fₚ Aₚ, HS σ0 σ D N Fₚ Aₚ → SF [] F Fₚ → SA [10, 11] A Aₚ → ∀ v10 : Int → Int, Aₚ 10 = v10 → ∀ v11 : Int → Int, Aₚ 11 = v11 → ((z) = 0 ∨ (z) = 1) → (CHQ ((0 ≤ (a1) ∧ (a1) ≤ 3) ∧ (1 ≤ (a2) ∧ (a2) ≤ ((rwR ((w10)) ((w11)) ((a1))).length : Int)) ∧ 0 ≤ (a3) ∧ (a2) * (a3) ≤ 65536 - ((rwR ((w10)) ((w11)) ((a1))).length : Int)) (rwR ((w10)) ((w11)) ((a1))) (cpb (rwR ((w10)) ((w11)) ((a1))) ((a2)) ((a2) * (a3) : Int).toNat) ((z)) (rwR ((v10)) ((v11)) ((a1)))) → (∀ q, 0 ≤ q → q ≤ 3 → q ≠ (a1) → rwR ((v10)) ((v11)) (q) = rwR ((w10)) ((w11)) (q)) → Q (some (I z)) σ c s) : Ew 60 (d + 1) 0 (rargs 0 [.ref (D 0), I a1, I a2, I a3]) [] σ c s Q := by
  have hSz : ∀ i, (0 : Int) ≤ (w11) i ∧ (w11) i ≤ 65536 := fun i => by have h1 : (0 : Int) ≤ A 11 i ∧ A 11 i ≤ 65536 := H.arng 11 i; rw [show A 11 = w11 from ew11] at h1; exact h1
  have hl0 := rwR_len (ro := (w10)) (si := (w11)) (r := (a1)) (hSz ((a1))).1
  refine Ew_of (pcₚ := 1) (fun _ => x_iload_n rfl rfl) ?_
  refine w_stat24 rfl rfl (by rfl) (M56p H (show inr (a1) from h0) (fun z5 σ F1 A2 H hS3 hA4 pz5_0 pz5_1 => ⟨rretB rfl pz5_0, ?_⟩))
  refine w_ifeq (t := 45) rfl rfl (show inr (z5) from q_138 pz5_0) (fun b6 => ?_) (fun b6 => ?_)
  · have : CHQ ((0 ≤ (a1) ∧ (a1) ≤ 3) ∧ (1 ≤ (a2) ∧ (a2) ≤ ((rwR ((w10)) ((w11)) ((a1))).length : Int)) ∧ 0 ≤ (a3) ∧ (a2) * (a3) ≤ 65536 - ((rwR ((w10)) ((w11)) ((a1))).length : Int)) (rwR ((w10)) ((w11)) ((a1))) (cpb (rwR ((w10)) ((w11)) ((a1))) ((a2)) ((a2) * (a3) : Int).toNat) (0) (rwR ((w10)) ((w11)) ((a1))) := .inr ⟨fun q => by omega, rfl, rfl⟩
    have : ∀ q, 0 ≤ q → q ≤ 3 → q ≠ (a1) → rwR ((w10)) ((w11)) (q) = rwR ((w10)) ((w11)) (q) := fun _ _ _ _ => rfl
    refine Ew_of (pcₚ := 46) (fun _ => x_iconst rfl) ?_
    exact w_ireturn rfl (k (0) σ _ _ H (SF_trans (SF_refl) hS3 (any_sub rfl)) (SA_trans (SA_refl) hA4 (any_subA rfl)) (w10) ((funext (hA4 10 rfl)).trans (ew10)) (w11) ((funext (hA4 11 rfl)).trans (ew11)) (show (0) = 0 ∨ (0) = 1 by first | exact q_45 | omega) (show CHQ ((0 ≤ a1 ∧ a1 ≤ 3) ∧ (1 ≤ a2 ∧ a2 ≤ ((rwR ((w10)) ((w11)) (a1)).length : Int)) ∧ 0 ≤ a3 ∧ a2 * a3 ≤ 65536 - ((rwR ((w10)) ((w11)) (a1)).length : Int)) (rwR ((w10)) ((w11)) (a1)) (cpb (rwR ((w10)) ((w11)) (a1)) (a2) (a2 * a3 : Int).toNat) ((0)) (rwR ((w10)) ((w11)) (a1)) by assumption) (show ∀ q, 0 ≤ q → q ≤ 3 → q ≠ a1 → rwR ((w10)) ((w11)) (q) = rwR ((w10)) ((w11)) (q) by assumption))
  · refine Ew_of (pcₚ := 8) (fun _ => x_iload_n rfl rfl) ?_
    refine Ew_of (pcₚ := 9) (fun _ => x_iconst rfl) ?_
    refine w_icmplt (t := 45) rfl rfl (show inr (a2) from h1) (show inr (1) from q_135) (fun b7 => ?_) (fun b7 => ?_)
    · have : CHQ ((0 ≤ (a1) ∧ (a1) ≤ 3) ∧ (1 ≤ (a2) ∧ (a2) ≤ ((rwR ((w10)) ((w11)) ((a1))).length : Int)) ∧ 0 ≤ (a3) ∧ (a2) * (a3) ≤ 65536 - ((rwR ((w10)) ((w11)) ((a1))).length : Int)) (rwR ((w10)) ((w11)) ((a1))) (cpb (rwR ((w10)) ((w11)) ((a1))) ((a2)) ((a2) * (a3) : Int).toNat) (0) (rwR ((w10)) ((w11)) ((a1))) := .inr ⟨fun q => by omega, rfl, rfl⟩
      have : ∀ q, 0 ≤ q → q ≤ 3 → q ≠ (a1) → rwR ((w10)) ((w11)) (q) = rwR ((w10)) ((w11)) (q) := fun _ _ _ _ => rfl
      refine Ew_of (pcₚ := 46) (fun _ => x_iconst rfl) ?_
      exact w_ireturn rfl (k (0) σ _ _ H (SF_trans (SF_refl) hS3 (any_sub rfl)) (SA_trans (SA_refl) hA4 (any_subA rfl)) (w10) ((funext (hA4 10 rfl)).trans (ew10)) (w11) ((funext (hA4 11 rfl)).trans (ew11)) (show (0) = 0 ∨ (0) = 1 by first | exact q_45 | omega) (show CHQ ((0 ≤ a1 ∧ a1 ≤ 3) ∧ (1 ≤ a2 ∧ a2 ≤ ((rwR ((w10)) ((w11)) (a1)).length : Int)) ∧ 0 ≤ a3 ∧ a2 * a3 ≤ 65536 - ((rwR ((w10)) ((w11)) (a1)).length : Int)) (rwR ((w10)) ((w11)) (a1)) (cpb (rwR ((w10)) ((w11)) (a1)) (a2) (a2 * a3 : Int).toNat) ((0)) (rwR ((w10)) ((w11)) (a1)) by assumption) (show ∀ q, 0 ≤ q → q ≤ 3 → q ≠ a1 → rwR ((w10)) ((w11)) (q) = rwR ((w10)) ((w11)) (q) by assumption))
    · refine Ew_of (pcₚ := 13) (fun _ => x_iload_n rfl rfl) ?_
      refine Ew_of (pcₚ := 14) (fun _ => x_aload_n rfl rfl) ?_
      refine w_gT H (o := 0) (t := 11) rfl (H.perm 0 rfl) rfl rfl rfl rfl rfl rfl ?_
      refine Ew_of (pcₚ := 18) (fun _ => x_iload_n rfl rfl) ?_
      refine w_lI H (o := 11) (n := 4) rfl (H.perm 11 rfl) rfl rfl (H.fix 11 rfl rfl) (show 0 ≤ a1 ∧ a1 < ((4 : Nat) : Int) by omega) (by decide) (fun v8 ev8 qv8 => ?_)
      have qv8 : (0 : Int) ≤ v8 ∧ v8 ≤ 65536 := qv8
      have ev8 : (w11) (a1) = v8 := (congrFun ((funext (hA4 11 rfl)).trans (ew11)) (a1)).symm.trans ev8
      have hs19 := ev8
      refine w_icmpgt (t := 45) rfl rfl (show inr (a2) from h1) (show inr (v8) from q_286 qv8) (fun b9 => ?_) (fun b9 => ?_)
      · have : CHQ ((0 ≤ (a1) ∧ (a1) ≤ 3) ∧ (1 ≤ (a2) ∧ (a2) ≤ ((rwR ((w10)) ((w11)) ((a1))).length : Int)) ∧ 0 ≤ (a3) ∧ (a2) * (a3) ≤ 65536 - ((rwR ((w10)) ((w11)) ((a1))).length : Int)) (rwR ((w10)) ((w11)) ((a1))) (cpb (rwR ((w10)) ((w11)) ((a1))) ((a2)) ((a2) * (a3) : Int).toNat) (0) (rwR ((w10)) ((w11)) ((a1))) := .inr ⟨fun q => by omega, rfl, rfl⟩
        have : ∀ q, 0 ≤ q → q ≤ 3 → q ≠ (a1) → rwR ((w10)) ((w11)) (q) = rwR ((w10)) ((w11)) (q) := fun _ _ _ _ => rfl
        refine Ew_of (pcₚ := 46) (fun _ => x_iconst rfl) ?_
        exact w_ireturn rfl (k (0) σ _ _ H (SF_trans (SF_refl) hS3 (any_sub rfl)) (SA_trans (SA_refl) hA4 (any_subA rfl)) (w10) ((funext (hA4 10 rfl)).trans (ew10)) (w11) ((funext (hA4 11 rfl)).trans (ew11)) (show (0) = 0 ∨ (0) = 1 by first | exact q_45 | omega) (show CHQ ((0 ≤ a1 ∧ a1 ≤ 3) ∧ (1 ≤ a2 ∧ a2 ≤ ((rwR ((w10)) ((w11)) (a1)).length : Int)) ∧ 0 ≤ a3 ∧ a2 * a3 ≤ 65536 - ((rwR ((w10)) ((w11)) (a1)).length : Int)) (rwR ((w10)) ((w11)) (a1)) (cpb (rwR ((w10)) ((w11)) (a1)) (a2) (a2 * a3 : Int).toNat) ((0)) (rwR ((w10)) ((w11)) (a1)) by assumption) (show ∀ q, 0 ≤ q → q ≤ 3 → q ≠ a1 → rwR ((w10)) ((w11)) (q) = rwR ((w10)) ((w11)) (q) by assumption))
      · refine Ew_of (pcₚ := 23) (fun _ => x_iload_n rfl rfl) ?_
        refine w_iflt (t := 45) rfl rfl (show inr (a3) from h2) (fun b10 => ?_) (fun b10 => ?_)
        · have : CHQ ((0 ≤ (a1) ∧ (a1) ≤ 3) ∧ (1 ≤ (a2) ∧ (a2) ≤ ((rwR ((w10)) ((w11)) ((a1))).length : Int)) ∧ 0 ≤ (a3) ∧ (a2) * (a3) ≤ 65536 - ((rwR ((w10)) ((w11)) ((a1))).length : Int)) (rwR ((w10)) ((w11)) ((a1))) (cpb (rwR ((w10)) ((w11)) ((a1))) ((a2)) ((a2) * (a3) : Int).toNat) (0) (rwR ((w10)) ((w11)) ((a1))) := .inr ⟨fun q => by omega, rfl, rfl⟩
          have : ∀ q, 0 ≤ q → q ≤ 3 → q ≠ (a1) → rwR ((w10)) ((w11)) (q) = rwR ((w10)) ((w11)) (q) := fun _ _ _ _ => rfl
          refine Ew_of (pcₚ := 46) (fun _ => x_iconst rfl) ?_
          exact w_ireturn rfl (k (0) σ _ _ H (SF_trans (SF_refl) hS3 (any_sub rfl)) (SA_trans (SA_refl) hA4 (any_subA rfl)) (w10) ((funext (hA4 10 rfl)).trans (ew10)) (w11) ((funext (hA4 11 rfl)).trans (ew11)) (show (0) = 0 ∨ (0) = 1 by first | exact q_45 | omega) (show CHQ ((0 ≤ a1 ∧ a1 ≤ 3) ∧ (1 ≤ a2 ∧ a2 ≤ ((rwR ((w10)) ((w11)) (a1)).length : Int)) ∧ 0 ≤ a3 ∧ a2 * a3 ≤ 65536 - ((rwR ((w10)) ((w11)) (a1)).length : Int)) (rwR ((w10)) ((w11)) (a1)) (cpb (rwR ((w10)) ((w11)) (a1)) (a2) (a2 * a3 : Int).toNat) ((0)) (rwR ((w10)) ((w11)) (a1)) by assumption) (show ∀ q, 0 ≤ q → q ≤ 3 → q ≠ a1 → rwR ((w10)) ((w11)) (q) = rwR ((w10)) ((w11)) (q) by assumption))
        · refine Ew_of (pcₚ := 27) (fun _ => x_iload_n rfl rfl) ?_
          refine w_i2l rfl (show inr (a2) from h1) ?_
          refine Ew_of (pcₚ := 29) (fun _ => x_iload_n rfl rfl) ?_
          refine w_i2l rfl (show inr (a3) from h2) ?_
          have hm0 : 0 ≤ (a2) * (a3) := Int.mul_nonneg (by omega) (by omega)
          have hm1 : (a2) * (a3) ≤ 65536 * 2147483647 := Int.mul_le_mul (by omega) (by omega) (by omega) (by omega)
          refine w_lmul rfl ?_
          refine Ew_of (pcₚ := 33) (fun _ => x_ldc (z := 65536) rfl (by decide)) ?_
          refine Ew_of (pcₚ := 34) (fun _ => x_aload_n rfl rfl) ?_
          refine w_gT H (o := 0) (t := 11) rfl (H.perm 0 rfl) rfl rfl rfl rfl rfl rfl ?_
          refine Ew_of (pcₚ := 38) (fun _ => x_iload_n rfl rfl) ?_
          refine w_lI H (o := 11) (n := 4) rfl (H.perm 11 rfl) rfl rfl (H.fix 11 rfl rfl) (show 0 ≤ a1 ∧ a1 < ((4 : Nat) : Int) by omega) (by decide) (fun v11 ev11 qv11 => ?_)
          have qv11 : (0 : Int) ≤ v11 ∧ v11 ≤ 65536 := qv11
          have ev11 : (w11) (a1) = v11 := (congrFun ((funext (hA4 11 rfl)).trans (ew11)) (a1)).symm.trans ev11
          have hs39 := ev11
          refine w_isub rfl ?_
          refine w_i2l rfl (show inr ((65536 - v11)) from q_2265 qv11) ?_
          refine w_lcmp rfl (show inrJ ((a2 * a3)) from q_2267 hm0 hm1) (show inrJ ((65536 - v11)) from q_2266 qv11) (fun z12 gz12 gaz12 gbz12 => ?_)
          refine w_ifle (t := 47) rfl rfl (show inr (z12) from gz12) (fun b13 => ?_) (fun b13 => ?_)
          · refine Ew_of (pcₚ := 48) (fun _ => x_iconst rfl) ?_
            refine Ew_of (pcₚ := 50) (fun _ => x_istore rfl) ?_
            refine Ew_of (pcₚ := 51) (fun _ => x_iconst rfl) ?_
            refine Ew_of (pcₚ := 53) (fun _ => x_istore rfl) ?_
            have : RWC ((w10)) ((w11)) ((w10)) ((w11)) ((a1)) (cpb (rwR ((w10)) ((w11)) ((a1))) ((a2)) (0 : Int).toNat) := RWC_0
            suffices hl53 : ∀ (m : Nat), ∀ (ls : rO) (σ : rS) (F_53 : hF) (A_53 : hA) (x53_4 : Int) (x53_5 : Int), rlook ls 0 = some (.ref (D 0)) → rlook ls 1 = some (I (a1)) → rlook ls 2 = some (I (a2)) → rlook ls 3 = some (I (a3)) → rlook ls 4 = some (I (x53_4)) → rlook ls 5 = some (I (x53_5)) → HS σ0 σ D N F_53 A_53 → SF [] F1 F_53 → SA [10, 11] A2 A_53 → ∀ w53_10 : Int → Int, A_53 10 = w53_10 → ∀ w53_11 : Int → Int, A_53 11 = w53_11 → (inr (x53_4)) → (inr (x53_5)) → ((x53_4) = 1) → (0 ≤ (x53_5) ∧ (x53_5) ≤ (a2) * (a3)) → (((w53_11)) ((a1)) = ((w11)) ((a1)) + (x53_5)) → (RWC ((w10)) ((w11)) ((w53_10)) ((w53_11)) ((a1)) (cpb (rwR ((w10)) ((w11)) ((a1))) ((a2)) ((x53_5) : Int).toNat)) → ((a2) * (a3) - (x53_5)).toNat = m → Ew 60 (d + 1) 53 ls [] σ c s Q from
              hl53 _ _ σ _ _ (1) (0) (rk_o (rk_o (rfl) rfl rfl) rfl rfl) (rk_o (rk_o (rfl) rfl rfl) rfl rfl) (rk_o (rk_o (rfl) rfl rfl) rfl rfl) (rk_o (rk_o (rfl) rfl rfl) rfl rfl) (rk_o (rk_s) rfl rfl) (rk_s) H (SF_refl) (SA_refl)  (w10) ((funext (hA4 10 rfl)).trans (ew10)) (w11) ((funext (hA4 11 rfl)).trans (ew11)) (show inr (1) from q_135) (show inr (0) from q_2) (show (1) = 1 from q_2904) (show 0 ≤ (0) ∧ (0) ≤ (a2) * (a3) from q_2910 hm0) (show ((w11)) ((a1)) = ((w11)) ((a1)) + (0) from q_365) (show RWC ((w10)) ((w11)) ((w10)) ((w11)) ((a1)) (cpb (rwR ((w10)) ((w11)) ((a1))) ((a2)) ((0) : Int).toNat) by assumption) rfl
            as_aux_lemma =>
            intro m
            induction m using Nat.strongRecOn with
            | _ m ih53 =>
              intro ls σ F_53 A_53 x53_4 x53_5 l53_0 l53_1 l53_2 l53_3 l53_4 l53_5 H hS_53 hA_53  w53_10 ew53_10 w53_11 ew53_11 j53_0 j53_1 j53_2 j53_3 j53_4 j53_5 hm53
              have j53_c : RWC ((w10)) ((w11)) ((w53_10)) ((w53_11)) ((a1)) (cpb (rwR ((w10)) ((w11)) ((a1))) ((a2)) ((x53_5) : Int).toNat) := by assumption
              have hSz2 : ∀ i, (0 : Int) ≤ (w53_11) i ∧ (w53_11) i ≤ 65536 := fun i => by have h1 : (0 : Int) ≤ A_53 11 i ∧ A_53 11 i ≤ 65536 := H.arng 11 i; rw [show A_53 11 = w53_11 from ew53_11] at h1; exact h1
              have hRo : ∀ i, (0 : Int) ≤ (w53_10) i ∧ (w53_10) i ≤ 255 := fun i => by have h1 : (0 : Int) ≤ A_53 10 i ∧ A_53 10 i ≤ 255 := H.arng 10 i; rw [show A_53 10 = w53_10 from ew53_10] at h1; exact h1
              obtain ⟨q5, hq5⟩ : ∃ q : Int, q = (x53_5) := ⟨_, rfl⟩
              refine Ew_of (pcₚ := 55) (fun _ => x_iload rfl l53_5) ?_
              refine Ew_of (pcₚ := 56) (fun _ => x_iload_n rfl l53_2) ?_
              refine Ew_of (pcₚ := 57) (fun _ => x_iload_n rfl l53_3) ?_
              refine w_imul rfl ?_
              refine w_icmpge (t := 105) rfl rfl (show inr (x53_5) from j53_1) (show inr ((a2 * a3)) by omega) (fun b14 => ?_) (fun b14 => ?_)
              · have hc12 : RWC ((w10)) ((w11)) ((w53_10)) ((w53_11)) ((a1)) (cpb (rwR ((w10)) ((w11)) ((a1))) ((a2)) ((a2) * (a3) : Int).toNat) := by have h := j53_c; rw [show (x53_5) = (a2) * (a3) by omega] at h; exact h
                have : CHQ ((0 ≤ (a1) ∧ (a1) ≤ 3) ∧ (1 ≤ (a2) ∧ (a2) ≤ ((rwR ((w10)) ((w11)) ((a1))).length : Int)) ∧ 0 ≤ (a3) ∧ (a2) * (a3) ≤ 65536 - ((rwR ((w10)) ((w11)) ((a1))).length : Int)) (rwR ((w10)) ((w11)) ((a1))) (cpb (rwR ((w10)) ((w11)) ((a1))) ((a2)) ((a2) * (a3) : Int).toNat) ((x53_4)) (rwR ((w53_10)) ((w53_11)) ((a1))) := .inl ⟨⟨by omega, by omega, by omega, by omega⟩, by omega, hc12.1⟩
                have : ∀ q, 0 ≤ q → q ≤ 3 → q ≠ (a1) → rwR ((w53_10)) ((w53_11)) (q) = rwR ((w10)) ((w11)) (q) := hc12.2
                refine Ew_of (pcₚ := 107) (fun _ => x_iload rfl l53_4) ?_
                exact w_ireturn rfl (k (x53_4) σ _ _ H (SF_trans (SF_trans (SF_refl) hS3 (any_sub rfl)) hS_53 (any_sub rfl)) (SA_trans (SA_trans (SA_refl) hA4 (any_subA rfl)) hA_53 (any_subA rfl)) (w53_10) (ew53_10) (w53_11) (ew53_11) (show (x53_4) = 0 ∨ (x53_4) = 1 from q_866 j53_2) (show CHQ ((0 ≤ a1 ∧ a1 ≤ 3) ∧ (1 ≤ a2 ∧ a2 ≤ ((rwR ((w10)) ((w11)) (a1)).length : Int)) ∧ 0 ≤ a3 ∧ a2 * a3 ≤ 65536 - ((rwR ((w10)) ((w11)) (a1)).length : Int)) (rwR ((w10)) ((w11)) (a1)) (cpb (rwR ((w10)) ((w11)) (a1)) (a2) (a2 * a3 : Int).toNat) ((x53_4)) (rwR ((w53_10)) ((w53_11)) (a1)) by assumption) (show ∀ q, 0 ≤ q → q ≤ 3 → q ≠ a1 → rwR ((w53_10)) ((w53_11)) (q) = rwR ((w10)) ((w11)) (q) by assumption))
              · refine Ew_of (pcₚ := 62) (fun _ => x_aload_n rfl l53_0) ?_
                refine Ew_of (pcₚ := 63) (fun _ => x_iload_n rfl l53_1) ?_
                refine Ew_of (pcₚ := 64) (fun _ => x_aload_n rfl l53_0) ?_
                refine w_gT H (o := 0) (t := 10) rfl (H.perm 0 rfl) rfl rfl rfl rfl rfl rfl ?_
                refine Ew_of (pcₚ := 69) (fun _ => x_ldc (z := 65536) rfl (by decide)) ?_
                refine Ew_of (pcₚ := 70) (fun _ => x_iload_n rfl l53_1) ?_
                refine w_imul rfl ?_
                refine Ew_of (pcₚ := 72) (fun _ => x_aload_n rfl l53_0) ?_
                refine w_gT H (o := 0) (t := 11) rfl (H.perm 0 rfl) rfl rfl rfl rfl rfl rfl ?_
                refine Ew_of (pcₚ := 76) (fun _ => x_iload_n rfl l53_1) ?_
                refine w_lI H (o := 11) (n := 4) rfl (H.perm 11 rfl) rfl rfl (H.fix 11 rfl rfl) (show 0 ≤ a1 ∧ a1 < ((4 : Nat) : Int) by omega) (by decide) (fun v15 ev15 qv15 => ?_)
                have qv15 : (0 : Int) ≤ v15 ∧ v15 ≤ 65536 := qv15
                have ev15 : (w53_11) (a1) = v15 := (congrFun (ew53_11) (a1)).symm.trans ev15
                have hs77 := ev15
                refine w_iadd rfl ?_
                refine Ew_of (pcₚ := 79) (fun _ => x_iload_n rfl l53_2) ?_
                refine w_isub rfl ?_
                refine w_lI H (o := 10) (n := 262144) rfl (H.perm 10 rfl) rfl rfl (H.fix 10 rfl rfl) (show 0 ≤ (((65536 * a1) + v15) - a2) ∧ (((65536 * a1) + v15) - a2) < ((262144 : Nat) : Int) by omega) (by decide) (fun v16 ev16 qv16 => ?_)
                have qv16 : (0 : Int) ≤ v16 ∧ v16 ≤ 255 := qv16
                have ev16 : (w53_10) ((((65536 * a1) + v15) - a2)) = v16 := (congrFun (ew53_10) ((((65536 * a1) + v15) - a2))).symm.trans ev16
                have hv81 := ev16
                obtain ⟨qv, hqv⟩ : ∃ q : Int, q = (v16) := ⟨_, rfl⟩
                have hlc : ((cpb (rwR ((w10)) ((w11)) ((a1))) ((a2)) (q5 : Int).toNat).length : Int) = ((w53_11)) ((a1)) := by rw [hq5, ← j53_c.1]; exact rwR_len (hSz2 ((a1))).1
                have hcd : 0 ≤ (a2) ∧ (a2) ≤ ((cpb (rwR ((w10)) ((w11)) ((a1))) ((a2)) (q5 : Int).toNat).length : Int) := by omega
                have hcv : ap (cpb (rwR ((w10)) ((w11)) ((a1))) ((a2)) (q5 : Int).toNat) (((cpb (rwR ((w10)) ((w11)) ((a1))) ((a2)) (q5 : Int).toNat).length : Int) - (a2)) = u8 qv := by rw [hlc, hq5, ← j53_c.1, rwR_g (by omega) (by omega) hRo, u8_id (by omega), hqv, ← hv81, hs77]; congr 1; omega
                refine w_inv H (o := 0) rfl rfl rfl (H.perm 0 rfl) rfl rfl (by rfl) (M57p H (w53_10) (ew53_10) (w53_11) (ew53_11) (show inr (a1) from h0) (show inr (v16) from q_299 qv16) (show 0 ≤ (a1) ∧ (a1) ≤ 3 by omega) (fun z21 σ F17 A18 H hS19 hA20 wq22 ewq23 wq24 ewq25 pz21_0 pz21_1 pz21_2 => ⟨rretB rfl pz21_0, ?_⟩))
                have hap := APQ_1 pz21_1 hSz2 (by omega) (by omega)
                have hr1 := hap.1
                have hsz3 := hap.2.2
                refine w_ifeq (t := 96) rfl rfl (show inr (z21) from q_1794 pz21_2) (fun b26 => ?_) (fun b26 => ?_)
                · refine Ew_of (pcₚ := 97) (fun _ => x_iconst rfl) ?_
                  refine Ew_of (pcₚ := 99) (fun _ => x_istore rfl) ?_
                  refine Ew_of (pcₚ := 102) (fun _ => x_iinc (len := 3) rfl (rk_o (l53_5) rfl rfl)) ?_
                  refine Ew_of (pcₚ := 53) (fun _ => x_goto rfl rfl) ?_
                  have : RWC ((w10)) ((w11)) ((wq22)) ((wq24)) ((a1)) (cpb (rwR ((w10)) ((w11)) ((a1))) ((a2)) (((x53_5 + 1)) : Int).toNat) := by first | exact RWC_e (RWC_t j53_c hap.2.1) (by rw [cpb_sp (n := q5) (m := ((x53_5 + 1))) (v := u8 qv) (by omega) (by omega) hcv hcd, hq5, ← j53_c.1, hqv]) | (exfalso; omega)
                  exact ih53 _ (msE hm53 q_2271 (q_2272 b14)) _ σ _ _ (0) ((x53_5 + 1)) (rk_o (rk_o (l53_0) rfl rfl) rfl rfl) (rk_o (rk_o (l53_1) rfl rfl) rfl rfl) (rk_o (rk_o (l53_2) rfl rfl) rfl rfl) (rk_o (rk_o (l53_3) rfl rfl) rfl rfl) (rk_o (rk_s) rfl rfl) (rk_s) H (SF_trans (hS_53) hS19 (any_sub rfl)) (SA_trans (hA_53) hA20 (any_subA rfl))  (wq22) (ewq23) (wq24) (ewq25) (show inr (0) from q_2) (show inr ((x53_5 + 1)) from q_2912 ev11 ev15 j53_3 j53_4 qv11 qv15) (show (0) = 1 by omega) (show 0 ≤ ((x53_5 + 1)) ∧ ((x53_5 + 1)) ≤ (a2) * (a3) from q_2911 b14 j53_3) (show ((wq24)) ((a1)) = ((w11)) ((a1)) + ((x53_5 + 1)) by omega) (show RWC ((w10)) ((w11)) ((wq22)) ((wq24)) ((a1)) (cpb (rwR ((w10)) ((w11)) ((a1))) ((a2)) (((x53_5 + 1)) : Int).toNat) by assumption) rfl
                · refine Ew_of (pcₚ := 89) (fun _ => x_iload rfl l53_4) ?_
                  refine w_ifeq (t := 96) rfl rfl (show inr (x53_4) from j53_0) (fun b27 => ?_) (fun b27 => ?_)
                  · refine Ew_of (pcₚ := 97) (fun _ => x_iconst rfl) ?_
                    refine Ew_of (pcₚ := 99) (fun _ => x_istore rfl) ?_
                    refine Ew_of (pcₚ := 102) (fun _ => x_iinc (len := 3) rfl (rk_o (l53_5) rfl rfl)) ?_
                    refine Ew_of (pcₚ := 53) (fun _ => x_goto rfl rfl) ?_
                    have : RWC ((w10)) ((w11)) ((wq22)) ((wq24)) ((a1)) (cpb (rwR ((w10)) ((w11)) ((a1))) ((a2)) (((x53_5 + 1)) : Int).toNat) := by first | exact RWC_e (RWC_t j53_c hap.2.1) (by rw [cpb_sp (n := q5) (m := ((x53_5 + 1))) (v := u8 qv) (by omega) (by omega) hcv hcd, hq5, ← j53_c.1, hqv]) | (exfalso; omega)
                    exact ih53 _ (msE hm53 q_2271 (q_2272 b14)) _ σ _ _ (0) ((x53_5 + 1)) (rk_o (rk_o (l53_0) rfl rfl) rfl rfl) (rk_o (rk_o (l53_1) rfl rfl) rfl rfl) (rk_o (rk_o (l53_2) rfl rfl) rfl rfl) (rk_o (rk_o (l53_3) rfl rfl) rfl rfl) (rk_o (rk_s) rfl rfl) (rk_s) H (SF_trans (hS_53) hS19 (any_sub rfl)) (SA_trans (hA_53) hA20 (any_subA rfl))  (wq22) (ewq23) (wq24) (ewq25) (show inr (0) from q_2) (show inr ((x53_5 + 1)) from q_2912 ev11 ev15 j53_3 j53_4 qv11 qv15) (show (0) = 1 by omega) (show 0 ≤ ((x53_5 + 1)) ∧ ((x53_5 + 1)) ≤ (a2) * (a3) from q_2911 b14 j53_3) (show ((wq24)) ((a1)) = ((w11)) ((a1)) + ((x53_5 + 1)) by omega) (show RWC ((w10)) ((w11)) ((wq22)) ((wq24)) ((a1)) (cpb (rwR ((w10)) ((w11)) ((a1))) ((a2)) (((x53_5 + 1)) : Int).toNat) by assumption) rfl
                  · refine Ew_of (pcₚ := 93) (fun _ => x_iconst rfl) ?_
                    refine Ew_of (pcₚ := 97) (fun _ => x_goto rfl rfl) ?_
                    refine Ew_of (pcₚ := 99) (fun _ => x_istore rfl) ?_
                    refine Ew_of (pcₚ := 102) (fun _ => x_iinc (len := 3) rfl (rk_o (l53_5) rfl rfl)) ?_
                    refine Ew_of (pcₚ := 53) (fun _ => x_goto rfl rfl) ?_
                    have : RWC ((w10)) ((w11)) ((wq22)) ((wq24)) ((a1)) (cpb (rwR ((w10)) ((w11)) ((a1))) ((a2)) (((x53_5 + 1)) : Int).toNat) := by first | exact RWC_e (RWC_t j53_c hap.2.1) (by rw [cpb_sp (n := q5) (m := ((x53_5 + 1))) (v := u8 qv) (by omega) (by omega) hcv hcd, hq5, ← j53_c.1, hqv]) | (exfalso; omega)
                    exact ih53 _ (msE hm53 q_2271 (q_2272 b14)) _ σ _ _ (1) ((x53_5 + 1)) (rk_o (rk_o (l53_0) rfl rfl) rfl rfl) (rk_o (rk_o (l53_1) rfl rfl) rfl rfl) (rk_o (rk_o (l53_2) rfl rfl) rfl rfl) (rk_o (rk_o (l53_3) rfl rfl) rfl rfl) (rk_o (rk_s) rfl rfl) (rk_s) H (SF_trans (hS_53) hS19 (any_sub rfl)) (SA_trans (hA_53) hA20 (any_subA rfl))  (wq22) (ewq23) (wq24) (ewq25) (show inr (1) from q_135) (show inr ((x53_5 + 1)) from q_2912 ev11 ev15 j53_3 j53_4 qv11 qv15) (show (1) = 1 from q_2904) (show 0 ≤ ((x53_5 + 1)) ∧ ((x53_5 + 1)) ≤ (a2) * (a3) from q_2911 b14 j53_3) (show ((wq24)) ((a1)) = ((w11)) ((a1)) + ((x53_5 + 1)) by omega) (show RWC ((w10)) ((w11)) ((wq22)) ((wq24)) ((a1)) (cpb (rwR ((w10)) ((w11)) ((a1))) ((a2)) (((x53_5 + 1)) : Int).toNat) by assumption) rfl
          · have : CHQ ((0 ≤ (a1) ∧ (a1) ≤ 3) ∧ (1 ≤ (a2) ∧ (a2) ≤ ((rwR ((w10)) ((w11)) ((a1))).length : Int)) ∧ 0 ≤ (a3) ∧ (a2) * (a3) ≤ 65536 - ((rwR ((w10)) ((w11)) ((a1))).length : Int)) (rwR ((w10)) ((w11)) ((a1))) (cpb (rwR ((w10)) ((w11)) ((a1))) ((a2)) ((a2) * (a3) : Int).toNat) (0) (rwR ((w10)) ((w11)) ((a1))) := .inr ⟨fun q => by omega, rfl, rfl⟩
            have : ∀ q, 0 ≤ q → q ≤ 3 → q ≠ (a1) → rwR ((w10)) ((w11)) (q) = rwR ((w10)) ((w11)) (q) := fun _ _ _ _ => rfl
            refine Ew_of (pcₚ := 46) (fun _ => x_iconst rfl) ?_
            exact w_ireturn rfl (k (0) σ _ _ H (SF_trans (SF_refl) hS3 (any_sub rfl)) (SA_trans (SA_refl) hA4 (any_subA rfl)) (w10) ((funext (hA4 10 rfl)).trans (ew10)) (w11) ((funext (hA4 11 rfl)).trans (ew11)) (show (0) = 0 ∨ (0) = 1 by first | exact q_45 | omega) (show CHQ ((0 ≤ a1 ∧ a1 ≤ 3) ∧ (1 ≤ a2 ∧ a2 ≤ ((rwR ((w10)) ((w11)) (a1)).length : Int)) ∧ 0 ≤ a3 ∧ a2 * a3 ≤ 65536 - ((rwR ((w10)) ((w11)) (a1)).length : Int)) (rwR ((w10)) ((w11)) (a1)) (cpb (rwR ((w10)) ((w11)) (a1)) (a2) (a2 * a3 : Int).toNat) ((0)) (rwR ((w10)) ((w11)) (a1)) by assumption) (show ∀ q, 0 ≤ q → q ≤ 3 → q ≠ a1 → rwR ((w10)) ((w11)) (q) = rwR ((w10)) ((w11)) (q) by assumption))

theorem M61p {σ0 σ : rS} {D N : Nat → Nat} {F : hF} {A : hA} {d c s : Nat} {Q : wQ} (H : HS σ0 σ D N F A) {a1 a2 : Int} (w10 : Int → Int) (ew10 : A 10 = w10) (w11 : Int → Int) (ew11 : A 11 = w11) (h0 : inr (a1)) (h1 : inr (a2)) (k : ∀ (z : Int) σ Fₚ Aₚ, HS σ0 σ D N Fₚ Aₚ → SF [] F Fₚ → SA [11] A Aₚ → ∀ v10 : Int → Int, Aₚ 10 = v10 → ∀ v11 : Int → Int, Aₚ 11 = v11 → ((z) = 0 ∨ (z) = 1) → (CHQ ((0 ≤ (a1) ∧ (a1) ≤ 3) ∧ (0 ≤ (a2) ∧ (a2) ≤ ((rwR ((w10)) ((w11)) ((a1))).length : Int))) (rwR ((w10)) ((w11)) ((a1))) ((rwR ((w10)) ((w11)) ((a1))).take ((a2) : Int).toNat) ((z)) (rwR ((v10)) ((v11)) ((a1)))) → (∀ q, 0 ≤ q → q ≤ 3 → q ≠ (a1) → rwR ((v10)) ((v11)) (q) = rwR ((w10)) ((w11)) (q)) → Q (some (I z)) σ c s) : Ew 61 (d + 1) 0 (rargs 0 [.ref (D 0), I a1, I a2]) [] σ c s Q := by
  have hSz : ∀ i, (0 : Int) ≤ (w11) i ∧ (w11) i ≤ 65536 := fun i => by have h1 : (0 : Int) ≤ A 11 i ∧ A 11 i ≤ 65536 := H.arng 11 i; rw [show A 11 = w11 from ew11] at h1; exact h1
  have hl0 := rwR_len (ro := (w10)) (si := (w11)) (r := (a1)) (hSz ((a1))).1
  refine Ew_of (pcₚ := 1) (fun _ => x_iload_n rfl rfl) ?_
  refine w_stat24 rfl rfl (by rfl) (M56p H (show inr (a1) from h0) (fun z5 σ F1 A2 H hS3 hA4 pz5_0 pz5_1 => ⟨rretB rfl pz5_0, ?_⟩))
  refine w_ifeq (t := 21) rfl rfl (show inr (z5) from q_138 pz5_0) (fun b6 => ?_) (fun b6 => ?_)
  · have : CHQ ((0 ≤ (a1) ∧ (a1) ≤ 3) ∧ (0 ≤ (a2) ∧ (a2) ≤ ((rwR ((w10)) ((w11)) ((a1))).length : Int))) (rwR ((w10)) ((w11)) ((a1))) ((rwR ((w10)) ((w11)) ((a1))).take ((a2) : Int).toNat) (0) (rwR ((w10)) ((w11)) ((a1))) := .inr ⟨fun q => by omega, rfl, rfl⟩
    have : ∀ q, 0 ≤ q → q ≤ 3 → q ≠ (a1) → rwR ((w10)) ((w11)) (q) = rwR ((w10)) ((w11)) (q) := fun _ _ _ _ => rfl
    refine Ew_of (pcₚ := 22) (fun _ => x_iconst rfl) ?_
    exact w_ireturn rfl (k (0) σ _ _ H (SF_trans (SF_refl) hS3 (any_sub rfl)) (SA_trans (SA_refl) hA4 (any_subA rfl)) (w10) ((funext (hA4 10 rfl)).trans (ew10)) (w11) ((funext (hA4 11 rfl)).trans (ew11)) (show (0) = 0 ∨ (0) = 1 by first | exact q_45 | omega) (show CHQ ((0 ≤ a1 ∧ a1 ≤ 3) ∧ (0 ≤ a2 ∧ a2 ≤ ((rwR ((w10)) ((w11)) (a1)).length : Int))) (rwR ((w10)) ((w11)) (a1)) ((rwR ((w10)) ((w11)) (a1)).take (a2 : Int).toNat) ((0)) (rwR ((w10)) ((w11)) (a1)) by assumption) (show ∀ q, 0 ≤ q → q ≤ 3 → q ≠ a1 → rwR ((w10)) ((w11)) (q) = rwR ((w10)) ((w11)) (q) by assumption))
  · refine Ew_of (pcₚ := 8) (fun _ => x_iload_n rfl rfl) ?_
    refine w_iflt (t := 21) rfl rfl (show inr (a2) from h1) (fun b7 => ?_) (fun b7 => ?_)
    · have : CHQ ((0 ≤ (a1) ∧ (a1) ≤ 3) ∧ (0 ≤ (a2) ∧ (a2) ≤ ((rwR ((w10)) ((w11)) ((a1))).length : Int))) (rwR ((w10)) ((w11)) ((a1))) ((rwR ((w10)) ((w11)) ((a1))).take ((a2) : Int).toNat) (0) (rwR ((w10)) ((w11)) ((a1))) := .inr ⟨fun q => by omega, rfl, rfl⟩
      have : ∀ q, 0 ≤ q → q ≤ 3 → q ≠ (a1) → rwR ((w10)) ((w11)) (q) = rwR ((w10)) ((w11)) (q) := fun _ _ _ _ => rfl
      refine Ew_of (pcₚ := 22) (fun _ => x_iconst rfl) ?_
      exact w_ireturn rfl (k (0) σ _ _ H (SF_trans (SF_refl) hS3 (any_sub rfl)) (SA_trans (SA_refl) hA4 (any_subA rfl)) (w10) ((funext (hA4 10 rfl)).trans (ew10)) (w11) ((funext (hA4 11 rfl)).trans (ew11)) (show (0) = 0 ∨ (0) = 1 by first | exact q_45 | omega) (show CHQ ((0 ≤ a1 ∧ a1 ≤ 3) ∧ (0 ≤ a2 ∧ a2 ≤ ((rwR ((w10)) ((w11)) (a1)).length : Int))) (rwR ((w10)) ((w11)) (a1)) ((rwR ((w10)) ((w11)) (a1)).take (a2 : Int).toNat) ((0)) (rwR ((w10)) ((w11)) (a1)) by assumption) (show ∀ q, 0 ≤ q → q ≤ 3 → q ≠ a1 → rwR ((w10)) ((w11)) (q) = rwR ((w10)) ((w11)) (q) by assumption))
    · refine Ew_of (pcₚ := 12) (fun _ => x_iload_n rfl rfl) ?_
      refine Ew_of (pcₚ := 13) (fun _ => x_aload_n rfl rfl) ?_
      refine w_gT H (o := 0) (t := 11) rfl (H.perm 0 rfl) rfl rfl rfl rfl rfl rfl ?_
      refine Ew_of (pcₚ := 17) (fun _ => x_iload_n rfl rfl) ?_
      refine w_lI H (o := 11) (n := 4) rfl (H.perm 11 rfl) rfl rfl (H.fix 11 rfl rfl) (show 0 ≤ a1 ∧ a1 < ((4 : Nat) : Int) by omega) (by decide) (fun v8 ev8 qv8 => ?_)
      have qv8 : (0 : Int) ≤ v8 ∧ v8 ≤ 65536 := qv8
      have ev8 : (w11) (a1) = v8 := (congrFun ((funext (hA4 11 rfl)).trans (ew11)) (a1)).symm.trans ev8
      have hs18 := ev8
      refine w_icmple (t := 23) rfl rfl (show inr (a2) from h1) (show inr (v8) from q_286 qv8) (fun b9 => ?_) (fun b9 => ?_)
      · refine Ew_of (pcₚ := 24) (fun _ => x_aload_n rfl rfl) ?_
        refine w_gT H (o := 0) (t := 11) rfl (H.perm 0 rfl) rfl rfl rfl rfl rfl rfl ?_
        refine Ew_of (pcₚ := 28) (fun _ => x_iload_n rfl rfl) ?_
        refine Ew_of (pcₚ := 29) (fun _ => x_iload_n rfl rfl) ?_
        refine w_sI H (o := 11) (n := 4) rfl (H.perm 11 rfl) rfl rfl (H.fix 11 rfl rfl) (show 0 ≤ a1 ∧ a1 < ((4 : Nat) : Int) by omega) (by decide) (show (0 : Int) ≤ a2 ∧ a2 ≤ 65536 from q_290 b7 b9 qv8) (fun σ H => ?_)
        have : CHQ ((0 ≤ (a1) ∧ (a1) ≤ 3) ∧ (0 ≤ (a2) ∧ (a2) ≤ ((rwR ((w10)) ((w11)) ((a1))).length : Int))) (rwR ((w10)) ((w11)) ((a1))) ((rwR ((w10)) ((w11)) ((a1))).take ((a2) : Int).toNat) (1) (rwR ((w10)) ((upd1 (w11) (a1) (a2))) ((a1))) := .inl ⟨⟨by omega, by omega⟩, rfl, by unfold rwR; rw [upd1_s, sc_tk (by omega) (by omega)]⟩
        have : ∀ q, 0 ≤ q → q ≤ 3 → q ≠ (a1) → rwR ((w10)) ((upd1 (w11) (a1) (a2))) (q) = rwR ((w10)) ((w11)) (q) := fun q _ _ z => by unfold rwR; rw [upd1_o z]
        refine Ew_of (pcₚ := 31) (fun _ => x_iconst rfl) ?_
        exact w_ireturn rfl (k (1) σ _ _ H (SF_trans (SF_refl) hS3 (any_sub rfl)) (SA_upd (SA_trans (SA_refl) hA4 (any_subA rfl)) rfl) (w10) ((funext (hA4 10 rfl)).trans (ew10)) (upd1 (w11) (a1) (a2)) (congrArg (fun q => upd1 q (a1) (a2)) ((funext (hA4 11 rfl)).trans (ew11))) (show (1) = 0 ∨ (1) = 1 by first | exact q_49 | omega) (show CHQ ((0 ≤ a1 ∧ a1 ≤ 3) ∧ (0 ≤ a2 ∧ a2 ≤ ((rwR ((w10)) ((w11)) (a1)).length : Int))) (rwR ((w10)) ((w11)) (a1)) ((rwR ((w10)) ((w11)) (a1)).take (a2 : Int).toNat) ((1)) (rwR ((w10)) ((upd1 (w11) (a1) (a2))) (a1)) by assumption) (show ∀ q, 0 ≤ q → q ≤ 3 → q ≠ a1 → rwR ((w10)) ((upd1 (w11) (a1) (a2))) (q) = rwR ((w10)) ((w11)) (q) by assumption))
      · have : CHQ ((0 ≤ (a1) ∧ (a1) ≤ 3) ∧ (0 ≤ (a2) ∧ (a2) ≤ ((rwR ((w10)) ((w11)) ((a1))).length : Int))) (rwR ((w10)) ((w11)) ((a1))) ((rwR ((w10)) ((w11)) ((a1))).take ((a2) : Int).toNat) (0) (rwR ((w10)) ((w11)) ((a1))) := .inr ⟨fun q => by omega, rfl, rfl⟩
        have : ∀ q, 0 ≤ q → q ≤ 3 → q ≠ (a1) → rwR ((w10)) ((w11)) (q) = rwR ((w10)) ((w11)) (q) := fun _ _ _ _ => rfl
        refine Ew_of (pcₚ := 22) (fun _ => x_iconst rfl) ?_
        exact w_ireturn rfl (k (0) σ _ _ H (SF_trans (SF_refl) hS3 (any_sub rfl)) (SA_trans (SA_refl) hA4 (any_subA rfl)) (w10) ((funext (hA4 10 rfl)).trans (ew10)) (w11) ((funext (hA4 11 rfl)).trans (ew11)) (show (0) = 0 ∨ (0) = 1 by first | exact q_45 | omega) (show CHQ ((0 ≤ a1 ∧ a1 ≤ 3) ∧ (0 ≤ a2 ∧ a2 ≤ ((rwR ((w10)) ((w11)) (a1)).length : Int))) (rwR ((w10)) ((w11)) (a1)) ((rwR ((w10)) ((w11)) (a1)).take (a2 : Int).toNat) ((0)) (rwR ((w10)) ((w11)) (a1)) by assumption) (show ∀ q, 0 ≤ q → q ≤ 3 → q ≠ a1 → rwR ((w10)) ((w11)) (q) = rwR ((w10)) ((w11)) (q) by assumption))

theorem M63p {σ0 σ : rS} {D N : Nat → Nat} {F : hF} {A : hA} {d c s : Nat} {Q : wQ} (H : HS σ0 σ D N F A) {a1 a2 a3 a4 : Int} (w10 : Int → Int) (ew10 : A 10 = w10) (w11 : Int → Int) (ew11 : A 11 = w11) (h0 : inr (a1)) (h1 : inr (a2)) (h2 : inr (a3)) (h3 : inr (a4)) (k : ∀ (z : Int) σ Fₚ Aₚ, HS σ0 σ D N Fₚ Aₚ → SF [] F Fₚ → SA [10, 11] A Aₚ → ∀ v10 : Int → Int, Aₚ 10 = v10 → ∀ v11 : Int → Int, Aₚ 11 = v11 → ((z) = 0 ∨ (z) = 1) → (CHQ ((0 ≤ (a1) ∧ (a1) ≤ 3) ∧ (0 ≤ (a2) ∧ (a2) ≤ 3) ∧ ((prL (rwR ((w10)) ((w11)) ((a2))) ((a3)) ((a4))).length : Int) ≤ 65536 - ((rwR ((w10)) ((w11)) ((a1))).length : Int)) (rwR ((w10)) ((w11)) ((a1))) (rwR ((w10)) ((w11)) ((a1)) ++ prL (rwR ((w10)) ((w11)) ((a2))) ((a3)) ((a4))) ((z)) (rwR ((v10)) ((v11)) ((a1)))) → (∀ q, 0 ≤ q → q ≤ 3 → q ≠ (a1) → rwR ((v10)) ((v11)) (q) = rwR ((w10)) ((w11)) (q)) → Q (some (I z)) σ c s) : Ew 63 (d + 1) 0 (rargs 0 [.ref (D 0), I a1, I a2, I a3, I a4]) [] σ c s Q := by
  have hSz : ∀ i, (0 : Int) ≤ (w11) i ∧ (w11) i ≤ 65536 := fun i => by have h1 : (0 : Int) ≤ A 11 i ∧ A 11 i ≤ 65536 := H.arng 11 i; rw [show A 11 = w11 from ew11] at h1; exact h1
  have hl0 := rwR_len (ro := (w10)) (si := (w11)) (r := (a1)) (hSz ((a1))).1
  have hl2 := rwR_len (ro := (w10)) (si := (w11)) (r := (a2)) (hSz ((a2))).1
  have hsa2 := hSz ((a2))
  refine Ew_of (pcₚ := 1) (fun _ => x_iload_n rfl rfl) ?_
  refine w_stat24 rfl rfl (by rfl) (M56p H (show inr (a1) from h0) (fun z5 σ F1 A2 H hS3 hA4 pz5_0 pz5_1 => ⟨rretB rfl pz5_0, ?_⟩))
  refine w_ifeq (t := 14) rfl rfl (show inr (z5) from q_138 pz5_0) (fun b6 => ?_) (fun b6 => ?_)
  · have : CHQ ((0 ≤ (a1) ∧ (a1) ≤ 3) ∧ (0 ≤ (a2) ∧ (a2) ≤ 3) ∧ ((prL (rwR ((w10)) ((w11)) ((a2))) ((a3)) ((a4))).length : Int) ≤ 65536 - ((rwR ((w10)) ((w11)) ((a1))).length : Int)) (rwR ((w10)) ((w11)) ((a1))) (rwR ((w10)) ((w11)) ((a1)) ++ prL (rwR ((w10)) ((w11)) ((a2))) ((a3)) ((a4))) (0) (rwR ((w10)) ((w11)) ((a1))) := .inr ⟨fun q => by omega, rfl, rfl⟩
    have : ∀ q, 0 ≤ q → q ≤ 3 → q ≠ (a1) → rwR ((w10)) ((w11)) (q) = rwR ((w10)) ((w11)) (q) := fun _ _ _ _ => rfl
    refine Ew_of (pcₚ := 15) (fun _ => x_iconst rfl) ?_
    exact w_ireturn rfl (k (0) σ _ _ H (SF_trans (SF_refl) hS3 (any_sub rfl)) (SA_trans (SA_refl) hA4 (any_subA rfl)) (w10) ((funext (hA4 10 rfl)).trans (ew10)) (w11) ((funext (hA4 11 rfl)).trans (ew11)) (show (0) = 0 ∨ (0) = 1 by first | exact q_45 | omega) (show CHQ ((0 ≤ a1 ∧ a1 ≤ 3) ∧ (0 ≤ a2 ∧ a2 ≤ 3) ∧ ((prL (rwR ((w10)) ((w11)) (a2)) (a3) (a4)).length : Int) ≤ 65536 - ((rwR ((w10)) ((w11)) (a1)).length : Int)) (rwR ((w10)) ((w11)) (a1)) (rwR ((w10)) ((w11)) (a1) ++ prL (rwR ((w10)) ((w11)) (a2)) (a3) (a4)) ((0)) (rwR ((w10)) ((w11)) (a1)) by assumption) (show ∀ q, 0 ≤ q → q ≤ 3 → q ≠ a1 → rwR ((w10)) ((w11)) (q) = rwR ((w10)) ((w11)) (q) by assumption))
  · refine Ew_of (pcₚ := 8) (fun _ => x_iload_n rfl rfl) ?_
    refine w_stat24 rfl rfl (by rfl) (M56p H (show inr (a2) from h1) (fun z11 σ F7 A8 H hS9 hA10 pz11_0 pz11_1 => ⟨rretB rfl pz11_0, ?_⟩))
    refine w_ifne (t := 16) rfl rfl (show inr (z11) from q_138 pz11_0) (fun b12 => ?_) (fun b12 => ?_)
    · have hc35 : ∀ (tc35_0 : Int), ∀ (ls : rO) (σ : rS) (F_c35 : hF) (A_c35 : hA) , rlook ls 0 = some (.ref (D 0)) → rlook ls 1 = some (I (a1)) → rlook ls 2 = some (I (a2)) → rlook ls 3 = some (I (a3)) → HS σ0 σ D N F_c35 A_c35 → SF [] F7 F_c35 → SA [] A8 A_c35 → (inr (tc35_0)) → (((tc35_0) = (a4) - (a3) ∧ (0 ≤ (a3) ∧ (a3) ≤ (a4) ∧ (a4) ≤ ((w11)) ((a2))) ∨ (tc35_0) = 0 ∧ ¬ (0 ≤ (a3) ∧ (a3) ≤ (a4) ∧ (a4) ≤ ((w11)) ((a2))))) → (0 ≤ (tc35_0) ∧ (tc35_0) ≤ 65536) → Ew 63 (d + 1) 35 ls [I (tc35_0)] σ c s Q := by
       as_aux_lemma =>
        intro tc35_0 ls σ F_c35 A_c35  lc35_0 lc35_1 lc35_2 lc35_3 H hS_c35 hA_c35   jc35_0 jc35_1 jc35_2
        refine Ew_of (pcₚ := 37) (fun _ => x_istore rfl) ?_
        have h35 : ((tc35_0) = (a4) - (a3) ∧ (0 ≤ (a3) ∧ (a3) ≤ (a4) ∧ (a4) ≤ ((w11)) ((a2))) ∨ (tc35_0) = 0 ∧ ¬ (0 ≤ (a3) ∧ (a3) ≤ (a4) ∧ (a4) ≤ ((w11)) ((a2)))) := jc35_1
        have hpl : ((prL (rwR ((w10)) ((w11)) ((a2))) ((a3)) ((a4))).length : Int) = (tc35_0) := by rcases h35 with ⟨a, b⟩ | ⟨a, b⟩; (rw [prL_y (by rw [hl2]; exact b), sc_lenI (by omega)]; omega); (rw [prL_n (by rw [hl2]; exact b)]; simp only [List.length_nil]; omega)
        have hpe : prL (rwR ((w10)) ((w11)) ((a2))) ((a3)) ((a4)) = sc (sh ((w10)) (65536 * (a2))) ((a3)) ((a3) + (tc35_0)) := by rcases h35 with ⟨a, b⟩ | ⟨a, b⟩; (rw [a, show (a3) + ((a4) - (a3)) = (a4) by omega]; exact pr_sc rfl b); (rw [a, Int.add_zero, sc_nil (Int.le_refl _)]; exact prL_n (by rw [hl2]; exact b))
        refine Ew_of (pcₚ := 39) (fun _ => x_iload rfl rk_s) ?_
        refine Ew_of (pcₚ := 41) (fun _ => x_ldc (z := 65536) rfl (by decide)) ?_
        refine Ew_of (pcₚ := 42) (fun _ => x_aload_n rfl (rk_o (lc35_0) rfl rfl)) ?_
        refine w_gT H (o := 0) (t := 11) rfl (H.perm 0 rfl) rfl rfl rfl rfl rfl rfl ?_
        refine Ew_of (pcₚ := 46) (fun _ => x_iload_n rfl (rk_o (lc35_1) rfl rfl)) ?_
        refine w_lI H (o := 11) (n := 4) rfl (H.perm 11 rfl) rfl rfl (H.fix 11 rfl rfl) (show 0 ≤ a1 ∧ a1 < ((4 : Nat) : Int) by omega) (by decide) (fun v13 ev13 qv13 => ?_)
        have qv13 : (0 : Int) ≤ v13 ∧ v13 ≤ 65536 := qv13
        have ev13 : (w11) (a1) = v13 := (congrFun ((funext (hA_c35 11 rfl)).trans ((funext (hA10 11 rfl)).trans ((funext (hA4 11 rfl)).trans (ew11)))) (a1)).symm.trans ev13
        have hs47 := ev13
        refine w_isub rfl ?_
        refine w_icmple (t := 53) rfl rfl (show inr (tc35_0) from jc35_0) (show inr ((65536 - v13)) from q_2265 qv13) (fun b14 => ?_) (fun b14 => ?_)
        · refine Ew_of (pcₚ := 54) (fun _ => x_iconst rfl) ?_
          refine Ew_of (pcₚ := 56) (fun _ => x_istore rfl) ?_
          refine Ew_of (pcₚ := 57) (fun _ => x_iconst rfl) ?_
          refine Ew_of (pcₚ := 59) (fun _ => x_istore rfl) ?_
          have : RWC ((w10)) ((w11)) ((w10)) ((w11)) ((a1)) (rwR ((w10)) ((w11)) ((a1)) ++ sc (sh ((w10)) (65536 * (a2))) ((a3)) ((a3) + 0)) := RWC_e RWC_0 (by rw [Int.add_zero, sc_nil (Int.le_refl _), List.append_nil])
          have : ∀ k, 0 ≤ k → k < ((w11)) ((a2)) → ((w10)) (65536 * (a2) + k) = ((w10)) (65536 * (a2) + k) := fun _ _ _ => rfl
          suffices hl59 : ∀ (m : Nat), ∀ (ls : rO) (σ : rS) (F_59 : hF) (A_59 : hA) (x59_6 : Int) (x59_7 : Int), rlook ls 0 = some (.ref (D 0)) → rlook ls 1 = some (I (a1)) → rlook ls 2 = some (I (a2)) → rlook ls 3 = some (I (a3)) → rlook ls 5 = some (I (tc35_0)) → rlook ls 6 = some (I (x59_6)) → rlook ls 7 = some (I (x59_7)) → HS σ0 σ D N F_59 A_59 → SF [] F_c35 F_59 → SA [10, 11] A_c35 A_59 → ∀ w59_10 : Int → Int, A_59 10 = w59_10 → ∀ w59_11 : Int → Int, A_59 11 = w59_11 → (inr (x59_6)) → (inr (x59_7)) → ((x59_6) = 1) → (0 ≤ (x59_7) ∧ (x59_7) ≤ (tc35_0)) → (((w59_11)) ((a1)) = ((w11)) ((a1)) + (x59_7)) → (RWC ((w10)) ((w11)) ((w59_10)) ((w59_11)) ((a1)) (rwR ((w10)) ((w11)) ((a1)) ++ sc (sh ((w10)) (65536 * (a2))) ((a3)) ((a3) + (x59_7)))) → (∀ k, 0 ≤ k → k < ((w11)) ((a2)) → ((w59_10)) (65536 * (a2) + k) = ((w10)) (65536 * (a2) + k)) → ((tc35_0) - (x59_7)).toNat = m → Ew 63 (d + 1) 59 ls [] σ c s Q from
            hl59 _ _ σ _ _ (1) (0) (rk_o (rk_o (rk_o (lc35_0) rfl rfl) rfl rfl) rfl rfl) (rk_o (rk_o (rk_o (lc35_1) rfl rfl) rfl rfl) rfl rfl) (rk_o (rk_o (rk_o (lc35_2) rfl rfl) rfl rfl) rfl rfl) (rk_o (rk_o (rk_o (lc35_3) rfl rfl) rfl rfl) rfl rfl) (rk_o (rk_o (rk_s) rfl rfl) rfl rfl) (rk_o (rk_s) rfl rfl) (rk_s) H (SF_refl) (SA_refl)  (w10) ((funext (hA_c35 10 rfl)).trans ((funext (hA10 10 rfl)).trans ((funext (hA4 10 rfl)).trans (ew10)))) (w11) ((funext (hA_c35 11 rfl)).trans ((funext (hA10 11 rfl)).trans ((funext (hA4 11 rfl)).trans (ew11)))) (show inr (1) from q_135) (show inr (0) from q_2) (show (1) = 1 from q_2904) (show 0 ≤ (0) ∧ (0) ≤ (tc35_0) from q_1172 jc35_2) (show ((w11)) ((a1)) = ((w11)) ((a1)) + (0) from q_365) (show RWC ((w10)) ((w11)) ((w10)) ((w11)) ((a1)) (rwR ((w10)) ((w11)) ((a1)) ++ sc (sh ((w10)) (65536 * (a2))) ((a3)) ((a3) + (0))) by assumption) (show ∀ k, 0 ≤ k → k < ((w11)) ((a2)) → ((w10)) (65536 * (a2) + k) = ((w10)) (65536 * (a2) + k) by assumption) rfl
          as_aux_lemma =>
          intro m
          induction m using Nat.strongRecOn with
          | _ m ih59 =>
            intro ls σ F_59 A_59 x59_6 x59_7 l59_0 l59_1 l59_2 l59_3 l59_5 l59_6 l59_7 H hS_59 hA_59  w59_10 ew59_10 w59_11 ew59_11 j59_0 j59_1 j59_2 j59_3 j59_4 j59_5 j59_6 hm59
            have j59_c : RWC ((w10)) ((w11)) ((w59_10)) ((w59_11)) ((a1)) (rwR ((w10)) ((w11)) ((a1)) ++ sc (sh ((w10)) (65536 * (a2))) ((a3)) ((a3) + (x59_7))) := by assumption
            have j59_k : ∀ k, 0 ≤ k → k < ((w11)) ((a2)) → ((w59_10)) (65536 * (a2) + k) = ((w10)) (65536 * (a2) + k) := by assumption
            have hSz2 : ∀ i, (0 : Int) ≤ (w59_11) i ∧ (w59_11) i ≤ 65536 := fun i => by have h1 : (0 : Int) ≤ A_59 11 i ∧ A_59 11 i ≤ 65536 := H.arng 11 i; rw [show A_59 11 = w59_11 from ew59_11] at h1; exact h1
            obtain ⟨q7, hq7⟩ : ∃ q : Int, q = (x59_7) := ⟨_, rfl⟩
            have hje : (a1) = (a2) → ((w11)) ((a2)) ≤ ((w59_11)) ((a1)) := fun e => by rw [← e]; omega
            refine Ew_of (pcₚ := 61) (fun _ => x_iload rfl l59_7) ?_
            refine Ew_of (pcₚ := 63) (fun _ => x_iload rfl l59_5) ?_
            refine w_icmpge (t := 106) rfl rfl (show inr (x59_7) from j59_1) (show inr (tc35_0) from jc35_0) (fun b15 => ?_) (fun b15 => ?_)
            · have hc12 : RWC ((w10)) ((w11)) ((w59_10)) ((w59_11)) ((a1)) (rwR ((w10)) ((w11)) ((a1)) ++ sc (sh ((w10)) (65536 * (a2))) ((a3)) ((a3) + (tc35_0))) := by have h := j59_c; rw [show (x59_7) = (tc35_0) by omega] at h; exact h
              have : CHQ ((0 ≤ (a1) ∧ (a1) ≤ 3) ∧ (0 ≤ (a2) ∧ (a2) ≤ 3) ∧ ((prL (rwR ((w10)) ((w11)) ((a2))) ((a3)) ((a4))).length : Int) ≤ 65536 - ((rwR ((w10)) ((w11)) ((a1))).length : Int)) (rwR ((w10)) ((w11)) ((a1))) (rwR ((w10)) ((w11)) ((a1)) ++ prL (rwR ((w10)) ((w11)) ((a2))) ((a3)) ((a4))) ((x59_6)) (rwR ((w59_10)) ((w59_11)) ((a1))) := .inl ⟨⟨by omega, by omega, by omega⟩, by omega, hc12.1.trans (by rw [hpe])⟩
              have : ∀ q, 0 ≤ q → q ≤ 3 → q ≠ (a1) → rwR ((w59_10)) ((w59_11)) (q) = rwR ((w10)) ((w11)) (q) := hc12.2
              refine Ew_of (pcₚ := 108) (fun _ => x_iload rfl l59_6) ?_
              exact w_ireturn rfl (k (x59_6) σ _ _ H (SF_trans (SF_trans (SF_trans (SF_trans (SF_refl) hS3 (any_sub rfl)) hS9 (any_sub rfl)) hS_c35 (any_sub rfl)) hS_59 (any_sub rfl)) (SA_trans (SA_trans (SA_trans (SA_trans (SA_refl) hA4 (any_subA rfl)) hA10 (any_subA rfl)) hA_c35 (any_subA rfl)) hA_59 (any_subA rfl)) (w59_10) (ew59_10) (w59_11) (ew59_11) (show (x59_6) = 0 ∨ (x59_6) = 1 from q_866 j59_2) (show CHQ ((0 ≤ a1 ∧ a1 ≤ 3) ∧ (0 ≤ a2 ∧ a2 ≤ 3) ∧ ((prL (rwR ((w10)) ((w11)) (a2)) (a3) (a4)).length : Int) ≤ 65536 - ((rwR ((w10)) ((w11)) (a1)).length : Int)) (rwR ((w10)) ((w11)) (a1)) (rwR ((w10)) ((w11)) (a1) ++ prL (rwR ((w10)) ((w11)) (a2)) (a3) (a4)) ((x59_6)) (rwR ((w59_10)) ((w59_11)) (a1)) by assumption) (show ∀ q, 0 ≤ q → q ≤ 3 → q ≠ a1 → rwR ((w59_10)) ((w59_11)) (q) = rwR ((w10)) ((w11)) (q) by assumption))
            · refine Ew_of (pcₚ := 67) (fun _ => x_aload_n rfl l59_0) ?_
              refine Ew_of (pcₚ := 68) (fun _ => x_iload_n rfl l59_1) ?_
              refine Ew_of (pcₚ := 69) (fun _ => x_aload_n rfl l59_0) ?_
              refine w_gT H (o := 0) (t := 10) rfl (H.perm 0 rfl) rfl rfl rfl rfl rfl rfl ?_
              refine Ew_of (pcₚ := 74) (fun _ => x_ldc (z := 65536) rfl (by decide)) ?_
              refine Ew_of (pcₚ := 75) (fun _ => x_iload_n rfl l59_2) ?_
              refine w_imul rfl ?_
              refine Ew_of (pcₚ := 77) (fun _ => x_iload_n rfl l59_3) ?_
              refine w_iadd rfl ?_
              refine Ew_of (pcₚ := 80) (fun _ => x_iload rfl l59_7) ?_
              refine w_iadd rfl ?_
              refine w_lI H (o := 10) (n := 262144) rfl (H.perm 10 rfl) rfl rfl (H.fix 10 rfl rfl) (show 0 ≤ (((65536 * a2) + a3) + x59_7) ∧ (((65536 * a2) + a3) + x59_7) < ((262144 : Nat) : Int) by omega) (by decide) (fun v16 ev16 qv16 => ?_)
              have qv16 : (0 : Int) ≤ v16 ∧ v16 ≤ 255 := qv16
              have ev16 : (w59_10) ((((65536 * a2) + a3) + x59_7)) = v16 := (congrFun (ew59_10) ((((65536 * a2) + a3) + x59_7))).symm.trans ev16
              have hv82 := ev16
              have hqv2 : u8 ((v16)) = u8 ((sh ((w10)) (65536 * (a2))) ((a3) + (x59_7))) := by rw [← hv82]; congr 1; unfold sh; rw [show 65536 * (a2) + (a3) + (x59_7) = 65536 * (a2) + ((a3) + (x59_7)) by omega]; exact j59_k _ (by omega) (by omega)
              refine w_inv H (o := 0) rfl rfl rfl (H.perm 0 rfl) rfl rfl (by rfl) (M57p H (w59_10) (ew59_10) (w59_11) (ew59_11) (show inr (a1) from h0) (show inr (v16) from q_299 qv16) (show 0 ≤ (a1) ∧ (a1) ≤ 3 by omega) (fun z21 σ F17 A18 H hS19 hA20 wq22 ewq23 wq24 ewq25 pz21_0 pz21_1 pz21_2 => ⟨rretB rfl pz21_0, ?_⟩))
              have hap := APQ_1 pz21_1 hSz2 (by omega) (by omega)
              have hr1 := hap.1
              have hsz3 := hap.2.2
              refine w_ifeq (t := 97) rfl rfl (show inr (z21) from q_1794 pz21_2) (fun b26 => ?_) (fun b26 => ?_)
              · refine Ew_of (pcₚ := 98) (fun _ => x_iconst rfl) ?_
                refine Ew_of (pcₚ := 100) (fun _ => x_istore rfl) ?_
                refine Ew_of (pcₚ := 103) (fun _ => x_iinc (len := 3) rfl (rk_o (l59_7) rfl rfl)) ?_
                refine Ew_of (pcₚ := 59) (fun _ => x_goto rfl rfl) ?_
                have : RWC ((w10)) ((w11)) ((wq22)) ((wq24)) ((a1)) (rwR ((w10)) ((w11)) ((a1)) ++ sc (sh ((w10)) (65536 * (a2))) ((a3)) ((a3) + ((x59_7 + 1)))) := RWC_e (RWC_a j59_c hap.2.1) (by rw [List.append_assoc, sc_snoc (b := (a3) + q7) (c := (a3) + ((x59_7 + 1))) (by omega) (by omega), hq7, ← hqv2])
                have : ∀ k, 0 ≤ k → k < ((w11)) ((a2)) → ((wq22)) (65536 * (a2) + k) = ((w10)) (65536 * (a2) + k) := fun k x y => (APQ_k pz21_1 hSz2 (by omega) (by omega) (by omega) x (by have := hSz ((a2)); omega) (fun e => by have := hje e; omega)).trans (j59_k k x y)
                exact ih59 _ (msE hm59 q_16 (q_17 b15)) _ σ _ _ (0) ((x59_7 + 1)) (rk_o (rk_o (l59_0) rfl rfl) rfl rfl) (rk_o (rk_o (l59_1) rfl rfl) rfl rfl) (rk_o (rk_o (l59_2) rfl rfl) rfl rfl) (rk_o (rk_o (l59_3) rfl rfl) rfl rfl) (rk_o (rk_o (l59_5) rfl rfl) rfl rfl) (rk_o (rk_s) rfl rfl) (rk_s) H (SF_trans (hS_59) hS19 (any_sub rfl)) (SA_trans (hA_59) hA20 (any_subA rfl))  (wq22) (ewq23) (wq24) (ewq25) (show inr (0) from q_2) (show inr ((x59_7 + 1)) from q_2183 b15 j59_3 jc35_2) (show (0) = 1 by omega) (show 0 ≤ ((x59_7 + 1)) ∧ ((x59_7 + 1)) ≤ (tc35_0) from q_1395 b15 j59_3) (show ((wq24)) ((a1)) = ((w11)) ((a1)) + ((x59_7 + 1)) by omega) (show RWC ((w10)) ((w11)) ((wq22)) ((wq24)) ((a1)) (rwR ((w10)) ((w11)) ((a1)) ++ sc (sh ((w10)) (65536 * (a2))) ((a3)) ((a3) + ((x59_7 + 1)))) by assumption) (show ∀ k, 0 ≤ k → k < ((w11)) ((a2)) → ((wq22)) (65536 * (a2) + k) = ((w10)) (65536 * (a2) + k) by assumption) rfl
              · refine Ew_of (pcₚ := 90) (fun _ => x_iload rfl l59_6) ?_
                refine w_ifeq (t := 97) rfl rfl (show inr (x59_6) from j59_0) (fun b27 => ?_) (fun b27 => ?_)
                · refine Ew_of (pcₚ := 98) (fun _ => x_iconst rfl) ?_
                  refine Ew_of (pcₚ := 100) (fun _ => x_istore rfl) ?_
                  refine Ew_of (pcₚ := 103) (fun _ => x_iinc (len := 3) rfl (rk_o (l59_7) rfl rfl)) ?_
                  refine Ew_of (pcₚ := 59) (fun _ => x_goto rfl rfl) ?_
                  have : RWC ((w10)) ((w11)) ((wq22)) ((wq24)) ((a1)) (rwR ((w10)) ((w11)) ((a1)) ++ sc (sh ((w10)) (65536 * (a2))) ((a3)) ((a3) + ((x59_7 + 1)))) := RWC_e (RWC_a j59_c hap.2.1) (by rw [List.append_assoc, sc_snoc (b := (a3) + q7) (c := (a3) + ((x59_7 + 1))) (by omega) (by omega), hq7, ← hqv2])
                  have : ∀ k, 0 ≤ k → k < ((w11)) ((a2)) → ((wq22)) (65536 * (a2) + k) = ((w10)) (65536 * (a2) + k) := fun k x y => (APQ_k pz21_1 hSz2 (by omega) (by omega) (by omega) x (by have := hSz ((a2)); omega) (fun e => by have := hje e; omega)).trans (j59_k k x y)
                  exact ih59 _ (msE hm59 q_16 (q_17 b15)) _ σ _ _ (0) ((x59_7 + 1)) (rk_o (rk_o (l59_0) rfl rfl) rfl rfl) (rk_o (rk_o (l59_1) rfl rfl) rfl rfl) (rk_o (rk_o (l59_2) rfl rfl) rfl rfl) (rk_o (rk_o (l59_3) rfl rfl) rfl rfl) (rk_o (rk_o (l59_5) rfl rfl) rfl rfl) (rk_o (rk_s) rfl rfl) (rk_s) H (SF_trans (hS_59) hS19 (any_sub rfl)) (SA_trans (hA_59) hA20 (any_subA rfl))  (wq22) (ewq23) (wq24) (ewq25) (show inr (0) from q_2) (show inr ((x59_7 + 1)) from q_2183 b15 j59_3 jc35_2) (show (0) = 1 by omega) (show 0 ≤ ((x59_7 + 1)) ∧ ((x59_7 + 1)) ≤ (tc35_0) from q_1395 b15 j59_3) (show ((wq24)) ((a1)) = ((w11)) ((a1)) + ((x59_7 + 1)) by omega) (show RWC ((w10)) ((w11)) ((wq22)) ((wq24)) ((a1)) (rwR ((w10)) ((w11)) ((a1)) ++ sc (sh ((w10)) (65536 * (a2))) ((a3)) ((a3) + ((x59_7 + 1)))) by assumption) (show ∀ k, 0 ≤ k → k < ((w11)) ((a2)) → ((wq22)) (65536 * (a2) + k) = ((w10)) (65536 * (a2) + k) by assumption) rfl
                · refine Ew_of (pcₚ := 94) (fun _ => x_iconst rfl) ?_
                  refine Ew_of (pcₚ := 98) (fun _ => x_goto rfl rfl) ?_
                  refine Ew_of (pcₚ := 100) (fun _ => x_istore rfl) ?_
                  refine Ew_of (pcₚ := 103) (fun _ => x_iinc (len := 3) rfl (rk_o (l59_7) rfl rfl)) ?_
                  refine Ew_of (pcₚ := 59) (fun _ => x_goto rfl rfl) ?_
                  have : RWC ((w10)) ((w11)) ((wq22)) ((wq24)) ((a1)) (rwR ((w10)) ((w11)) ((a1)) ++ sc (sh ((w10)) (65536 * (a2))) ((a3)) ((a3) + ((x59_7 + 1)))) := RWC_e (RWC_a j59_c hap.2.1) (by rw [List.append_assoc, sc_snoc (b := (a3) + q7) (c := (a3) + ((x59_7 + 1))) (by omega) (by omega), hq7, ← hqv2])
                  have : ∀ k, 0 ≤ k → k < ((w11)) ((a2)) → ((wq22)) (65536 * (a2) + k) = ((w10)) (65536 * (a2) + k) := fun k x y => (APQ_k pz21_1 hSz2 (by omega) (by omega) (by omega) x (by have := hSz ((a2)); omega) (fun e => by have := hje e; omega)).trans (j59_k k x y)
                  exact ih59 _ (msE hm59 q_16 (q_17 b15)) _ σ _ _ (1) ((x59_7 + 1)) (rk_o (rk_o (l59_0) rfl rfl) rfl rfl) (rk_o (rk_o (l59_1) rfl rfl) rfl rfl) (rk_o (rk_o (l59_2) rfl rfl) rfl rfl) (rk_o (rk_o (l59_3) rfl rfl) rfl rfl) (rk_o (rk_o (l59_5) rfl rfl) rfl rfl) (rk_o (rk_s) rfl rfl) (rk_s) H (SF_trans (hS_59) hS19 (any_sub rfl)) (SA_trans (hA_59) hA20 (any_subA rfl))  (wq22) (ewq23) (wq24) (ewq25) (show inr (1) from q_135) (show inr ((x59_7 + 1)) from q_2183 b15 j59_3 jc35_2) (show (1) = 1 from q_2904) (show 0 ≤ ((x59_7 + 1)) ∧ ((x59_7 + 1)) ≤ (tc35_0) from q_1395 b15 j59_3) (show ((wq24)) ((a1)) = ((w11)) ((a1)) + ((x59_7 + 1)) by omega) (show RWC ((w10)) ((w11)) ((wq22)) ((wq24)) ((a1)) (rwR ((w10)) ((w11)) ((a1)) ++ sc (sh ((w10)) (65536 * (a2))) ((a3)) ((a3) + ((x59_7 + 1)))) by assumption) (show ∀ k, 0 ≤ k → k < ((w11)) ((a2)) → ((wq22)) (65536 * (a2) + k) = ((w10)) (65536 * (a2) + k) by assumption) rfl
        · refine Ew_of (pcₚ := 52) (fun _ => x_iconst rfl) ?_
          have : CHQ ((0 ≤ (a1) ∧ (a1) ≤ 3) ∧ (0 ≤ (a2) ∧ (a2) ≤ 3) ∧ ((prL (rwR ((w10)) ((w11)) ((a2))) ((a3)) ((a4))).length : Int) ≤ 65536 - ((rwR ((w10)) ((w11)) ((a1))).length : Int)) (rwR ((w10)) ((w11)) ((a1))) (rwR ((w10)) ((w11)) ((a1)) ++ prL (rwR ((w10)) ((w11)) ((a2))) ((a3)) ((a4))) (0) (rwR ((w10)) ((w11)) ((a1))) := .inr ⟨fun q => by have := q.2.2; omega, rfl, rfl⟩
          have : ∀ q, 0 ≤ q → q ≤ 3 → q ≠ (a1) → rwR ((w10)) ((w11)) (q) = rwR ((w10)) ((w11)) (q) := fun _ _ _ _ => rfl
          exact w_ireturn rfl (k (0) σ _ _ H (SF_trans (SF_trans (SF_trans (SF_refl) hS3 (any_sub rfl)) hS9 (any_sub rfl)) hS_c35 (any_sub rfl)) (SA_trans (SA_trans (SA_trans (SA_refl) hA4 (any_subA rfl)) hA10 (any_subA rfl)) hA_c35 (any_subA rfl)) (w10) ((funext (hA_c35 10 rfl)).trans ((funext (hA10 10 rfl)).trans ((funext (hA4 10 rfl)).trans (ew10)))) (w11) ((funext (hA_c35 11 rfl)).trans ((funext (hA10 11 rfl)).trans ((funext (hA4 11 rfl)).trans (ew11)))) (show (0) = 0 ∨ (0) = 1 by first | exact q_45 | omega) (show CHQ ((0 ≤ a1 ∧ a1 ≤ 3) ∧ (0 ≤ a2 ∧ a2 ≤ 3) ∧ ((prL (rwR ((w10)) ((w11)) (a2)) (a3) (a4)).length : Int) ≤ 65536 - ((rwR ((w10)) ((w11)) (a1)).length : Int)) (rwR ((w10)) ((w11)) (a1)) (rwR ((w10)) ((w11)) (a1) ++ prL (rwR ((w10)) ((w11)) (a2)) (a3) (a4)) ((0)) (rwR ((w10)) ((w11)) (a1)) by assumption) (show ∀ q, 0 ≤ q → q ≤ 3 → q ≠ a1 → rwR ((w10)) ((w11)) (q) = rwR ((w10)) ((w11)) (q) by assumption))
      refine Ew_of (pcₚ := 17) (fun _ => x_aload_n rfl rfl) ?_
      refine Ew_of (pcₚ := 18) (fun _ => x_iload_n rfl rfl) ?_
      refine Ew_of (pcₚ := 19) (fun _ => x_iload_n rfl rfl) ?_
      refine Ew_of (pcₚ := 21) (fun _ => x_iload rfl rfl) ?_
      refine w_inv H (o := 0) rfl rfl rfl (H.perm 0 rfl) rfl rfl (by rfl) (M62p H (w11) ((funext (hA10 11 rfl)).trans ((funext (hA4 11 rfl)).trans (ew11))) (show inr (a2) from h1) (show inr (a3) from h2) (show inr (a4) from h3) (show 0 ≤ (a2) ∧ (a2) ≤ 3 by omega) (fun z32 σ F28 A29 H hS30 hA31 pz32_0 pz32_1 => ⟨rretB rfl pz32_0, ?_⟩))
      refine w_ifeq (t := 34) rfl rfl (show inr (z32) from q_138 pz32_0) (fun b33 => ?_) (fun b33 => ?_)
      · refine Ew_of (pcₚ := 35) (fun _ => x_iconst rfl) ?_
        exact hc35 (0) _ σ _ _  (rfl) (rfl) (rfl) (rfl) H (SF_trans (SF_refl) hS30 (any_sub rfl)) (SA_trans (SA_refl) hA31 (any_subA rfl))   (show inr (0) from q_2) (show ((0) = (a4) - (a3) ∧ (0 ≤ (a3) ∧ (a3) ≤ (a4) ∧ (a4) ≤ ((w11)) ((a2))) ∨ (0) = 0 ∧ ¬ (0 ≤ (a3) ∧ (a3) ≤ (a4) ∧ (a4) ≤ ((w11)) ((a2)))) by omega) (show 0 ≤ (0) ∧ (0) ≤ 65536 from q_300)
      · refine Ew_of (pcₚ := 29) (fun _ => x_iload rfl rfl) ?_
        refine Ew_of (pcₚ := 30) (fun _ => x_iload_n rfl rfl) ?_
        refine w_isub rfl ?_
        refine Ew_of (pcₚ := 35) (fun _ => x_goto rfl rfl) ?_
        exact hc35 ((a4 - a3)) _ σ _ _  (rfl) (rfl) (rfl) (rfl) H (SF_trans (SF_refl) hS30 (any_sub rfl)) (SA_trans (SA_refl) hA31 (any_subA rfl))   (show inr ((a4 - a3)) by omega) (show (((a4 - a3)) = (a4) - (a3) ∧ (0 ≤ (a3) ∧ (a3) ≤ (a4) ∧ (a4) ≤ ((w11)) ((a2))) ∨ ((a4 - a3)) = 0 ∧ ¬ (0 ≤ (a3) ∧ (a3) ≤ (a4) ∧ (a4) ≤ ((w11)) ((a2)))) by omega) (show 0 ≤ ((a4 - a3)) ∧ ((a4 - a3)) ≤ 65536 by omega)
    · have : CHQ ((0 ≤ (a1) ∧ (a1) ≤ 3) ∧ (0 ≤ (a2) ∧ (a2) ≤ 3) ∧ ((prL (rwR ((w10)) ((w11)) ((a2))) ((a3)) ((a4))).length : Int) ≤ 65536 - ((rwR ((w10)) ((w11)) ((a1))).length : Int)) (rwR ((w10)) ((w11)) ((a1))) (rwR ((w10)) ((w11)) ((a1)) ++ prL (rwR ((w10)) ((w11)) ((a2))) ((a3)) ((a4))) (0) (rwR ((w10)) ((w11)) ((a1))) := .inr ⟨fun q => by omega, rfl, rfl⟩
      have : ∀ q, 0 ≤ q → q ≤ 3 → q ≠ (a1) → rwR ((w10)) ((w11)) (q) = rwR ((w10)) ((w11)) (q) := fun _ _ _ _ => rfl
      refine Ew_of (pcₚ := 15) (fun _ => x_iconst rfl) ?_
      exact w_ireturn rfl (k (0) σ _ _ H (SF_trans (SF_trans (SF_refl) hS3 (any_sub rfl)) hS9 (any_sub rfl)) (SA_trans (SA_trans (SA_refl) hA4 (any_subA rfl)) hA10 (any_subA rfl)) (w10) ((funext (hA10 10 rfl)).trans ((funext (hA4 10 rfl)).trans (ew10))) (w11) ((funext (hA10 11 rfl)).trans ((funext (hA4 11 rfl)).trans (ew11))) (show (0) = 0 ∨ (0) = 1 by first | exact q_45 | omega) (show CHQ ((0 ≤ a1 ∧ a1 ≤ 3) ∧ (0 ≤ a2 ∧ a2 ≤ 3) ∧ ((prL (rwR ((w10)) ((w11)) (a2)) (a3) (a4)).length : Int) ≤ 65536 - ((rwR ((w10)) ((w11)) (a1)).length : Int)) (rwR ((w10)) ((w11)) (a1)) (rwR ((w10)) ((w11)) (a1) ++ prL (rwR ((w10)) ((w11)) (a2)) (a3) (a4)) ((0)) (rwR ((w10)) ((w11)) (a1)) by assumption) (show ∀ q, 0 ≤ q → q ≤ 3 → q ≠ a1 → rwR ((w10)) ((w11)) (q) = rwR ((w10)) ((w11)) (q) by assumption))

theorem M64p {σ0 σ : rS} {D N : Nat → Nat} {F : hF} {A : hA} {d c s : Nat} {Q : wQ} (H : HS σ0 σ D N F A) {a1 : Int} (w10 : Int → Int) (ew10 : A 10 = w10) (w11 : Int → Int) (ew11 : A 11 = w11) (h0 : inr (a1)) (k : ∀ (z : Int) σ Fₚ Aₚ, HS σ0 σ D N Fₚ Aₚ → SF [] F Fₚ → SA [] A Aₚ → (inr (z)) → ((0 ≤ (a1) ∧ (a1) ≤ 3 ∧ (z) = ((rwR ((w10)) ((w11)) ((a1))).length : Int) ∨ ¬ (0 ≤ (a1) ∧ (a1) ≤ 3) ∧ (z) = -1)) → Q (some (I z)) σ c s) : Ew 64 (d + 1) 0 (rargs 0 [.ref (D 0), I a1]) [] σ c s Q := by
  have hSz : ∀ i, (0 : Int) ≤ (w11) i ∧ (w11) i ≤ 65536 := fun i => by have h1 : (0 : Int) ≤ A 11 i ∧ A 11 i ≤ 65536 := H.arng 11 i; rw [show A 11 = w11 from ew11] at h1; exact h1
  have hl0 := rwR_len (ro := (w10)) (si := (w11)) (r := (a1)) (hSz ((a1))).1
  refine Ew_of (pcₚ := 1) (fun _ => x_iload_n rfl rfl) ?_
  refine w_stat24 rfl rfl (by rfl) (M56p H (show inr (a1) from h0) (fun z5 σ F1 A2 H hS3 hA4 pz5_0 pz5_1 => ⟨rretB rfl pz5_0, ?_⟩))
  refine w_ifeq (t := 16) rfl rfl (show inr (z5) from q_138 pz5_0) (fun b6 => ?_) (fun b6 => ?_)
  · refine Ew_of (pcₚ := 17) (fun _ => x_iconst rfl) ?_
    have : (0 ≤ (a1) ∧ (a1) ≤ 3 ∧ ((-1)) = ((rwR ((w10)) ((w11)) ((a1))).length : Int) ∨ ¬ (0 ≤ (a1) ∧ (a1) ≤ 3) ∧ ((-1)) = -1) := by first | exact .inl ⟨by omega, by omega, by omega⟩ | exact .inr ⟨by omega, rfl⟩
    exact w_ireturn rfl (k ((-1)) σ _ _ H (SF_trans (SF_refl) hS3 (any_sub rfl)) (SA_trans (SA_refl) hA4 (any_subA rfl)) (show inr ((-1)) from q_63) (show (0 ≤ a1 ∧ a1 ≤ 3 ∧ ((-1)) = ((rwR ((w10)) ((w11)) (a1)).length : Int) ∨ ¬ (0 ≤ a1 ∧ a1 ≤ 3) ∧ ((-1)) = -1) by assumption))
  · refine Ew_of (pcₚ := 8) (fun _ => x_aload_n rfl rfl) ?_
    refine w_gT H (o := 0) (t := 11) rfl (H.perm 0 rfl) rfl rfl rfl rfl rfl rfl ?_
    refine Ew_of (pcₚ := 12) (fun _ => x_iload_n rfl rfl) ?_
    refine w_lI H (o := 11) (n := 4) rfl (H.perm 11 rfl) rfl rfl (H.fix 11 rfl rfl) (show 0 ≤ a1 ∧ a1 < ((4 : Nat) : Int) by omega) (by decide) (fun v7 ev7 qv7 => ?_)
    have qv7 : (0 : Int) ≤ v7 ∧ v7 ≤ 65536 := qv7
    have ev7 : (w11) (a1) = v7 := (congrFun ((funext (hA4 11 rfl)).trans (ew11)) (a1)).symm.trans ev7
    have hs13 := ev7
    refine Ew_of (pcₚ := 17) (fun _ => x_goto rfl rfl) ?_
    have : (0 ≤ (a1) ∧ (a1) ≤ 3 ∧ (v7) = ((rwR ((w10)) ((w11)) ((a1))).length : Int) ∨ ¬ (0 ≤ (a1) ∧ (a1) ≤ 3) ∧ (v7) = -1) := by first | exact .inl ⟨by omega, by omega, by omega⟩ | exact .inr ⟨by omega, rfl⟩
    exact w_ireturn rfl (k (v7) σ _ _ H (SF_trans (SF_refl) hS3 (any_sub rfl)) (SA_trans (SA_refl) hA4 (any_subA rfl)) (show inr (v7) from q_286 qv7) (show (0 ≤ a1 ∧ a1 ≤ 3 ∧ (v7) = ((rwR ((w10)) ((w11)) (a1)).length : Int) ∨ ¬ (0 ≤ a1 ∧ a1 ≤ 3) ∧ (v7) = -1) by assumption))

theorem M65p {σ0 σ : rS} {D N : Nat → Nat} {F : hF} {A : hA} {d c s : Nat} {Q : wQ} (H : HS σ0 σ D N F A) {a1 a2 : Int} (w10 : Int → Int) (ew10 : A 10 = w10) (w11 : Int → Int) (ew11 : A 11 = w11) (h0 : inr (a1)) (h1 : inr (a2)) (k : ∀ (z : Int) σ Fₚ Aₚ, HS σ0 σ D N Fₚ Aₚ → SF [] F Fₚ → SA [] A Aₚ → (inr (z)) → (((0 ≤ (a1) ∧ (a1) ≤ 3) ∧ (0 ≤ (a2) ∧ (a2) < ((rwR ((w10)) ((w11)) ((a1))).length : Int)) ∧ (z) = ap (rwR ((w10)) ((w11)) ((a1))) ((a2)) ∨ ¬ ((0 ≤ (a1) ∧ (a1) ≤ 3) ∧ 0 ≤ (a2) ∧ (a2) < ((rwR ((w10)) ((w11)) ((a1))).length : Int)) ∧ (z) = -1)) → Q (some (I z)) σ c s) : Ew 65 (d + 1) 0 (rargs 0 [.ref (D 0), I a1, I a2]) [] σ c s Q := by
  have hSz : ∀ i, (0 : Int) ≤ (w11) i ∧ (w11) i ≤ 65536 := fun i => by have h1 : (0 : Int) ≤ A 11 i ∧ A 11 i ≤ 65536 := H.arng 11 i; rw [show A 11 = w11 from ew11] at h1; exact h1
  have hl0 := rwR_len (ro := (w10)) (si := (w11)) (r := (a1)) (hSz ((a1))).1
  have hRo : ∀ i, (0 : Int) ≤ (w10) i ∧ (w10) i ≤ 255 := fun i => by have h1 : (0 : Int) ≤ A 10 i ∧ A 10 i ≤ 255 := H.arng 10 i; rw [show A 10 = w10 from ew10] at h1; exact h1
  refine Ew_of (pcₚ := 1) (fun _ => x_iload_n rfl rfl) ?_
  refine w_stat24 rfl rfl (by rfl) (M56p H (show inr (a1) from h0) (fun z5 σ F1 A2 H hS3 hA4 pz5_0 pz5_1 => ⟨rretB rfl pz5_0, ?_⟩))
  refine w_ifeq (t := 35) rfl rfl (show inr (z5) from q_138 pz5_0) (fun b6 => ?_) (fun b6 => ?_)
  · refine Ew_of (pcₚ := 36) (fun _ => x_iconst rfl) ?_
    have : ((0 ≤ (a1) ∧ (a1) ≤ 3) ∧ (0 ≤ (a2) ∧ (a2) < ((rwR ((w10)) ((w11)) ((a1))).length : Int)) ∧ ((-1)) = ap (rwR ((w10)) ((w11)) ((a1))) ((a2)) ∨ ¬ ((0 ≤ (a1) ∧ (a1) ≤ 3) ∧ 0 ≤ (a2) ∧ (a2) < ((rwR ((w10)) ((w11)) ((a1))).length : Int)) ∧ ((-1)) = -1) := by first | exact .inl ⟨by omega, by omega, by rw [rwR_g (by omega) (by omega) hRo]; exact hv32.symm⟩ | exact .inr ⟨by omega, rfl⟩
    exact w_ireturn rfl (k ((-1)) σ _ _ H (SF_trans (SF_refl) hS3 (any_sub rfl)) (SA_trans (SA_refl) hA4 (any_subA rfl)) (show inr ((-1)) from q_63) (show ((0 ≤ a1 ∧ a1 ≤ 3) ∧ (0 ≤ a2 ∧ a2 < ((rwR ((w10)) ((w11)) (a1)).length : Int)) ∧ ((-1)) = ap (rwR ((w10)) ((w11)) (a1)) (a2) ∨ ¬ ((0 ≤ a1 ∧ a1 ≤ 3) ∧ 0 ≤ a2 ∧ a2 < ((rwR ((w10)) ((w11)) (a1)).length : Int)) ∧ ((-1)) = -1) by assumption))
  · refine Ew_of (pcₚ := 8) (fun _ => x_iload_n rfl rfl) ?_
    refine w_iflt (t := 35) rfl rfl (show inr (a2) from h1) (fun b7 => ?_) (fun b7 => ?_)
    · refine Ew_of (pcₚ := 36) (fun _ => x_iconst rfl) ?_
      have : ((0 ≤ (a1) ∧ (a1) ≤ 3) ∧ (0 ≤ (a2) ∧ (a2) < ((rwR ((w10)) ((w11)) ((a1))).length : Int)) ∧ ((-1)) = ap (rwR ((w10)) ((w11)) ((a1))) ((a2)) ∨ ¬ ((0 ≤ (a1) ∧ (a1) ≤ 3) ∧ 0 ≤ (a2) ∧ (a2) < ((rwR ((w10)) ((w11)) ((a1))).length : Int)) ∧ ((-1)) = -1) := by first | exact .inl ⟨by omega, by omega, by rw [rwR_g (by omega) (by omega) hRo]; exact hv32.symm⟩ | exact .inr ⟨by omega, rfl⟩
      exact w_ireturn rfl (k ((-1)) σ _ _ H (SF_trans (SF_refl) hS3 (any_sub rfl)) (SA_trans (SA_refl) hA4 (any_subA rfl)) (show inr ((-1)) from q_63) (show ((0 ≤ a1 ∧ a1 ≤ 3) ∧ (0 ≤ a2 ∧ a2 < ((rwR ((w10)) ((w11)) (a1)).length : Int)) ∧ ((-1)) = ap (rwR ((w10)) ((w11)) (a1)) (a2) ∨ ¬ ((0 ≤ a1 ∧ a1 ≤ 3) ∧ 0 ≤ a2 ∧ a2 < ((rwR ((w10)) ((w11)) (a1)).length : Int)) ∧ ((-1)) = -1) by assumption))
    · refine Ew_of (pcₚ := 12) (fun _ => x_iload_n rfl rfl) ?_
      refine Ew_of (pcₚ := 13) (fun _ => x_aload_n rfl rfl) ?_
      refine w_gT H (o := 0) (t := 11) rfl (H.perm 0 rfl) rfl rfl rfl rfl rfl rfl ?_
      refine Ew_of (pcₚ := 17) (fun _ => x_iload_n rfl rfl) ?_
      refine w_lI H (o := 11) (n := 4) rfl (H.perm 11 rfl) rfl rfl (H.fix 11 rfl rfl) (show 0 ≤ a1 ∧ a1 < ((4 : Nat) : Int) by omega) (by decide) (fun v8 ev8 qv8 => ?_)
      have qv8 : (0 : Int) ≤ v8 ∧ v8 ≤ 65536 := qv8
      have ev8 : (w11) (a1) = v8 := (congrFun ((funext (hA4 11 rfl)).trans (ew11)) (a1)).symm.trans ev8
      have hs18 := ev8
      refine w_icmpge (t := 35) rfl rfl (show inr (a2) from h1) (show inr (v8) from q_286 qv8) (fun b9 => ?_) (fun b9 => ?_)
      · refine Ew_of (pcₚ := 36) (fun _ => x_iconst rfl) ?_
        have : ((0 ≤ (a1) ∧ (a1) ≤ 3) ∧ (0 ≤ (a2) ∧ (a2) < ((rwR ((w10)) ((w11)) ((a1))).length : Int)) ∧ ((-1)) = ap (rwR ((w10)) ((w11)) ((a1))) ((a2)) ∨ ¬ ((0 ≤ (a1) ∧ (a1) ≤ 3) ∧ 0 ≤ (a2) ∧ (a2) < ((rwR ((w10)) ((w11)) ((a1))).length : Int)) ∧ ((-1)) = -1) := by first | exact .inl ⟨by omega, by omega, by rw [rwR_g (by omega) (by omega) hRo]; exact hv32.symm⟩ | exact .inr ⟨by omega, rfl⟩
        exact w_ireturn rfl (k ((-1)) σ _ _ H (SF_trans (SF_refl) hS3 (any_sub rfl)) (SA_trans (SA_refl) hA4 (any_subA rfl)) (show inr ((-1)) from q_63) (show ((0 ≤ a1 ∧ a1 ≤ 3) ∧ (0 ≤ a2 ∧ a2 < ((rwR ((w10)) ((w11)) (a1)).length : Int)) ∧ ((-1)) = ap (rwR ((w10)) ((w11)) (a1)) (a2) ∨ ¬ ((0 ≤ a1 ∧ a1 ≤ 3) ∧ 0 ≤ a2 ∧ a2 < ((rwR ((w10)) ((w11)) (a1)).length : Int)) ∧ ((-1)) = -1) by assumption))
      · refine Ew_of (pcₚ := 22) (fun _ => x_aload_n rfl rfl) ?_
        refine w_gT H (o := 0) (t := 10) rfl (H.perm 0 rfl) rfl rfl rfl rfl rfl rfl ?_
        refine Ew_of (pcₚ := 27) (fun _ => x_ldc (z := 65536) rfl (by decide)) ?_
        refine Ew_of (pcₚ := 28) (fun _ => x_iload_n rfl rfl) ?_
        refine w_imul rfl ?_
        refine Ew_of (pcₚ := 30) (fun _ => x_iload_n rfl rfl) ?_
        refine w_iadd rfl ?_
        refine w_lI H (o := 10) (n := 262144) rfl (H.perm 10 rfl) rfl rfl (H.fix 10 rfl rfl) (show 0 ≤ ((65536 * a1) + a2) ∧ ((65536 * a1) + a2) < ((262144 : Nat) : Int) by omega) (by decide) (fun v10 ev10 qv10 => ?_)
        have qv10 : (0 : Int) ≤ v10 ∧ v10 ≤ 255 := qv10
        have ev10 : (w10) (((65536 * a1) + a2)) = v10 := (congrFun ((funext (hA4 10 rfl)).trans (ew10)) (((65536 * a1) + a2))).symm.trans ev10
        have hv32 := ev10
        refine Ew_of (pcₚ := 36) (fun _ => x_goto rfl rfl) ?_
        have : ((0 ≤ (a1) ∧ (a1) ≤ 3) ∧ (0 ≤ (a2) ∧ (a2) < ((rwR ((w10)) ((w11)) ((a1))).length : Int)) ∧ (v10) = ap (rwR ((w10)) ((w11)) ((a1))) ((a2)) ∨ ¬ ((0 ≤ (a1) ∧ (a1) ≤ 3) ∧ 0 ≤ (a2) ∧ (a2) < ((rwR ((w10)) ((w11)) ((a1))).length : Int)) ∧ (v10) = -1) := by first | exact .inl ⟨by omega, by omega, by rw [rwR_g (by omega) (by omega) hRo]; exact hv32.symm⟩ | exact .inr ⟨by omega, rfl⟩
        exact w_ireturn rfl (k (v10) σ _ _ H (SF_trans (SF_refl) hS3 (any_sub rfl)) (SA_trans (SA_refl) hA4 (any_subA rfl)) (show inr (v10) from q_299 qv10) (show ((0 ≤ a1 ∧ a1 ≤ 3) ∧ (0 ≤ a2 ∧ a2 < ((rwR ((w10)) ((w11)) (a1)).length : Int)) ∧ (v10) = ap (rwR ((w10)) ((w11)) (a1)) (a2) ∨ ¬ ((0 ≤ a1 ∧ a1 ≤ 3) ∧ 0 ≤ a2 ∧ a2 < ((rwR ((w10)) ((w11)) (a1)).length : Int)) ∧ (v10) = -1) by assumption))

theorem M66p {σ0 σ : rS} {D N : Nat → Nat} {F : hF} {A : hA} {d c s : Nat} {Q : wQ} (H : HS σ0 σ D N F A) {a1 a2 : Int} (w10 : Int → Int) (ew10 : A 10 = w10) (w11 : Int → Int) (ew11 : A 11 = w11) (h0 : inr (a1)) (h1 : inr (a2)) (k : ∀ (z : Int) σ Fₚ Aₚ, HS σ0 σ D N Fₚ Aₚ → SF [] F Fₚ → SA [] A Aₚ → (inr (z)) → (((0 ≤ (a1) ∧ (a1) ≤ 3) ∧ (0 ≤ (a2) ∧ (a2) ≤ 3) ∧ DFF (rwR ((w10)) ((w11)) ((a1))) (rwR ((w10)) ((w11)) ((a2))) ((z)) ∨ ¬ ((0 ≤ (a1) ∧ (a1) ≤ 3) ∧ 0 ≤ (a2) ∧ (a2) ≤ 3) ∧ (z) = -2)) → Q (some (I z)) σ c s) : Ew 66 (d + 1) 0 (rargs 0 [.ref (D 0), I a1, I a2]) [] σ c s Q := by
  have hSz : ∀ i, (0 : Int) ≤ (w11) i ∧ (w11) i ≤ 65536 := fun i => by have h1 : (0 : Int) ≤ A 11 i ∧ A 11 i ≤ 65536 := H.arng 11 i; rw [show A 11 = w11 from ew11] at h1; exact h1
  have hl0 := rwR_len (ro := (w10)) (si := (w11)) (r := (a1)) (hSz ((a1))).1
  have hRo : ∀ i, (0 : Int) ≤ (w10) i ∧ (w10) i ≤ 255 := fun i => by have h1 : (0 : Int) ≤ A 10 i ∧ A 10 i ≤ 255 := H.arng 10 i; rw [show A 10 = w10 from ew10] at h1; exact h1
  have hl2 := rwR_len (ro := (w10)) (si := (w11)) (r := (a2)) (hSz ((a2))).1
  have hsa := hSz ((a1))
  have hsb := hSz ((a2))
  refine Ew_of (pcₚ := 1) (fun _ => x_iload_n rfl rfl) ?_
  refine w_stat24 rfl rfl (by rfl) (M56p H (show inr (a1) from h0) (fun z5 σ F1 A2 H hS3 hA4 pz5_0 pz5_1 => ⟨rretB rfl pz5_0, ?_⟩))
  refine w_ifeq (t := 14) rfl rfl (show inr (z5) from q_138 pz5_0) (fun b6 => ?_) (fun b6 => ?_)
  · refine Ew_of (pcₚ := 16) (fun _ => x_bipush (z := -2) rfl (by decide)) ?_
    have : ((0 ≤ (a1) ∧ (a1) ≤ 3) ∧ (0 ≤ (a2) ∧ (a2) ≤ 3) ∧ DFF (rwR ((w10)) ((w11)) ((a1))) (rwR ((w10)) ((w11)) ((a2))) (-2) ∨ ¬ ((0 ≤ (a1) ∧ (a1) ≤ 3) ∧ 0 ≤ (a2) ∧ (a2) ≤ 3) ∧ -2 = -2) := .inr ⟨by omega, rfl⟩
    exact w_ireturn rfl (k ((-2)) σ _ _ H (SF_trans (SF_refl) hS3 (any_sub rfl)) (SA_trans (SA_refl) hA4 (any_subA rfl)) (show inr ((-2)) from q_362) (show ((0 ≤ a1 ∧ a1 ≤ 3) ∧ (0 ≤ a2 ∧ a2 ≤ 3) ∧ DFF (rwR ((w10)) ((w11)) (a1)) (rwR ((w10)) ((w11)) (a2)) (((-2))) ∨ ¬ ((0 ≤ a1 ∧ a1 ≤ 3) ∧ 0 ≤ a2 ∧ a2 ≤ 3) ∧ ((-2)) = -2) by assumption))
  · refine Ew_of (pcₚ := 8) (fun _ => x_iload_n rfl rfl) ?_
    refine w_stat24 rfl rfl (by rfl) (M56p H (show inr (a2) from h1) (fun z11 σ F7 A8 H hS9 hA10 pz11_0 pz11_1 => ⟨rretB rfl pz11_0, ?_⟩))
    refine w_ifne (t := 17) rfl rfl (show inr (z11) from q_138 pz11_0) (fun b12 => ?_) (fun b12 => ?_)
    · refine Ew_of (pcₚ := 18) (fun _ => x_iconst rfl) ?_
      refine Ew_of (pcₚ := 19) (fun _ => x_istore_n rfl) ?_
      have : ∀ k, 0 ≤ k → k < 0 → ap (rwR ((w10)) ((w11)) ((a1))) k = ap (rwR ((w10)) ((w11)) ((a2))) k := fun k x y => absurd y (by omega)
      suffices hl19 : ∀ (m : Nat), ∀ (ls : rO) (σ : rS) (F_19 : hF) (A_19 : hA) (x19_3 : Int), rlook ls 0 = some (.ref (D 0)) → rlook ls 1 = some (I (a1)) → rlook ls 2 = some (I (a2)) → rlook ls 3 = some (I (x19_3)) → HS σ0 σ D N F_19 A_19 → SF [] F7 F_19 → SA [] A8 A_19 → (inr (x19_3)) → (0 ≤ (x19_3) ∧ (x19_3) ≤ ((w11)) ((a1)) ∧ (x19_3) ≤ ((w11)) ((a2))) → (∀ k, 0 ≤ k → k < (x19_3) → ap (rwR ((w10)) ((w11)) ((a1))) k = ap (rwR ((w10)) ((w11)) ((a2))) k) → (65536 - (x19_3)).toNat = m → Ew 66 (d + 1) 19 ls [] σ c s Q from
        hl19 _ _ σ _ _ (0) (rk_o (rfl) rfl rfl) (rk_o (rfl) rfl rfl) (rk_o (rfl) rfl rfl) (rk_s) H (SF_refl) (SA_refl)   (show inr (0) from q_2) (show 0 ≤ (0) ∧ (0) ≤ ((w11)) ((a1)) ∧ (0) ≤ ((w11)) ((a2)) by omega) (show ∀ k, 0 ≤ k → k < (0) → ap (rwR ((w10)) ((w11)) ((a1))) k = ap (rwR ((w10)) ((w11)) ((a2))) k by assumption) rfl
      as_aux_lemma =>
      intro m
      induction m using Nat.strongRecOn with
      | _ m ih19 =>
        intro ls σ F_19 A_19 x19_3 l19_0 l19_1 l19_2 l19_3 H hS_19 hA_19   j19_0 j19_1 j19_2 hm19
        have j19_a : ∀ k, 0 ≤ k → k < (x19_3) → ap (rwR ((w10)) ((w11)) ((a1))) k = ap (rwR ((w10)) ((w11)) ((a2))) k := by assumption
        obtain ⟨q3, hq3⟩ : ∃ q : Int, q = (x19_3) := ⟨_, rfl⟩
        refine Ew_of (pcₚ := 20) (fun _ => x_iload_n rfl l19_3) ?_
        refine Ew_of (pcₚ := 21) (fun _ => x_aload_n rfl l19_0) ?_
        refine w_gT H (o := 0) (t := 11) rfl (H.perm 0 rfl) rfl rfl rfl rfl rfl rfl ?_
        refine Ew_of (pcₚ := 25) (fun _ => x_iload_n rfl l19_1) ?_
        refine w_lI H (o := 11) (n := 4) rfl (H.perm 11 rfl) rfl rfl (H.fix 11 rfl rfl) (show 0 ≤ a1 ∧ a1 < ((4 : Nat) : Int) by omega) (by decide) (fun v13 ev13 qv13 => ?_)
        have qv13 : (0 : Int) ≤ v13 ∧ v13 ≤ 65536 := qv13
        have ev13 : (w11) (a1) = v13 := (congrFun ((funext (hA_19 11 rfl)).trans ((funext (hA10 11 rfl)).trans ((funext (hA4 11 rfl)).trans (ew11)))) (a1)).symm.trans ev13
        have hs26 := ev13
        refine w_icmpge (t := 70) rfl rfl (show inr (x19_3) from j19_0) (show inr (v13) from q_286 qv13) (fun b14 => ?_) (fun b14 => ?_)
        · refine Ew_of (pcₚ := 71) (fun _ => x_iload_n rfl l19_3) ?_
          refine Ew_of (pcₚ := 72) (fun _ => x_aload_n rfl l19_0) ?_
          refine w_gT H (o := 0) (t := 11) rfl (H.perm 0 rfl) rfl rfl rfl rfl rfl rfl ?_
          refine Ew_of (pcₚ := 76) (fun _ => x_iload_n rfl l19_1) ?_
          refine w_lI H (o := 11) (n := 4) rfl (H.perm 11 rfl) rfl rfl (H.fix 11 rfl rfl) (show 0 ≤ a1 ∧ a1 < ((4 : Nat) : Int) by omega) (by decide) (fun v15 ev15 qv15 => ?_)
          have qv15 : (0 : Int) ≤ v15 ∧ v15 ≤ 65536 := qv15
          have ev15 : (w11) (a1) = v15 := (congrFun ((funext (hA_19 11 rfl)).trans ((funext (hA10 11 rfl)).trans ((funext (hA4 11 rfl)).trans (ew11)))) (a1)).symm.trans ev15
          have hs77 := ev15
          refine w_icmpne (t := 94) rfl rfl (show inr (x19_3) from j19_0) (show inr (v15) from q_286 qv15) (fun b16 => ?_) (fun b16 => ?_)
          · refine Ew_of (pcₚ := 95) (fun _ => x_iload_n rfl l19_3) ?_
            have : ((0 ≤ (a1) ∧ (a1) ≤ 3) ∧ (0 ≤ (a2) ∧ (a2) ≤ 3) ∧ DFF (rwR ((w10)) ((w11)) ((a1))) (rwR ((w10)) ((w11)) ((a2))) ((x19_3)) ∨ ¬ ((0 ≤ (a1) ∧ (a1) ≤ 3) ∧ 0 ≤ (a2) ∧ (a2) ≤ 3) ∧ (x19_3) = -2) := by first | exact .inl ⟨by omega, by omega, .inl ⟨rfl, DFF_eq (by omega) (fun k x y => j19_a k x (by omega))⟩⟩ | exact .inl ⟨by omega, by omega, .inr ⟨by omega, by omega, by omega, fun k x y => j19_a k x y, .inl ⟨by omega, by omega, by rw [rwR_g (by omega) (by omega) hRo, rwR_g (by omega) (by omega) hRo, hv50, hv61]; omega⟩⟩⟩ | exact .inl ⟨by omega, by omega, .inr ⟨by omega, by omega, by omega, fun k x y => j19_a k x y, .inr ⟨by omega, by omega⟩⟩⟩
            exact w_ireturn rfl (k (x19_3) σ _ _ H (SF_trans (SF_trans (SF_trans (SF_refl) hS3 (any_sub rfl)) hS9 (any_sub rfl)) hS_19 (any_sub rfl)) (SA_trans (SA_trans (SA_trans (SA_refl) hA4 (any_subA rfl)) hA10 (any_subA rfl)) hA_19 (any_subA rfl)) (show inr (x19_3) from j19_0) (show ((0 ≤ a1 ∧ a1 ≤ 3) ∧ (0 ≤ a2 ∧ a2 ≤ 3) ∧ DFF (rwR ((w10)) ((w11)) (a1)) (rwR ((w10)) ((w11)) (a2)) ((x19_3)) ∨ ¬ ((0 ≤ a1 ∧ a1 ≤ 3) ∧ 0 ≤ a2 ∧ a2 ≤ 3) ∧ (x19_3) = -2) by assumption))
          · refine Ew_of (pcₚ := 81) (fun _ => x_iload_n rfl l19_3) ?_
            refine Ew_of (pcₚ := 82) (fun _ => x_aload_n rfl l19_0) ?_
            refine w_gT H (o := 0) (t := 11) rfl (H.perm 0 rfl) rfl rfl rfl rfl rfl rfl ?_
            refine Ew_of (pcₚ := 86) (fun _ => x_iload_n rfl l19_2) ?_
            refine w_lI H (o := 11) (n := 4) rfl (H.perm 11 rfl) rfl rfl (H.fix 11 rfl rfl) (show 0 ≤ a2 ∧ a2 < ((4 : Nat) : Int) by omega) (by decide) (fun v17 ev17 qv17 => ?_)
            have qv17 : (0 : Int) ≤ v17 ∧ v17 ≤ 65536 := qv17
            have ev17 : (w11) (a2) = v17 := (congrFun ((funext (hA_19 11 rfl)).trans ((funext (hA10 11 rfl)).trans ((funext (hA4 11 rfl)).trans (ew11)))) (a2)).symm.trans ev17
            have hs87 := ev17
            refine w_icmpne (t := 94) rfl rfl (show inr (x19_3) from j19_0) (show inr (v17) from q_286 qv17) (fun b18 => ?_) (fun b18 => ?_)
            · refine Ew_of (pcₚ := 95) (fun _ => x_iload_n rfl l19_3) ?_
              have : ((0 ≤ (a1) ∧ (a1) ≤ 3) ∧ (0 ≤ (a2) ∧ (a2) ≤ 3) ∧ DFF (rwR ((w10)) ((w11)) ((a1))) (rwR ((w10)) ((w11)) ((a2))) ((x19_3)) ∨ ¬ ((0 ≤ (a1) ∧ (a1) ≤ 3) ∧ 0 ≤ (a2) ∧ (a2) ≤ 3) ∧ (x19_3) = -2) := by first | exact .inl ⟨by omega, by omega, .inl ⟨rfl, DFF_eq (by omega) (fun k x y => j19_a k x (by omega))⟩⟩ | exact .inl ⟨by omega, by omega, .inr ⟨by omega, by omega, by omega, fun k x y => j19_a k x y, .inl ⟨by omega, by omega, by rw [rwR_g (by omega) (by omega) hRo, rwR_g (by omega) (by omega) hRo, hv50, hv61]; omega⟩⟩⟩ | exact .inl ⟨by omega, by omega, .inr ⟨by omega, by omega, by omega, fun k x y => j19_a k x y, .inr ⟨by omega, by omega⟩⟩⟩
              exact w_ireturn rfl (k (x19_3) σ _ _ H (SF_trans (SF_trans (SF_trans (SF_refl) hS3 (any_sub rfl)) hS9 (any_sub rfl)) hS_19 (any_sub rfl)) (SA_trans (SA_trans (SA_trans (SA_refl) hA4 (any_subA rfl)) hA10 (any_subA rfl)) hA_19 (any_subA rfl)) (show inr (x19_3) from j19_0) (show ((0 ≤ a1 ∧ a1 ≤ 3) ∧ (0 ≤ a2 ∧ a2 ≤ 3) ∧ DFF (rwR ((w10)) ((w11)) (a1)) (rwR ((w10)) ((w11)) (a2)) ((x19_3)) ∨ ¬ ((0 ≤ a1 ∧ a1 ≤ 3) ∧ 0 ≤ a2 ∧ a2 ≤ 3) ∧ (x19_3) = -2) by assumption))
            · refine Ew_of (pcₚ := 91) (fun _ => x_iconst rfl) ?_
              refine Ew_of (pcₚ := 95) (fun _ => x_goto rfl rfl) ?_
              have : ((0 ≤ (a1) ∧ (a1) ≤ 3) ∧ (0 ≤ (a2) ∧ (a2) ≤ 3) ∧ DFF (rwR ((w10)) ((w11)) ((a1))) (rwR ((w10)) ((w11)) ((a2))) (((-1))) ∨ ¬ ((0 ≤ (a1) ∧ (a1) ≤ 3) ∧ 0 ≤ (a2) ∧ (a2) ≤ 3) ∧ ((-1)) = -2) := by first | exact .inl ⟨by omega, by omega, .inl ⟨rfl, DFF_eq (by omega) (fun k x y => j19_a k x (by omega))⟩⟩ | exact .inl ⟨by omega, by omega, .inr ⟨by omega, by omega, by omega, fun k x y => j19_a k x y, .inl ⟨by omega, by omega, by rw [rwR_g (by omega) (by omega) hRo, rwR_g (by omega) (by omega) hRo, hv50, hv61]; omega⟩⟩⟩ | exact .inl ⟨by omega, by omega, .inr ⟨by omega, by omega, by omega, fun k x y => j19_a k x y, .inr ⟨by omega, by omega⟩⟩⟩
              exact w_ireturn rfl (k ((-1)) σ _ _ H (SF_trans (SF_trans (SF_trans (SF_refl) hS3 (any_sub rfl)) hS9 (any_sub rfl)) hS_19 (any_sub rfl)) (SA_trans (SA_trans (SA_trans (SA_refl) hA4 (any_subA rfl)) hA10 (any_subA rfl)) hA_19 (any_subA rfl)) (show inr ((-1)) from q_63) (show ((0 ≤ a1 ∧ a1 ≤ 3) ∧ (0 ≤ a2 ∧ a2 ≤ 3) ∧ DFF (rwR ((w10)) ((w11)) (a1)) (rwR ((w10)) ((w11)) (a2)) (((-1))) ∨ ¬ ((0 ≤ a1 ∧ a1 ≤ 3) ∧ 0 ≤ a2 ∧ a2 ≤ 3) ∧ ((-1)) = -2) by assumption))
        · refine Ew_of (pcₚ := 30) (fun _ => x_iload_n rfl l19_3) ?_
          refine Ew_of (pcₚ := 31) (fun _ => x_aload_n rfl l19_0) ?_
          refine w_gT H (o := 0) (t := 11) rfl (H.perm 0 rfl) rfl rfl rfl rfl rfl rfl ?_
          refine Ew_of (pcₚ := 35) (fun _ => x_iload_n rfl l19_2) ?_
          refine w_lI H (o := 11) (n := 4) rfl (H.perm 11 rfl) rfl rfl (H.fix 11 rfl rfl) (show 0 ≤ a2 ∧ a2 < ((4 : Nat) : Int) by omega) (by decide) (fun v19 ev19 qv19 => ?_)
          have qv19 : (0 : Int) ≤ v19 ∧ v19 ≤ 65536 := qv19
          have ev19 : (w11) (a2) = v19 := (congrFun ((funext (hA_19 11 rfl)).trans ((funext (hA10 11 rfl)).trans ((funext (hA4 11 rfl)).trans (ew11)))) (a2)).symm.trans ev19
          have hs36 := ev19
          refine w_icmpge (t := 70) rfl rfl (show inr (x19_3) from j19_0) (show inr (v19) from q_286 qv19) (fun b20 => ?_) (fun b20 => ?_)
          · refine Ew_of (pcₚ := 71) (fun _ => x_iload_n rfl l19_3) ?_
            refine Ew_of (pcₚ := 72) (fun _ => x_aload_n rfl l19_0) ?_
            refine w_gT H (o := 0) (t := 11) rfl (H.perm 0 rfl) rfl rfl rfl rfl rfl rfl ?_
            refine Ew_of (pcₚ := 76) (fun _ => x_iload_n rfl l19_1) ?_
            refine w_lI H (o := 11) (n := 4) rfl (H.perm 11 rfl) rfl rfl (H.fix 11 rfl rfl) (show 0 ≤ a1 ∧ a1 < ((4 : Nat) : Int) by omega) (by decide) (fun v21 ev21 qv21 => ?_)
            have qv21 : (0 : Int) ≤ v21 ∧ v21 ≤ 65536 := qv21
            have ev21 : (w11) (a1) = v21 := (congrFun ((funext (hA_19 11 rfl)).trans ((funext (hA10 11 rfl)).trans ((funext (hA4 11 rfl)).trans (ew11)))) (a1)).symm.trans ev21
            have hs77 := ev21
            refine w_icmpne (t := 94) rfl rfl (show inr (x19_3) from j19_0) (show inr (v21) from q_286 qv21) (fun b22 => ?_) (fun b22 => ?_)
            · refine Ew_of (pcₚ := 95) (fun _ => x_iload_n rfl l19_3) ?_
              have : ((0 ≤ (a1) ∧ (a1) ≤ 3) ∧ (0 ≤ (a2) ∧ (a2) ≤ 3) ∧ DFF (rwR ((w10)) ((w11)) ((a1))) (rwR ((w10)) ((w11)) ((a2))) ((x19_3)) ∨ ¬ ((0 ≤ (a1) ∧ (a1) ≤ 3) ∧ 0 ≤ (a2) ∧ (a2) ≤ 3) ∧ (x19_3) = -2) := by first | exact .inl ⟨by omega, by omega, .inl ⟨rfl, DFF_eq (by omega) (fun k x y => j19_a k x (by omega))⟩⟩ | exact .inl ⟨by omega, by omega, .inr ⟨by omega, by omega, by omega, fun k x y => j19_a k x y, .inl ⟨by omega, by omega, by rw [rwR_g (by omega) (by omega) hRo, rwR_g (by omega) (by omega) hRo, hv50, hv61]; omega⟩⟩⟩ | exact .inl ⟨by omega, by omega, .inr ⟨by omega, by omega, by omega, fun k x y => j19_a k x y, .inr ⟨by omega, by omega⟩⟩⟩
              exact w_ireturn rfl (k (x19_3) σ _ _ H (SF_trans (SF_trans (SF_trans (SF_refl) hS3 (any_sub rfl)) hS9 (any_sub rfl)) hS_19 (any_sub rfl)) (SA_trans (SA_trans (SA_trans (SA_refl) hA4 (any_subA rfl)) hA10 (any_subA rfl)) hA_19 (any_subA rfl)) (show inr (x19_3) from j19_0) (show ((0 ≤ a1 ∧ a1 ≤ 3) ∧ (0 ≤ a2 ∧ a2 ≤ 3) ∧ DFF (rwR ((w10)) ((w11)) (a1)) (rwR ((w10)) ((w11)) (a2)) ((x19_3)) ∨ ¬ ((0 ≤ a1 ∧ a1 ≤ 3) ∧ 0 ≤ a2 ∧ a2 ≤ 3) ∧ (x19_3) = -2) by assumption))
            · refine Ew_of (pcₚ := 81) (fun _ => x_iload_n rfl l19_3) ?_
              refine Ew_of (pcₚ := 82) (fun _ => x_aload_n rfl l19_0) ?_
              refine w_gT H (o := 0) (t := 11) rfl (H.perm 0 rfl) rfl rfl rfl rfl rfl rfl ?_
              refine Ew_of (pcₚ := 86) (fun _ => x_iload_n rfl l19_2) ?_
              refine w_lI H (o := 11) (n := 4) rfl (H.perm 11 rfl) rfl rfl (H.fix 11 rfl rfl) (show 0 ≤ a2 ∧ a2 < ((4 : Nat) : Int) by omega) (by decide) (fun v23 ev23 qv23 => ?_)
              have qv23 : (0 : Int) ≤ v23 ∧ v23 ≤ 65536 := qv23
              have ev23 : (w11) (a2) = v23 := (congrFun ((funext (hA_19 11 rfl)).trans ((funext (hA10 11 rfl)).trans ((funext (hA4 11 rfl)).trans (ew11)))) (a2)).symm.trans ev23
              have hs87 := ev23
              refine w_icmpne (t := 94) rfl rfl (show inr (x19_3) from j19_0) (show inr (v23) from q_286 qv23) (fun b24 => ?_) (fun b24 => ?_)
              · refine Ew_of (pcₚ := 95) (fun _ => x_iload_n rfl l19_3) ?_
                have : ((0 ≤ (a1) ∧ (a1) ≤ 3) ∧ (0 ≤ (a2) ∧ (a2) ≤ 3) ∧ DFF (rwR ((w10)) ((w11)) ((a1))) (rwR ((w10)) ((w11)) ((a2))) ((x19_3)) ∨ ¬ ((0 ≤ (a1) ∧ (a1) ≤ 3) ∧ 0 ≤ (a2) ∧ (a2) ≤ 3) ∧ (x19_3) = -2) := by first | exact .inl ⟨by omega, by omega, .inl ⟨rfl, DFF_eq (by omega) (fun k x y => j19_a k x (by omega))⟩⟩ | exact .inl ⟨by omega, by omega, .inr ⟨by omega, by omega, by omega, fun k x y => j19_a k x y, .inl ⟨by omega, by omega, by rw [rwR_g (by omega) (by omega) hRo, rwR_g (by omega) (by omega) hRo, hv50, hv61]; omega⟩⟩⟩ | exact .inl ⟨by omega, by omega, .inr ⟨by omega, by omega, by omega, fun k x y => j19_a k x y, .inr ⟨by omega, by omega⟩⟩⟩
                exact w_ireturn rfl (k (x19_3) σ _ _ H (SF_trans (SF_trans (SF_trans (SF_refl) hS3 (any_sub rfl)) hS9 (any_sub rfl)) hS_19 (any_sub rfl)) (SA_trans (SA_trans (SA_trans (SA_refl) hA4 (any_subA rfl)) hA10 (any_subA rfl)) hA_19 (any_subA rfl)) (show inr (x19_3) from j19_0) (show ((0 ≤ a1 ∧ a1 ≤ 3) ∧ (0 ≤ a2 ∧ a2 ≤ 3) ∧ DFF (rwR ((w10)) ((w11)) (a1)) (rwR ((w10)) ((w11)) (a2)) ((x19_3)) ∨ ¬ ((0 ≤ a1 ∧ a1 ≤ 3) ∧ 0 ≤ a2 ∧ a2 ≤ 3) ∧ (x19_3) = -2) by assumption))
              · refine Ew_of (pcₚ := 91) (fun _ => x_iconst rfl) ?_
                refine Ew_of (pcₚ := 95) (fun _ => x_goto rfl rfl) ?_
                have : ((0 ≤ (a1) ∧ (a1) ≤ 3) ∧ (0 ≤ (a2) ∧ (a2) ≤ 3) ∧ DFF (rwR ((w10)) ((w11)) ((a1))) (rwR ((w10)) ((w11)) ((a2))) (((-1))) ∨ ¬ ((0 ≤ (a1) ∧ (a1) ≤ 3) ∧ 0 ≤ (a2) ∧ (a2) ≤ 3) ∧ ((-1)) = -2) := by first | exact .inl ⟨by omega, by omega, .inl ⟨rfl, DFF_eq (by omega) (fun k x y => j19_a k x (by omega))⟩⟩ | exact .inl ⟨by omega, by omega, .inr ⟨by omega, by omega, by omega, fun k x y => j19_a k x y, .inl ⟨by omega, by omega, by rw [rwR_g (by omega) (by omega) hRo, rwR_g (by omega) (by omega) hRo, hv50, hv61]; omega⟩⟩⟩ | exact .inl ⟨by omega, by omega, .inr ⟨by omega, by omega, by omega, fun k x y => j19_a k x y, .inr ⟨by omega, by omega⟩⟩⟩
                exact w_ireturn rfl (k ((-1)) σ _ _ H (SF_trans (SF_trans (SF_trans (SF_refl) hS3 (any_sub rfl)) hS9 (any_sub rfl)) hS_19 (any_sub rfl)) (SA_trans (SA_trans (SA_trans (SA_refl) hA4 (any_subA rfl)) hA10 (any_subA rfl)) hA_19 (any_subA rfl)) (show inr ((-1)) from q_63) (show ((0 ≤ a1 ∧ a1 ≤ 3) ∧ (0 ≤ a2 ∧ a2 ≤ 3) ∧ DFF (rwR ((w10)) ((w11)) (a1)) (rwR ((w10)) ((w11)) (a2)) (((-1))) ∨ ¬ ((0 ≤ a1 ∧ a1 ≤ 3) ∧ 0 ≤ a2 ∧ a2 ≤ 3) ∧ ((-1)) = -2) by assumption))
          · refine Ew_of (pcₚ := 40) (fun _ => x_aload_n rfl l19_0) ?_
            refine w_gT H (o := 0) (t := 10) rfl (H.perm 0 rfl) rfl rfl rfl rfl rfl rfl ?_
            refine Ew_of (pcₚ := 45) (fun _ => x_ldc (z := 65536) rfl (by decide)) ?_
            refine Ew_of (pcₚ := 46) (fun _ => x_iload_n rfl l19_1) ?_
            refine w_imul rfl ?_
            refine Ew_of (pcₚ := 48) (fun _ => x_iload_n rfl l19_3) ?_
            refine w_iadd rfl ?_
            refine w_lI H (o := 10) (n := 262144) rfl (H.perm 10 rfl) rfl rfl (H.fix 10 rfl rfl) (show 0 ≤ ((65536 * a1) + x19_3) ∧ ((65536 * a1) + x19_3) < ((262144 : Nat) : Int) by omega) (by decide) (fun v25 ev25 qv25 => ?_)
            have qv25 : (0 : Int) ≤ v25 ∧ v25 ≤ 255 := qv25
            have ev25 : (w10) (((65536 * a1) + x19_3)) = v25 := (congrFun ((funext (hA_19 10 rfl)).trans ((funext (hA10 10 rfl)).trans ((funext (hA4 10 rfl)).trans (ew10)))) (((65536 * a1) + x19_3))).symm.trans ev25
            have hv50 := ev25
            refine Ew_of (pcₚ := 51) (fun _ => x_aload_n rfl l19_0) ?_
            refine w_gT H (o := 0) (t := 10) rfl (H.perm 0 rfl) rfl rfl rfl rfl rfl rfl ?_
            refine Ew_of (pcₚ := 56) (fun _ => x_ldc (z := 65536) rfl (by decide)) ?_
            refine Ew_of (pcₚ := 57) (fun _ => x_iload_n rfl l19_2) ?_
            refine w_imul rfl ?_
            refine Ew_of (pcₚ := 59) (fun _ => x_iload_n rfl l19_3) ?_
            refine w_iadd rfl ?_
            refine w_lI H (o := 10) (n := 262144) rfl (H.perm 10 rfl) rfl rfl (H.fix 10 rfl rfl) (show 0 ≤ ((65536 * a2) + x19_3) ∧ ((65536 * a2) + x19_3) < ((262144 : Nat) : Int) by omega) (by decide) (fun v26 ev26 qv26 => ?_)
            have qv26 : (0 : Int) ≤ v26 ∧ v26 ≤ 255 := qv26
            have ev26 : (w10) (((65536 * a2) + x19_3)) = v26 := (congrFun ((funext (hA_19 10 rfl)).trans ((funext (hA10 10 rfl)).trans ((funext (hA4 10 rfl)).trans (ew10)))) (((65536 * a2) + x19_3))).symm.trans ev26
            have hv61 := ev26
            refine w_icmpne (t := 70) rfl rfl (show inr (v25) from q_299 qv25) (show inr (v26) from q_299 qv26) (fun b27 => ?_) (fun b27 => ?_)
            · refine Ew_of (pcₚ := 71) (fun _ => x_iload_n rfl l19_3) ?_
              refine Ew_of (pcₚ := 72) (fun _ => x_aload_n rfl l19_0) ?_
              refine w_gT H (o := 0) (t := 11) rfl (H.perm 0 rfl) rfl rfl rfl rfl rfl rfl ?_
              refine Ew_of (pcₚ := 76) (fun _ => x_iload_n rfl l19_1) ?_
              refine w_lI H (o := 11) (n := 4) rfl (H.perm 11 rfl) rfl rfl (H.fix 11 rfl rfl) (show 0 ≤ a1 ∧ a1 < ((4 : Nat) : Int) by omega) (by decide) (fun v28 ev28 qv28 => ?_)
              have qv28 : (0 : Int) ≤ v28 ∧ v28 ≤ 65536 := qv28
              have ev28 : (w11) (a1) = v28 := (congrFun ((funext (hA_19 11 rfl)).trans ((funext (hA10 11 rfl)).trans ((funext (hA4 11 rfl)).trans (ew11)))) (a1)).symm.trans ev28
              have hs77 := ev28
              refine w_icmpne (t := 94) rfl rfl (show inr (x19_3) from j19_0) (show inr (v28) from q_286 qv28) (fun b29 => ?_) (fun b29 => ?_)
              · refine Ew_of (pcₚ := 95) (fun _ => x_iload_n rfl l19_3) ?_
                have : ((0 ≤ (a1) ∧ (a1) ≤ 3) ∧ (0 ≤ (a2) ∧ (a2) ≤ 3) ∧ DFF (rwR ((w10)) ((w11)) ((a1))) (rwR ((w10)) ((w11)) ((a2))) ((x19_3)) ∨ ¬ ((0 ≤ (a1) ∧ (a1) ≤ 3) ∧ 0 ≤ (a2) ∧ (a2) ≤ 3) ∧ (x19_3) = -2) := by first | exact .inl ⟨by omega, by omega, .inl ⟨rfl, DFF_eq (by omega) (fun k x y => j19_a k x (by omega))⟩⟩ | exact .inl ⟨by omega, by omega, .inr ⟨by omega, by omega, by omega, fun k x y => j19_a k x y, .inl ⟨by omega, by omega, by rw [rwR_g (by omega) (by omega) hRo, rwR_g (by omega) (by omega) hRo, hv50, hv61]; omega⟩⟩⟩ | exact .inl ⟨by omega, by omega, .inr ⟨by omega, by omega, by omega, fun k x y => j19_a k x y, .inr ⟨by omega, by omega⟩⟩⟩
                exact w_ireturn rfl (k (x19_3) σ _ _ H (SF_trans (SF_trans (SF_trans (SF_refl) hS3 (any_sub rfl)) hS9 (any_sub rfl)) hS_19 (any_sub rfl)) (SA_trans (SA_trans (SA_trans (SA_refl) hA4 (any_subA rfl)) hA10 (any_subA rfl)) hA_19 (any_subA rfl)) (show inr (x19_3) from j19_0) (show ((0 ≤ a1 ∧ a1 ≤ 3) ∧ (0 ≤ a2 ∧ a2 ≤ 3) ∧ DFF (rwR ((w10)) ((w11)) (a1)) (rwR ((w10)) ((w11)) (a2)) ((x19_3)) ∨ ¬ ((0 ≤ a1 ∧ a1 ≤ 3) ∧ 0 ≤ a2 ∧ a2 ≤ 3) ∧ (x19_3) = -2) by assumption))
              · refine Ew_of (pcₚ := 81) (fun _ => x_iload_n rfl l19_3) ?_
                refine Ew_of (pcₚ := 82) (fun _ => x_aload_n rfl l19_0) ?_
                refine w_gT H (o := 0) (t := 11) rfl (H.perm 0 rfl) rfl rfl rfl rfl rfl rfl ?_
                refine Ew_of (pcₚ := 86) (fun _ => x_iload_n rfl l19_2) ?_
                refine w_lI H (o := 11) (n := 4) rfl (H.perm 11 rfl) rfl rfl (H.fix 11 rfl rfl) (show 0 ≤ a2 ∧ a2 < ((4 : Nat) : Int) by omega) (by decide) (fun v30 ev30 qv30 => ?_)
                have qv30 : (0 : Int) ≤ v30 ∧ v30 ≤ 65536 := qv30
                have ev30 : (w11) (a2) = v30 := (congrFun ((funext (hA_19 11 rfl)).trans ((funext (hA10 11 rfl)).trans ((funext (hA4 11 rfl)).trans (ew11)))) (a2)).symm.trans ev30
                have hs87 := ev30
                refine w_icmpne (t := 94) rfl rfl (show inr (x19_3) from j19_0) (show inr (v30) from q_286 qv30) (fun b31 => ?_) (fun b31 => ?_)
                · refine Ew_of (pcₚ := 95) (fun _ => x_iload_n rfl l19_3) ?_
                  have : ((0 ≤ (a1) ∧ (a1) ≤ 3) ∧ (0 ≤ (a2) ∧ (a2) ≤ 3) ∧ DFF (rwR ((w10)) ((w11)) ((a1))) (rwR ((w10)) ((w11)) ((a2))) ((x19_3)) ∨ ¬ ((0 ≤ (a1) ∧ (a1) ≤ 3) ∧ 0 ≤ (a2) ∧ (a2) ≤ 3) ∧ (x19_3) = -2) := by first | exact .inl ⟨by omega, by omega, .inl ⟨rfl, DFF_eq (by omega) (fun k x y => j19_a k x (by omega))⟩⟩ | exact .inl ⟨by omega, by omega, .inr ⟨by omega, by omega, by omega, fun k x y => j19_a k x y, .inl ⟨by omega, by omega, by rw [rwR_g (by omega) (by omega) hRo, rwR_g (by omega) (by omega) hRo, hv50, hv61]; omega⟩⟩⟩ | exact .inl ⟨by omega, by omega, .inr ⟨by omega, by omega, by omega, fun k x y => j19_a k x y, .inr ⟨by omega, by omega⟩⟩⟩
                  exact w_ireturn rfl (k (x19_3) σ _ _ H (SF_trans (SF_trans (SF_trans (SF_refl) hS3 (any_sub rfl)) hS9 (any_sub rfl)) hS_19 (any_sub rfl)) (SA_trans (SA_trans (SA_trans (SA_refl) hA4 (any_subA rfl)) hA10 (any_subA rfl)) hA_19 (any_subA rfl)) (show inr (x19_3) from j19_0) (show ((0 ≤ a1 ∧ a1 ≤ 3) ∧ (0 ≤ a2 ∧ a2 ≤ 3) ∧ DFF (rwR ((w10)) ((w11)) (a1)) (rwR ((w10)) ((w11)) (a2)) ((x19_3)) ∨ ¬ ((0 ≤ a1 ∧ a1 ≤ 3) ∧ 0 ≤ a2 ∧ a2 ≤ 3) ∧ (x19_3) = -2) by assumption))
                · refine Ew_of (pcₚ := 91) (fun _ => x_iconst rfl) ?_
                  refine Ew_of (pcₚ := 95) (fun _ => x_goto rfl rfl) ?_
                  have : ((0 ≤ (a1) ∧ (a1) ≤ 3) ∧ (0 ≤ (a2) ∧ (a2) ≤ 3) ∧ DFF (rwR ((w10)) ((w11)) ((a1))) (rwR ((w10)) ((w11)) ((a2))) (((-1))) ∨ ¬ ((0 ≤ (a1) ∧ (a1) ≤ 3) ∧ 0 ≤ (a2) ∧ (a2) ≤ 3) ∧ ((-1)) = -2) := by first | exact .inl ⟨by omega, by omega, .inl ⟨rfl, DFF_eq (by omega) (fun k x y => j19_a k x (by omega))⟩⟩ | exact .inl ⟨by omega, by omega, .inr ⟨by omega, by omega, by omega, fun k x y => j19_a k x y, .inl ⟨by omega, by omega, by rw [rwR_g (by omega) (by omega) hRo, rwR_g (by omega) (by omega) hRo, hv50, hv61]; omega⟩⟩⟩ | exact .inl ⟨by omega, by omega, .inr ⟨by omega, by omega, by omega, fun k x y => j19_a k x y, .inr ⟨by omega, by omega⟩⟩⟩
                  exact w_ireturn rfl (k ((-1)) σ _ _ H (SF_trans (SF_trans (SF_trans (SF_refl) hS3 (any_sub rfl)) hS9 (any_sub rfl)) hS_19 (any_sub rfl)) (SA_trans (SA_trans (SA_trans (SA_refl) hA4 (any_subA rfl)) hA10 (any_subA rfl)) hA_19 (any_subA rfl)) (show inr ((-1)) from q_63) (show ((0 ≤ a1 ∧ a1 ≤ 3) ∧ (0 ≤ a2 ∧ a2 ≤ 3) ∧ DFF (rwR ((w10)) ((w11)) (a1)) (rwR ((w10)) ((w11)) (a2)) (((-1))) ∨ ¬ ((0 ≤ a1 ∧ a1 ≤ 3) ∧ 0 ≤ a2 ∧ a2 ≤ 3) ∧ ((-1)) = -2) by assumption))
            · refine Ew_of (pcₚ := 67) (fun _ => x_iinc (len := 3) rfl (l19_3)) ?_
              refine Ew_of (pcₚ := 19) (fun _ => x_goto rfl rfl) ?_
              have : ∀ k, 0 ≤ k → k < ((x19_3 + 1)) → ap (rwR ((w10)) ((w11)) ((a1))) k = ap (rwR ((w10)) ((w11)) ((a2))) k := fun k x y => by by_cases e : k = q3; (rw [e, hq3, rwR_g (by omega) (by omega) hRo, rwR_g (by omega) (by omega) hRo, hv50, hv61]; omega); exact j19_a k x (by omega)
              exact ih19 _ (msE hm19 q_2915 (q_2916 b20 qv19)) _ σ _ _ ((x19_3 + 1)) (rk_o (l19_0) rfl rfl) (rk_o (l19_1) rfl rfl) (rk_o (l19_2) rfl rfl) (rk_s) H (hS_19) (hA_19)   (show inr ((x19_3 + 1)) from q_2914 b20 j19_1 qv19) (show 0 ≤ ((x19_3 + 1)) ∧ ((x19_3 + 1)) ≤ ((w11)) ((a1)) ∧ ((x19_3 + 1)) ≤ ((w11)) ((a2)) from q_2913 b14 b20 ev13 ev19 j19_1) (show ∀ k, 0 ≤ k → k < ((x19_3 + 1)) → ap (rwR ((w10)) ((w11)) ((a1))) k = ap (rwR ((w10)) ((w11)) ((a2))) k by assumption) rfl
    · refine Ew_of (pcₚ := 16) (fun _ => x_bipush (z := -2) rfl (by decide)) ?_
      have : ((0 ≤ (a1) ∧ (a1) ≤ 3) ∧ (0 ≤ (a2) ∧ (a2) ≤ 3) ∧ DFF (rwR ((w10)) ((w11)) ((a1))) (rwR ((w10)) ((w11)) ((a2))) (-2) ∨ ¬ ((0 ≤ (a1) ∧ (a1) ≤ 3) ∧ 0 ≤ (a2) ∧ (a2) ≤ 3) ∧ -2 = -2) := .inr ⟨by omega, rfl⟩
      exact w_ireturn rfl (k ((-2)) σ _ _ H (SF_trans (SF_trans (SF_refl) hS3 (any_sub rfl)) hS9 (any_sub rfl)) (SA_trans (SA_trans (SA_refl) hA4 (any_subA rfl)) hA10 (any_subA rfl)) (show inr ((-2)) from q_362) (show ((0 ≤ a1 ∧ a1 ≤ 3) ∧ (0 ≤ a2 ∧ a2 ≤ 3) ∧ DFF (rwR ((w10)) ((w11)) (a1)) (rwR ((w10)) ((w11)) (a2)) (((-2))) ∨ ¬ ((0 ≤ a1 ∧ a1 ≤ 3) ∧ 0 ≤ a2 ∧ a2 ≤ 3) ∧ ((-2)) = -2) by assumption))


end
section
/-! 99.ref -/
theorem M74p {σ0 σ : rS} {D N : Nat → Nat} {F : hF} {A : hA} {d c s : Nat} {Q : wQ} (H : HS σ0 σ D N F A) {a1 : Int} (w10 : Int → Int) (ew10 : A 10 = w10) (w11 : Int → Int) (ew11 : A 11 = w11) (h0 : inr (a1)) (h1 : 0 ≤ (a1) ∧ (a1) ≤ 3) (k : ∀ σ Fₚ Aₚ, HS σ0 σ D N Fₚ Aₚ → SF [(1, 1)] F Fₚ → SA [14] A Aₚ → ∀ y1_1 : Int, Fₚ 1 1 = y1_1 → ∀ v14 : Int → Int, Aₚ 14 = v14 → ((y1_1) = ((w11)) ((a1))) → (sc ((v14)) 0 ((y1_1)) = rwR ((w10)) ((w11)) ((a1))) → Q none σ c s) : Ew 74 (d + 0) 0 (rargs 0 [.ref (D 0), I a1]) [] σ c s Q := by
  have hSz : ∀ i, (0 : Int) ≤ (w11) i ∧ (w11) i ≤ 65536 := fun i => by have h1 : (0 : Int) ≤ A 11 i ∧ A 11 i ≤ 65536 := H.arng 11 i; rw [show A 11 = w11 from ew11] at h1; exact h1
  have hsa := hSz ((a1))
  refine Ew_of (pcₚ := 1) (fun _ => x_iconst rfl) ?_
  refine Ew_of (pcₚ := 2) (fun _ => x_istore_n rfl) ?_
  have : ∀ k, 0 ≤ k → k < 0 → ((A 14)) k = ((w10)) (65536 * (a1) + k) := fun k a b => absurd b (by omega)
  suffices hl2 : ∀ (m : Nat), ∀ (ls : rO) (σ : rS) (F_2 : hF) (A_2 : hA) (x2_2 : Int), rlook ls 0 = some (.ref (D 0)) → rlook ls 1 = some (I (a1)) → rlook ls 2 = some (I (x2_2)) → HS σ0 σ D N F_2 A_2 → SF [] F F_2 → SA [14] A A_2 → ∀ w2_14 : Int → Int, A_2 14 = w2_14 → (inr (x2_2)) → (0 ≤ (x2_2) ∧ (x2_2) ≤ ((w11)) ((a1))) → (∀ k, 0 ≤ k → k < (x2_2) → ((w2_14)) k = ((w10)) (65536 * (a1) + k)) → (65536 - (x2_2)).toNat = m → Ew 74 (d + 0) 2 ls [] σ c s Q from
    hl2 _ _ σ _ _ (0) (rk_o (rfl) rfl rfl) (rk_o (rfl) rfl rfl) (rk_s) H (SF_refl) (SA_refl)  (A 14) (rfl) (show inr (0) from q_2) (show 0 ≤ (0) ∧ (0) ≤ ((w11)) ((a1)) by omega) (show ∀ k, 0 ≤ k → k < (0) → ((A 14)) k = ((w10)) (65536 * (a1) + k) by assumption) rfl
  as_aux_lemma =>
  intro m
  induction m using Nat.strongRecOn with
  | _ m ih2 =>
    intro ls σ F_2 A_2 x2_2 l2_0 l2_1 l2_2 H hS_2 hA_2  w2_14 ew2_14 j2_0 j2_1 j2_2 hm2
    have j2_a : ∀ k, 0 ≤ k → k < (x2_2) → ((w2_14)) k = ((w10)) (65536 * (a1) + k) := by assumption
    obtain ⟨q2, hq2⟩ : ∃ q : Int, q = (x2_2) := ⟨_, rfl⟩
    refine Ew_of (pcₚ := 3) (fun _ => x_iload_n rfl l2_2) ?_
    refine Ew_of (pcₚ := 4) (fun _ => x_aload_n rfl l2_0) ?_
    refine w_gT H (o := 0) (t := 11) rfl (H.perm 0 rfl) rfl rfl rfl rfl rfl rfl ?_
    refine Ew_of (pcₚ := 8) (fun _ => x_iload_n rfl l2_1) ?_
    refine w_lI H (o := 11) (n := 4) rfl (H.perm 11 rfl) rfl rfl (H.fix 11 rfl rfl) (show 0 ≤ a1 ∧ a1 < ((4 : Nat) : Int) from q_285 h1) (by decide) (fun v1 ev1 qv1 => ?_)
    have qv1 : (0 : Int) ≤ v1 ∧ v1 ≤ 65536 := qv1
    have ev1 : (w11) (a1) = v1 := (congrFun ((funext (hA_2 11 rfl)).trans (ew11)) (a1)).symm.trans ev1
    have hs9 := ev1
    refine w_icmpge (t := 38) rfl rfl (show inr (x2_2) from j2_0) (show inr (v1) from q_286 qv1) (fun b2 => ?_) (fun b2 => ?_)
    · refine Ew_of (pcₚ := 39) (fun _ => x_aload_n rfl l2_0) ?_
      refine w_gT H (o := 0) (t := 1) rfl (H.perm 0 rfl) rfl rfl rfl rfl rfl rfl ?_
      refine Ew_of (pcₚ := 43) (fun _ => x_aload_n rfl l2_0) ?_
      refine w_gT H (o := 0) (t := 11) rfl (H.perm 0 rfl) rfl rfl rfl rfl rfl rfl ?_
      refine Ew_of (pcₚ := 47) (fun _ => x_iload_n rfl l2_1) ?_
      refine w_lI H (o := 11) (n := 4) rfl (H.perm 11 rfl) rfl rfl (H.fix 11 rfl rfl) (show 0 ≤ a1 ∧ a1 < ((4 : Nat) : Int) from q_285 h1) (by decide) (fun v3 ev3 qv3 => ?_)
      have qv3 : (0 : Int) ≤ v3 ∧ v3 ≤ 65536 := qv3
      have ev3 : (w11) (a1) = v3 := (congrFun ((funext (hA_2 11 rfl)).trans (ew11)) (a1)).symm.trans ev3
      have hs48 := ev3
      refine w_pI H (o := 1) rfl rfl (H.perm 1 rfl) rfl rfl rfl (fun _ => rfl) rfl (show (0 : Int) ≤ v3 ∧ v3 ≤ 65536 from qv3) (fun σ H => ?_)
      have : sc ((w2_14)) 0 ((v3)) = rwR ((w10)) ((w11)) ((a1)) := rwR_in (by omega) (fun k a b => j2_a k a (by omega))
      exact w_ret rfl (k σ _ _ H (SF_upd (SF_trans (SF_refl) hS_2 (any_sub rfl)) rfl) (SA_trans (SA_refl) hA_2 (any_subA rfl)) (v3) (rfl) (w2_14) (ew2_14) (show (v3) = ((w11)) (a1) from q_121 ev3) (show sc ((w2_14)) 0 ((v3)) = rwR ((w10)) ((w11)) (a1) by assumption))
    · refine Ew_of (pcₚ := 13) (fun _ => x_aload_n rfl l2_0) ?_
      refine w_gT H (o := 0) (t := 1) rfl (H.perm 0 rfl) rfl rfl rfl rfl rfl rfl ?_
      refine w_gT H (o := 1) (t := 14) rfl (H.perm 1 rfl) rfl rfl rfl rfl rfl rfl ?_
      refine Ew_of (pcₚ := 20) (fun _ => x_iload_n rfl l2_2) ?_
      refine Ew_of (pcₚ := 21) (fun _ => x_aload_n rfl l2_0) ?_
      refine w_gT H (o := 0) (t := 10) rfl (H.perm 0 rfl) rfl rfl rfl rfl rfl rfl ?_
      refine Ew_of (pcₚ := 26) (fun _ => x_ldc (z := 65536) rfl (by decide)) ?_
      refine Ew_of (pcₚ := 27) (fun _ => x_iload_n rfl l2_1) ?_
      refine w_imul rfl ?_
      refine Ew_of (pcₚ := 29) (fun _ => x_iload_n rfl l2_2) ?_
      refine w_iadd rfl ?_
      refine w_lI H (o := 10) (n := 262144) rfl (H.perm 10 rfl) rfl rfl (H.fix 10 rfl rfl) (show 0 ≤ ((65536 * a1) + x2_2) ∧ ((65536 * a1) + x2_2) < ((262144 : Nat) : Int) from q_2917 b2 h1 j2_1 qv1) (by decide) (fun v4 ev4 qv4 => ?_)
      have qv4 : (0 : Int) ≤ v4 ∧ v4 ≤ 255 := qv4
      have ev4 : (w10) (((65536 * a1) + x2_2)) = v4 := (congrFun ((funext (hA_2 10 rfl)).trans (ew10)) (((65536 * a1) + x2_2))).symm.trans ev4
      have hv31 := ev4
      refine w_sI H (o := 14) (n := 65536) rfl (H.perm 14 rfl) rfl rfl (H.fix 14 rfl rfl) (show 0 ≤ x2_2 ∧ x2_2 < ((65536 : Nat) : Int) from q_2918 b2 j2_1 qv1) (by decide) (show (0 : Int) ≤ v4 ∧ v4 ≤ 255 from qv4) (fun σ H => ?_)
      refine Ew_of (pcₚ := 35) (fun _ => x_iinc (len := 3) rfl (l2_2)) ?_
      refine Ew_of (pcₚ := 2) (fun _ => x_goto rfl rfl) ?_
      have : ∀ k, 0 ≤ k → k < ((x2_2 + 1)) → ((upd1 (w2_14) (x2_2) (v4))) k = ((w10)) (65536 * (a1) + k) := fun k x y => by by_cases e : k = q2; (rw [e, hq2, upd1_s]; exact hv31.symm); (rw [upd1_o (by omega)]; exact j2_a k x (by omega))
      exact ih2 _ (msE hm2 q_2915 (q_2916 b2 qv1)) _ σ _ _ ((x2_2 + 1)) (rk_o (l2_0) rfl rfl) (rk_o (l2_1) rfl rfl) (rk_s) H (hS_2) (SA_upd (hA_2) rfl)  (upd1 (w2_14) (x2_2) (v4)) (congrArg (fun q => upd1 q (x2_2) (v4)) (ew2_14)) (show inr ((x2_2 + 1)) from q_2920 b2 j2_1 qv1) (show 0 ≤ ((x2_2 + 1)) ∧ ((x2_2 + 1)) ≤ ((w11)) ((a1)) from q_2919 b2 ev1 j2_1) (show ∀ k, 0 ≤ k → k < ((x2_2 + 1)) → ((upd1 (w2_14) (x2_2) (v4))) k = ((w10)) (65536 * (a1) + k) by assumption) rfl

theorem M75p {σ0 σ : rS} {D N : Nat → Nat} {F : hF} {A : hA} {d c s : Nat} {Q : wQ} (H : HS σ0 σ D N F A) {a1 : Int} (u1_3 : Int) (eu1_3 : F 1 3 = u1_3) (w10 : Int → Int) (ew10 : A 10 = w10) (w11 : Int → Int) (ew11 : A 11 = w11) (w15 : Int → Int) (ew15 : A 15 = w15) (h0 : inr (a1)) (h1 : 0 ≤ (a1) ∧ (a1) ≤ 3) (k : ∀ σ Fₚ Aₚ, HS σ0 σ D N Fₚ Aₚ → SF [] F Fₚ → SA [10, 11] A Aₚ → ∀ v10 : Int → Int, Aₚ 10 = v10 → ∀ v11 : Int → Int, Aₚ 11 = v11 → (RWC ((w10)) ((w11)) ((v10)) ((v11)) ((a1)) (sc ((w15)) 0 ((u1_3)))) → Q none σ c s) : Ew 75 (d + 0) 0 (rargs 0 [.ref (D 0), I a1]) [] σ c s Q := by
  have r1 : (0 : Int) ≤ u1_3 ∧ u1_3 ≤ 65536 := rngE (show (0 : Int) ≤ F 1 3 ∧ F 1 3 ≤ 65536 from H.frng 1 3) (show F 1 3 = u1_3 from (eu1_3))
  have hSz : ∀ i, (0 : Int) ≤ (w11) i ∧ (w11) i ≤ 65536 := fun i => by have h1 : (0 : Int) ≤ A 11 i ∧ A 11 i ≤ 65536 := H.arng 11 i; rw [show A 11 = w11 from ew11] at h1; exact h1
  have hOu : ∀ i, (0 : Int) ≤ (w15) i ∧ (w15) i ≤ 255 := fun i => by have h1 : (0 : Int) ≤ A 15 i ∧ A 15 i ≤ 255 := H.arng 15 i; rw [show A 15 = w15 from ew15] at h1; exact h1
  refine Ew_of (pcₚ := 1) (fun _ => x_iconst rfl) ?_
  refine Ew_of (pcₚ := 2) (fun _ => x_istore_n rfl) ?_
  have : ∀ k, 0 ≤ k → k < 0 → ((w10)) (65536 * (a1) + k) = ((w15)) k := fun k a b => absurd b (by omega)
  have : ∀ i, i < 65536 * (a1) ∨ 65536 * (a1) + 0 ≤ i → ((w10)) i = ((w10)) i := fun _ _ => rfl
  suffices hl2 : ∀ (m : Nat), ∀ (ls : rO) (σ : rS) (F_2 : hF) (A_2 : hA) (x2_2 : Int), rlook ls 0 = some (.ref (D 0)) → rlook ls 1 = some (I (a1)) → rlook ls 2 = some (I (x2_2)) → HS σ0 σ D N F_2 A_2 → SF [] F F_2 → SA [10] A A_2 → ∀ w2_10 : Int → Int, A_2 10 = w2_10 → (inr (x2_2)) → (0 ≤ (x2_2) ∧ (x2_2) ≤ (u1_3)) → (∀ k, 0 ≤ k → k < (x2_2) → ((w2_10)) (65536 * (a1) + k) = ((w15)) k) → (∀ i, i < 65536 * (a1) ∨ 65536 * (a1) + (x2_2) ≤ i → ((w2_10)) i = ((w10)) i) → (65536 - (x2_2)).toNat = m → Ew 75 (d + 0) 2 ls [] σ c s Q from
    hl2 _ _ σ _ _ (0) (rk_o (rfl) rfl rfl) (rk_o (rfl) rfl rfl) (rk_s) H (SF_refl) (SA_refl)  (w10) (ew10) (show inr (0) from q_2) (show 0 ≤ (0) ∧ (0) ≤ (u1_3) from q_1172 r1) (show ∀ k, 0 ≤ k → k < (0) → ((w10)) (65536 * (a1) + k) = ((w15)) k by assumption) (show ∀ i, i < 65536 * (a1) ∨ 65536 * (a1) + (0) ≤ i → ((w10)) i = ((w10)) i by assumption) rfl
  as_aux_lemma =>
  intro m
  induction m using Nat.strongRecOn with
  | _ m ih2 =>
    intro ls σ F_2 A_2 x2_2 l2_0 l2_1 l2_2 H hS_2 hA_2  w2_10 ew2_10 j2_0 j2_1 j2_2 j2_3 hm2
    have j2_a : ∀ k, 0 ≤ k → k < (x2_2) → ((w2_10)) (65536 * (a1) + k) = ((w15)) k := by assumption
    have j2_o : ∀ i, i < 65536 * (a1) ∨ 65536 * (a1) + (x2_2) ≤ i → ((w2_10)) i = ((w10)) i := by assumption
    obtain ⟨q2, hq2⟩ : ∃ q : Int, q = (x2_2) := ⟨_, rfl⟩
    refine Ew_of (pcₚ := 3) (fun _ => x_iload_n rfl l2_2) ?_
    refine Ew_of (pcₚ := 4) (fun _ => x_aload_n rfl l2_0) ?_
    refine w_gT H (o := 0) (t := 1) rfl (H.perm 0 rfl) rfl rfl rfl rfl rfl rfl ?_
    refine w_gI H (o := 1) (w := u1_3) rfl (H.perm 1 rfl) rfl rfl rfl (fun _ => rfl) ((hS_2 1 3 rfl).trans (eu1_3)) ?_
    refine w_icmpge (t := 39) rfl rfl (show inr (x2_2) from j2_0) (show inr (u1_3) from q_286 r1) (fun b2 => ?_) (fun b2 => ?_)
    · refine Ew_of (pcₚ := 40) (fun _ => x_aload_n rfl l2_0) ?_
      refine w_gT H (o := 0) (t := 11) rfl (H.perm 0 rfl) rfl rfl rfl rfl rfl rfl ?_
      refine Ew_of (pcₚ := 44) (fun _ => x_iload_n rfl l2_1) ?_
      refine Ew_of (pcₚ := 45) (fun _ => x_aload_n rfl l2_0) ?_
      refine w_gT H (o := 0) (t := 1) rfl (H.perm 0 rfl) rfl rfl rfl rfl rfl rfl ?_
      refine w_gI H (o := 1) (w := u1_3) rfl (H.perm 1 rfl) rfl rfl rfl (fun _ => rfl) ((hS_2 1 3 rfl).trans (eu1_3)) ?_
      refine w_sI H (o := 11) (n := 4) rfl (H.perm 11 rfl) rfl rfl (H.fix 11 rfl rfl) (show 0 ≤ a1 ∧ a1 < ((4 : Nat) : Int) from q_285 h1) (by decide) (show (0 : Int) ≤ u1_3 ∧ u1_3 ≤ 65536 from r1) (fun σ H => ?_)
      have : RWC ((w10)) ((w11)) ((w2_10)) ((upd1 (w11) (a1) (u1_3))) ((a1)) (sc ((w15)) 0 ((u1_3))) := RWC_st hSz (by omega) (by omega) (fun k a b => j2_a k a (by omega)) (fun i x => j2_o i (by omega)) rfl
      exact w_ret rfl (k σ _ _ H (SF_trans (SF_refl) hS_2 (any_sub rfl)) (SA_upd (SA_trans (SA_refl) hA_2 (any_subA rfl)) rfl) (w2_10) (ew2_10) (upd1 (w11) (a1) (u1_3)) (congrArg (fun q => upd1 q (a1) (u1_3)) ((funext (hA_2 11 rfl)).trans (ew11))) (show RWC ((w10)) ((w11)) ((w2_10)) ((upd1 (w11) (a1) (u1_3))) (a1) (sc ((w15)) 0 ((u1_3))) by assumption))
    · refine Ew_of (pcₚ := 14) (fun _ => x_aload_n rfl l2_0) ?_
      refine w_gT H (o := 0) (t := 10) rfl (H.perm 0 rfl) rfl rfl rfl rfl rfl rfl ?_
      refine Ew_of (pcₚ := 19) (fun _ => x_ldc (z := 65536) rfl (by decide)) ?_
      refine Ew_of (pcₚ := 20) (fun _ => x_iload_n rfl l2_1) ?_
      refine w_imul rfl ?_
      refine Ew_of (pcₚ := 22) (fun _ => x_iload_n rfl l2_2) ?_
      refine w_iadd rfl ?_
      refine Ew_of (pcₚ := 24) (fun _ => x_aload_n rfl l2_0) ?_
      refine w_gT H (o := 0) (t := 1) rfl (H.perm 0 rfl) rfl rfl rfl rfl rfl rfl ?_
      refine w_gT H (o := 1) (t := 15) rfl (H.perm 1 rfl) rfl rfl rfl rfl rfl rfl ?_
      refine Ew_of (pcₚ := 31) (fun _ => x_iload_n rfl l2_2) ?_
      refine w_lI H (o := 15) (n := 65536) rfl (H.perm 15 rfl) rfl rfl (H.fix 15 rfl rfl) (show 0 ≤ x2_2 ∧ x2_2 < ((65536 : Nat) : Int) from q_2182 b2 j2_1 r1) (by decide) (fun v3 ev3 qv3 => ?_)
      have qv3 : (0 : Int) ≤ v3 ∧ v3 ≤ 255 := qv3
      have ev3 : (w15) (x2_2) = v3 := (congrFun ((funext (hA_2 15 rfl)).trans (ew15)) (x2_2)).symm.trans ev3
      have hv32 := ev3
      have hvr := hOu ((x2_2))
      rw [hv32] at hvr
      refine w_sI H (o := 10) (n := 262144) rfl (H.perm 10 rfl) rfl rfl (H.fix 10 rfl rfl) (show 0 ≤ ((65536 * a1) + x2_2) ∧ ((65536 * a1) + x2_2) < ((262144 : Nat) : Int) from q_2921 b2 h1 j2_1 r1) (by decide) (show (0 : Int) ≤ v3 ∧ v3 ≤ 255 from qv3) (fun σ H => ?_)
      refine Ew_of (pcₚ := 36) (fun _ => x_iinc (len := 3) rfl (l2_2)) ?_
      refine Ew_of (pcₚ := 2) (fun _ => x_goto rfl rfl) ?_
      have : ∀ k, 0 ≤ k → k < ((x2_2 + 1)) → ((upd1 (w2_10) (((65536 * a1) + x2_2)) (v3))) (65536 * (a1) + k) = ((w15)) k := fun k x y => by by_cases e : k = q2; (rw [e, hq2, upd1_s]; exact hv32.symm); (rw [upd1_o (by omega)]; exact j2_a k x (by omega))
      have : ∀ i, i < 65536 * (a1) ∨ 65536 * (a1) + ((x2_2 + 1)) ≤ i → ((upd1 (w2_10) (((65536 * a1) + x2_2)) (v3))) i = ((w10)) i := fun i x => by rw [upd1_o (by omega)]; exact j2_o i (by omega)
      exact ih2 _ (msE hm2 q_2915 (q_2916 b2 r1)) _ σ _ _ ((x2_2 + 1)) (rk_o (l2_0) rfl rfl) (rk_o (l2_1) rfl rfl) (rk_s) H (hS_2) (SA_upd (hA_2) rfl)  (upd1 (w2_10) (((65536 * a1) + x2_2)) (v3)) (congrArg (fun q => upd1 q (((65536 * a1) + x2_2)) (v3)) (ew2_10)) (show inr ((x2_2 + 1)) from q_2183 b2 j2_1 r1) (show 0 ≤ ((x2_2 + 1)) ∧ ((x2_2 + 1)) ≤ (u1_3) from q_1395 b2 j2_1) (show ∀ k, 0 ≤ k → k < ((x2_2 + 1)) → ((upd1 (w2_10) (((65536 * a1) + x2_2)) (v3))) (65536 * (a1) + k) = ((w15)) k by assumption) (show ∀ i, i < 65536 * (a1) ∨ 65536 * (a1) + ((x2_2 + 1)) ≤ i → ((upd1 (w2_10) (((65536 * a1) + x2_2)) (v3))) i = ((w10)) i by assumption) rfl

theorem M71p {σ0 σ : rS} {D N : Nat → Nat} {F : hF} {A : hA} {d c s : Nat} {Q : wQ} (H : HS σ0 σ D N F A) {a1 a2 a3 a4 : Int} (w10 : Int → Int) (ew10 : A 10 = w10) (w11 : Int → Int) (ew11 : A 11 = w11) (h0 : inr (a1)) (h1 : inr (a2)) (h2 : inr (a3)) (h3 : inr (a4)) (k : ∀ (z : Int) σ Fₚ Aₚ, HS σ0 σ D N Fₚ Aₚ → SF [(2, 1)] F Fₚ → SA [] A Aₚ → (inr (z)) → (((0 ≤ (a1) ∧ (a1) ≤ 3) ∧ ((z) : Int) = NSL (prL (rwR ((w10)) ((w11)) ((a1))) ((a2)) ((a3))) ((a4)) ∨ ¬ (0 ≤ (a1) ∧ (a1) ≤ 3) ∧ ((z) : Int) = 0)) → Q (some (I z)) σ c s) : Ew 71 (d + 4) 0 (rargs 0 [.ref (D 0), I a1, I a2, I a3, I a4]) [] σ c s Q := by
  have hSz : ∀ i, (0 : Int) ≤ (w11) i ∧ (w11) i ≤ 65536 := fun i => by have h1 : (0 : Int) ≤ A 11 i ∧ A 11 i ≤ 65536 := H.arng 11 i; rw [show A 11 = w11 from ew11] at h1; exact h1
  have hl0 := rwR_len (ro := (w10)) (si := (w11)) (r := (a1)) (hSz ((a1))).1
  have hsa := hSz ((a1))
  refine Ew_of (pcₚ := 1) (fun _ => x_iload_n rfl rfl) ?_
  refine w_stat24 rfl rfl (by rfl) (M56p H (show inr (a1) from h0) (fun z5 σ F1 A2 H hS3 hA4 pz5_0 pz5_1 => ⟨rretB rfl pz5_0, ?_⟩))
  refine w_ifne (t := 9) rfl rfl (show inr (z5) from q_138 pz5_0) (fun b6 => ?_) (fun b6 => ?_)
  · refine Ew_of (pcₚ := 10) (fun _ => x_aload_n rfl rfl) ?_
    refine w_gT H (o := 0) (t := 2) rfl (H.perm 0 rfl) rfl rfl rfl rfl rfl rfl ?_
    refine Ew_of (pcₚ := 15) (fun _ => x_ldc (z := 65536) rfl (by decide)) ?_
    refine Ew_of (pcₚ := 16) (fun _ => x_iload_n rfl rfl) ?_
    refine w_imul rfl ?_
    refine w_inv H (o := 2) rfl rfl rfl (H.perm 2 rfl) rfl rfl (by rfl) (M304b H (show inr ((65536 * a1)) by omega) (fun σ F7 A8 H hS9 hA10 y12 ey13 pz11_0 => ⟨rfl, ?_⟩))
    have r14 : (-2147483648 : Int) ≤ y12 ∧ y12 ≤ 2147483647 := rngE (show (-2147483648 : Int) ≤ F7 2 1 ∧ F7 2 1 ≤ 2147483647 from H.frng 2 1) (show F7 2 1 = y12 from (ey13))
    refine Ew_of (pcₚ := 21) (fun _ => x_aload_n rfl rfl) ?_
    refine Ew_of (pcₚ := 22) (fun _ => x_iload_n rfl rfl) ?_
    refine Ew_of (pcₚ := 23) (fun _ => x_iload_n rfl rfl) ?_
    refine Ew_of (pcₚ := 24) (fun _ => x_iload_n rfl rfl) ?_
    refine w_inv H (o := 0) rfl rfl rfl (H.perm 0 rfl) rfl rfl (by rfl) (M62p H (w11) ((funext (hA10 11 rfl)).trans ((funext (hA4 11 rfl)).trans (ew11))) (show inr (a1) from h0) (show inr (a2) from h1) (show inr (a3) from h2) (show 0 ≤ (a1) ∧ (a1) ≤ 3 by omega) (fun z19 σ F15 A16 H hS17 hA18 pz19_0 pz19_1 => ⟨rretB rfl pz19_0, ?_⟩))
    refine w_ifeq (t := 44) rfl rfl (show inr (z19) from q_138 pz19_0) (fun b20 => ?_) (fun b20 => ?_)
    · refine Ew_of (pcₚ := 45) (fun _ => x_aload_n rfl rfl) ?_
      refine w_gT H (o := 0) (t := 2) rfl (H.perm 0 rfl) rfl rfl rfl rfl rfl rfl ?_
      refine Ew_of (pcₚ := 49) (fun _ => x_iconst rfl) ?_
      refine Ew_of (pcₚ := 50) (fun _ => x_iconst rfl) ?_
      refine Ew_of (pcₚ := 52) (fun _ => x_iload rfl rfl) ?_
      refine w_inv H (o := 2) rfl rfl rfl (H.perm 2 rfl) rfl rfl (by rfl) (M309 H (y12) (((hS17 2 1 rfl).trans (ey13))) (w10) ((funext (hA18 10 rfl)).trans ((funext (hA10 10 rfl)).trans ((funext (hA4 10 rfl)).trans (ew10)))) (show inr (0) from q_2) (show inr (0) from q_2) (show inr (a4) from h3) (show 0 ≤ (y12) ∧ (y12) ≤ 196608 by omega) (show 0 ≤ (0) ∧ (0) ≤ (0) ∧ (0) ≤ 65536 from q_2299) (fun z25 σ F21 A22 H hS23 hA24 pz25_0 pz25_1 => ⟨rfl, ?_⟩))
      have : ((0 ≤ (a1) ∧ (a1) ≤ 3) ∧ ((z25) : Int) = NSL (prL (rwR ((w10)) ((w11)) ((a1))) ((a2)) ((a3))) ((a4)) ∨ ¬ (0 ≤ (a1) ∧ (a1) ≤ 3) ∧ ((z25) : Int) = 0) := by first | exact .inl ⟨by omega, (pzMISS_1).trans (by rw [NSM_L (b := (a3)) (by omega) (by omega), pr_sc (f := sh ((w10)) (65536 * (a1))) (n := ((w11)) ((a1))) (L := rwR ((w10)) ((w11)) ((a1))) rfl (by omega), shf_sh, show (y12) = 65536 * (a1) by omega])⟩ | exact .inl ⟨by omega, (pz25_1).trans (by rw [NSM_L (b := 0) (by omega) (by omega), pr_nil (f := sh ((w10)) (65536 * (a1))) (n := ((w11)) ((a1))) (L := rwR ((w10)) ((w11)) ((a1))) rfl (hSz ((a1))).1 (by omega), sc_nil (by omega)])⟩
      exact w_ireturn rfl (k (z25) σ _ _ H (SF_trans (SF_trans (SF_trans (SF_trans (SF_refl) hS3 (any_sub rfl)) hS9 (any_sub rfl)) hS17 (any_sub rfl)) hS23 (any_sub rfl)) (SA_trans (SA_trans (SA_trans (SA_trans (SA_refl) hA4 (any_subA rfl)) hA10 (any_subA rfl)) hA18 (any_subA rfl)) hA24 (any_subA rfl)) (show inr (z25) from pz25_0) (show ((0 ≤ a1 ∧ a1 ≤ 3) ∧ ((z25) : Int) = NSL (prL (rwR ((w10)) ((w11)) (a1)) (a2) (a3)) (a4) ∨ ¬ (0 ≤ a1 ∧ a1 ≤ 3) ∧ ((z25) : Int) = 0) by assumption))
    · refine Ew_of (pcₚ := 31) (fun _ => x_aload_n rfl rfl) ?_
      refine w_gT H (o := 0) (t := 2) rfl (H.perm 0 rfl) rfl rfl rfl rfl rfl rfl ?_
      refine Ew_of (pcₚ := 35) (fun _ => x_iload_n rfl rfl) ?_
      refine Ew_of (pcₚ := 36) (fun _ => x_iload_n rfl rfl) ?_
      refine Ew_of (pcₚ := 38) (fun _ => x_iload rfl rfl) ?_
      refine w_inv H (o := 2) rfl rfl rfl (H.perm 2 rfl) rfl rfl (by rfl) (M309 H (y12) (((hS17 2 1 rfl).trans (ey13))) (w10) ((funext (hA18 10 rfl)).trans ((funext (hA10 10 rfl)).trans ((funext (hA4 10 rfl)).trans (ew10)))) (show inr (a2) from h1) (show inr (a3) from h2) (show inr (a4) from h3) (show 0 ≤ (y12) ∧ (y12) ≤ 196608 by omega) (show 0 ≤ (a2) ∧ (a2) ≤ (a3) ∧ (a3) ≤ 65536 by omega) (fun z30 σ F26 A27 H hS28 hA29 pz30_0 pz30_1 => ⟨rfl, ?_⟩))
      refine Ew_of (pcₚ := 55) (fun _ => x_goto rfl rfl) ?_
      have : ((0 ≤ (a1) ∧ (a1) ≤ 3) ∧ ((z30) : Int) = NSL (prL (rwR ((w10)) ((w11)) ((a1))) ((a2)) ((a3))) ((a4)) ∨ ¬ (0 ≤ (a1) ∧ (a1) ≤ 3) ∧ ((z30) : Int) = 0) := by first | exact .inl ⟨by omega, (pz30_1).trans (by rw [NSM_L (b := (a3)) (by omega) (by omega), pr_sc (f := sh ((w10)) (65536 * (a1))) (n := ((w11)) ((a1))) (L := rwR ((w10)) ((w11)) ((a1))) rfl (by omega), shf_sh, show (y12) = 65536 * (a1) by omega])⟩ | exact .inl ⟨by omega, (pz25_1).trans (by rw [NSM_L (b := 0) (by omega) (by omega), pr_nil (f := sh ((w10)) (65536 * (a1))) (n := ((w11)) ((a1))) (L := rwR ((w10)) ((w11)) ((a1))) rfl (hSz ((a1))).1 (by omega), sc_nil (by omega)])⟩
      exact w_ireturn rfl (k (z30) σ _ _ H (SF_trans (SF_trans (SF_trans (SF_trans (SF_refl) hS3 (any_sub rfl)) hS9 (any_sub rfl)) hS17 (any_sub rfl)) hS28 (any_sub rfl)) (SA_trans (SA_trans (SA_trans (SA_trans (SA_refl) hA4 (any_subA rfl)) hA10 (any_subA rfl)) hA18 (any_subA rfl)) hA29 (any_subA rfl)) (show inr (z30) from pz30_0) (show ((0 ≤ a1 ∧ a1 ≤ 3) ∧ ((z30) : Int) = NSL (prL (rwR ((w10)) ((w11)) (a1)) (a2) (a3)) (a4) ∨ ¬ (0 ≤ a1 ∧ a1 ≤ 3) ∧ ((z30) : Int) = 0) by assumption))
  · refine Ew_of (pcₚ := 8) (fun _ => x_iconst rfl) ?_
    have : ((0 ≤ (a1) ∧ (a1) ≤ 3) ∧ (0 : Int) = NSL (prL (rwR ((w10)) ((w11)) ((a1))) ((a2)) ((a3))) ((a4)) ∨ ¬ (0 ≤ (a1) ∧ (a1) ≤ 3) ∧ (0 : Int) = 0) := .inr ⟨by omega, rfl⟩
    exact w_ireturn rfl (k (0) σ _ _ H (SF_trans (SF_refl) hS3 (any_sub rfl)) (SA_trans (SA_refl) hA4 (any_subA rfl)) (show inr (0) from q_2) (show ((0 ≤ a1 ∧ a1 ≤ 3) ∧ ((0) : Int) = NSL (prL (rwR ((w10)) ((w11)) (a1)) (a2) (a3)) (a4) ∨ ¬ (0 ≤ a1 ∧ a1 ≤ 3) ∧ ((0) : Int) = 0) by assumption))

theorem M72p {σ0 σ : rS} {D N : Nat → Nat} {F : hF} {A : hA} {d c s : Nat} {Q : wQ} (H : HS σ0 σ D N F A) {a1 a2 a3 a4 : Int} (w10 : Int → Int) (ew10 : A 10 = w10) (w11 : Int → Int) (ew11 : A 11 = w11) (h0 : inr (a1)) (h1 : inr (a2)) (h2 : inr (a3)) (h3 : inrJ (a4)) (k : ∀ (z : Int) σ Fₚ Aₚ, HS σ0 σ D N Fₚ Aₚ → SF [(2, 1)] F Fₚ → SA [] A Aₚ → (inrJ (z)) → (((0 ≤ (a1) ∧ (a1) ≤ 3) ∧ ((z) : Int) = WDX (prL (rwR ((w10)) ((w11)) ((a1))) ((a2)) ((a3))) ((a4)) ∨ ¬ (0 ≤ (a1) ∧ (a1) ≤ 3) ∧ ((z) : Int) = 0)) → Q (some (J z)) σ c s) : Ew 72 (d + 5) 0 (rargs 0 [.ref (D 0), I a1, I a2, I a3, J a4]) [] σ c s Q := by
  have hSz : ∀ i, (0 : Int) ≤ (w11) i ∧ (w11) i ≤ 65536 := fun i => by have h1 : (0 : Int) ≤ A 11 i ∧ A 11 i ≤ 65536 := H.arng 11 i; rw [show A 11 = w11 from ew11] at h1; exact h1
  have hl0 := rwR_len (ro := (w10)) (si := (w11)) (r := (a1)) (hSz ((a1))).1
  have hsa := hSz ((a1))
  refine Ew_of (pcₚ := 1) (fun _ => x_iload_n rfl rfl) ?_
  refine w_stat24 rfl rfl (by rfl) (M56p H (show inr (a1) from h0) (fun z5 σ F1 A2 H hS3 hA4 pz5_0 pz5_1 => ⟨rretB rfl pz5_0, ?_⟩))
  refine w_ifne (t := 9) rfl rfl (show inr (z5) from q_138 pz5_0) (fun b6 => ?_) (fun b6 => ?_)
  · refine Ew_of (pcₚ := 10) (fun _ => x_aload_n rfl rfl) ?_
    refine w_gT H (o := 0) (t := 2) rfl (H.perm 0 rfl) rfl rfl rfl rfl rfl rfl ?_
    refine Ew_of (pcₚ := 15) (fun _ => x_ldc (z := 65536) rfl (by decide)) ?_
    refine Ew_of (pcₚ := 16) (fun _ => x_iload_n rfl rfl) ?_
    refine w_imul rfl ?_
    refine w_inv H (o := 2) rfl rfl rfl (H.perm 2 rfl) rfl rfl (by rfl) (M304b H (show inr ((65536 * a1)) by omega) (fun σ F7 A8 H hS9 hA10 y12 ey13 pz11_0 => ⟨rfl, ?_⟩))
    have r14 : (-2147483648 : Int) ≤ y12 ∧ y12 ≤ 2147483647 := rngE (show (-2147483648 : Int) ≤ F7 2 1 ∧ F7 2 1 ≤ 2147483647 from H.frng 2 1) (show F7 2 1 = y12 from (ey13))
    refine Ew_of (pcₚ := 21) (fun _ => x_aload_n rfl rfl) ?_
    refine Ew_of (pcₚ := 22) (fun _ => x_iload_n rfl rfl) ?_
    refine Ew_of (pcₚ := 23) (fun _ => x_iload_n rfl rfl) ?_
    refine Ew_of (pcₚ := 24) (fun _ => x_iload_n rfl rfl) ?_
    refine w_inv H (o := 0) rfl rfl rfl (H.perm 0 rfl) rfl rfl (by rfl) (M62p H (w11) ((funext (hA10 11 rfl)).trans ((funext (hA4 11 rfl)).trans (ew11))) (show inr (a1) from h0) (show inr (a2) from h1) (show inr (a3) from h2) (show 0 ≤ (a1) ∧ (a1) ≤ 3 by omega) (fun z19 σ F15 A16 H hS17 hA18 pz19_0 pz19_1 => ⟨rretB rfl pz19_0, ?_⟩))
    refine w_ifeq (t := 44) rfl rfl (show inr (z19) from q_138 pz19_0) (fun b20 => ?_) (fun b20 => ?_)
    · refine Ew_of (pcₚ := 45) (fun _ => x_aload_n rfl rfl) ?_
      refine w_gT H (o := 0) (t := 2) rfl (H.perm 0 rfl) rfl rfl rfl rfl rfl rfl ?_
      refine Ew_of (pcₚ := 49) (fun _ => x_iconst rfl) ?_
      refine Ew_of (pcₚ := 50) (fun _ => x_iconst rfl) ?_
      refine Ew_of (pcₚ := 52) (fun _ => x_lload rfl rfl) ?_
      refine w_inv H (o := 2) rfl rfl rfl (H.perm 2 rfl) rfl rfl (by rfl) (M314 H (y12) (((hS17 2 1 rfl).trans (ey13))) (w10) ((funext (hA18 10 rfl)).trans ((funext (hA10 10 rfl)).trans ((funext (hA4 10 rfl)).trans (ew10)))) (show inr (0) from q_2) (show inr (0) from q_2) (show inrJ (a4) from h3) (show 0 ≤ (y12) ∧ (y12) ≤ 196608 by omega) (show 0 ≤ (0) ∧ (0) ≤ (0) ∧ (0) ≤ 65536 from q_2299) (fun z25 σ F21 A22 H hS23 hA24 pz25_0 pz25_1 => ⟨rfl, ?_⟩))
      have : ((0 ≤ (a1) ∧ (a1) ≤ 3) ∧ ((z25) : Int) = WDX (prL (rwR ((w10)) ((w11)) ((a1))) ((a2)) ((a3))) ((a4)) ∨ ¬ (0 ≤ (a1) ∧ (a1) ≤ 3) ∧ ((z25) : Int) = 0) := by first | exact .inl ⟨by omega, (pzMISS_1).trans (by rw [WDS_X (b := (a3)) (by omega) (by omega), pr_sc (f := sh ((w10)) (65536 * (a1))) (n := ((w11)) ((a1))) (L := rwR ((w10)) ((w11)) ((a1))) rfl (by omega), shf_sh, show (y12) = 65536 * (a1) by omega])⟩ | exact .inl ⟨by omega, (pz25_1).trans (by rw [WDS_X (b := 0) (by omega) (by omega), pr_nil (f := sh ((w10)) (65536 * (a1))) (n := ((w11)) ((a1))) (L := rwR ((w10)) ((w11)) ((a1))) rfl (hSz ((a1))).1 (by omega), sc_nil (by omega)])⟩
      exact w_lreturn rfl (k (z25) σ _ _ H (SF_trans (SF_trans (SF_trans (SF_trans (SF_refl) hS3 (any_sub rfl)) hS9 (any_sub rfl)) hS17 (any_sub rfl)) hS23 (any_sub rfl)) (SA_trans (SA_trans (SA_trans (SA_trans (SA_refl) hA4 (any_subA rfl)) hA10 (any_subA rfl)) hA18 (any_subA rfl)) hA24 (any_subA rfl)) (show inrJ (z25) from pz25_0) (show ((0 ≤ a1 ∧ a1 ≤ 3) ∧ ((z25) : Int) = WDX (prL (rwR ((w10)) ((w11)) (a1)) (a2) (a3)) (a4) ∨ ¬ (0 ≤ a1 ∧ a1 ≤ 3) ∧ ((z25) : Int) = 0) by assumption))
    · refine Ew_of (pcₚ := 31) (fun _ => x_aload_n rfl rfl) ?_
      refine w_gT H (o := 0) (t := 2) rfl (H.perm 0 rfl) rfl rfl rfl rfl rfl rfl ?_
      refine Ew_of (pcₚ := 35) (fun _ => x_iload_n rfl rfl) ?_
      refine Ew_of (pcₚ := 36) (fun _ => x_iload_n rfl rfl) ?_
      refine Ew_of (pcₚ := 38) (fun _ => x_lload rfl rfl) ?_
      refine w_inv H (o := 2) rfl rfl rfl (H.perm 2 rfl) rfl rfl (by rfl) (M314 H (y12) (((hS17 2 1 rfl).trans (ey13))) (w10) ((funext (hA18 10 rfl)).trans ((funext (hA10 10 rfl)).trans ((funext (hA4 10 rfl)).trans (ew10)))) (show inr (a2) from h1) (show inr (a3) from h2) (show inrJ (a4) from h3) (show 0 ≤ (y12) ∧ (y12) ≤ 196608 by omega) (show 0 ≤ (a2) ∧ (a2) ≤ (a3) ∧ (a3) ≤ 65536 by omega) (fun z30 σ F26 A27 H hS28 hA29 pz30_0 pz30_1 => ⟨rfl, ?_⟩))
      refine Ew_of (pcₚ := 55) (fun _ => x_goto rfl rfl) ?_
      have : ((0 ≤ (a1) ∧ (a1) ≤ 3) ∧ ((z30) : Int) = WDX (prL (rwR ((w10)) ((w11)) ((a1))) ((a2)) ((a3))) ((a4)) ∨ ¬ (0 ≤ (a1) ∧ (a1) ≤ 3) ∧ ((z30) : Int) = 0) := by first | exact .inl ⟨by omega, (pz30_1).trans (by rw [WDS_X (b := (a3)) (by omega) (by omega), pr_sc (f := sh ((w10)) (65536 * (a1))) (n := ((w11)) ((a1))) (L := rwR ((w10)) ((w11)) ((a1))) rfl (by omega), shf_sh, show (y12) = 65536 * (a1) by omega])⟩ | exact .inl ⟨by omega, (pz25_1).trans (by rw [WDS_X (b := 0) (by omega) (by omega), pr_nil (f := sh ((w10)) (65536 * (a1))) (n := ((w11)) ((a1))) (L := rwR ((w10)) ((w11)) ((a1))) rfl (hSz ((a1))).1 (by omega), sc_nil (by omega)])⟩
      exact w_lreturn rfl (k (z30) σ _ _ H (SF_trans (SF_trans (SF_trans (SF_trans (SF_refl) hS3 (any_sub rfl)) hS9 (any_sub rfl)) hS17 (any_sub rfl)) hS28 (any_sub rfl)) (SA_trans (SA_trans (SA_trans (SA_trans (SA_refl) hA4 (any_subA rfl)) hA10 (any_subA rfl)) hA18 (any_subA rfl)) hA29 (any_subA rfl)) (show inrJ (z30) from pz30_0) (show ((0 ≤ a1 ∧ a1 ≤ 3) ∧ ((z30) : Int) = WDX (prL (rwR ((w10)) ((w11)) (a1)) (a2) (a3)) (a4) ∨ ¬ (0 ≤ a1 ∧ a1 ≤ 3) ∧ ((z30) : Int) = 0) by assumption))
  · refine Ew_of (pcₚ := 8) (fun _ => x_lconst (z := 0) rfl (by decide)) ?_
    have : ((0 ≤ (a1) ∧ (a1) ≤ 3) ∧ (0 : Int) = WDX (prL (rwR ((w10)) ((w11)) ((a1))) ((a2)) ((a3))) ((a4)) ∨ ¬ (0 ≤ (a1) ∧ (a1) ≤ 3) ∧ (0 : Int) = 0) := .inr ⟨by omega, rfl⟩
    exact w_lreturn rfl (k (0) σ _ _ H (SF_trans (SF_refl) hS3 (any_sub rfl)) (SA_trans (SA_refl) hA4 (any_subA rfl)) (show inrJ (0) from q_340) (show ((0 ≤ a1 ∧ a1 ≤ 3) ∧ ((0) : Int) = WDX (prL (rwR ((w10)) ((w11)) (a1)) (a2) (a3)) (a4) ∨ ¬ (0 ≤ a1 ∧ a1 ≤ 3) ∧ ((0) : Int) = 0) by assumption))

theorem M354p {σ0 σ : rS} {D N : Nat → Nat} {F : hF} {A : hA} {d c s : Nat} {Q : wQ} (H : HS σ0 σ D N F A)  (u1_1 : Int) (eu1_1 : F 1 1 = u1_1) (w14 : Int → Int) (ew14 : A 14 = w14) (k : ∀ σ Fₚ Aₚ, HS σ0 σ D N Fₚ Aₚ → SF [(3, 2)] F Fₚ → SA [16] A Aₚ → ∀ y3_2 : Int, Fₚ 3 2 = y3_2 → ∀ v16 : Int → Int, Aₚ 16 = v16 → ((y3_2) = (u1_1)) → (sc ((v16)) 0 ((y3_2)) = sc ((w14)) 0 ((u1_1))) → Q none σ c s) : Ew 354 (d + 0) 0 (rargs 0 [.ref (D 3)]) [] σ c s Q := by
  have r1 : (0 : Int) ≤ u1_1 ∧ u1_1 ≤ 65536 := rngE (show (0 : Int) ≤ F 1 1 ∧ F 1 1 ≤ 65536 from H.frng 1 1) (show F 1 1 = u1_1 from (eu1_1))
  have hIn : ∀ i, (0 : Int) ≤ (w14) i ∧ (w14) i ≤ 255 := fun i => by have h1 : (0 : Int) ≤ A 14 i ∧ A 14 i ≤ 255 := H.arng 14 i; rw [show A 14 = w14 from ew14] at h1; exact h1
  refine Ew_of (pcₚ := 1) (fun _ => x_iconst rfl) ?_
  refine Ew_of (pcₚ := 2) (fun _ => x_istore_n rfl) ?_
  have : ∀ k, 0 ≤ k → k < 0 → ((A 16)) k = ((w14)) k := fun k a b => absurd b (by omega)
  suffices hl2 : ∀ (m : Nat), ∀ (ls : rO) (σ : rS) (F_2 : hF) (A_2 : hA) (x2_1 : Int), rlook ls 0 = some (.ref (D 3)) → rlook ls 1 = some (I (x2_1)) → HS σ0 σ D N F_2 A_2 → SF [] F F_2 → SA [16] A A_2 → ∀ w2_16 : Int → Int, A_2 16 = w2_16 → (inr (x2_1)) → (0 ≤ (x2_1) ∧ (x2_1) ≤ (u1_1)) → (∀ k, 0 ≤ k → k < (x2_1) → ((w2_16)) k = ((w14)) k) → (65536 - (x2_1)).toNat = m → Ew 354 (d + 0) 2 ls [] σ c s Q from
    hl2 _ _ σ _ _ (0) (rk_o (rfl) rfl rfl) (rk_s) H (SF_refl) (SA_refl)  (A 16) (rfl) (show inr (0) from q_2) (show 0 ≤ (0) ∧ (0) ≤ (u1_1) from q_1172 r1) (show ∀ k, 0 ≤ k → k < (0) → ((A 16)) k = ((w14)) k by assumption) rfl
  as_aux_lemma =>
  intro m
  induction m using Nat.strongRecOn with
  | _ m ih2 =>
    intro ls σ F_2 A_2 x2_1 l2_0 l2_1 H hS_2 hA_2  w2_16 ew2_16 j2_0 j2_1 j2_2 hm2
    have j2_a : ∀ k, 0 ≤ k → k < (x2_1) → ((w2_16)) k = ((w14)) k := by assumption
    obtain ⟨q1, hq1⟩ : ∃ q : Int, q = (x2_1) := ⟨_, rfl⟩
    refine Ew_of (pcₚ := 3) (fun _ => x_iload_n rfl l2_1) ?_
    refine Ew_of (pcₚ := 4) (fun _ => x_aload_n rfl l2_0) ?_
    refine w_gT H (o := 3) (t := 1) rfl (H.perm 3 rfl) rfl rfl rfl rfl rfl rfl ?_
    refine w_gI H (o := 1) (w := u1_1) rfl (H.perm 1 rfl) rfl rfl rfl (fun _ => rfl) ((hS_2 1 1 rfl).trans (eu1_1)) ?_
    refine w_icmpge (t := 34) rfl rfl (show inr (x2_1) from j2_0) (show inr (u1_1) from q_286 r1) (fun b2 => ?_) (fun b2 => ?_)
    · refine Ew_of (pcₚ := 35) (fun _ => x_aload_n rfl l2_0) ?_
      refine Ew_of (pcₚ := 36) (fun _ => x_aload_n rfl l2_0) ?_
      refine w_gT H (o := 3) (t := 1) rfl (H.perm 3 rfl) rfl rfl rfl rfl rfl rfl ?_
      refine w_gI H (o := 1) (w := u1_1) rfl (H.perm 1 rfl) rfl rfl rfl (fun _ => rfl) ((hS_2 1 1 rfl).trans (eu1_1)) ?_
      refine w_pI H (o := 3) rfl rfl (H.perm 3 rfl) rfl rfl rfl (fun _ => rfl) rfl (show (0 : Int) ≤ u1_1 ∧ u1_1 ≤ 65536 from r1) (fun σ H => ?_)
      have : sc ((w2_16)) 0 ((u1_1)) = sc ((w14)) 0 ((u1_1)) := by rw [show (u1_1) = (u1_1) by omega]; exact sc_same (fun k a b => j2_a k a (by omega))
      exact w_ret rfl (k σ _ _ H (SF_upd (SF_trans (SF_refl) hS_2 (any_sub rfl)) rfl) (SA_trans (SA_refl) hA_2 (any_subA rfl)) (u1_1) (rfl) (w2_16) (ew2_16) (show (u1_1) = (u1_1) from q_303) (show sc ((w2_16)) 0 ((u1_1)) = sc ((w14)) 0 ((u1_1)) by assumption))
    · refine Ew_of (pcₚ := 14) (fun _ => x_aload_n rfl l2_0) ?_
      refine w_gT H (o := 3) (t := 16) rfl (H.perm 3 rfl) rfl rfl rfl rfl rfl rfl ?_
      refine Ew_of (pcₚ := 18) (fun _ => x_iload_n rfl l2_1) ?_
      refine Ew_of (pcₚ := 19) (fun _ => x_aload_n rfl l2_0) ?_
      refine w_gT H (o := 3) (t := 1) rfl (H.perm 3 rfl) rfl rfl rfl rfl rfl rfl ?_
      refine w_gT H (o := 1) (t := 14) rfl (H.perm 1 rfl) rfl rfl rfl rfl rfl rfl ?_
      refine Ew_of (pcₚ := 26) (fun _ => x_iload_n rfl l2_1) ?_
      refine w_lI H (o := 14) (n := 65536) rfl (H.perm 14 rfl) rfl rfl (H.fix 14 rfl rfl) (show 0 ≤ x2_1 ∧ x2_1 < ((65536 : Nat) : Int) from q_2182 b2 j2_1 r1) (by decide) (fun v3 ev3 qv3 => ?_)
      have qv3 : (0 : Int) ≤ v3 ∧ v3 ≤ 255 := qv3
      have ev3 : (w14) (x2_1) = v3 := (congrFun ((funext (hA_2 14 rfl)).trans (ew14)) (x2_1)).symm.trans ev3
      have hv27 := ev3
      have hvr := hIn ((x2_1))
      rw [hv27] at hvr
      refine w_sI H (o := 16) (n := 65536) rfl (H.perm 16 rfl) rfl rfl (H.fix 16 rfl rfl) (show 0 ≤ x2_1 ∧ x2_1 < ((65536 : Nat) : Int) from q_2182 b2 j2_1 r1) (by decide) (show (0 : Int) ≤ v3 ∧ v3 ≤ 255 from qv3) (fun σ H => ?_)
      refine Ew_of (pcₚ := 31) (fun _ => x_iinc (len := 3) rfl (l2_1)) ?_
      refine Ew_of (pcₚ := 2) (fun _ => x_goto rfl rfl) ?_
      have : ∀ k, 0 ≤ k → k < ((x2_1 + 1)) → ((upd1 (w2_16) (x2_1) (v3))) k = ((w14)) k := fun k x y => by by_cases e : k = q1; (rw [e, hq1, upd1_s]; exact hv27.symm); (rw [upd1_o (by omega)]; exact j2_a k x (by omega))
      exact ih2 _ (msE hm2 q_2915 (q_2916 b2 r1)) _ σ _ _ ((x2_1 + 1)) (rk_o (l2_0) rfl rfl) (rk_s) H (hS_2) (SA_upd (hA_2) rfl)  (upd1 (w2_16) (x2_1) (v3)) (congrArg (fun q => upd1 q (x2_1) (v3)) (ew2_16)) (show inr ((x2_1 + 1)) from q_2183 b2 j2_1 r1) (show 0 ≤ ((x2_1 + 1)) ∧ ((x2_1 + 1)) ≤ (u1_1) from q_1395 b2 j2_1) (show ∀ k, 0 ≤ k → k < ((x2_1 + 1)) → ((upd1 (w2_16) (x2_1) (v3))) k = ((w14)) k by assumption) rfl

theorem M76p {σ0 σ : rS} {D N : Nat → Nat} {F : hF} {A : hA} {d c s : Nat} {Q : wQ} (H : HS σ0 σ D N F A) {a1 : Int} (u3_2 : Int) (eu3_2 : F 3 2 = u3_2) (w10 : Int → Int) (ew10 : A 10 = w10) (w11 : Int → Int) (ew11 : A 11 = w11) (w16 : Int → Int) (ew16 : A 16 = w16) (h0 : inr (a1)) (k : ∀ (z : Int) σ Fₚ Aₚ, HS σ0 σ D N Fₚ Aₚ → SF [(1, 1), (3, 2)] F Fₚ → SA [14, 16] A Aₚ → ∀ y3_2 : Int, Fₚ 3 2 = y3_2 → ∀ v16 : Int → Int, Aₚ 16 = v16 → ((z) = 0 ∨ (z) = 1) → (((0 ≤ (a1) ∧ (a1) ≤ 3) ∧ ((z) : Int) = 1 ∧ sc ((v16)) 0 ((y3_2)) = rwR ((w10)) ((w11)) ((a1)) ∨ ¬ (0 ≤ (a1) ∧ (a1) ≤ 3) ∧ ((z) : Int) = 0 ∧ sc ((v16)) 0 ((y3_2)) = sc ((w16)) 0 ((u3_2)))) → Q (some (I z)) σ c s) : Ew 76 (d + 1) 0 (rargs 0 [.ref (D 0), I a1]) [] σ c s Q := by
  have r1 : (0 : Int) ≤ u3_2 ∧ u3_2 ≤ 65536 := rngE (show (0 : Int) ≤ F 3 2 ∧ F 3 2 ≤ 65536 from H.frng 3 2) (show F 3 2 = u3_2 from (eu3_2))
  refine Ew_of (pcₚ := 1) (fun _ => x_iload_n rfl rfl) ?_
  refine w_stat24 rfl rfl (by rfl) (M56p H (show inr (a1) from h0) (fun z6 σ F2 A3 H hS4 hA5 pz6_0 pz6_1 => ⟨rretB rfl pz6_0, ?_⟩))
  refine w_ifne (t := 9) rfl rfl (show inr (z6) from q_138 pz6_0) (fun b7 => ?_) (fun b7 => ?_)
  · refine Ew_of (pcₚ := 10) (fun _ => x_aload_n rfl rfl) ?_
    refine Ew_of (pcₚ := 11) (fun _ => x_iload_n rfl rfl) ?_
    refine w_inv H (o := 0) rfl rfl rfl (H.perm 0 rfl) rfl rfl (by rfl) (M74p H (w10) ((funext (hA5 10 rfl)).trans (ew10)) (w11) ((funext (hA5 11 rfl)).trans (ew11)) (show inr (a1) from h0) (show 0 ≤ (a1) ∧ (a1) ≤ 3 by omega) (fun σ F8 A9 H hS10 hA11 y13 ey14 wq15 ewq16 pz12_0 pz12_1 => ⟨rfl, ?_⟩))
    have r17 : (0 : Int) ≤ y13 ∧ y13 ≤ 65536 := rngE (show (0 : Int) ≤ F8 1 1 ∧ F8 1 1 ≤ 65536 from H.frng 1 1) (show F8 1 1 = y13 from (ey14))
    refine Ew_of (pcₚ := 15) (fun _ => x_aload_n rfl rfl) ?_
    refine w_gT H (o := 0) (t := 3) rfl (H.perm 0 rfl) rfl rfl rfl rfl rfl rfl ?_
    refine w_inv H (o := 3) rfl rfl rfl (H.perm 3 rfl) rfl rfl (by rfl) (M354p H (y13) ((ey14)) (wq15) (ewq16)  (fun σ F18 A19 H hS20 hA21 y23 ey24 wq25 ewq26 pz22_0 pz22_1 => ⟨rfl, ?_⟩))
    have r27 : (0 : Int) ≤ y23 ∧ y23 ≤ 65536 := rngE (show (0 : Int) ≤ F18 3 2 ∧ F18 3 2 ≤ 65536 from H.frng 3 2) (show F18 3 2 = y23 from (ey24))
    refine Ew_of (pcₚ := 22) (fun _ => x_iconst rfl) ?_
    have : ((0 ≤ (a1) ∧ (a1) ≤ 3) ∧ (1 : Int) = 1 ∧ sc ((wq25)) 0 ((y23)) = rwR ((w10)) ((w11)) ((a1)) ∨ ¬ (0 ≤ (a1) ∧ (a1) ≤ 3) ∧ (1 : Int) = 0 ∧ sc ((wq25)) 0 ((y23)) = sc ((w16)) 0 ((u3_2))) := .inl ⟨by omega, rfl, pz22_1.trans pz12_1⟩
    exact w_ireturn rfl (k (1) σ _ _ H (SF_trans (SF_trans (SF_trans (SF_refl) hS4 (any_sub rfl)) hS10 (any_sub rfl)) hS20 (any_sub rfl)) (SA_trans (SA_trans (SA_trans (SA_refl) hA5 (any_subA rfl)) hA11 (any_subA rfl)) hA21 (any_subA rfl)) (y23) ((ey24)) (wq25) (ewq26) (show (1) = 0 ∨ (1) = 1 by first | exact q_49 | omega) (show ((0 ≤ a1 ∧ a1 ≤ 3) ∧ ((1) : Int) = 1 ∧ sc ((wq25)) 0 ((y23)) = rwR ((w10)) ((w11)) (a1) ∨ ¬ (0 ≤ a1 ∧ a1 ≤ 3) ∧ ((1) : Int) = 0 ∧ sc ((wq25)) 0 ((y23)) = sc ((w16)) 0 ((u3_2))) by assumption))
  · refine Ew_of (pcₚ := 8) (fun _ => x_iconst rfl) ?_
    have : ((0 ≤ (a1) ∧ (a1) ≤ 3) ∧ (0 : Int) = 1 ∧ sc ((w16)) 0 ((u3_2)) = rwR ((w10)) ((w11)) ((a1)) ∨ ¬ (0 ≤ (a1) ∧ (a1) ≤ 3) ∧ (0 : Int) = 0 ∧ sc ((w16)) 0 ((u3_2)) = sc ((w16)) 0 ((u3_2))) := .inr ⟨by omega, rfl, rfl⟩
    exact w_ireturn rfl (k (0) σ _ _ H (SF_trans (SF_refl) hS4 (any_sub rfl)) (SA_trans (SA_refl) hA5 (any_subA rfl)) (u3_2) (((hS4 3 2 rfl).trans (eu3_2))) (w16) ((funext (hA5 16 rfl)).trans (ew16)) (show (0) = 0 ∨ (0) = 1 by first | exact q_45 | omega) (show ((0 ≤ a1 ∧ a1 ≤ 3) ∧ ((0) : Int) = 1 ∧ sc ((w16)) 0 ((u3_2)) = rwR ((w10)) ((w11)) (a1) ∨ ¬ (0 ≤ a1 ∧ a1 ≤ 3) ∧ ((0) : Int) = 0 ∧ sc ((w16)) 0 ((u3_2)) = sc ((w16)) 0 ((u3_2))) by assumption))


end
