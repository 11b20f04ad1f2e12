/-- Reader.lastOf -/
theorem M276 {σ0 σ : rS} {D N : Nat → Nat} {F : hF} {A : hA} {d c s : Nat} {Q : wQ} (H : HS σ0 σ D N F A) {a1 : Int} (h0 : inr (a1)) (h1 : 0 ≤ (a1) ∧ (a1) ≤ 2) (k : ∀ (z : Int) σ F' A', HS σ0 σ D N F' A' → SF [] F F' → SA [] A A' → (inr (z)) → ((z) = lastOf ((a1))) → (0 ≤ (z) ∧ (z) ≤ 52) → Q (some (I z)) σ c s) : Ew 276 (d + 0) 0 (rargs 0 [I a1]) [] σ c s Q := by
  have := lastOf_eq ((a1))
  refine Ew_of (pc' := 1) (fun _ => x_iload_n rfl rfl) ?_
  refine w_ifne (t := 9) rfl rfl (show inr (a1) by omega) (fun b1 => ?_) (fun b1 => ?_)
  · refine Ew_of (pc' := 10) (fun _ => x_iload_n rfl rfl) ?_
    refine Ew_of (pc' := 11) (fun _ => x_iconst rfl) ?_
    refine w_icmpne (t := 19) rfl rfl (show inr (a1) by omega) (show inr (1) by omega) (fun b2 => ?_) (fun b2 => ?_)
    · refine Ew_of (pc' := 21) (fun _ => x_bipush (z := 52) rfl (by decide)) ?_
      exact w_ireturn rfl (k (52) σ _ _ H (SF_refl) (SA_refl) (show inr (52) by omega) (show (52) = lastOf (a1) by omega) (show 0 ≤ (52) ∧ (52) ≤ 52 by omega))
    · refine Ew_of (pc' := 16) (fun _ => x_bipush (z := 31) rfl (by decide)) ?_
      refine Ew_of (pc' := 21) (fun _ => x_goto rfl rfl) ?_
      exact w_ireturn rfl (k (31) σ _ _ H (SF_refl) (SA_refl) (show inr (31) by omega) (show (31) = lastOf (a1) by omega) (show 0 ≤ (31) ∧ (31) ≤ 52 by omega))
  · refine Ew_of (pc' := 6) (fun _ => x_bipush (z := 35) rfl (by decide)) ?_
    refine Ew_of (pc' := 21) (fun _ => x_goto rfl rfl) ?_
    exact w_ireturn rfl (k (35) σ _ _ H (SF_refl) (SA_refl) (show inr (35) by omega) (show (35) = lastOf (a1) by omega) (show 0 ≤ (35) ∧ (35) ≤ 52 by omega))
/-- Reader.wrong -/
theorem M282 {σ0 σ : rS} {D N : Nat → Nat} {F : hF} {A : hA} {d c s : Nat} {Q : wQ} (H : HS σ0 σ D N F A) {a1 a2 : Int} (h0 : inr (a1)) (h1 : inr (a2)) (h2 : 0 ≤ (a1) ∧ (a1) ≤ 20) (h3 : 0 ≤ (a2) ∧ (a2) ≤ 65536) (k : ∀ (z : Int) σ F' A', HS σ0 σ D N F' A' → SF [(5, 30), (5, 31)] F F' → SA [] A A' → ((z) = 0 ∨ (z) = 1) → ((z) = 0) → Q (some (I z)) σ c s) : Ew 282 (d + 0) 0 (rargs 0 [.ref (D 5), I a1, I a2]) [] σ c s Q := by
  refine Ew_of (pc' := 1) (fun _ => x_aload_n rfl rfl) ?_
  refine Ew_of (pc' := 2) (fun _ => x_iload_n rfl rfl) ?_
  refine w_pI H (o := 5) rfl rfl (H.perm 5 rfl) rfl rfl rfl (fun _ => rfl) rfl (show (0 : Int) ≤ a1 ∧ a1 ≤ 20 by omega) (fun σ H => ?_)
  refine Ew_of (pc' := 6) (fun _ => x_aload_n rfl rfl) ?_
  refine Ew_of (pc' := 7) (fun _ => x_iload_n rfl rfl) ?_
  refine w_pI H (o := 5) rfl rfl (H.perm 5 rfl) rfl rfl rfl (fun _ => rfl) rfl (show (0 : Int) ≤ a2 ∧ a2 ≤ 65536 by omega) (fun σ H => ?_)
  refine Ew_of (pc' := 11) (fun _ => x_iconst rfl) ?_
  exact w_ireturn rfl (k (0) σ _ _ H (SF_upd (SF_upd (SF_refl) rfl) rfl) (SA_refl) (show (0) = 0 ∨ (0) = 1 by omega) (show (0) = 0 by omega))
/-- Reader.has -/
theorem M283 {σ0 σ : rS} {D N : Nat → Nat} {F : hF} {A : hA} {d c s : Nat} {Q : wQ} (H : HS σ0 σ D N F A) {a1 : Int} (u1_1 : Int) (eu1_1 : F 1 1 = u1_1) (u5_25 : Int) (eu5_25 : F 5 25 = u5_25) (h0 : inr (a1)) (h1 : 0 ≤ (a1) ∧ (a1) ≤ 1000000) (k : ∀ (z : Int) σ F' A', HS σ0 σ D N F' A' → SF [(5, 30), (5, 31)] F F' → SA [] A A' → ((z) = 0 ∨ (z) = 1) → ((z) = 1 → (u5_25) + (a1) ≤ (u1_1)) → Q (some (I z)) σ c s) : Ew 283 (d + 1) 0 (rargs 0 [.ref (D 5), I a1]) [] σ c s Q := by
  have r1 : (0 : Int) ≤ u1_1 ∧ u1_1 ≤ 65536 := by have h1 : (0 : Int) ≤ F 1 1 ∧ F 1 1 ≤ 65536 := H.frng 1 1; rw [show F 1 1 = u1_1 from (eu1_1)] at h1; exact h1
  have r2 : (0 : Int) ≤ u5_25 ∧ u5_25 ≤ 65536 := by have h1 : (0 : Int) ≤ F 5 25 ∧ F 5 25 ≤ 65536 := H.frng 5 25; rw [show F 5 25 = u5_25 from (eu5_25)] at h1; exact h1
  refine Ew_of (pc' := 1) (fun _ => x_aload_n rfl rfl) ?_
  refine w_gT H (o := 5) (t := 1) rfl (H.perm 5 rfl) rfl rfl rfl rfl rfl rfl ?_
  refine w_gI H (o := 1) (w := u1_1) rfl (H.perm 1 rfl) rfl rfl rfl (fun _ => rfl) (eu1_1) ?_
  refine Ew_of (pc' := 8) (fun _ => x_aload_n rfl rfl) ?_
  refine w_gI H (o := 5) (w := u5_25) rfl (H.perm 5 rfl) rfl rfl rfl (fun _ => rfl) (eu5_25) ?_
  refine w_isub rfl ?_
  refine Ew_of (pc' := 13) (fun _ => x_iload_n rfl rfl) ?_
  refine w_icmpge (t := 31) rfl rfl (show inr ((u1_1 - u5_25)) by omega) (show inr (a1) by omega) (fun b3 => ?_) (fun b3 => ?_)
  · refine Ew_of (pc' := 32) (fun _ => x_iconst rfl) ?_
    refine Ew_of (pc' := 36) (fun _ => x_goto rfl rfl) ?_
    exact w_ireturn rfl (k (1) σ _ _ H (SF_refl) (SA_refl) (show (1) = 0 ∨ (1) = 1 by omega) (show (1) = 1 → (u5_25) + a1 ≤ (u1_1) by omega))
  · refine Ew_of (pc' := 17) (fun _ => x_aload_n rfl rfl) ?_
    refine Ew_of (pc' := 18) (fun _ => x_iconst rfl) ?_
    refine Ew_of (pc' := 19) (fun _ => x_aload_n rfl rfl) ?_
    refine w_gT H (o := 5) (t := 1) rfl (H.perm 5 rfl) rfl rfl rfl rfl rfl rfl ?_
    refine w_gI H (o := 1) (w := u1_1) rfl (H.perm 1 rfl) rfl rfl rfl (fun _ => rfl) (eu1_1) ?_
    refine w_inv H (o := 5) rfl rfl rfl (H.perm 5 rfl) rfl rfl (by rfl) (M282 H (show inr (1) by omega) (show inr (u1_1) by omega) (show 0 ≤ (1) ∧ (1) ≤ 20 by omega) (show 0 ≤ (u1_1) ∧ (u1_1) ≤ 65536 by omega) (fun z8 σ F4 A5 H hS6 hA7 pz8_0 pz8_1 => ⟨rretB rfl pz8_0, ?_⟩))
    refine w_ifeq (t := 35) rfl rfl (show inr (z8) by omega) (fun b9 => ?_) (fun b9 => ?_)
    · refine Ew_of (pc' := 36) (fun _ => x_iconst rfl) ?_
      exact w_ireturn rfl (k (0) σ _ _ H (SF_trans (SF_refl) hS6 (any_sub rfl)) (SA_trans (SA_refl) hA7 (any_subA rfl)) (show (0) = 0 ∨ (0) = 1 by omega) (show (0) = 1 → (u5_25) + a1 ≤ (u1_1) by omega))
    · refine Ew_of (pc' := 32) (fun _ => x_iconst rfl) ?_
      refine Ew_of (pc' := 36) (fun _ => x_goto rfl rfl) ?_
      exact w_ireturn rfl (k (1) σ _ _ H (SF_trans (SF_refl) hS6 (any_sub rfl)) (SA_trans (SA_refl) hA7 (any_subA rfl)) (show (1) = 0 ∨ (1) = 1 by omega) (show (1) = 1 → (u5_25) + a1 ≤ (u1_1) by omega))
/-- Reader.tell -/
theorem M287 {σ0 σ : rS} {D N : Nat → Nat} {F : hF} {A : hA} {d c s : Nat} {Q : wQ} (H : HS σ0 σ D N F A)  (k : ∀ σ F' A', HS σ0 σ D N F' A' → SF [(5, 36)] F F' → SA [] A A' → Q none σ c s) : Ew 287 (d + 0) 0 (rargs 0 [.ref (D 5)]) [] σ c s Q := by
  refine Ew_of (pc' := 1) (fun _ => x_aload_n rfl rfl) ?_
  refine Ew_of (pc' := 2) (fun _ => x_aload_n rfl rfl) ?_
  have r1 : (-9223372036854775808 : Int) ≤ F 5 35 ∧ F 5 35 ≤ 9223372036854775807 := by have h1 : (-9223372036854775808 : Int) ≤ F 5 35 ∧ F 5 35 ≤ 9223372036854775807 := H.frng 5 35; rw [show F 5 35 = F 5 35 from rfl] at h1; exact h1
  refine w_gJ H (o := 5) (w := F 5 35) rfl (H.perm 5 rfl) rfl rfl rfl (fun _ => rfl) rfl ?_
  refine Ew_of (pc' := 6) (fun _ => x_lconst (z := 0) rfl (by decide)) ?_
  refine w_lcmp rfl (show inrJ (F 5 35) by omega) (show inrJ (0) by omega) (fun z2 gz2 gaz2 gbz2 => ?_)
  refine w_iflt (t := 21) rfl rfl (show inr (z2) by omega) (fun b3 => ?_) (fun b3 => ?_)
  · refine Ew_of (pc' := 24) (fun _ => x_ldc_w (z := 2147483647) rfl (by decide)) ?_
    refine Ew_of (pc' := 32) (fun _ => x_goto rfl rfl) ?_
    refine w_pI H (o := 5) rfl rfl (H.perm 5 rfl) rfl rfl rfl (fun _ => rfl) rfl (show (-2147483648 : Int) ≤ 2147483647 ∧ 2147483647 ≤ 2147483647 by omega) (fun σ H => ?_)
    exact w_ret rfl (k σ _ _ H (SF_upd (SF_refl) rfl) (SA_refl))
  · refine Ew_of (pc' := 11) (fun _ => x_aload_n rfl rfl) ?_
    refine w_gJ H (o := 5) (w := F 5 35) rfl (H.perm 5 rfl) rfl rfl rfl (fun _ => rfl) rfl ?_
    refine Ew_of (pc' := 17) (fun _ => x_ldc2 (z := 2147483647) rfl (by decide)) ?_
    refine w_lcmp rfl (show inrJ (F 5 35) by omega) (show inrJ (2147483647) by omega) (fun z4 gz4 gaz4 gbz4 => ?_)
    refine w_ifle (t := 27) rfl rfl (show inr (z4) by omega) (fun b5 => ?_) (fun b5 => ?_)
    · refine Ew_of (pc' := 28) (fun _ => x_aload_n rfl rfl) ?_
      refine w_gJ H (o := 5) (w := F 5 35) rfl (H.perm 5 rfl) rfl rfl rfl (fun _ => rfl) rfl ?_
      refine w_l2i rfl ?_
      refine w_pI H (o := 5) rfl rfl (H.perm 5 rfl) rfl rfl rfl (fun _ => rfl) rfl (show (-2147483648 : Int) ≤ F 5 35 ∧ F 5 35 ≤ 2147483647 by omega) (fun σ H => ?_)
      exact w_ret rfl (k σ _ _ H (SF_upd (SF_refl) rfl) (SA_refl))
    · refine Ew_of (pc' := 24) (fun _ => x_ldc_w (z := 2147483647) rfl (by decide)) ?_
      refine Ew_of (pc' := 32) (fun _ => x_goto rfl rfl) ?_
      refine w_pI H (o := 5) rfl rfl (H.perm 5 rfl) rfl rfl rfl (fun _ => rfl) rfl (show (-2147483648 : Int) ≤ 2147483647 ∧ 2147483647 ≤ 2147483647 by omega) (fun σ H => ?_)
      exact w_ret rfl (k σ _ _ H (SF_upd (SF_refl) rfl) (SA_refl))
/-- Reader.forget -/
theorem M274 {σ0 σ : rS} {D N : Nat → Nat} {F : hF} {A : hA} {d c s : Nat} {Q : wQ} (H : HS σ0 σ D N F A)  (k : ∀ σ F' A', HS σ0 σ D N F' A' → SF [(5, 2), (5, 3), (5, 4)] F F' → SA [] A A' → ∀ y5_2 : Int, F' 5 2 = y5_2 → ∀ y5_4 : Int, F' 5 4 = y5_4 → ((y5_4) = 0) → ((y5_2) = 0) → Q none σ c s) : Ew 274 (d + 0) 0 (rargs 0 [.ref (D 5)]) [] σ c s Q := by
  refine Ew_of (pc' := 1) (fun _ => x_aload_n rfl rfl) ?_
  refine Ew_of (pc' := 2) (fun _ => x_iconst rfl) ?_
  refine w_pI H (o := 5) rfl rfl (H.perm 5 rfl) rfl rfl rfl (fun _ => rfl) rfl (show (0 : Int) ≤ 0 ∧ 0 ≤ 65536 by omega) (fun σ H => ?_)
  refine Ew_of (pc' := 6) (fun _ => x_aload_n rfl rfl) ?_
  refine Ew_of (pc' := 7) (fun _ => x_iconst rfl) ?_
  refine w_pI H (o := 5) rfl rfl (H.perm 5 rfl) rfl rfl rfl (fun _ => rfl) rfl (show (-2147483648 : Int) ≤ 0 ∧ 0 ≤ 2147483647 by omega) (fun σ H => ?_)
  refine Ew_of (pc' := 11) (fun _ => x_aload_n rfl rfl) ?_
  refine Ew_of (pc' := 12) (fun _ => x_iconst rfl) ?_
  refine w_pI H (o := 5) rfl rfl (H.perm 5 rfl) rfl rfl rfl (fun _ => rfl) (rfit_b (by omega)) (show (0 : Int) ≤ 0 ∧ 0 ≤ 1 by omega) (fun σ H => ?_)
  exact w_ret rfl (k σ _ _ H (SF_upd (SF_upd (SF_upd (SF_refl) rfl) rfl) rfl) (SA_refl) (0) (rfl) (0) (rfl) (show (0) = 0 by omega) (show (0) = 0 by omega))
/-- Reader.rotated -/
theorem M278 {σ0 σ : rS} {D N : Nat → Nat} {F : hF} {A : hA} {d c s : Nat} {Q : wQ} (H : HS σ0 σ D N F A) {a1 a2 : Int} (h0 : inrJ (a1)) (h1 : inr (a2)) (k : ∀ (z : Int) σ F' A', HS σ0 σ D N F' A' → SF [] F F' → SA [] A A' → (inrJ (z)) → Q (some (J z)) σ c s) : Ew 278 (d + 0) 0 (rargs 0 [J a1, I a2]) [] σ c s Q := by
  refine Ew_of (pc' := 1) (fun _ => x_lload_n rfl rfl) ?_
  refine Ew_of (pc' := 2) (fun _ => x_iload_n rfl rfl) ?_
  refine w_lshlA rfl (fun z1 gz1 => ?_)
  refine Ew_of (pc' := 4) (fun _ => x_lload_n rfl rfl) ?_
  refine Ew_of (pc' := 6) (fun _ => x_bipush (z := 64) rfl (by decide)) ?_
  refine Ew_of (pc' := 7) (fun _ => x_iload_n rfl rfl) ?_
  refine w_isubA rfl (fun z2 gz2 => ?_)
  refine w_lushrA rfl (fun z3 gz3 => ?_)
  refine w_lorA rfl (fun z4 gz4 => ?_)
  exact w_lreturn rfl (k (z4) σ _ _ H (SF_refl) (SA_refl) (show inrJ (z4) by omega))
/-- Reader.byteOf -/
theorem M279 {σ0 σ : rS} {D N : Nat → Nat} {F : hF} {A : hA} {d c s : Nat} {Q : wQ} (H : HS σ0 σ D N F A) {a1 : Int} (h0 : inr (a1)) (h1 : 0 ≤ (a1) ∧ (a1) < 65536) (k : ∀ (z : Int) σ F' A', HS σ0 σ D N F' A' → SF [] F F' → SA [] A A' → (inrJ (z)) → (0 ≤ (z) ∧ (z) ≤ 255) → Q (some (J z)) σ c s) : Ew 279 (d + 0) 0 (rargs 0 [.ref (D 5), I a1]) [] σ c s Q := by
  refine Ew_of (pc' := 1) (fun _ => x_aload_n rfl rfl) ?_
  refine w_gT H (o := 5) (t := 45) rfl (H.perm 5 rfl) rfl rfl rfl rfl rfl rfl ?_
  refine Ew_of (pc' := 5) (fun _ => x_iload_n rfl rfl) ?_
  refine w_lI H (o := 45) (n := 65536) rfl (H.perm 45 rfl) rfl rfl (H.fix 45 rfl rfl) (show 0 ≤ a1 ∧ a1 < ((65536 : Nat) : Int) by omega) (by decide) (fun v1 ev1 qv1 => ?_)
  have qv1 : (0 : Int) ≤ v1 ∧ v1 ≤ 255 := qv1
  have ev1 : (A 45) (a1) = v1 := (congrFun (rfl : A 45 = A 45) (a1)).symm.trans ev1
  refine w_i2l rfl (show inr (v1) by omega) ?_
  exact w_lreturn rfl (k (v1) σ _ _ H (SF_refl) (SA_refl) (show inrJ (v1) by omega) (show 0 ≤ (v1) ∧ (v1) ≤ 255 by omega))
/-- Reader.numberOf -/
theorem M280 {σ0 σ : rS} {D N : Nat → Nat} {F : hF} {A : hA} {d c s : Nat} {Q : wQ} (H : HS σ0 σ D N F A) {a1 a2 : Int} (h0 : inr (a1)) (h1 : inr (a2)) (h2 : 0 ≤ (a1) ∧ 0 ≤ (a2) ∧ (a2) ≤ 8 ∧ (a1) + (a2) ≤ 65536) (k : ∀ (z : Int) σ F' A', HS σ0 σ D N F' A' → SF [] F F' → SA [] A A' → (inrJ (z)) → Q (some (J z)) σ c s) : Ew 280 (d + 1) 0 (rargs 0 [.ref (D 5), I a1, I a2]) [] σ c s Q := by
  refine Ew_of (pc' := 1) (fun _ => x_lconst (z := 0) rfl (by decide)) ?_
  refine Ew_of (pc' := 2) (fun _ => x_lstore_n rfl) ?_
  refine Ew_of (pc' := 3) (fun _ => x_iload_n rfl (rk2_o (rfl) rfl rfl)) ?_
  refine Ew_of (pc' := 4) (fun _ => x_iconst rfl) ?_
  refine w_isub rfl ?_
  refine Ew_of (pc' := 7) (fun _ => x_istore rfl) ?_
  suffices hl7 : ∀ (m : Nat), ∀ (ls : rO) (σ : rS) (F_7 : hF) (A_7 : hA) (x7_3 : Int) (x7_5 : Int), rlook ls 0 = some (.ref (D 5)) → rlook ls 1 = some (I (a1)) → rlook ls 3 = some (J (x7_3)) → rlook ls 5 = some (I (x7_5)) → HS σ0 σ D N F_7 A_7 → SF [] F F_7 → SA [] A A_7 → (inrJ (x7_3)) → (inr (x7_5)) → ((x7_5) ≤ ((a2 - 1))) → (((a2 - 1)) ≤ (x7_5) ∨ ((-1)) ≤ (x7_5)) → ((x7_5) - ((-1))).toNat = m → Ew 280 (d + 1) 7 ls [] σ c s Q from
    hl7 _ _ σ _ _ (0) ((a2 - 1)) (rk_o (rk2_o (rfl) rfl rfl) rfl rfl) (rk_o (rk2_o (rfl) rfl rfl) rfl rfl) (rk_o (rk2_s) rfl rfl) (rk_s) H (SF_refl) (SA_refl)   (show inrJ (0) by omega) (show inr ((a2 - 1)) by omega) (show ((a2 - 1)) ≤ ((a2 - 1)) by omega) (show ((a2 - 1)) ≤ ((a2 - 1)) ∨ ((-1)) ≤ ((a2 - 1)) by omega) rfl
  as_aux_lemma =>
  intro m
  induction m using Nat.strongRecOn with
  | _ m ih7 =>
    intro ls σ F_7 A_7 x7_3 x7_5 l7_0 l7_1 l7_3 l7_5 H hS_7 hA_7   j7_0 j7_1 j7_2 j7_3 hm7
    refine Ew_of (pc' := 9) (fun _ => x_iload rfl l7_5) ?_
    refine w_iflt (t := 32) rfl rfl (show inr (x7_5) by omega) (fun b1 => ?_) (fun b1 => ?_)
    · refine Ew_of (pc' := 33) (fun _ => x_lload_n rfl l7_3) ?_
      exact w_lreturn rfl (k (x7_3) σ _ _ H (SF_trans (SF_refl) hS_7 (any_sub rfl)) (SA_trans (SA_refl) hA_7 (any_subA rfl)) (show inrJ (x7_3) by omega))
    · refine Ew_of (pc' := 13) (fun _ => x_lload_n rfl l7_3) ?_
      refine Ew_of (pc' := 15) (fun _ => x_bipush (z := 8) rfl (by decide)) ?_
      refine w_lshlA rfl (fun z2 gz2 => ?_)
      refine Ew_of (pc' := 17) (fun _ => x_aload_n rfl l7_0) ?_
      refine Ew_of (pc' := 18) (fun _ => x_iload_n rfl l7_1) ?_
      refine Ew_of (pc' := 20) (fun _ => x_iload rfl l7_5) ?_
      refine w_iadd rfl ?_
      refine w_inv H (o := 5) rfl rfl rfl (H.perm 5 rfl) rfl rfl (by rfl) (M279 H (show inr ((a1 + x7_5)) by omega) (show 0 ≤ ((a1 + x7_5)) ∧ ((a1 + x7_5)) < 65536 by omega) (fun z7 σ F3 A4 H hS5 hA6 pz7_0 pz7_1 => ⟨rfl, ?_⟩))
      refine w_lorA rfl (fun z8 gz8 => ?_)
      refine Ew_of (pc' := 26) (fun _ => x_lstore_n rfl) ?_
      refine Ew_of (pc' := 29) (fun _ => x_iinc (len := 3) rfl (rk2_o (l7_5) rfl rfl)) ?_
      refine Ew_of (pc' := 7) (fun _ => x_goto rfl rfl) ?_
      exact ih7 _ (by omega) _ σ _ _ (z8) ((x7_5 + (-1))) (rk_o (rk2_o (l7_0) rfl rfl) rfl rfl) (rk_o (rk2_o (l7_1) rfl rfl) rfl rfl) (rk_o (rk2_s) rfl rfl) (rk_s) H (SF_trans (hS_7) hS5 (any_sub rfl)) (SA_trans (hA_7) hA6 (any_subA rfl))   (show inrJ (z8) by omega) (show inr ((x7_5 + (-1))) by omega) (show ((x7_5 + (-1))) ≤ ((a2 - 1)) by omega) (show ((a2 - 1)) ≤ ((x7_5 + (-1))) ∨ ((-1)) ≤ ((x7_5 + (-1))) by omega) rfl
/-- Reader.sum -/
theorem M281 {σ0 σ : rS} {D N : Nat → Nat} {F : hF} {A : hA} {d c s : Nat} {Q : wQ} (H : HS σ0 σ D N F A) {a1 a2 : Int} (h0 : inr (a1)) (h1 : inr (a2)) (h2 : 0 ≤ (a1) ∧ (a1) ≤ (a2) ∧ (a2) ≤ 65536) (k : ∀ (z : Int) σ F' A', HS σ0 σ D N F' A' → SF [] F F' → SA [47] A A' → (inrJ (z)) → Q (some (J z)) σ c s) : Ew 281 (d + 2) 0 (rargs 0 [.ref (D 5), I a1, I a2]) [] σ c s Q := by
  refine Ew_of (pc' := 3) (fun _ => x_ldc2 (z := -7046029288634856825) rfl (by decide)) ?_
  refine Ew_of (pc' := 4) (fun _ => x_lstore_n rfl) ?_
  refine Ew_of (pc' := 7) (fun _ => x_ldc2 (z := -4417276706812531889) rfl (by decide)) ?_
  refine Ew_of (pc' := 9) (fun _ => x_lstore rfl) ?_
  refine Ew_of (pc' := 12) (fun _ => x_ldc2 (z := 1609587929392839161) rfl (by decide)) ?_
  refine Ew_of (pc' := 14) (fun _ => x_lstore rfl) ?_
  refine Ew_of (pc' := 17) (fun _ => x_ldc2 (z := -8796714831421723037) rfl (by decide)) ?_
  refine Ew_of (pc' := 19) (fun _ => x_lstore rfl) ?_
  refine Ew_of (pc' := 22) (fun _ => x_ldc2 (z := 2870177450012600261) rfl (by decide)) ?_
  refine Ew_of (pc' := 24) (fun _ => x_lstore rfl) ?_
  refine Ew_of (pc' := 25) (fun _ => x_iload_n rfl (rk2_o (rk2_o (rk2_o (rk2_o (rk2_o (rfl) rfl rfl) rfl rfl) rfl rfl) rfl rfl) rfl rfl)) ?_
  refine Ew_of (pc' := 27) (fun _ => x_istore rfl) ?_
  refine Ew_of (pc' := 29) (fun _ => x_lload rfl (rk_o (rk2_s) rfl rfl)) ?_
  refine Ew_of (pc' := 31) (fun _ => x_lstore rfl) ?_
  have hc231 : ∀ (ls : rO) (σ : rS) (F_c231 : hF) (A_c231 : hA) (xc231_13 : Int) (xc231_14 : Int), rlook ls 0 = some (.ref (D 5)) → rlook ls 1 = some (I (a1)) → rlook ls 2 = some (I (a2)) → rlook ls 3 = some (J ((-7046029288634856825))) → rlook ls 5 = some (J ((-4417276706812531889))) → rlook ls 7 = some (J (1609587929392839161)) → rlook ls 9 = some (J ((-8796714831421723037))) → rlook ls 11 = some (J (2870177450012600261)) → rlook ls 13 = some (I (xc231_13)) → rlook ls 14 = some (J (xc231_14)) → HS σ0 σ D N F_c231 A_c231 → SF [] F F_c231 → SA [47] A A_c231 → (inr (xc231_13)) → (inrJ (xc231_14)) → ((a1) ≤ (xc231_13) ∧ (xc231_13) ≤ (a2)) → Ew 281 (d + 2) 231 ls [] σ c s Q := by
   as_aux_lemma =>
    intro  ls σ F_c231 A_c231 xc231_13 xc231_14 lc231_0 lc231_1 lc231_2 lc231_3 lc231_5 lc231_7 lc231_9 lc231_11 lc231_13 lc231_14 H hS_c231 hA_c231   jc231_0 jc231_1 jc231_2
    refine Ew_of (pc' := 233) (fun _ => x_lload rfl lc231_14) ?_
    refine Ew_of (pc' := 234) (fun _ => x_iload_n rfl lc231_2) ?_
    refine Ew_of (pc' := 235) (fun _ => x_iload_n rfl lc231_1) ?_
    refine w_isub rfl ?_
    refine w_i2l rfl (show inr ((a2 - a1)) by omega) ?_
    refine w_laddA rfl (fun z1 gz1 => ?_)
    refine Ew_of (pc' := 240) (fun _ => x_lstore rfl) ?_
    suffices hl240 : ∀ (m : Nat), ∀ (ls : rO) (σ : rS) (F_240 : hF) (A_240 : hA) (x240_13 : Int) (x240_14 : Int), rlook ls 0 = some (.ref (D 5)) → rlook ls 2 = some (I (a2)) → rlook ls 3 = some (J ((-7046029288634856825))) → rlook ls 5 = some (J ((-4417276706812531889))) → rlook ls 7 = some (J (1609587929392839161)) → rlook ls 9 = some (J ((-8796714831421723037))) → rlook ls 11 = some (J (2870177450012600261)) → rlook ls 13 = some (I (x240_13)) → rlook ls 14 = some (J (x240_14)) → HS σ0 σ D N F_240 A_240 → SF [] F_c231 F_240 → SA [] A_c231 A_240 → (inr (x240_13)) → (inrJ (x240_14)) → ((a1) ≤ (x240_13) ∧ (x240_13) ≤ (a2)) → ((a2) - (x240_13)).toNat = m → Ew 281 (d + 2) 240 ls [] σ c s Q from
      hl240 _ _ σ _ _ (xc231_13) (z1) (rk2_o (lc231_0) rfl rfl) (rk2_o (lc231_2) rfl rfl) (rk2_o (lc231_3) rfl rfl) (rk2_o (lc231_5) rfl rfl) (rk2_o (lc231_7) rfl rfl) (rk2_o (lc231_9) rfl rfl) (rk2_o (lc231_11) rfl rfl) (rk2_o (lc231_13) rfl rfl) (rk2_s) H (SF_refl) (SA_refl)   (show inr (xc231_13) by omega) (show inrJ (z1) by omega) (show (a1) ≤ (xc231_13) ∧ (xc231_13) ≤ (a2) by omega) rfl
    as_aux_lemma =>
    intro m
    induction m using Nat.strongRecOn with
    | _ m ih240 =>
      intro ls σ F_240 A_240 x240_13 x240_14 l240_0 l240_2 l240_3 l240_5 l240_7 l240_9 l240_11 l240_13 l240_14 H hS_240 hA_240   j240_0 j240_1 j240_2 hm240
      refine Ew_of (pc' := 241) (fun _ => x_iload_n rfl l240_2) ?_
      refine Ew_of (pc' := 243) (fun _ => x_iload rfl l240_13) ?_
      refine w_isub rfl ?_
      refine Ew_of (pc' := 246) (fun _ => x_bipush (z := 8) rfl (by decide)) ?_
      refine w_icmplt (t := 288) rfl rfl (show inr ((a2 - x240_13)) by omega) (show inr (8) by omega) (fun b2 => ?_) (fun b2 => ?_)
      · refine Ew_of (pc' := 289) (fun _ => x_iload_n rfl l240_2) ?_
        refine Ew_of (pc' := 291) (fun _ => x_iload rfl l240_13) ?_
        refine w_isub rfl ?_
        refine Ew_of (pc' := 293) (fun _ => x_iconst rfl) ?_
        refine w_icmplt (t := 324) rfl rfl (show inr ((a2 - x240_13)) by omega) (show inr (4) by omega) (fun b3 => ?_) (fun b3 => ?_)
        · suffices hl324 : ∀ (m : Nat), ∀ (ls : rO) (σ : rS) (F_324 : hF) (A_324 : hA) (x324_13 : Int) (x324_14 : Int), rlook ls 0 = some (.ref (D 5)) → rlook ls 2 = some (I (a2)) → rlook ls 3 = some (J ((-7046029288634856825))) → rlook ls 5 = some (J ((-4417276706812531889))) → rlook ls 7 = some (J (1609587929392839161)) → rlook ls 11 = some (J (2870177450012600261)) → rlook ls 13 = some (I (x324_13)) → rlook ls 14 = some (J (x324_14)) → HS σ0 σ D N F_324 A_324 → SF [] F_240 F_324 → SA [] A_240 A_324 → (inr (x324_13)) → (inrJ (x324_14)) → ((a1) ≤ (x324_13) ∧ (x324_13) ≤ (a2)) → ((a2) - (x324_13)).toNat = m → Ew 281 (d + 2) 324 ls [] σ c s Q from
            hl324 _ _ σ _ _ (x240_13) (x240_14) (l240_0) (l240_2) (l240_3) (l240_5) (l240_7) (l240_11) (l240_13) (l240_14) H (SF_refl) (SA_refl)   (show inr (x240_13) by omega) (show inrJ (x240_14) by omega) (show (a1) ≤ (x240_13) ∧ (x240_13) ≤ (a2) by omega) rfl
          as_aux_lemma =>
          intro m
          induction m using Nat.strongRecOn with
          | _ m ih324 =>
            intro ls σ F_324 A_324 x324_13 x324_14 l324_0 l324_2 l324_3 l324_5 l324_7 l324_11 l324_13 l324_14 H hS_324 hA_324   j324_0 j324_1 j324_2 hm324
            refine Ew_of (pc' := 326) (fun _ => x_iload rfl l324_13) ?_
            refine Ew_of (pc' := 327) (fun _ => x_iload_n rfl l324_2) ?_
            refine w_icmpge (t := 357) rfl rfl (show inr (x324_13) by omega) (show inr (a2) by omega) (fun b4 => ?_) (fun b4 => ?_)
            · refine Ew_of (pc' := 359) (fun _ => x_lload rfl l324_14) ?_
              refine Ew_of (pc' := 361) (fun _ => x_lload rfl l324_14) ?_
              refine Ew_of (pc' := 363) (fun _ => x_bipush (z := 33) rfl (by decide)) ?_
              refine w_lushrA rfl (fun z5 gz5 => ?_)
              refine w_lxorA rfl (fun z6 gz6 => ?_)
              refine Ew_of (pc' := 367) (fun _ => x_lload rfl l324_5) ?_
              refine w_lmulA rfl (fun z7 gz7 => ?_)
              refine Ew_of (pc' := 370) (fun _ => x_lstore rfl) ?_
              refine Ew_of (pc' := 372) (fun _ => x_lload rfl rk2_s) ?_
              refine Ew_of (pc' := 374) (fun _ => x_lload rfl rk2_s) ?_
              refine Ew_of (pc' := 376) (fun _ => x_bipush (z := 29) rfl (by decide)) ?_
              refine w_lushrA rfl (fun z8 gz8 => ?_)
              refine w_lxorA rfl (fun z9 gz9 => ?_)
              refine Ew_of (pc' := 380) (fun _ => x_lload rfl (rk2_o (l324_7) rfl rfl)) ?_
              refine w_lmulA rfl (fun z10 gz10 => ?_)
              refine Ew_of (pc' := 383) (fun _ => x_lstore rfl) ?_
              refine Ew_of (pc' := 385) (fun _ => x_lload rfl rk2_s) ?_
              refine Ew_of (pc' := 387) (fun _ => x_lload rfl rk2_s) ?_
              refine Ew_of (pc' := 389) (fun _ => x_bipush (z := 32) rfl (by decide)) ?_
              refine w_lushrA rfl (fun z11 gz11 => ?_)
              refine w_lxorA rfl (fun z12 gz12 => ?_)
              exact w_lreturn rfl (k (z12) σ _ _ H (SF_trans (SF_trans (SF_trans (SF_refl) hS_c231 (any_sub rfl)) hS_240 (any_sub rfl)) hS_324 (any_sub rfl)) (SA_trans (SA_trans (SA_trans (SA_refl) hA_c231 (any_subA rfl)) hA_240 (any_subA rfl)) hA_324 (any_subA rfl)) (show inrJ (z12) by omega))
            · refine Ew_of (pc' := 332) (fun _ => x_lload rfl l324_14) ?_
              refine Ew_of (pc' := 333) (fun _ => x_aload_n rfl l324_0) ?_
              refine Ew_of (pc' := 335) (fun _ => x_iload rfl l324_13) ?_
              refine w_inv H (o := 5) rfl rfl rfl (H.perm 5 rfl) rfl rfl (by rfl) (M279 H (show inr (x324_13) by omega) (show 0 ≤ (x324_13) ∧ (x324_13) < 65536 by omega) (fun z17 σ F13 A14 H hS15 hA16 pz17_0 pz17_1 => ⟨rfl, ?_⟩))
              refine Ew_of (pc' := 340) (fun _ => x_lload rfl l324_11) ?_
              refine w_lmulA rfl (fun z18 gz18 => ?_)
              refine w_lxorA rfl (fun z19 gz19 => ?_)
              refine Ew_of (pc' := 344) (fun _ => x_bipush (z := 11) rfl (by decide)) ?_
              refine w_stat24 rfl rfl (by rfl) (M278 H (show inrJ (z19) by omega) (show inr (11) by omega) (fun z24 σ F20 A21 H hS22 hA23 pz24_0 => ⟨rfl, ?_⟩))
              refine Ew_of (pc' := 348) (fun _ => x_lload_n rfl l324_3) ?_
              refine w_lmulA rfl (fun z25 gz25 => ?_)
              refine Ew_of (pc' := 351) (fun _ => x_lstore rfl) ?_
              refine Ew_of (pc' := 354) (fun _ => x_iinc (len := 3) rfl (rk2_o (l324_13) rfl rfl)) ?_
              refine Ew_of (pc' := 324) (fun _ => x_goto rfl rfl) ?_
              exact ih324 _ (by omega) _ σ _ _ ((x324_13 + 1)) (z25) (rk_o (rk2_o (l324_0) rfl rfl) rfl rfl) (rk_o (rk2_o (l324_2) rfl rfl) rfl rfl) (rk_o (rk2_o (l324_3) rfl rfl) rfl rfl) (rk_o (rk2_o (l324_5) rfl rfl) rfl rfl) (rk_o (rk2_o (l324_7) rfl rfl) rfl rfl) (rk_o (rk2_o (l324_11) rfl rfl) rfl rfl) (rk_s) (rk_o (rk2_s) rfl rfl) H (SF_trans (SF_trans (hS_324) hS15 (any_sub rfl)) hS22 (any_sub rfl)) (SA_trans (SA_trans (hA_324) hA16 (any_subA rfl)) hA23 (any_subA rfl))   (show inr ((x324_13 + 1)) by omega) (show inrJ (z25) by omega) (show (a1) ≤ ((x324_13 + 1)) ∧ ((x324_13 + 1)) ≤ (a2) by omega) rfl
        · refine Ew_of (pc' := 298) (fun _ => x_lload rfl l240_14) ?_
          refine Ew_of (pc' := 299) (fun _ => x_aload_n rfl l240_0) ?_
          refine Ew_of (pc' := 301) (fun _ => x_iload rfl l240_13) ?_
          refine Ew_of (pc' := 302) (fun _ => x_iconst rfl) ?_
          refine w_inv H (o := 5) rfl rfl rfl (H.perm 5 rfl) rfl rfl (by rfl) (M280 H (show inr (x240_13) by omega) (show inr (4) by omega) (show 0 ≤ (x240_13) ∧ 0 ≤ (4) ∧ (4) ≤ 8 ∧ (x240_13) + (4) ≤ 65536 by omega) (fun z30 σ F26 A27 H hS28 hA29 pz30_0 => ⟨rfl, ?_⟩))
          refine Ew_of (pc' := 306) (fun _ => x_lload_n rfl l240_3) ?_
          refine w_lmulA rfl (fun z31 gz31 => ?_)
          refine w_lxorA rfl (fun z32 gz32 => ?_)
          refine Ew_of (pc' := 310) (fun _ => x_bipush (z := 23) rfl (by decide)) ?_
          refine w_stat24 rfl rfl (by rfl) (M278 H (show inrJ (z32) by omega) (show inr (23) by omega) (fun z37 σ F33 A34 H hS35 hA36 pz37_0 => ⟨rfl, ?_⟩))
          refine Ew_of (pc' := 315) (fun _ => x_lload rfl l240_5) ?_
          refine w_lmulA rfl (fun z38 gz38 => ?_)
          refine Ew_of (pc' := 318) (fun _ => x_lload rfl l240_7) ?_
          refine w_laddA rfl (fun z39 gz39 => ?_)
          refine Ew_of (pc' := 321) (fun _ => x_lstore rfl) ?_
          refine Ew_of (pc' := 324) (fun _ => x_iinc (len := 3) rfl (rk2_o (l240_13) rfl rfl)) ?_
          suffices hl324 : ∀ (m : Nat), ∀ (ls : rO) (σ : rS) (F_324 : hF) (A_324 : hA) (x324_13 : Int) (x324_14 : Int), rlook ls 0 = some (.ref (D 5)) → rlook ls 2 = some (I (a2)) → rlook ls 3 = some (J ((-7046029288634856825))) → rlook ls 5 = some (J ((-4417276706812531889))) → rlook ls 7 = some (J (1609587929392839161)) → rlook ls 11 = some (J (2870177450012600261)) → rlook ls 13 = some (I (x324_13)) → rlook ls 14 = some (J (x324_14)) → HS σ0 σ D N F_324 A_324 → SF [] F33 F_324 → SA [] A34 A_324 → (inr (x324_13)) → (inrJ (x324_14)) → ((a1) ≤ (x324_13) ∧ (x324_13) ≤ (a2)) → ((a2) - (x324_13)).toNat = m → Ew 281 (d + 2) 324 ls [] σ c s Q from
            hl324 _ _ σ _ _ ((x240_13 + 4)) (z39) (rk_o (rk2_o (l240_0) rfl rfl) rfl rfl) (rk_o (rk2_o (l240_2) rfl rfl) rfl rfl) (rk_o (rk2_o (l240_3) rfl rfl) rfl rfl) (rk_o (rk2_o (l240_5) rfl rfl) rfl rfl) (rk_o (rk2_o (l240_7) rfl rfl) rfl rfl) (rk_o (rk2_o (l240_11) rfl rfl) rfl rfl) (rk_s) (rk_o (rk2_s) rfl rfl) H (SF_refl) (SA_refl)   (show inr ((x240_13 + 4)) by omega) (show inrJ (z39) by omega) (show (a1) ≤ ((x240_13 + 4)) ∧ ((x240_13 + 4)) ≤ (a2) by omega) rfl
          as_aux_lemma =>
          intro m
          induction m using Nat.strongRecOn with
          | _ m ih324 =>
            intro ls σ F_324 A_324 x324_13 x324_14 l324_0 l324_2 l324_3 l324_5 l324_7 l324_11 l324_13 l324_14 H hS_324 hA_324   j324_0 j324_1 j324_2 hm324
            refine Ew_of (pc' := 326) (fun _ => x_iload rfl l324_13) ?_
            refine Ew_of (pc' := 327) (fun _ => x_iload_n rfl l324_2) ?_
            refine w_icmpge (t := 357) rfl rfl (show inr (x324_13) by omega) (show inr (a2) by omega) (fun b40 => ?_) (fun b40 => ?_)
            · refine Ew_of (pc' := 359) (fun _ => x_lload rfl l324_14) ?_
              refine Ew_of (pc' := 361) (fun _ => x_lload rfl l324_14) ?_
              refine Ew_of (pc' := 363) (fun _ => x_bipush (z := 33) rfl (by decide)) ?_
              refine w_lushrA rfl (fun z41 gz41 => ?_)
              refine w_lxorA rfl (fun z42 gz42 => ?_)
              refine Ew_of (pc' := 367) (fun _ => x_lload rfl l324_5) ?_
              refine w_lmulA rfl (fun z43 gz43 => ?_)
              refine Ew_of (pc' := 370) (fun _ => x_lstore rfl) ?_
              refine Ew_of (pc' := 372) (fun _ => x_lload rfl rk2_s) ?_
              refine Ew_of (pc' := 374) (fun _ => x_lload rfl rk2_s) ?_
              refine Ew_of (pc' := 376) (fun _ => x_bipush (z := 29) rfl (by decide)) ?_
              refine w_lushrA rfl (fun z44 gz44 => ?_)
              refine w_lxorA rfl (fun z45 gz45 => ?_)
              refine Ew_of (pc' := 380) (fun _ => x_lload rfl (rk2_o (l324_7) rfl rfl)) ?_
              refine w_lmulA rfl (fun z46 gz46 => ?_)
              refine Ew_of (pc' := 383) (fun _ => x_lstore rfl) ?_
              refine Ew_of (pc' := 385) (fun _ => x_lload rfl rk2_s) ?_
              refine Ew_of (pc' := 387) (fun _ => x_lload rfl rk2_s) ?_
              refine Ew_of (pc' := 389) (fun _ => x_bipush (z := 32) rfl (by decide)) ?_
              refine w_lushrA rfl (fun z47 gz47 => ?_)
              refine w_lxorA rfl (fun z48 gz48 => ?_)
              exact w_lreturn rfl (k (z48) σ _ _ H (SF_trans (SF_trans (SF_trans (SF_trans (SF_trans (SF_refl) hS_c231 (any_sub rfl)) hS_240 (any_sub rfl)) hS28 (any_sub rfl)) hS35 (any_sub rfl)) hS_324 (any_sub rfl)) (SA_trans (SA_trans (SA_trans (SA_trans (SA_trans (SA_refl) hA_c231 (any_subA rfl)) hA_240 (any_subA rfl)) hA29 (any_subA rfl)) hA36 (any_subA rfl)) hA_324 (any_subA rfl)) (show inrJ (z48) by omega))
            · refine Ew_of (pc' := 332) (fun _ => x_lload rfl l324_14) ?_
              refine Ew_of (pc' := 333) (fun _ => x_aload_n rfl l324_0) ?_
              refine Ew_of (pc' := 335) (fun _ => x_iload rfl l324_13) ?_
              refine w_inv H (o := 5) rfl rfl rfl (H.perm 5 rfl) rfl rfl (by rfl) (M279 H (show inr (x324_13) by omega) (show 0 ≤ (x324_13) ∧ (x324_13) < 65536 by omega) (fun z53 σ F49 A50 H hS51 hA52 pz53_0 pz53_1 => ⟨rfl, ?_⟩))
              refine Ew_of (pc' := 340) (fun _ => x_lload rfl l324_11) ?_
              refine w_lmulA rfl (fun z54 gz54 => ?_)
              refine w_lxorA rfl (fun z55 gz55 => ?_)
              refine Ew_of (pc' := 344) (fun _ => x_bipush (z := 11) rfl (by decide)) ?_
              refine w_stat24 rfl rfl (by rfl) (M278 H (show inrJ (z55) by omega) (show inr (11) by omega) (fun z60 σ F56 A57 H hS58 hA59 pz60_0 => ⟨rfl, ?_⟩))
              refine Ew_of (pc' := 348) (fun _ => x_lload_n rfl l324_3) ?_
              refine w_lmulA rfl (fun z61 gz61 => ?_)
              refine Ew_of (pc' := 351) (fun _ => x_lstore rfl) ?_
              refine Ew_of (pc' := 354) (fun _ => x_iinc (len := 3) rfl (rk2_o (l324_13) rfl rfl)) ?_
              refine Ew_of (pc' := 324) (fun _ => x_goto rfl rfl) ?_
              exact ih324 _ (by omega) _ σ _ _ ((x324_13 + 1)) (z61) (rk_o (rk2_o (l324_0) rfl rfl) rfl rfl) (rk_o (rk2_o (l324_2) rfl rfl) rfl rfl) (rk_o (rk2_o (l324_3) rfl rfl) rfl rfl) (rk_o (rk2_o (l324_5) rfl rfl) rfl rfl) (rk_o (rk2_o (l324_7) rfl rfl) rfl rfl) (rk_o (rk2_o (l324_11) rfl rfl) rfl rfl) (rk_s) (rk_o (rk2_s) rfl rfl) H (SF_trans (SF_trans (hS_324) hS51 (any_sub rfl)) hS58 (any_sub rfl)) (SA_trans (SA_trans (hA_324) hA52 (any_subA rfl)) hA59 (any_subA rfl))   (show inr ((x324_13 + 1)) by omega) (show inrJ (z61) by omega) (show (a1) ≤ ((x324_13 + 1)) ∧ ((x324_13 + 1)) ≤ (a2) by omega) rfl
      · refine Ew_of (pc' := 251) (fun _ => x_lload rfl l240_14) ?_
        refine Ew_of (pc' := 252) (fun _ => x_aload_n rfl l240_0) ?_
        refine Ew_of (pc' := 254) (fun _ => x_iload rfl l240_13) ?_
        refine Ew_of (pc' := 256) (fun _ => x_bipush (z := 8) rfl (by decide)) ?_
        refine w_inv H (o := 5) rfl rfl rfl (H.perm 5 rfl) rfl rfl (by rfl) (M280 H (show inr (x240_13) by omega) (show inr (8) by omega) (show 0 ≤ (x240_13) ∧ 0 ≤ (8) ∧ (8) ≤ 8 ∧ (x240_13) + (8) ≤ 65536 by omega) (fun z66 σ F62 A63 H hS64 hA65 pz66_0 => ⟨rfl, ?_⟩))
        refine Ew_of (pc' := 261) (fun _ => x_lload rfl l240_5) ?_
        refine w_lmulA rfl (fun z67 gz67 => ?_)
        refine Ew_of (pc' := 264) (fun _ => x_bipush (z := 31) rfl (by decide)) ?_
        refine w_stat24 rfl rfl (by rfl) (M278 H (show inrJ (z67) by omega) (show inr (31) by omega) (fun z72 σ F68 A69 H hS70 hA71 pz72_0 => ⟨rfl, ?_⟩))
        refine Ew_of (pc' := 268) (fun _ => x_lload_n rfl l240_3) ?_
        refine w_lmulA rfl (fun z73 gz73 => ?_)
        refine w_lxorA rfl (fun z74 gz74 => ?_)
        refine Ew_of (pc' := 272) (fun _ => x_bipush (z := 27) rfl (by decide)) ?_
        refine w_stat24 rfl rfl (by rfl) (M278 H (show inrJ (z74) by omega) (show inr (27) by omega) (fun z79 σ F75 A76 H hS77 hA78 pz79_0 => ⟨rfl, ?_⟩))
        refine Ew_of (pc' := 276) (fun _ => x_lload_n rfl l240_3) ?_
        refine w_lmulA rfl (fun z80 gz80 => ?_)
        refine Ew_of (pc' := 279) (fun _ => x_lload rfl l240_9) ?_
        refine w_laddA rfl (fun z81 gz81 => ?_)
        refine Ew_of (pc' := 282) (fun _ => x_lstore rfl) ?_
        refine Ew_of (pc' := 285) (fun _ => x_iinc (len := 3) rfl (rk2_o (l240_13) rfl rfl)) ?_
        refine Ew_of (pc' := 240) (fun _ => x_goto rfl rfl) ?_
        exact ih240 _ (by omega) _ σ _ _ ((x240_13 + 8)) (z81) (rk_o (rk2_o (l240_0) rfl rfl) rfl rfl) (rk_o (rk2_o (l240_2) rfl rfl) rfl rfl) (rk_o (rk2_o (l240_3) rfl rfl) rfl rfl) (rk_o (rk2_o (l240_5) rfl rfl) rfl rfl) (rk_o (rk2_o (l240_7) rfl rfl) rfl rfl) (rk_o (rk2_o (l240_9) rfl rfl) rfl rfl) (rk_o (rk2_o (l240_11) rfl rfl) rfl rfl) (rk_s) (rk_o (rk2_s) rfl rfl) H (SF_trans (SF_trans (SF_trans (hS_240) hS64 (any_sub rfl)) hS70 (any_sub rfl)) hS77 (any_sub rfl)) (SA_trans (SA_trans (SA_trans (hA_240) hA65 (any_subA rfl)) hA71 (any_subA rfl)) hA78 (any_subA rfl))   (show inr ((x240_13 + 8)) by omega) (show inrJ (z81) by omega) (show (a1) ≤ ((x240_13 + 8)) ∧ ((x240_13 + 8)) ≤ (a2) by omega) rfl
  refine Ew_of (pc' := 32) (fun _ => x_iload_n rfl (rk2_o (rk_o (rk2_o (rk2_o (rk2_o (rk2_o (rk2_o (rfl) rfl rfl) rfl rfl) rfl rfl) rfl rfl) rfl rfl) rfl rfl) rfl rfl)) ?_
  refine Ew_of (pc' := 33) (fun _ => x_iload_n rfl (rk2_o (rk_o (rk2_o (rk2_o (rk2_o (rk2_o (rk2_o (rfl) rfl rfl) rfl rfl) rfl rfl) rfl rfl) rfl rfl) rfl rfl) rfl rfl)) ?_
  refine w_isub rfl ?_
  refine Ew_of (pc' := 36) (fun _ => x_bipush (z := 32) rfl (by decide)) ?_
  refine w_icmplt (t := 231) rfl rfl (show inr ((a2 - a1)) by omega) (show inr (32) by omega) (fun b82 => ?_) (fun b82 => ?_)
  · exact hc231  _ σ _ _ (a1) (2870177450012600261) (rk2_o (rk_o (rk2_o (rk2_o (rk2_o (rk2_o (rk2_o (rfl) rfl rfl) rfl rfl) rfl rfl) rfl rfl) rfl rfl) rfl rfl) rfl rfl) (rk2_o (rk_o (rk2_o (rk2_o (rk2_o (rk2_o (rk2_o (rfl) rfl rfl) rfl rfl) rfl rfl) rfl rfl) rfl rfl) rfl rfl) rfl rfl) (rk2_o (rk_o (rk2_o (rk2_o (rk2_o (rk2_o (rk2_o (rfl) rfl rfl) rfl rfl) rfl rfl) rfl rfl) rfl rfl) rfl rfl) rfl rfl) (rk2_o (rk_o (rk2_o (rk2_o (rk2_o (rk2_o (rk2_s) rfl rfl) rfl rfl) rfl rfl) rfl rfl) rfl rfl) rfl rfl) (rk2_o (rk_o (rk2_o (rk2_o (rk2_o (rk2_s) rfl rfl) rfl rfl) rfl rfl) rfl rfl) rfl rfl) (rk2_o (rk_o (rk2_o (rk2_o (rk2_s) rfl rfl) rfl rfl) rfl rfl) rfl rfl) (rk2_o (rk_o (rk2_o (rk2_s) rfl rfl) rfl rfl) rfl rfl) (rk2_o (rk_o (rk2_s) rfl rfl) rfl rfl) (rk2_o (rk_s) rfl rfl) (rk2_s) H (SF_refl) (SA_refl)   (show inr (a1) by omega) (show inrJ (2870177450012600261) by omega) (show (a1) ≤ (a1) ∧ (a1) ≤ (a2) by omega)
  · refine Ew_of (pc' := 40) (fun _ => x_aload_n rfl (rk2_o (rk_o (rk2_o (rk2_o (rk2_o (rk2_o (rk2_o (rfl) rfl rfl) rfl rfl) rfl rfl) rfl rfl) rfl rfl) rfl rfl) rfl rfl)) ?_
    refine w_gT H (o := 5) (t := 47) rfl (H.perm 5 rfl) rfl rfl rfl rfl rfl rfl ?_
    refine Ew_of (pc' := 44) (fun _ => x_iconst rfl) ?_
    refine Ew_of (pc' := 45) (fun _ => x_lload_n rfl (rk2_o (rk_o (rk2_o (rk2_o (rk2_o (rk2_o (rk2_s) rfl rfl) rfl rfl) rfl rfl) rfl rfl) rfl rfl) rfl rfl)) ?_
    refine Ew_of (pc' := 47) (fun _ => x_lload rfl (rk2_o (rk_o (rk2_o (rk2_o (rk2_o (rk2_s) rfl rfl) rfl rfl) rfl rfl) rfl rfl) rfl rfl)) ?_
    refine w_laddA rfl (fun z83 gz83 => ?_)
    refine w_sJ H (o := 47) (n := 4) rfl (H.perm 47 rfl) rfl rfl (H.fix 47 rfl rfl) (show 0 ≤ 0 ∧ 0 < ((4 : Nat) : Int) by omega) (by decide) (show (-9223372036854775808 : Int) ≤ z83 ∧ z83 ≤ 9223372036854775807 by omega) (fun σ H => ?_)
    refine Ew_of (pc' := 50) (fun _ => x_aload_n rfl (rk2_o (rk_o (rk2_o (rk2_o (rk2_o (rk2_o (rk2_o (rfl) rfl rfl) rfl rfl) rfl rfl) rfl rfl) rfl rfl) rfl rfl) rfl rfl)) ?_
    refine w_gT H (o := 5) (t := 47) rfl (H.perm 5 rfl) rfl rfl rfl rfl rfl rfl ?_
    refine Ew_of (pc' := 54) (fun _ => x_iconst rfl) ?_
    refine Ew_of (pc' := 56) (fun _ => x_lload rfl (rk2_o (rk_o (rk2_o (rk2_o (rk2_o (rk2_s) rfl rfl) rfl rfl) rfl rfl) rfl rfl) rfl rfl)) ?_
    refine w_sJ H (o := 47) (n := 4) rfl (H.perm 47 rfl) rfl rfl (H.fix 47 rfl rfl) (show 0 ≤ 1 ∧ 1 < ((4 : Nat) : Int) by omega) (by decide) (show (-9223372036854775808 : Int) ≤ (-4417276706812531889) ∧ (-4417276706812531889) ≤ 9223372036854775807 by omega) (fun σ H => ?_)
    refine Ew_of (pc' := 58) (fun _ => x_aload_n rfl (rk2_o (rk_o (rk2_o (rk2_o (rk2_o (rk2_o (rk2_o (rfl) rfl rfl) rfl rfl) rfl rfl) rfl rfl) rfl rfl) rfl rfl) rfl rfl)) ?_
    refine w_gT H (o := 5) (t := 47) rfl (H.perm 5 rfl) rfl rfl rfl rfl rfl rfl ?_
    refine Ew_of (pc' := 62) (fun _ => x_iconst rfl) ?_
    refine Ew_of (pc' := 63) (fun _ => x_lconst (z := 0) rfl (by decide)) ?_
    refine w_sJ H (o := 47) (n := 4) rfl (H.perm 47 rfl) rfl rfl (H.fix 47 rfl rfl) (show 0 ≤ 2 ∧ 2 < ((4 : Nat) : Int) by omega) (by decide) (show (-9223372036854775808 : Int) ≤ 0 ∧ 0 ≤ 9223372036854775807 by omega) (fun σ H => ?_)
    refine Ew_of (pc' := 65) (fun _ => x_aload_n rfl (rk2_o (rk_o (rk2_o (rk2_o (rk2_o (rk2_o (rk2_o (rfl) rfl rfl) rfl rfl) rfl rfl) rfl rfl) rfl rfl) rfl rfl) rfl rfl)) ?_
    refine w_gT H (o := 5) (t := 47) rfl (H.perm 5 rfl) rfl rfl rfl rfl rfl rfl ?_
    refine Ew_of (pc' := 69) (fun _ => x_iconst rfl) ?_
    refine Ew_of (pc' := 70) (fun _ => x_lload_n rfl (rk2_o (rk_o (rk2_o (rk2_o (rk2_o (rk2_o (rk2_s) rfl rfl) rfl rfl) rfl rfl) rfl rfl) rfl rfl) rfl rfl)) ?_
    refine w_lnegA rfl (fun z84 gz84 => ?_)
    refine w_sJ H (o := 47) (n := 4) rfl (H.perm 47 rfl) rfl rfl (H.fix 47 rfl rfl) (show 0 ≤ 3 ∧ 3 < ((4 : Nat) : Int) by omega) (by decide) (show (-9223372036854775808 : Int) ≤ z84 ∧ z84 ≤ 9223372036854775807 by omega) (fun σ H => ?_)
    suffices hl72 : ∀ (m : Nat), ∀ (ls : rO) (σ : rS) (F_72 : hF) (A_72 : hA) (x72_13 : Int), rlook ls 0 = some (.ref (D 5)) → rlook ls 1 = some (I (a1)) → rlook ls 2 = some (I (a2)) → rlook ls 3 = some (J ((-7046029288634856825))) → rlook ls 5 = some (J ((-4417276706812531889))) → rlook ls 7 = some (J (1609587929392839161)) → rlook ls 9 = some (J ((-8796714831421723037))) → rlook ls 11 = some (J (2870177450012600261)) → rlook ls 13 = some (I (x72_13)) → HS σ0 σ D N F_72 A_72 → SF [] F F_72 → SA [47] (updA (updA (updA (updA A 47 (0) (z83)) 47 (1) ((-4417276706812531889))) 47 (2) (0)) 47 (3) (z84)) A_72 → (inr (x72_13)) → ((a1) ≤ (x72_13) ∧ (x72_13) ≤ (a2)) → ((a2) - (x72_13)).toNat = m → Ew 281 (d + 2) 72 ls [] σ c s Q from
      hl72 _ _ σ _ _ (a1) (rk2_o (rk_o (rk2_o (rk2_o (rk2_o (rk2_o (rk2_o (rfl) rfl rfl) rfl rfl) rfl rfl) rfl rfl) rfl rfl) rfl rfl) rfl rfl) (rk2_o (rk_o (rk2_o (rk2_o (rk2_o (rk2_o (rk2_o (rfl) rfl rfl) rfl rfl) rfl rfl) rfl rfl) rfl rfl) rfl rfl) rfl rfl) (rk2_o (rk_o (rk2_o (rk2_o (rk2_o (rk2_o (rk2_o (rfl) rfl rfl) rfl rfl) rfl rfl) rfl rfl) rfl rfl) rfl rfl) rfl rfl) (rk2_o (rk_o (rk2_o (rk2_o (rk2_o (rk2_o (rk2_s) rfl rfl) rfl rfl) rfl rfl) rfl rfl) rfl rfl) rfl rfl) (rk2_o (rk_o (rk2_o (rk2_o (rk2_o (rk2_s) rfl rfl) rfl rfl) rfl rfl) rfl rfl) rfl rfl) (rk2_o (rk_o (rk2_o (rk2_o (rk2_s) rfl rfl) rfl rfl) rfl rfl) rfl rfl) (rk2_o (rk_o (rk2_o (rk2_s) rfl rfl) rfl rfl) rfl rfl) (rk2_o (rk_o (rk2_s) rfl rfl) rfl rfl) (rk2_o (rk_s) rfl rfl) H (SF_refl) (SA_refl)   (show inr (a1) by omega) (show (a1) ≤ (a1) ∧ (a1) ≤ (a2) by omega) rfl
    as_aux_lemma =>
    intro m
    induction m using Nat.strongRecOn with
    | _ m ih72 =>
      intro ls σ F_72 A_72 x72_13 l72_0 l72_1 l72_2 l72_3 l72_5 l72_7 l72_9 l72_11 l72_13 H hS_72 hA_72   j72_0 j72_1 hm72
      refine Ew_of (pc' := 73) (fun _ => x_iload_n rfl l72_2) ?_
      refine Ew_of (pc' := 75) (fun _ => x_iload rfl l72_13) ?_
      refine w_isub rfl ?_
      refine Ew_of (pc' := 78) (fun _ => x_bipush (z := 32) rfl (by decide)) ?_
      refine w_icmplt (t := 141) rfl rfl (show inr ((a2 - x72_13)) by omega) (show inr (32) by omega) (fun b85 => ?_) (fun b85 => ?_)
      · refine Ew_of (pc' := 142) (fun _ => x_aload_n rfl l72_0) ?_
        refine w_gT H (o := 5) (t := 47) rfl (H.perm 5 rfl) rfl rfl rfl rfl rfl rfl ?_
        refine Ew_of (pc' := 146) (fun _ => x_iconst rfl) ?_
        refine w_lJ H (o := 47) (n := 4) rfl (H.perm 47 rfl) rfl rfl (H.fix 47 rfl rfl) (show 0 ≤ 0 ∧ 0 < ((4 : Nat) : Int) by omega) (by decide) (fun v86 ev86 qv86 => ?_)
        have qv86 : (-9223372036854775808 : Int) ≤ v86 ∧ v86 ≤ 9223372036854775807 := qv86
        have ev86 : (A_72 47) (0) = v86 := (congrFun (rfl : A_72 47 = A_72 47) (0)).symm.trans ev86
        refine Ew_of (pc' := 148) (fun _ => x_iconst rfl) ?_
        refine w_stat24 rfl rfl (by rfl) (M278 H (show inrJ (v86) by omega) (show inr (1) by omega) (fun z91 σ F87 A88 H hS89 hA90 pz91_0 => ⟨rfl, ?_⟩))
        refine Ew_of (pc' := 152) (fun _ => x_aload_n rfl l72_0) ?_
        refine w_gT H (o := 5) (t := 47) rfl (H.perm 5 rfl) rfl rfl rfl rfl rfl rfl ?_
        refine Ew_of (pc' := 156) (fun _ => x_iconst rfl) ?_
        refine w_lJ H (o := 47) (n := 4) rfl (H.perm 47 rfl) rfl rfl (H.fix 47 rfl rfl) (show 0 ≤ 1 ∧ 1 < ((4 : Nat) : Int) by omega) (by decide) (fun v92 ev92 qv92 => ?_)
        have qv92 : (-9223372036854775808 : Int) ≤ v92 ∧ v92 ≤ 9223372036854775807 := qv92
        have ev92 : (A_72 47) (1) = v92 := (congrFun (funext (hA90 47 rfl)) (1)).symm.trans ev92
        refine Ew_of (pc' := 159) (fun _ => x_bipush (z := 7) rfl (by decide)) ?_
        refine w_stat24 rfl rfl (by rfl) (M278 H (show inrJ (v92) by omega) (show inr (7) by omega) (fun z97 σ F93 A94 H hS95 hA96 pz97_0 => ⟨rfl, ?_⟩))
        refine w_laddA rfl (fun z98 gz98 => ?_)
        refine Ew_of (pc' := 164) (fun _ => x_aload_n rfl l72_0) ?_
        refine w_gT H (o := 5) (t := 47) rfl (H.perm 5 rfl) rfl rfl rfl rfl rfl rfl ?_
        refine Ew_of (pc' := 168) (fun _ => x_iconst rfl) ?_
        refine w_lJ H (o := 47) (n := 4) rfl (H.perm 47 rfl) rfl rfl (H.fix 47 rfl rfl) (show 0 ≤ 2 ∧ 2 < ((4 : Nat) : Int) by omega) (by decide) (fun v99 ev99 qv99 => ?_)
        have qv99 : (-9223372036854775808 : Int) ≤ v99 ∧ v99 ≤ 9223372036854775807 := qv99
        have ev99 : (A_72 47) (2) = v99 := (congrFun ((funext (hA96 47 rfl)).trans (funext (hA90 47 rfl))) (2)).symm.trans ev99
        refine Ew_of (pc' := 171) (fun _ => x_bipush (z := 12) rfl (by decide)) ?_
        refine w_stat24 rfl rfl (by rfl) (M278 H (show inrJ (v99) by omega) (show inr (12) by omega) (fun z104 σ F100 A101 H hS102 hA103 pz104_0 => ⟨rfl, ?_⟩))
        refine w_laddA rfl (fun z105 gz105 => ?_)
        refine Ew_of (pc' := 176) (fun _ => x_aload_n rfl l72_0) ?_
        refine w_gT H (o := 5) (t := 47) rfl (H.perm 5 rfl) rfl rfl rfl rfl rfl rfl ?_
        refine Ew_of (pc' := 180) (fun _ => x_iconst rfl) ?_
        refine w_lJ H (o := 47) (n := 4) rfl (H.perm 47 rfl) rfl rfl (H.fix 47 rfl rfl) (show 0 ≤ 3 ∧ 3 < ((4 : Nat) : Int) by omega) (by decide) (fun v106 ev106 qv106 => ?_)
        have qv106 : (-9223372036854775808 : Int) ≤ v106 ∧ v106 ≤ 9223372036854775807 := qv106
        have ev106 : (A_72 47) (3) = v106 := (congrFun ((funext (hA103 47 rfl)).trans ((funext (hA96 47 rfl)).trans (funext (hA90 47 rfl)))) (3)).symm.trans ev106
        refine Ew_of (pc' := 183) (fun _ => x_bipush (z := 18) rfl (by decide)) ?_
        refine w_stat24 rfl rfl (by rfl) (M278 H (show inrJ (v106) by omega) (show inr (18) by omega) (fun z111 σ F107 A108 H hS109 hA110 pz111_0 => ⟨rfl, ?_⟩))
        refine w_laddA rfl (fun z112 gz112 => ?_)
        refine Ew_of (pc' := 189) (fun _ => x_lstore rfl) ?_
        refine Ew_of (pc' := 190) (fun _ => x_iconst rfl) ?_
        refine Ew_of (pc' := 192) (fun _ => x_istore rfl) ?_
        suffices hl192 : ∀ (m : Nat), ∀ (ls : rO) (σ : rS) (F_192 : hF) (A_192 : hA) (x192_14 : Int) (x192_16 : Int), rlook ls 0 = some (.ref (D 5)) → rlook ls 1 = some (I (a1)) → rlook ls 2 = some (I (a2)) → rlook ls 3 = some (J ((-7046029288634856825))) → rlook ls 5 = some (J ((-4417276706812531889))) → rlook ls 7 = some (J (1609587929392839161)) → rlook ls 9 = some (J ((-8796714831421723037))) → rlook ls 11 = some (J (2870177450012600261)) → rlook ls 13 = some (I (x72_13)) → rlook ls 14 = some (J (x192_14)) → rlook ls 16 = some (I (x192_16)) → HS σ0 σ D N F_192 A_192 → SF [] F107 F_192 → SA [] A108 A_192 → (inrJ (x192_14)) → (inr (x192_16)) → ((0) ≤ (x192_16)) → ((x192_16) ≤ (0) ∨ (x192_16) ≤ (4)) → ((4) - (x192_16)).toNat = m → Ew 281 (d + 2) 192 ls [] σ c s Q from
          hl192 _ _ σ _ _ (z112) (0) (rk_o (rk2_o (l72_0) rfl rfl) rfl rfl) (rk_o (rk2_o (l72_1) rfl rfl) rfl rfl) (rk_o (rk2_o (l72_2) rfl rfl) rfl rfl) (rk_o (rk2_o (l72_3) rfl rfl) rfl rfl) (rk_o (rk2_o (l72_5) rfl rfl) rfl rfl) (rk_o (rk2_o (l72_7) rfl rfl) rfl rfl) (rk_o (rk2_o (l72_9) rfl rfl) rfl rfl) (rk_o (rk2_o (l72_11) rfl rfl) rfl rfl) (rk_o (rk2_o (l72_13) rfl rfl) rfl rfl) (rk_o (rk2_s) rfl rfl) (rk_s) H (SF_refl) (SA_refl)   (show inrJ (z112) by omega) (show inr (0) by omega) (show (0) ≤ (0) by omega) (show (0) ≤ (0) ∨ (0) ≤ (4) by omega) rfl
        as_aux_lemma =>
        intro m
        induction m using Nat.strongRecOn with
        | _ m ih192 =>
          intro ls σ F_192 A_192 x192_14 x192_16 l192_0 l192_1 l192_2 l192_3 l192_5 l192_7 l192_9 l192_11 l192_13 l192_14 l192_16 H hS_192 hA_192   j192_0 j192_1 j192_2 j192_3 hm192
          refine Ew_of (pc' := 194) (fun _ => x_iload rfl l192_16) ?_
          refine Ew_of (pc' := 195) (fun _ => x_iconst rfl) ?_
          refine w_icmpge (t := 231) rfl rfl (show inr (x192_16) by omega) (show inr (4) by omega) (fun b113 => ?_) (fun b113 => ?_)
          · exact hc231  _ σ _ _ (x72_13) (x192_14) (l192_0) (l192_1) (l192_2) (l192_3) (l192_5) (l192_7) (l192_9) (l192_11) (l192_13) (l192_14) H (SF_trans (SF_trans (SF_trans (SF_trans (SF_trans (SF_trans (SF_refl) hS_72 (any_sub rfl)) hS89 (any_sub rfl)) hS95 (any_sub rfl)) hS102 (any_sub rfl)) hS109 (any_sub rfl)) hS_192 (any_sub rfl)) (SA_trans (SA_trans (SA_trans (SA_trans (SA_trans (SA_trans (SA_upd (SA_upd (SA_upd (SA_upd (SA_refl) rfl) rfl) rfl) rfl) hA_72 (any_subA rfl)) hA90 (any_subA rfl)) hA96 (any_subA rfl)) hA103 (any_subA rfl)) hA110 (any_subA rfl)) hA_192 (any_subA rfl))   (show inr (x72_13) by omega) (show inrJ (x192_14) by omega) (show (a1) ≤ (x72_13) ∧ (x72_13) ≤ (a2) by omega)
          · refine Ew_of (pc' := 200) (fun _ => x_lload rfl l192_14) ?_
            refine Ew_of (pc' := 201) (fun _ => x_aload_n rfl l192_0) ?_
            refine w_gT H (o := 5) (t := 47) rfl (H.perm 5 rfl) rfl rfl rfl rfl rfl rfl ?_
            refine Ew_of (pc' := 206) (fun _ => x_iload rfl l192_16) ?_
            refine w_lJ H (o := 47) (n := 4) rfl (H.perm 47 rfl) rfl rfl (H.fix 47 rfl rfl) (show 0 ≤ x192_16 ∧ x192_16 < ((4 : Nat) : Int) by omega) (by decide) (fun v114 ev114 qv114 => ?_)
            have qv114 : (-9223372036854775808 : Int) ≤ v114 ∧ v114 ≤ 9223372036854775807 := qv114
            have ev114 : (A_72 47) (x192_16) = v114 := (congrFun ((funext (hA_192 47 rfl)).trans ((funext (hA110 47 rfl)).trans ((funext (hA103 47 rfl)).trans ((funext (hA96 47 rfl)).trans (funext (hA90 47 rfl)))))) (x192_16)).symm.trans ev114
            refine Ew_of (pc' := 209) (fun _ => x_lload rfl l192_5) ?_
            refine w_lmulA rfl (fun z115 gz115 => ?_)
            refine Ew_of (pc' := 212) (fun _ => x_bipush (z := 31) rfl (by decide)) ?_
            refine w_stat24 rfl rfl (by rfl) (M278 H (show inrJ (z115) by omega) (show inr (31) by omega) (fun z120 σ F116 A117 H hS118 hA119 pz120_0 => ⟨rfl, ?_⟩))
            refine Ew_of (pc' := 216) (fun _ => x_lload_n rfl l192_3) ?_
            refine w_lmulA rfl (fun z121 gz121 => ?_)
            refine w_lxorA rfl (fun z122 gz122 => ?_)
            refine Ew_of (pc' := 219) (fun _ => x_lload_n rfl l192_3) ?_
            refine w_lmulA rfl (fun z123 gz123 => ?_)
            refine Ew_of (pc' := 222) (fun _ => x_lload rfl l192_9) ?_
            refine w_laddA rfl (fun z124 gz124 => ?_)
            refine Ew_of (pc' := 225) (fun _ => x_lstore rfl) ?_
            refine Ew_of (pc' := 228) (fun _ => x_iinc (len := 3) rfl (rk2_o (l192_16) rfl rfl)) ?_
            refine Ew_of (pc' := 192) (fun _ => x_goto rfl rfl) ?_
            exact ih192 _ (by omega) _ σ _ _ (z124) ((x192_16 + 1)) (rk_o (rk2_o (l192_0) rfl rfl) rfl rfl) (rk_o (rk2_o (l192_1) rfl rfl) rfl rfl) (rk_o (rk2_o (l192_2) rfl rfl) rfl rfl) (rk_o (rk2_o (l192_3) rfl rfl) rfl rfl) (rk_o (rk2_o (l192_5) rfl rfl) rfl rfl) (rk_o (rk2_o (l192_7) rfl rfl) rfl rfl) (rk_o (rk2_o (l192_9) rfl rfl) rfl rfl) (rk_o (rk2_o (l192_11) rfl rfl) rfl rfl) (rk_o (rk2_o (l192_13) rfl rfl) rfl rfl) (rk_o (rk2_s) rfl rfl) (rk_s) H (SF_trans (hS_192) hS118 (any_sub rfl)) (SA_trans (hA_192) hA119 (any_subA rfl))   (show inrJ (z124) by omega) (show inr ((x192_16 + 1)) by omega) (show (0) ≤ ((x192_16 + 1)) by omega) (show ((x192_16 + 1)) ≤ (0) ∨ ((x192_16 + 1)) ≤ (4) by omega) rfl
      · refine Ew_of (pc' := 82) (fun _ => x_iconst rfl) ?_
        refine Ew_of (pc' := 84) (fun _ => x_istore rfl) ?_
        suffices hl84 : ∀ (m : Nat), ∀ (ls : rO) (σ : rS) (F_84 : hF) (A_84 : hA) (x84_16 : Int), rlook ls 0 = some (.ref (D 5)) → rlook ls 1 = some (I (a1)) → rlook ls 2 = some (I (a2)) → rlook ls 3 = some (J ((-7046029288634856825))) → rlook ls 5 = some (J ((-4417276706812531889))) → rlook ls 7 = some (J (1609587929392839161)) → rlook ls 9 = some (J ((-8796714831421723037))) → rlook ls 11 = some (J (2870177450012600261)) → rlook ls 13 = some (I (x72_13)) → rlook ls 16 = some (I (x84_16)) → HS σ0 σ D N F_84 A_84 → SF [] F_72 F_84 → SA [47] A_72 A_84 → (inr (x84_16)) → ((0) ≤ (x84_16)) → ((x84_16) ≤ (0) ∨ (x84_16) ≤ (4)) → ((4) - (x84_16)).toNat = m → Ew 281 (d + 2) 84 ls [] σ c s Q from
          hl84 _ _ σ _ _ (0) (rk_o (l72_0) rfl rfl) (rk_o (l72_1) rfl rfl) (rk_o (l72_2) rfl rfl) (rk_o (l72_3) rfl rfl) (rk_o (l72_5) rfl rfl) (rk_o (l72_7) rfl rfl) (rk_o (l72_9) rfl rfl) (rk_o (l72_11) rfl rfl) (rk_o (l72_13) rfl rfl) (rk_s) H (SF_refl) (SA_refl)   (show inr (0) by omega) (show (0) ≤ (0) by omega) (show (0) ≤ (0) ∨ (0) ≤ (4) by omega) rfl
        as_aux_lemma =>
        intro m
        induction m using Nat.strongRecOn with
        | _ m ih84 =>
          intro ls σ F_84 A_84 x84_16 l84_0 l84_1 l84_2 l84_3 l84_5 l84_7 l84_9 l84_11 l84_13 l84_16 H hS_84 hA_84   j84_0 j84_1 j84_2 hm84
          refine Ew_of (pc' := 86) (fun _ => x_iload rfl l84_16) ?_
          refine Ew_of (pc' := 87) (fun _ => x_iconst rfl) ?_
          refine w_icmpge (t := 135) rfl rfl (show inr (x84_16) by omega) (show inr (4) by omega) (fun b125 => ?_) (fun b125 => ?_)
          · refine Ew_of (pc' := 138) (fun _ => x_iinc (len := 3) rfl (l84_13)) ?_
            refine Ew_of (pc' := 72) (fun _ => x_goto rfl rfl) ?_
            exact ih72 _ (by omega) _ σ _ _ ((x72_13 + 32)) (rk_o (l84_0) rfl rfl) (rk_o (l84_1) rfl rfl) (rk_o (l84_2) rfl rfl) (rk_o (l84_3) rfl rfl) (rk_o (l84_5) rfl rfl) (rk_o (l84_7) rfl rfl) (rk_o (l84_9) rfl rfl) (rk_o (l84_11) rfl rfl) (rk_s) H (SF_trans (hS_72) hS_84 (any_sub rfl)) (SA_trans (hA_72) hA_84 (any_subA rfl))   (show inr ((x72_13 + 32)) by omega) (show (a1) ≤ ((x72_13 + 32)) ∧ ((x72_13 + 32)) ≤ (a2) by omega) rfl
          · refine Ew_of (pc' := 91) (fun _ => x_aload_n rfl l84_0) ?_
            refine w_gT H (o := 5) (t := 47) rfl (H.perm 5 rfl) rfl rfl rfl rfl rfl rfl ?_
            refine Ew_of (pc' := 96) (fun _ => x_iload rfl l84_16) ?_
            refine Ew_of (pc' := 97) (fun _ => x_aload_n rfl l84_0) ?_
            refine w_gT H (o := 5) (t := 47) rfl (H.perm 5 rfl) rfl rfl rfl rfl rfl rfl ?_
            refine Ew_of (pc' := 102) (fun _ => x_iload rfl l84_16) ?_
            refine w_lJ H (o := 47) (n := 4) rfl (H.perm 47 rfl) rfl rfl (H.fix 47 rfl rfl) (show 0 ≤ x84_16 ∧ x84_16 < ((4 : Nat) : Int) by omega) (by decide) (fun v126 ev126 qv126 => ?_)
            have qv126 : (-9223372036854775808 : Int) ≤ v126 ∧ v126 ≤ 9223372036854775807 := qv126
            have ev126 : (A_84 47) (x84_16) = v126 := (congrFun (rfl : A_84 47 = A_84 47) (x84_16)).symm.trans ev126
            refine Ew_of (pc' := 104) (fun _ => x_aload_n rfl l84_0) ?_
            refine Ew_of (pc' := 106) (fun _ => x_iload rfl l84_13) ?_
            refine Ew_of (pc' := 108) (fun _ => x_bipush (z := 8) rfl (by decide)) ?_
            refine Ew_of (pc' := 110) (fun _ => x_iload rfl l84_16) ?_
            refine w_imul rfl ?_
            refine w_iadd rfl ?_
            refine Ew_of (pc' := 114) (fun _ => x_bipush (z := 8) rfl (by decide)) ?_
            refine w_inv H (o := 5) rfl rfl rfl (H.perm 5 rfl) rfl rfl (by rfl) (M280 H (show inr ((x72_13 + (8 * x84_16))) by omega) (show inr (8) by omega) (show 0 ≤ ((x72_13 + (8 * x84_16))) ∧ 0 ≤ (8) ∧ (8) ≤ 8 ∧ ((x72_13 + (8 * x84_16))) + (8) ≤ 65536 by omega) (fun z131 σ F127 A128 H hS129 hA130 pz131_0 => ⟨rfl, ?_⟩))
            refine Ew_of (pc' := 119) (fun _ => x_lload rfl l84_5) ?_
            refine w_lmulA rfl (fun z132 gz132 => ?_)
            refine w_laddA rfl (fun z133 gz133 => ?_)
            refine Ew_of (pc' := 123) (fun _ => x_bipush (z := 31) rfl (by decide)) ?_
            refine w_stat24 rfl rfl (by rfl) (M278 H (show inrJ (z133) by omega) (show inr (31) by omega) (fun z138 σ F134 A135 H hS136 hA137 pz138_0 => ⟨rfl, ?_⟩))
            refine Ew_of (pc' := 127) (fun _ => x_lload_n rfl l84_3) ?_
            refine w_lmulA rfl (fun z139 gz139 => ?_)
            refine w_sJ H (o := 47) (n := 4) rfl (H.perm 47 rfl) rfl rfl (H.fix 47 rfl rfl) (show 0 ≤ x84_16 ∧ x84_16 < ((4 : Nat) : Int) by omega) (by decide) (show (-9223372036854775808 : Int) ≤ z139 ∧ z139 ≤ 9223372036854775807 by omega) (fun σ H => ?_)
            refine Ew_of (pc' := 132) (fun _ => x_iinc (len := 3) rfl (l84_16)) ?_
            refine Ew_of (pc' := 84) (fun _ => x_goto rfl rfl) ?_
            exact ih84 _ (by omega) _ σ _ _ ((x84_16 + 1)) (rk_o (l84_0) rfl rfl) (rk_o (l84_1) rfl rfl) (rk_o (l84_2) rfl rfl) (rk_o (l84_3) rfl rfl) (rk_o (l84_5) rfl rfl) (rk_o (l84_7) rfl rfl) (rk_o (l84_9) rfl rfl) (rk_o (l84_11) rfl rfl) (rk_o (l84_13) rfl rfl) (rk_s) H (SF_trans (SF_trans (hS_84) hS129 (any_sub rfl)) hS136 (any_sub rfl)) (SA_upd (SA_trans (SA_trans (hA_84) hA130 (any_subA rfl)) hA137 (any_subA rfl)) rfl)   (show inr ((x84_16 + 1)) by omega) (show (0) ≤ ((x84_16 + 1)) by omega) (show ((x84_16 + 1)) ≤ (0) ∨ ((x84_16 + 1)) ≤ (4) by omega) rfl
/-- Reader.literalBase -/
theorem M294 {σ0 σ : rS} {D N : Nat → Nat} {F : hF} {A : hA} {d c s : Nat} {Q : wQ} (H : HS σ0 σ D N F A) {a1 : Int} (h0 : inr (a1)) (h1 : 0 ≤ (a1) ∧ (a1) ≤ 35) (k : ∀ (z : Int) σ F' A', HS σ0 σ D N F' A' → SF [] F F' → SA [] A A' → (inr (z)) → (0 ≤ (z) ∧ (z) ≤ 65536) → Q (some (I z)) σ c s) : Ew 294 (d + 0) 0 (rargs 0 [I a1]) [] σ c s Q := by
  refine Ew_of (pc' := 1) (fun _ => x_iload_n rfl rfl) ?_
  refine Ew_of (pc' := 3) (fun _ => x_bipush (z := 16) rfl (by decide)) ?_
  refine w_icmpge (t := 8) rfl rfl (show inr (a1) by omega) (show inr (16) by omega) (fun b1 => ?_) (fun b1 => ?_)
  · refine Ew_of (pc' := 9) (fun _ => x_iload_n rfl rfl) ?_
    refine Ew_of (pc' := 11) (fun _ => x_bipush (z := 20) rfl (by decide)) ?_
    refine w_icmpge (t := 24) rfl rfl (show inr (a1) by omega) (show inr (20) by omega) (fun b2 => ?_) (fun b2 => ?_)
    · refine Ew_of (pc' := 25) (fun _ => x_iload_n rfl rfl) ?_
      refine Ew_of (pc' := 27) (fun _ => x_bipush (z := 22) rfl (by decide)) ?_
      refine w_icmpge (t := 40) rfl rfl (show inr (a1) by omega) (show inr (22) by omega) (fun b3 => ?_) (fun b3 => ?_)
      · refine Ew_of (pc' := 41) (fun _ => x_iload_n rfl rfl) ?_
        refine Ew_of (pc' := 43) (fun _ => x_bipush (z := 24) rfl (by decide)) ?_
        refine w_icmpge (t := 57) rfl rfl (show inr (a1) by omega) (show inr (24) by omega) (fun b4 => ?_) (fun b4 => ?_)
        · refine Ew_of (pc' := 58) (fun _ => x_iload_n rfl rfl) ?_
          refine Ew_of (pc' := 60) (fun _ => x_bipush (z := 24) rfl (by decide)) ?_
          refine w_icmpne (t := 68) rfl rfl (show inr (a1) by omega) (show inr (24) by omega) (fun b5 => ?_) (fun b5 => ?_)
          · refine Ew_of (pc' := 69) (fun _ => x_iconst rfl) ?_
            refine Ew_of (pc' := 70) (fun _ => x_iload_n rfl rfl) ?_
            refine Ew_of (pc' := 72) (fun _ => x_bipush (z := 19) rfl (by decide)) ?_
            refine w_isub rfl ?_
            have : p2 (((a1 - 19))) ≤ p2 16 := p2_mono (by omega)
            have : p2 16 = 65536 := by decide
            have := p2_pos (((a1 - 19)))
            refine w_ishl1 rfl (show 0 ≤ (a1 - 19) ∧ (a1 - 19) ≤ 31 by omega) ?_
            exact w_ireturn rfl (k (p2 ((a1 - 19))) σ _ _ H (SF_refl) (SA_refl) (show inr (p2 ((a1 - 19))) by omega) (show 0 ≤ (p2 ((a1 - 19))) ∧ (p2 ((a1 - 19))) ≤ 65536 by omega))
          · refine Ew_of (pc' := 65) (fun _ => x_bipush (z := 48) rfl (by decide)) ?_
            refine Ew_of (pc' := 74) (fun _ => x_goto rfl rfl) ?_
            exact w_ireturn rfl (k (48) σ _ _ H (SF_refl) (SA_refl) (show inr (48) by omega) (show 0 ≤ (48) ∧ (48) ≤ 65536 by omega))
        · refine Ew_of (pc' := 48) (fun _ => x_bipush (z := 32) rfl (by decide)) ?_
          refine Ew_of (pc' := 50) (fun _ => x_bipush (z := 8) rfl (by decide)) ?_
          refine Ew_of (pc' := 51) (fun _ => x_iload_n rfl rfl) ?_
          refine Ew_of (pc' := 53) (fun _ => x_bipush (z := 22) rfl (by decide)) ?_
          refine w_isub rfl ?_
          refine w_imul rfl ?_
          refine w_iadd rfl ?_
          exact w_ireturn rfl (k ((32 + (8 * (a1 - 22)))) σ _ _ H (SF_refl) (SA_refl) (show inr ((32 + (8 * (a1 - 22)))) by omega) (show 0 ≤ ((32 + (8 * (a1 - 22)))) ∧ ((32 + (8 * (a1 - 22)))) ≤ 65536 by omega))
      · refine Ew_of (pc' := 32) (fun _ => x_bipush (z := 24) rfl (by decide)) ?_
        refine Ew_of (pc' := 33) (fun _ => x_iconst rfl) ?_
        refine Ew_of (pc' := 34) (fun _ => x_iload_n rfl rfl) ?_
        refine Ew_of (pc' := 36) (fun _ => x_bipush (z := 20) rfl (by decide)) ?_
        refine w_isub rfl ?_
        refine w_imul rfl ?_
        refine w_iadd rfl ?_
        exact w_ireturn rfl (k ((24 + (4 * (a1 - 20)))) σ _ _ H (SF_refl) (SA_refl) (show inr ((24 + (4 * (a1 - 20)))) by omega) (show 0 ≤ ((24 + (4 * (a1 - 20)))) ∧ ((24 + (4 * (a1 - 20)))) ≤ 65536 by omega))
    · refine Ew_of (pc' := 16) (fun _ => x_bipush (z := 16) rfl (by decide)) ?_
      refine Ew_of (pc' := 17) (fun _ => x_iconst rfl) ?_
      refine Ew_of (pc' := 18) (fun _ => x_iload_n rfl rfl) ?_
      refine Ew_of (pc' := 20) (fun _ => x_bipush (z := 16) rfl (by decide)) ?_
      refine w_isub rfl ?_
      refine w_imul rfl ?_
      refine w_iadd rfl ?_
      exact w_ireturn rfl (k ((16 + (2 * (a1 - 16)))) σ _ _ H (SF_refl) (SA_refl) (show inr ((16 + (2 * (a1 - 16)))) by omega) (show 0 ≤ ((16 + (2 * (a1 - 16)))) ∧ ((16 + (2 * (a1 - 16)))) ≤ 65536 by omega))
  · refine Ew_of (pc' := 7) (fun _ => x_iload_n rfl rfl) ?_
    exact w_ireturn rfl (k (a1) σ _ _ H (SF_refl) (SA_refl) (show inr (a1) by omega) (show 0 ≤ (a1) ∧ (a1) ≤ 65536 by omega))
/-- Reader.literalBits -/
theorem M295 {σ0 σ : rS} {D N : Nat → Nat} {F : hF} {A : hA} {d c s : Nat} {Q : wQ} (H : HS σ0 σ D N F A) {a1 : Int} (h0 : inr (a1)) (h1 : 0 ≤ (a1) ∧ (a1) ≤ 35) (k : ∀ (z : Int) σ F' A', HS σ0 σ D N F' A' → SF [] F F' → SA [] A A' → (inr (z)) → (0 ≤ (z) ∧ (z) ≤ 16) → ((z) = lB ((a1))) → Q (some (I z)) σ c s) : Ew 295 (d + 0) 0 (rargs 0 [I a1]) [] σ c s Q := by
  have hlb : lB ((a1)) = if (a1) < 16 then 0 else if (a1) < 20 then 1 else if (a1) < 22 then 2 else if (a1) < 24 then 3 else if (a1) = 24 then 4 else (a1) - 19 := rfl
  refine Ew_of (pc' := 1) (fun _ => x_iload_n rfl rfl) ?_
  refine Ew_of (pc' := 3) (fun _ => x_bipush (z := 16) rfl (by decide)) ?_
  refine w_icmpge (t := 10) rfl rfl (show inr (a1) by omega) (show inr (16) by omega) (fun b1 => ?_) (fun b1 => ?_)
  · refine Ew_of (pc' := 11) (fun _ => x_iload_n rfl rfl) ?_
    refine Ew_of (pc' := 13) (fun _ => x_bipush (z := 20) rfl (by decide)) ?_
    refine w_icmpge (t := 20) rfl rfl (show inr (a1) by omega) (show inr (20) by omega) (fun b2 => ?_) (fun b2 => ?_)
    · refine Ew_of (pc' := 21) (fun _ => x_iload_n rfl rfl) ?_
      refine Ew_of (pc' := 23) (fun _ => x_bipush (z := 22) rfl (by decide)) ?_
      refine w_icmpge (t := 30) rfl rfl (show inr (a1) by omega) (show inr (22) by omega) (fun b3 => ?_) (fun b3 => ?_)
      · refine Ew_of (pc' := 31) (fun _ => x_iload_n rfl rfl) ?_
        refine Ew_of (pc' := 33) (fun _ => x_bipush (z := 24) rfl (by decide)) ?_
        refine w_icmpge (t := 40) rfl rfl (show inr (a1) by omega) (show inr (24) by omega) (fun b4 => ?_) (fun b4 => ?_)
        · refine Ew_of (pc' := 41) (fun _ => x_iload_n rfl rfl) ?_
          refine Ew_of (pc' := 43) (fun _ => x_bipush (z := 24) rfl (by decide)) ?_
          refine w_icmpne (t := 50) rfl rfl (show inr (a1) by omega) (show inr (24) by omega) (fun b5 => ?_) (fun b5 => ?_)
          · refine Ew_of (pc' := 51) (fun _ => x_iload_n rfl rfl) ?_
            refine Ew_of (pc' := 53) (fun _ => x_bipush (z := 19) rfl (by decide)) ?_
            refine w_isub rfl ?_
            exact w_ireturn rfl (k ((a1 - 19)) σ _ _ H (SF_refl) (SA_refl) (show inr ((a1 - 19)) by omega) (show 0 ≤ ((a1 - 19)) ∧ ((a1 - 19)) ≤ 16 by omega) (show ((a1 - 19)) = lB (a1) by omega))
          · refine Ew_of (pc' := 47) (fun _ => x_iconst rfl) ?_
            refine Ew_of (pc' := 54) (fun _ => x_goto rfl rfl) ?_
            exact w_ireturn rfl (k (4) σ _ _ H (SF_refl) (SA_refl) (show inr (4) by omega) (show 0 ≤ (4) ∧ (4) ≤ 16 by omega) (show (4) = lB (a1) by omega))
        · refine Ew_of (pc' := 37) (fun _ => x_iconst rfl) ?_
          refine Ew_of (pc' := 54) (fun _ => x_goto rfl rfl) ?_
          exact w_ireturn rfl (k (3) σ _ _ H (SF_refl) (SA_refl) (show inr (3) by omega) (show 0 ≤ (3) ∧ (3) ≤ 16 by omega) (show (3) = lB (a1) by omega))
      · refine Ew_of (pc' := 27) (fun _ => x_iconst rfl) ?_
        refine Ew_of (pc' := 54) (fun _ => x_goto rfl rfl) ?_
        exact w_ireturn rfl (k (2) σ _ _ H (SF_refl) (SA_refl) (show inr (2) by omega) (show 0 ≤ (2) ∧ (2) ≤ 16 by omega) (show (2) = lB (a1) by omega))
    · refine Ew_of (pc' := 17) (fun _ => x_iconst rfl) ?_
      refine Ew_of (pc' := 54) (fun _ => x_goto rfl rfl) ?_
      exact w_ireturn rfl (k (1) σ _ _ H (SF_refl) (SA_refl) (show inr (1) by omega) (show 0 ≤ (1) ∧ (1) ≤ 16 by omega) (show (1) = lB (a1) by omega))
  · refine Ew_of (pc' := 7) (fun _ => x_iconst rfl) ?_
    refine Ew_of (pc' := 54) (fun _ => x_goto rfl rfl) ?_
    exact w_ireturn rfl (k (0) σ _ _ H (SF_refl) (SA_refl) (show inr (0) by omega) (show 0 ≤ (0) ∧ (0) ≤ 16 by omega) (show (0) = lB (a1) by omega))
/-- Reader.matchBase -/
theorem M296 {σ0 σ : rS} {D N : Nat → Nat} {F : hF} {A : hA} {d c s : Nat} {Q : wQ} (H : HS σ0 σ D N F A) {a1 : Int} (h0 : inr (a1)) (h1 : 0 ≤ (a1) ∧ (a1) ≤ 52) (k : ∀ (z : Int) σ F' A', HS σ0 σ D N F' A' → SF [] F F' → SA [] A A' → (inr (z)) → (3 ≤ (z) ∧ (z) ≤ 65539) → Q (some (I z)) σ c s) : Ew 296 (d + 0) 0 (rargs 0 [I a1]) [] σ c s Q := by
  refine Ew_of (pc' := 1) (fun _ => x_iload_n rfl rfl) ?_
  refine Ew_of (pc' := 3) (fun _ => x_bipush (z := 32) rfl (by decide)) ?_
  refine w_icmpge (t := 10) rfl rfl (show inr (a1) by omega) (show inr (32) by omega) (fun b1 => ?_) (fun b1 => ?_)
  · refine Ew_of (pc' := 11) (fun _ => x_iload_n rfl rfl) ?_
    refine Ew_of (pc' := 13) (fun _ => x_bipush (z := 36) rfl (by decide)) ?_
    refine w_icmpge (t := 26) rfl rfl (show inr (a1) by omega) (show inr (36) by omega) (fun b2 => ?_) (fun b2 => ?_)
    · refine Ew_of (pc' := 27) (fun _ => x_iload_n rfl rfl) ?_
      refine Ew_of (pc' := 29) (fun _ => x_bipush (z := 38) rfl (by decide)) ?_
      refine w_icmpge (t := 42) rfl rfl (show inr (a1) by omega) (show inr (38) by omega) (fun b3 => ?_) (fun b3 => ?_)
      · refine Ew_of (pc' := 43) (fun _ => x_iload_n rfl rfl) ?_
        refine Ew_of (pc' := 45) (fun _ => x_bipush (z := 40) rfl (by decide)) ?_
        refine w_icmpge (t := 59) rfl rfl (show inr (a1) by omega) (show inr (40) by omega) (fun b4 => ?_) (fun b4 => ?_)
        · refine Ew_of (pc' := 60) (fun _ => x_iload_n rfl rfl) ?_
          refine Ew_of (pc' := 62) (fun _ => x_bipush (z := 42) rfl (by decide)) ?_
          refine w_icmpge (t := 76) rfl rfl (show inr (a1) by omega) (show inr (42) by omega) (fun b5 => ?_) (fun b5 => ?_)
          · refine Ew_of (pc' := 77) (fun _ => x_iload_n rfl rfl) ?_
            refine Ew_of (pc' := 79) (fun _ => x_bipush (z := 42) rfl (by decide)) ?_
            refine w_icmpne (t := 87) rfl rfl (show inr (a1) by omega) (show inr (42) by omega) (fun b6 => ?_) (fun b6 => ?_)
            · refine Ew_of (pc' := 88) (fun _ => x_iconst rfl) ?_
              refine Ew_of (pc' := 89) (fun _ => x_iload_n rfl rfl) ?_
              refine Ew_of (pc' := 91) (fun _ => x_bipush (z := 36) rfl (by decide)) ?_
              refine w_isub rfl ?_
              have : p2 (((a1 - 36))) ≤ p2 16 := p2_mono (by omega)
              have : p2 16 = 65536 := by decide
              have := p2_pos (((a1 - 36)))
              refine w_ishl1 rfl (show 0 ≤ (a1 - 36) ∧ (a1 - 36) ≤ 31 by omega) ?_
              refine Ew_of (pc' := 94) (fun _ => x_iconst rfl) ?_
              refine w_iadd rfl ?_
              exact w_ireturn rfl (k ((p2 ((a1 - 36)) + 3)) σ _ _ H (SF_refl) (SA_refl) (show inr ((p2 ((a1 - 36)) + 3)) by omega) (show 3 ≤ ((p2 ((a1 - 36)) + 3)) ∧ ((p2 ((a1 - 36)) + 3)) ≤ 65539 by omega))
            · refine Ew_of (pc' := 84) (fun _ => x_bipush (z := 99) rfl (by decide)) ?_
              refine Ew_of (pc' := 95) (fun _ => x_goto rfl rfl) ?_
              exact w_ireturn rfl (k (99) σ _ _ H (SF_refl) (SA_refl) (show inr (99) by omega) (show 3 ≤ (99) ∧ (99) ≤ 65539 by omega))
          · refine Ew_of (pc' := 67) (fun _ => x_bipush (z := 67) rfl (by decide)) ?_
            refine Ew_of (pc' := 69) (fun _ => x_bipush (z := 16) rfl (by decide)) ?_
            refine Ew_of (pc' := 70) (fun _ => x_iload_n rfl rfl) ?_
            refine Ew_of (pc' := 72) (fun _ => x_bipush (z := 40) rfl (by decide)) ?_
            refine w_isub rfl ?_
            refine w_imul rfl ?_
            refine w_iadd rfl ?_
            exact w_ireturn rfl (k ((67 + (16 * (a1 - 40)))) σ _ _ H (SF_refl) (SA_refl) (show inr ((67 + (16 * (a1 - 40)))) by omega) (show 3 ≤ ((67 + (16 * (a1 - 40)))) ∧ ((67 + (16 * (a1 - 40)))) ≤ 65539 by omega))
        · refine Ew_of (pc' := 50) (fun _ => x_bipush (z := 51) rfl (by decide)) ?_
          refine Ew_of (pc' := 52) (fun _ => x_bipush (z := 8) rfl (by decide)) ?_
          refine Ew_of (pc' := 53) (fun _ => x_iload_n rfl rfl) ?_
          refine Ew_of (pc' := 55) (fun _ => x_bipush (z := 38) rfl (by decide)) ?_
          refine w_isub rfl ?_
          refine w_imul rfl ?_
          refine w_iadd rfl ?_
          exact w_ireturn rfl (k ((51 + (8 * (a1 - 38)))) σ _ _ H (SF_refl) (SA_refl) (show inr ((51 + (8 * (a1 - 38)))) by omega) (show 3 ≤ ((51 + (8 * (a1 - 38)))) ∧ ((51 + (8 * (a1 - 38)))) ≤ 65539 by omega))
      · refine Ew_of (pc' := 34) (fun _ => x_bipush (z := 43) rfl (by decide)) ?_
        refine Ew_of (pc' := 35) (fun _ => x_iconst rfl) ?_
        refine Ew_of (pc' := 36) (fun _ => x_iload_n rfl rfl) ?_
        refine Ew_of (pc' := 38) (fun _ => x_bipush (z := 36) rfl (by decide)) ?_
        refine w_isub rfl ?_
        refine w_imul rfl ?_
        refine w_iadd rfl ?_
        exact w_ireturn rfl (k ((43 + (4 * (a1 - 36)))) σ _ _ H (SF_refl) (SA_refl) (show inr ((43 + (4 * (a1 - 36)))) by omega) (show 3 ≤ ((43 + (4 * (a1 - 36)))) ∧ ((43 + (4 * (a1 - 36)))) ≤ 65539 by omega))
    · refine Ew_of (pc' := 18) (fun _ => x_bipush (z := 35) rfl (by decide)) ?_
      refine Ew_of (pc' := 19) (fun _ => x_iconst rfl) ?_
      refine Ew_of (pc' := 20) (fun _ => x_iload_n rfl rfl) ?_
      refine Ew_of (pc' := 22) (fun _ => x_bipush (z := 32) rfl (by decide)) ?_
      refine w_isub rfl ?_
      refine w_imul rfl ?_
      refine w_iadd rfl ?_
      exact w_ireturn rfl (k ((35 + (2 * (a1 - 32)))) σ _ _ H (SF_refl) (SA_refl) (show inr ((35 + (2 * (a1 - 32)))) by omega) (show 3 ≤ ((35 + (2 * (a1 - 32)))) ∧ ((35 + (2 * (a1 - 32)))) ≤ 65539 by omega))
  · refine Ew_of (pc' := 7) (fun _ => x_iload_n rfl rfl) ?_
    refine Ew_of (pc' := 8) (fun _ => x_iconst rfl) ?_
    refine w_iadd rfl ?_
    exact w_ireturn rfl (k ((a1 + 3)) σ _ _ H (SF_refl) (SA_refl) (show inr ((a1 + 3)) by omega) (show 3 ≤ ((a1 + 3)) ∧ ((a1 + 3)) ≤ 65539 by omega))
/-- Reader.matchBits -/
theorem M297 {σ0 σ : rS} {D N : Nat → Nat} {F : hF} {A : hA} {d c s : Nat} {Q : wQ} (H : HS σ0 σ D N F A) {a1 : Int} (h0 : inr (a1)) (h1 : 0 ≤ (a1) ∧ (a1) ≤ 52) (k : ∀ (z : Int) σ F' A', HS σ0 σ D N F' A' → SF [] F F' → SA [] A A' → (inr (z)) → (0 ≤ (z) ∧ (z) ≤ 16) → ((z) = mB ((a1))) → Q (some (I z)) σ c s) : Ew 297 (d + 0) 0 (rargs 0 [I a1]) [] σ c s Q := by
  have hmb : mB ((a1)) = if (a1) < 32 then 0 else if (a1) < 36 then 1 else if (a1) < 38 then 2 else if (a1) < 40 then 3 else if (a1) < 42 then 4 else if (a1) = 42 then 5 else (a1) - 36 := rfl
  refine Ew_of (pc' := 1) (fun _ => x_iload_n rfl rfl) ?_
  refine Ew_of (pc' := 3) (fun _ => x_bipush (z := 32) rfl (by decide)) ?_
  refine w_icmpge (t := 10) rfl rfl (show inr (a1) by omega) (show inr (32) by omega) (fun b1 => ?_) (fun b1 => ?_)
  · refine Ew_of (pc' := 11) (fun _ => x_iload_n rfl rfl) ?_
    refine Ew_of (pc' := 13) (fun _ => x_bipush (z := 36) rfl (by decide)) ?_
    refine w_icmpge (t := 20) rfl rfl (show inr (a1) by omega) (show inr (36) by omega) (fun b2 => ?_) (fun b2 => ?_)
    · refine Ew_of (pc' := 21) (fun _ => x_iload_n rfl rfl) ?_
      refine Ew_of (pc' := 23) (fun _ => x_bipush (z := 38) rfl (by decide)) ?_
      refine w_icmpge (t := 30) rfl rfl (show inr (a1) by omega) (show inr (38) by omega) (fun b3 => ?_) (fun b3 => ?_)
      · refine Ew_of (pc' := 31) (fun _ => x_iload_n rfl rfl) ?_
        refine Ew_of (pc' := 33) (fun _ => x_bipush (z := 40) rfl (by decide)) ?_
        refine w_icmpge (t := 40) rfl rfl (show inr (a1) by omega) (show inr (40) by omega) (fun b4 => ?_) (fun b4 => ?_)
        · refine Ew_of (pc' := 41) (fun _ => x_iload_n rfl rfl) ?_
          refine Ew_of (pc' := 43) (fun _ => x_bipush (z := 42) rfl (by decide)) ?_
          refine w_icmpge (t := 50) rfl rfl (show inr (a1) by omega) (show inr (42) by omega) (fun b5 => ?_) (fun b5 => ?_)
          · refine Ew_of (pc' := 51) (fun _ => x_iload_n rfl rfl) ?_
            refine Ew_of (pc' := 53) (fun _ => x_bipush (z := 42) rfl (by decide)) ?_
            refine w_icmpne (t := 60) rfl rfl (show inr (a1) by omega) (show inr (42) by omega) (fun b6 => ?_) (fun b6 => ?_)
            · refine Ew_of (pc' := 61) (fun _ => x_iload_n rfl rfl) ?_
              refine Ew_of (pc' := 63) (fun _ => x_bipush (z := 36) rfl (by decide)) ?_
              refine w_isub rfl ?_
              exact w_ireturn rfl (k ((a1 - 36)) σ _ _ H (SF_refl) (SA_refl) (show inr ((a1 - 36)) by omega) (show 0 ≤ ((a1 - 36)) ∧ ((a1 - 36)) ≤ 16 by omega) (show ((a1 - 36)) = mB (a1) by omega))
            · refine Ew_of (pc' := 57) (fun _ => x_iconst rfl) ?_
              refine Ew_of (pc' := 64) (fun _ => x_goto rfl rfl) ?_
              exact w_ireturn rfl (k (5) σ _ _ H (SF_refl) (SA_refl) (show inr (5) by omega) (show 0 ≤ (5) ∧ (5) ≤ 16 by omega) (show (5) = mB (a1) by omega))
          · refine Ew_of (pc' := 47) (fun _ => x_iconst rfl) ?_
            refine Ew_of (pc' := 64) (fun _ => x_goto rfl rfl) ?_
            exact w_ireturn rfl (k (4) σ _ _ H (SF_refl) (SA_refl) (show inr (4) by omega) (show 0 ≤ (4) ∧ (4) ≤ 16 by omega) (show (4) = mB (a1) by omega))
        · refine Ew_of (pc' := 37) (fun _ => x_iconst rfl) ?_
          refine Ew_of (pc' := 64) (fun _ => x_goto rfl rfl) ?_
          exact w_ireturn rfl (k (3) σ _ _ H (SF_refl) (SA_refl) (show inr (3) by omega) (show 0 ≤ (3) ∧ (3) ≤ 16 by omega) (show (3) = mB (a1) by omega))
      · refine Ew_of (pc' := 27) (fun _ => x_iconst rfl) ?_
        refine Ew_of (pc' := 64) (fun _ => x_goto rfl rfl) ?_
        exact w_ireturn rfl (k (2) σ _ _ H (SF_refl) (SA_refl) (show inr (2) by omega) (show 0 ≤ (2) ∧ (2) ≤ 16 by omega) (show (2) = mB (a1) by omega))
    · refine Ew_of (pc' := 17) (fun _ => x_iconst rfl) ?_
      refine Ew_of (pc' := 64) (fun _ => x_goto rfl rfl) ?_
      exact w_ireturn rfl (k (1) σ _ _ H (SF_refl) (SA_refl) (show inr (1) by omega) (show 0 ≤ (1) ∧ (1) ≤ 16 by omega) (show (1) = mB (a1) by omega))
  · refine Ew_of (pc' := 7) (fun _ => x_iconst rfl) ?_
    refine Ew_of (pc' := 64) (fun _ => x_goto rfl rfl) ?_
    exact w_ireturn rfl (k (0) σ _ _ H (SF_refl) (SA_refl) (show inr (0) by omega) (show 0 ≤ (0) ∧ (0) ≤ 16 by omega) (show (0) = mB (a1) by omega))
/-- Reader.isAbove -/
theorem M301 {σ0 σ : rS} {D N : Nat → Nat} {F : hF} {A : hA} {d c s : Nat} {Q : wQ} (H : HS σ0 σ D N F A) {a1 : Int} (h0 : inrJ (a1)) (k : ∀ (z : Int) σ F' A', HS σ0 σ D N F' A' → SF [] F F' → SA [] A A' → ((z) = 0 ∨ (z) = 1) → Q (some (I z)) σ c s) : Ew 301 (d + 0) 0 (rargs 0 [.ref (D 5), J a1]) [] σ c s Q := by
  refine Ew_of (pc' := 1) (fun _ => x_aload_n rfl rfl) ?_
  have r1 : (-9223372036854775808 : Int) ≤ F 5 35 ∧ F 5 35 ≤ 9223372036854775807 := by have h1 : (-9223372036854775808 : Int) ≤ F 5 35 ∧ F 5 35 ≤ 9223372036854775807 := H.frng 5 35; rw [show F 5 35 = F 5 35 from rfl] at h1; exact h1
  refine w_gJ H (o := 5) (w := F 5 35) rfl (H.perm 5 rfl) rfl rfl rfl (fun _ => rfl) rfl ?_
  refine Ew_of (pc' := 5) (fun _ => x_lconst (z := 0) rfl (by decide)) ?_
  refine w_lcmp rfl (show inrJ (F 5 35) by omega) (show inrJ (0) by omega) (fun z2 gz2 gaz2 gbz2 => ?_)
  refine w_iflt (t := 22) rfl rfl (show inr (z2) by omega) (fun b3 => ?_) (fun b3 => ?_)
  · refine Ew_of (pc' := 23) (fun _ => x_iconst rfl) ?_
    exact w_ireturn rfl (k (0) σ _ _ H (SF_refl) (SA_refl) (show (0) = 0 ∨ (0) = 1 by omega))
  · refine Ew_of (pc' := 10) (fun _ => x_lload_n rfl rfl) ?_
    refine Ew_of (pc' := 11) (fun _ => x_aload_n rfl rfl) ?_
    refine w_gJ H (o := 5) (w := F 5 35) rfl (H.perm 5 rfl) rfl rfl rfl (fun _ => rfl) rfl ?_
    refine w_lcmp rfl (show inrJ (a1) by omega) (show inrJ (F 5 35) by omega) (fun z4 gz4 gaz4 gbz4 => ?_)
    refine w_ifle (t := 22) rfl rfl (show inr (z4) by omega) (fun b5 => ?_) (fun b5 => ?_)
    · refine Ew_of (pc' := 23) (fun _ => x_iconst rfl) ?_
      exact w_ireturn rfl (k (0) σ _ _ H (SF_refl) (SA_refl) (show (0) = 0 ∨ (0) = 1 by omega))
    · refine Ew_of (pc' := 19) (fun _ => x_iconst rfl) ?_
      refine Ew_of (pc' := 23) (fun _ => x_goto rfl rfl) ?_
      exact w_ireturn rfl (k (1) σ _ _ H (SF_refl) (SA_refl) (show (1) = 0 ∨ (1) = 1 by omega))
/-- Reader.isTooFar -/
theorem M300 {σ0 σ : rS} {D N : Nat → Nat} {F : hF} {A : hA} {d c s : Nat} {Q : wQ} (H : HS σ0 σ D N F A) {a1 a2 : Int} (u5_2 : Int) (eu5_2 : F 5 2 = u5_2) (h0 : inrJ (a1)) (h1 : inrJ (a2)) (h2 : 0 ≤ (a2) ∧ (a2) ≤ 1000000) (k : ∀ (z : Int) σ F' A', HS σ0 σ D N F' A' → SF [] F F' → SA [] A A' → ((z) = 0 ∨ (z) = 1) → ((z) = 0 → (a1) ≠ 0 ∧ (a1) ≤ (a2) + (u5_2)) → Q (some (I z)) σ c s) : Ew 300 (d + 1) 0 (rargs 0 [.ref (D 5), J a1, J a2]) [] σ c s Q := by
  have r1 : (0 : Int) ≤ u5_2 ∧ u5_2 ≤ 65536 := by have h1 : (0 : Int) ≤ F 5 2 ∧ F 5 2 ≤ 65536 := H.frng 5 2; rw [show F 5 2 = u5_2 from (eu5_2)] at h1; exact h1
  refine Ew_of (pc' := 1) (fun _ => x_lload_n rfl rfl) ?_
  refine Ew_of (pc' := 2) (fun _ => x_lconst (z := 0) rfl (by decide)) ?_
  refine w_lcmp rfl (show inrJ (a1) by omega) (show inrJ (0) by omega) (fun z2 gz2 gaz2 gbz2 => ?_)
  refine w_ifeq (t := 46) rfl rfl (show inr (z2) by omega) (fun b3 => ?_) (fun b3 => ?_)
  · refine Ew_of (pc' := 47) (fun _ => x_iconst rfl) ?_
    refine Ew_of (pc' := 51) (fun _ => x_goto rfl rfl) ?_
    exact w_ireturn rfl (k (1) σ _ _ H (SF_refl) (SA_refl) (show (1) = 0 ∨ (1) = 1 by omega) (show (1) = 0 → a1 ≠ 0 ∧ a1 ≤ a2 + (u5_2) by omega))
  · refine Ew_of (pc' := 7) (fun _ => x_lload_n rfl rfl) ?_
    refine Ew_of (pc' := 8) (fun _ => x_lload_n rfl rfl) ?_
    refine Ew_of (pc' := 9) (fun _ => x_aload_n rfl rfl) ?_
    refine w_gI H (o := 5) (w := u5_2) rfl (H.perm 5 rfl) rfl rfl rfl (fun _ => rfl) (eu5_2) ?_
    refine w_i2l rfl (show inr (u5_2) by omega) ?_
    refine w_ladd rfl ?_
    refine w_lcmp rfl (show inrJ (a1) by omega) (show inrJ ((a2 + u5_2)) by omega) (fun z4 gz4 gaz4 gbz4 => ?_)
    refine w_ifgt (t := 46) rfl rfl (show inr (z4) by omega) (fun b5 => ?_) (fun b5 => ?_)
    · refine Ew_of (pc' := 47) (fun _ => x_iconst rfl) ?_
      refine Ew_of (pc' := 51) (fun _ => x_goto rfl rfl) ?_
      exact w_ireturn rfl (k (1) σ _ _ H (SF_refl) (SA_refl) (show (1) = 0 ∨ (1) = 1 by omega) (show (1) = 0 → a1 ≠ 0 ∧ a1 ≤ a2 + (u5_2) by omega))
    · refine Ew_of (pc' := 19) (fun _ => x_lload_n rfl rfl) ?_
      refine Ew_of (pc' := 20) (fun _ => x_lload_n rfl rfl) ?_
      refine w_lcmp rfl (show inrJ (a1) by omega) (show inrJ (a2) by omega) (fun z6 gz6 gaz6 gbz6 => ?_)
      refine w_ifgt (t := 32) rfl rfl (show inr (z6) by omega) (fun b7 => ?_) (fun b7 => ?_)
      · refine Ew_of (pc' := 33) (fun _ => x_lload_n rfl rfl) ?_
        refine Ew_of (pc' := 34) (fun _ => x_lload_n rfl rfl) ?_
        refine w_lcmp rfl (show inrJ (a1) by omega) (show inrJ (a2) by omega) (fun z8 gz8 gaz8 gbz8 => ?_)
        refine w_ifle (t := 50) rfl rfl (show inr (z8) by omega) (fun b9 => ?_) (fun b9 => ?_)
        · refine Ew_of (pc' := 51) (fun _ => x_iconst rfl) ?_
          exact w_ireturn rfl (k (0) σ _ _ H (SF_refl) (SA_refl) (show (0) = 0 ∨ (0) = 1 by omega) (show (0) = 0 → a1 ≠ 0 ∧ a1 ≤ a2 + (u5_2) by omega))
        · refine Ew_of (pc' := 39) (fun _ => x_aload_n rfl rfl) ?_
          refine Ew_of (pc' := 40) (fun _ => x_lload_n rfl rfl) ?_
          refine w_inv H (o := 5) rfl rfl rfl (H.perm 5 rfl) rfl rfl (by rfl) (M301 H (show inrJ (a2) by omega) (fun z14 σ F10 A11 H hS12 hA13 pz14_0 => ⟨rretB rfl pz14_0, ?_⟩))
          refine w_ifeq (t := 50) rfl rfl (show inr (z14) by omega) (fun b15 => ?_) (fun b15 => ?_)
          · refine Ew_of (pc' := 51) (fun _ => x_iconst rfl) ?_
            exact w_ireturn rfl (k (0) σ _ _ H (SF_trans (SF_refl) hS12 (any_sub rfl)) (SA_trans (SA_refl) hA13 (any_subA rfl)) (show (0) = 0 ∨ (0) = 1 by omega) (show (0) = 0 → a1 ≠ 0 ∧ a1 ≤ a2 + (u5_2) by omega))
          · refine Ew_of (pc' := 47) (fun _ => x_iconst rfl) ?_
            refine Ew_of (pc' := 51) (fun _ => x_goto rfl rfl) ?_
            exact w_ireturn rfl (k (1) σ _ _ H (SF_trans (SF_refl) hS12 (any_sub rfl)) (SA_trans (SA_refl) hA13 (any_subA rfl)) (show (1) = 0 ∨ (1) = 1 by omega) (show (1) = 0 → a1 ≠ 0 ∧ a1 ≤ a2 + (u5_2) by omega))
      · refine Ew_of (pc' := 25) (fun _ => x_aload_n rfl rfl) ?_
        refine Ew_of (pc' := 26) (fun _ => x_lload_n rfl rfl) ?_
        refine w_inv H (o := 5) rfl rfl rfl (H.perm 5 rfl) rfl rfl (by rfl) (M301 H (show inrJ (a1) by omega) (fun z20 σ F16 A17 H hS18 hA19 pz20_0 => ⟨rretB rfl pz20_0, ?_⟩))
        refine w_ifne (t := 46) rfl rfl (show inr (z20) by omega) (fun b21 => ?_) (fun b21 => ?_)
        · refine Ew_of (pc' := 47) (fun _ => x_iconst rfl) ?_
          refine Ew_of (pc' := 51) (fun _ => x_goto rfl rfl) ?_
          exact w_ireturn rfl (k (1) σ _ _ H (SF_trans (SF_refl) hS18 (any_sub rfl)) (SA_trans (SA_refl) hA19 (any_subA rfl)) (show (1) = 0 ∨ (1) = 1 by omega) (show (1) = 0 → a1 ≠ 0 ∧ a1 ≤ a2 + (u5_2) by omega))
        · refine Ew_of (pc' := 33) (fun _ => x_lload_n rfl rfl) ?_
          refine Ew_of (pc' := 34) (fun _ => x_lload_n rfl rfl) ?_
          refine w_lcmp rfl (show inrJ (a1) by omega) (show inrJ (a2) by omega) (fun z22 gz22 gaz22 gbz22 => ?_)
          refine w_ifle (t := 50) rfl rfl (show inr (z22) by omega) (fun b23 => ?_) (fun b23 => ?_)
          · refine Ew_of (pc' := 51) (fun _ => x_iconst rfl) ?_
            exact w_ireturn rfl (k (0) σ _ _ H (SF_trans (SF_refl) hS18 (any_sub rfl)) (SA_trans (SA_refl) hA19 (any_subA rfl)) (show (0) = 0 ∨ (0) = 1 by omega) (show (0) = 0 → a1 ≠ 0 ∧ a1 ≤ a2 + (u5_2) by omega))
          · refine Ew_of (pc' := 39) (fun _ => x_aload_n rfl rfl) ?_
            refine Ew_of (pc' := 40) (fun _ => x_lload_n rfl rfl) ?_
            refine w_inv H (o := 5) rfl rfl rfl (H.perm 5 rfl) rfl rfl (by rfl) (M301 H (show inrJ (a2) by omega) (fun z28 σ F24 A25 H hS26 hA27 pz28_0 => ⟨rretB rfl pz28_0, ?_⟩))
            refine w_ifeq (t := 50) rfl rfl (show inr (z28) by omega) (fun b29 => ?_) (fun b29 => ?_)
            · refine Ew_of (pc' := 51) (fun _ => x_iconst rfl) ?_
              exact w_ireturn rfl (k (0) σ _ _ H (SF_trans (SF_trans (SF_refl) hS18 (any_sub rfl)) hS26 (any_sub rfl)) (SA_trans (SA_trans (SA_refl) hA19 (any_subA rfl)) hA27 (any_subA rfl)) (show (0) = 0 ∨ (0) = 1 by omega) (show (0) = 0 → a1 ≠ 0 ∧ a1 ≤ a2 + (u5_2) by omega))
            · refine Ew_of (pc' := 47) (fun _ => x_iconst rfl) ?_
              refine Ew_of (pc' := 51) (fun _ => x_goto rfl rfl) ?_
              exact w_ireturn rfl (k (1) σ _ _ H (SF_trans (SF_trans (SF_refl) hS18 (any_sub rfl)) hS26 (any_sub rfl)) (SA_trans (SA_trans (SA_refl) hA19 (any_subA rfl)) hA27 (any_subA rfl)) (show (1) = 0 ∨ (1) = 1 by omega) (show (1) = 0 → a1 ≠ 0 ∧ a1 ≤ a2 + (u5_2) by omega))
/-- Reader.copy -/
theorem M302 {σ0 σ : rS} {D N : Nat → Nat} {F : hF} {A : hA} {d c s : Nat} {Q : wQ} (H : HS σ0 σ D N F A) {a1 a2 a3 : Int} (u5_2 : Int) (eu5_2 : F 5 2 = u5_2) (u5_27 : Int) (eu5_27 : F 5 27 = u5_27) (u5_28 : Int) (eu5_28 : F 5 28 = u5_28) (u5_39 : Int) (eu5_39 : F 5 39 = u5_39) (u5_40 : Int) (eu5_40 : F 5 40 = u5_40) (h0 : inr (a1)) (h1 : inr (a2)) (h2 : inr (a3)) (h3 : 0 ≤ (a1) ∧ 0 ≤ (a3) ∧ (u5_40) + (a1) ≤ (u5_39)) (h4 : (u5_27) + (a1) + (a3) ≤ 65536) (h5 : 1 ≤ (a2) ∧ (a2) ≤ (u5_27) + (a1) - (u5_28) + (u5_2)) (h6 : (u5_28) ≤ (u5_27)) (k : ∀ σ F' A', HS σ0 σ D N F' A' → SF [(5, 27), (5, 40)] F F' → SA [45] A A' → ∀ y5_27 : Int, F' 5 27 = y5_27 → ∀ y5_40 : Int, F' 5 40 = y5_40 → ((y5_27) = (u5_27) + (a1) + (a3)) → ((y5_40) = (u5_40) + (a1)) → Q none σ c s) : Ew 302 (d + 0) 0 (rargs 0 [.ref (D 5), I a1, I a2, I a3]) [] σ c s Q := by
  have r1 : (0 : Int) ≤ u5_2 ∧ u5_2 ≤ 65536 := by have h1 : (0 : Int) ≤ F 5 2 ∧ F 5 2 ≤ 65536 := H.frng 5 2; rw [show F 5 2 = u5_2 from (eu5_2)] at h1; exact h1
  have r2 : (0 : Int) ≤ u5_27 ∧ u5_27 ≤ 65536 := by have h1 : (0 : Int) ≤ F 5 27 ∧ F 5 27 ≤ 65536 := H.frng 5 27; rw [show F 5 27 = u5_27 from (eu5_27)] at h1; exact h1
  have r3 : (0 : Int) ≤ u5_28 ∧ u5_28 ≤ 65536 := by have h1 : (0 : Int) ≤ F 5 28 ∧ F 5 28 ≤ 65536 := H.frng 5 28; rw [show F 5 28 = u5_28 from (eu5_28)] at h1; exact h1
  have r4 : (0 : Int) ≤ u5_39 ∧ u5_39 ≤ 131072 := by have h1 : (0 : Int) ≤ F 5 39 ∧ F 5 39 ≤ 131072 := H.frng 5 39; rw [show F 5 39 = u5_39 from (eu5_39)] at h1; exact h1
  have r5 : (0 : Int) ≤ u5_40 ∧ u5_40 ≤ 131072 := by have h1 : (0 : Int) ≤ F 5 40 ∧ F 5 40 ≤ 131072 := H.frng 5 40; rw [show F 5 40 = u5_40 from (eu5_40)] at h1; exact h1
  refine Ew_of (pc' := 1) (fun _ => x_iconst rfl) ?_
  refine Ew_of (pc' := 3) (fun _ => x_istore rfl) ?_
  suffices hl3 : ∀ (m : Nat), ∀ (ls : rO) (σ : rS) (F_3 : hF) (A_3 : hA) (x3_4 : Int), rlook ls 0 = some (.ref (D 5)) → rlook ls 1 = some (I (a1)) → rlook ls 2 = some (I (a2)) → rlook ls 3 = some (I (a3)) → rlook ls 4 = some (I (x3_4)) → HS σ0 σ D N F_3 A_3 → SF [(5, 27), (5, 40)] F F_3 → SA [45] A A_3 → ∀ y3_5_27 : Int, F_3 5 27 = y3_5_27 → ∀ y3_5_40 : Int, F_3 5 40 = y3_5_40 → (inr (x3_4)) → ((0) ≤ (x3_4)) → ((x3_4) ≤ (0) ∨ (x3_4) ≤ ((a1))) → ((y3_5_27) = (u5_27) + (x3_4) ∧ (y3_5_40) = (u5_40) + (x3_4)) → (((a1)) - (x3_4)).toNat = m → Ew 302 (d + 0) 3 ls [] σ c s Q from
    hl3 _ _ σ _ _ (0) (rk_o (rfl) rfl rfl) (rk_o (rfl) rfl rfl) (rk_o (rfl) rfl rfl) (rk_o (rfl) rfl rfl) (rk_s) H (SF_refl) (SA_refl) (u5_27) ((eu5_27)) (u5_40) ((eu5_40))  (show inr (0) by omega) (show (0) ≤ (0) by omega) (show (0) ≤ (0) ∨ (0) ≤ ((a1)) by omega) (show (u5_27) = (u5_27) + (0) ∧ (u5_40) = (u5_40) + (0) by omega) rfl
  as_aux_lemma =>
  intro m
  induction m using Nat.strongRecOn with
  | _ m ih3 =>
    intro ls σ F_3 A_3 x3_4 l3_0 l3_1 l3_2 l3_3 l3_4 H hS_3 hA_3 y3_5_27 ey3_5_27 y3_5_40 ey3_5_40  j3_0 j3_1 j3_2 j3_3 hm3
    have r6 : (0 : Int) ≤ y3_5_27 ∧ y3_5_27 ≤ 65536 := by have h1 : (0 : Int) ≤ F_3 5 27 ∧ F_3 5 27 ≤ 65536 := H.frng 5 27; rw [show F_3 5 27 = y3_5_27 from (ey3_5_27)] at h1; exact h1
    have r7 : (0 : Int) ≤ y3_5_40 ∧ y3_5_40 ≤ 131072 := by have h1 : (0 : Int) ≤ F_3 5 40 ∧ F_3 5 40 ≤ 131072 := H.frng 5 40; rw [show F_3 5 40 = y3_5_40 from (ey3_5_40)] at h1; exact h1
    refine Ew_of (pc' := 5) (fun _ => x_iload rfl l3_4) ?_
    refine Ew_of (pc' := 6) (fun _ => x_iload_n rfl l3_1) ?_
    refine w_icmpge (t := 53) rfl rfl (show inr (x3_4) by omega) (show inr (a1) by omega) (fun b8 => ?_) (fun b8 => ?_)
    · refine Ew_of (pc' := 54) (fun _ => x_iconst rfl) ?_
      refine Ew_of (pc' := 56) (fun _ => x_istore rfl) ?_
      suffices hl56 : ∀ (m : Nat), ∀ (ls : rO) (σ : rS) (F_56 : hF) (A_56 : hA) (x56_4 : Int), rlook ls 0 = some (.ref (D 5)) → rlook ls 2 = some (I (a2)) → rlook ls 3 = some (I (a3)) → rlook ls 4 = some (I (x56_4)) → HS σ0 σ D N F_56 A_56 → SF [(5, 27)] F_3 F_56 → SA [45] A_3 A_56 → ∀ y56_5_27 : Int, F_56 5 27 = y56_5_27 → (inr (x56_4)) → ((0) ≤ (x56_4)) → ((x56_4) ≤ (0) ∨ (x56_4) ≤ ((a3))) → ((y56_5_27) = (u5_27) + (a1) + (x56_4)) → (((a3)) - (x56_4)).toNat = m → Ew 302 (d + 0) 56 ls [] σ c s Q from
        hl56 _ _ σ _ _ (0) (rk_o (l3_0) rfl rfl) (rk_o (l3_2) rfl rfl) (rk_o (l3_3) rfl rfl) (rk_s) H (SF_refl) (SA_refl) (y3_5_27) ((ey3_5_27))  (show inr (0) by omega) (show (0) ≤ (0) by omega) (show (0) ≤ (0) ∨ (0) ≤ ((a3)) by omega) (show (y3_5_27) = (u5_27) + (a1) + (0) by omega) rfl
      as_aux_lemma =>
      intro m
      induction m using Nat.strongRecOn with
      | _ m ih56 =>
        intro ls σ F_56 A_56 x56_4 l56_0 l56_2 l56_3 l56_4 H hS_56 hA_56 y56_5_27 ey56_5_27  j56_0 j56_1 j56_2 j56_3 hm56
        have r9 : (0 : Int) ≤ y56_5_27 ∧ y56_5_27 ≤ 65536 := by have h1 : (0 : Int) ≤ F_56 5 27 ∧ F_56 5 27 ≤ 65536 := H.frng 5 27; rw [show F_56 5 27 = y56_5_27 from (ey56_5_27)] at h1; exact h1
        refine Ew_of (pc' := 58) (fun _ => x_iload rfl l56_4) ?_
        refine Ew_of (pc' := 59) (fun _ => x_iload_n rfl l56_3) ?_
        refine w_icmpge (t := 131) rfl rfl (show inr (x56_4) by omega) (show inr (a3) by omega) (fun b10 => ?_) (fun b10 => ?_)
        · exact w_ret rfl (k σ _ _ H (SF_trans (SF_trans (SF_refl) hS_3 (any_sub rfl)) hS_56 (any_sub rfl)) (SA_trans (SA_trans (SA_refl) hA_3 (any_subA rfl)) hA_56 (any_subA rfl)) (y56_5_27) ((ey56_5_27)) (y3_5_40) (((hS_56 5 40 rfl).trans (ey3_5_40))) (show (y56_5_27) = (u5_27) + a1 + a3 by omega) (show (y3_5_40) = (u5_40) + a1 by omega))
        · refine Ew_of (pc' := 63) (fun _ => x_aload_n rfl l56_0) ?_
          refine w_gI H (o := 5) (w := y56_5_27) rfl (H.perm 5 rfl) rfl rfl rfl (fun _ => rfl) (ey56_5_27) ?_
          refine Ew_of (pc' := 67) (fun _ => x_iload_n rfl l56_2) ?_
          refine w_isub rfl ?_
          refine Ew_of (pc' := 70) (fun _ => x_istore rfl) ?_
          refine Ew_of (pc' := 71) (fun _ => x_aload_n rfl (rk_o (l56_0) rfl rfl)) ?_
          refine w_gT H (o := 5) (t := 45) rfl (H.perm 5 rfl) rfl rfl rfl rfl rfl rfl ?_
          refine Ew_of (pc' := 75) (fun _ => x_aload_n rfl (rk_o (l56_0) rfl rfl)) ?_
          refine w_gI H (o := 5) (w := y56_5_27) rfl (H.perm 5 rfl) rfl rfl rfl (fun _ => rfl) (ey56_5_27) ?_
          refine Ew_of (pc' := 80) (fun _ => x_iload rfl rk_s) ?_
          refine Ew_of (pc' := 81) (fun _ => x_aload_n rfl (rk_o (l56_0) rfl rfl)) ?_
          refine w_gI H (o := 5) (w := u5_28) rfl (H.perm 5 rfl) rfl rfl rfl (fun _ => rfl) (((hS_56 5 28 rfl).trans (hS_3 5 28 rfl)).trans (eu5_28)) ?_
          have hc114 : ∀ (tc114_0 : Int), ∀ (ls : rO) (σ : rS) (F_c114 : hF) (A_c114 : hA) , rlook ls 0 = some (.ref (D 5)) → rlook ls 2 = some (I (a2)) → rlook ls 3 = some (I (a3)) → rlook ls 4 = some (I (x56_4)) → HS σ0 σ D N F_c114 A_c114 → SF [] F_56 F_c114 → SA [] A_56 A_c114 → (inr (tc114_0)) → ((((y56_5_27 - a2)) < (u5_28) ∧ 0 ≤ ((A 26) (((u5_2 + (y56_5_27 - a2)) - u5_28))) ∧ ((A 26) (((u5_2 + (y56_5_27 - a2)) - u5_28))) ≤ 255 ∧ (tc114_0) = ((A 26) (((u5_2 + (y56_5_27 - a2)) - u5_28)))) ∨ (((y56_5_27 - a2)) ≥ (u5_28) ∧ 0 ≤ ((A_56 45) ((y56_5_27 - a2))) ∧ ((A_56 45) ((y56_5_27 - a2))) ≤ 255 ∧ (tc114_0) = ((A_56 45) ((y56_5_27 - a2))))) → Ew 302 (d + 0) 114 ls [I (tc114_0), I (y56_5_27), .ref (D 45)] σ c s Q := by
           as_aux_lemma =>
            intro tc114_0 ls σ F_c114 A_c114  lc114_0 lc114_2 lc114_3 lc114_4 H hS_c114 hA_c114   jc114_0 jc114_1
            refine w_sI H (o := 45) (n := 65536) rfl (H.perm 45 rfl) rfl rfl (H.fix 45 rfl rfl) (show 0 ≤ y56_5_27 ∧ y56_5_27 < ((65536 : Nat) : Int) by omega) (by decide) (show (0 : Int) ≤ tc114_0 ∧ tc114_0 ≤ 255 by omega) (fun σ H => ?_)
            refine Ew_of (pc' := 116) (fun _ => x_aload_n rfl lc114_0) ?_
            refine Ew_of (pc' := 117) (fun _ => x_dup rfl rfl) ?_
            refine w_gI H (o := 5) (w := y56_5_27) rfl (H.perm 5 rfl) rfl rfl rfl (fun _ => rfl) ((hS_c114 5 27 rfl).trans (ey56_5_27)) ?_
            refine Ew_of (pc' := 121) (fun _ => x_iconst rfl) ?_
            refine w_iadd rfl ?_
            refine w_pI H (o := 5) rfl rfl (H.perm 5 rfl) rfl rfl rfl (fun _ => rfl) rfl (show (0 : Int) ≤ (y56_5_27 + 1) ∧ (y56_5_27 + 1) ≤ 65536 by omega) (fun σ H => ?_)
            refine Ew_of (pc' := 128) (fun _ => x_iinc (len := 3) rfl (lc114_4)) ?_
            refine Ew_of (pc' := 56) (fun _ => x_goto rfl rfl) ?_
            exact ih56 _ (by omega) _ σ _ _ ((x56_4 + 1)) (rk_o (lc114_0) rfl rfl) (rk_o (lc114_2) rfl rfl) (rk_o (lc114_3) rfl rfl) (rk_s) H (SF_upd (SF_trans (hS_56) hS_c114 (any_sub rfl)) rfl) (SA_upd (SA_trans (hA_56) hA_c114 (any_subA rfl)) rfl) ((y56_5_27 + 1)) (rfl)  (show inr ((x56_4 + 1)) by omega) (show (0) ≤ ((x56_4 + 1)) by omega) (show ((x56_4 + 1)) ≤ (0) ∨ ((x56_4 + 1)) ≤ ((a3)) by omega) (show ((y56_5_27 + 1)) = (u5_27) + (a1) + ((x56_4 + 1)) by omega) rfl
          refine w_icmplt (t := 97) rfl rfl (show inr ((y56_5_27 - a2)) by omega) (show inr (u5_28) by omega) (fun b11 => ?_) (fun b11 => ?_)
          · refine Ew_of (pc' := 98) (fun _ => x_aload_n rfl (rk_o (l56_0) rfl rfl)) ?_
            refine w_gT H (o := 5) (t := 26) rfl (H.perm 5 rfl) rfl rfl rfl rfl rfl rfl ?_
            refine Ew_of (pc' := 102) (fun _ => x_aload_n rfl (rk_o (l56_0) rfl rfl)) ?_
            refine w_gI H (o := 5) (w := u5_2) rfl (H.perm 5 rfl) rfl rfl rfl (fun _ => rfl) (((hS_56 5 2 rfl).trans (hS_3 5 2 rfl)).trans (eu5_2)) ?_
            refine Ew_of (pc' := 107) (fun _ => x_iload rfl rk_s) ?_
            refine w_iadd rfl ?_
            refine Ew_of (pc' := 109) (fun _ => x_aload_n rfl (rk_o (l56_0) rfl rfl)) ?_
            refine w_gI H (o := 5) (w := u5_28) rfl (H.perm 5 rfl) rfl rfl rfl (fun _ => rfl) (((hS_56 5 28 rfl).trans (hS_3 5 28 rfl)).trans (eu5_28)) ?_
            refine w_isub rfl ?_
            refine w_lI H (o := 26) (n := 65536) rfl (H.perm 26 rfl) rfl rfl (H.fix 26 rfl rfl) (show 0 ≤ ((u5_2 + (y56_5_27 - a2)) - u5_28) ∧ ((u5_2 + (y56_5_27 - a2)) - u5_28) < ((65536 : Nat) : Int) by omega) (by decide) (fun v12 ev12 qv12 => ?_)
            have qv12 : (0 : Int) ≤ v12 ∧ v12 ≤ 255 := qv12
            have ev12 : (A 26) (((u5_2 + (y56_5_27 - a2)) - u5_28)) = v12 := (congrFun ((funext (hA_56 26 rfl)).trans (funext (hA_3 26 rfl))) (((u5_2 + (y56_5_27 - a2)) - u5_28))).symm.trans ev12
            exact hc114 (v12) _ σ _ _  (rk_o (l56_0) rfl rfl) (rk_o (l56_2) rfl rfl) (rk_o (l56_3) rfl rfl) (rk_o (l56_4) rfl rfl) H (SF_refl) (SA_refl)   (show inr (v12) by omega) (show (((y56_5_27 - a2)) < (u5_28) ∧ 0 ≤ ((A 26) (((u5_2 + (y56_5_27 - a2)) - u5_28))) ∧ ((A 26) (((u5_2 + (y56_5_27 - a2)) - u5_28))) ≤ 255 ∧ (v12) = ((A 26) (((u5_2 + (y56_5_27 - a2)) - u5_28)))) ∨ (((y56_5_27 - a2)) ≥ (u5_28) ∧ 0 ≤ ((A_56 45) ((y56_5_27 - a2))) ∧ ((A_56 45) ((y56_5_27 - a2))) ≤ 255 ∧ (v12) = ((A_56 45) ((y56_5_27 - a2)))) by omega)
          · refine Ew_of (pc' := 88) (fun _ => x_aload_n rfl (rk_o (l56_0) rfl rfl)) ?_
            refine w_gT H (o := 5) (t := 45) rfl (H.perm 5 rfl) rfl rfl rfl rfl rfl rfl ?_
            refine Ew_of (pc' := 93) (fun _ => x_iload rfl rk_s) ?_
            refine w_lI H (o := 45) (n := 65536) rfl (H.perm 45 rfl) rfl rfl (H.fix 45 rfl rfl) (show 0 ≤ (y56_5_27 - a2) ∧ (y56_5_27 - a2) < ((65536 : Nat) : Int) by omega) (by decide) (fun v13 ev13 qv13 => ?_)
            have qv13 : (0 : Int) ≤ v13 ∧ v13 ≤ 255 := qv13
            have ev13 : (A_56 45) ((y56_5_27 - a2)) = v13 := (congrFun (rfl : A_56 45 = A_56 45) ((y56_5_27 - a2))).symm.trans ev13
            refine Ew_of (pc' := 114) (fun _ => x_goto rfl rfl) ?_
            exact hc114 (v13) _ σ _ _  (rk_o (l56_0) rfl rfl) (rk_o (l56_2) rfl rfl) (rk_o (l56_3) rfl rfl) (rk_o (l56_4) rfl rfl) H (SF_refl) (SA_refl)   (show inr (v13) by omega) (show (((y56_5_27 - a2)) < (u5_28) ∧ 0 ≤ ((A 26) (((u5_2 + (y56_5_27 - a2)) - u5_28))) ∧ ((A 26) (((u5_2 + (y56_5_27 - a2)) - u5_28))) ≤ 255 ∧ (v13) = ((A 26) (((u5_2 + (y56_5_27 - a2)) - u5_28)))) ∨ (((y56_5_27 - a2)) ≥ (u5_28) ∧ 0 ≤ ((A_56 45) ((y56_5_27 - a2))) ∧ ((A_56 45) ((y56_5_27 - a2))) ≤ 255 ∧ (v13) = ((A_56 45) ((y56_5_27 - a2)))) by omega)
    · refine Ew_of (pc' := 10) (fun _ => x_aload_n rfl l3_0) ?_
      refine w_gT H (o := 5) (t := 45) rfl (H.perm 5 rfl) rfl rfl rfl rfl rfl rfl ?_
      refine Ew_of (pc' := 14) (fun _ => x_aload_n rfl l3_0) ?_
      refine w_gI H (o := 5) (w := y3_5_27) rfl (H.perm 5 rfl) rfl rfl rfl (fun _ => rfl) (ey3_5_27) ?_
      refine Ew_of (pc' := 18) (fun _ => x_aload_n rfl l3_0) ?_
      refine w_gT H (o := 5) (t := 46) rfl (H.perm 5 rfl) rfl rfl rfl rfl rfl rfl ?_
      refine Ew_of (pc' := 22) (fun _ => x_aload_n rfl l3_0) ?_
      refine w_gI H (o := 5) (w := y3_5_40) rfl (H.perm 5 rfl) rfl rfl rfl (fun _ => rfl) (ey3_5_40) ?_
      refine w_lI H (o := 46) (n := 131072) rfl (H.perm 46 rfl) rfl rfl (H.fix 46 rfl rfl) (show 0 ≤ y3_5_40 ∧ y3_5_40 < ((131072 : Nat) : Int) by omega) (by decide) (fun v14 ev14 qv14 => ?_)
      have qv14 : (0 : Int) ≤ v14 ∧ v14 ≤ 255 := qv14
      have ev14 : (A 46) (y3_5_40) = v14 := (congrFun (funext (hA_3 46 rfl)) (y3_5_40)).symm.trans ev14
      refine w_sI H (o := 45) (n := 65536) rfl (H.perm 45 rfl) rfl rfl (H.fix 45 rfl rfl) (show 0 ≤ y3_5_27 ∧ y3_5_27 < ((65536 : Nat) : Int) by omega) (by decide) (show (0 : Int) ≤ v14 ∧ v14 ≤ 255 by omega) (fun σ H => ?_)
      refine Ew_of (pc' := 28) (fun _ => x_aload_n rfl l3_0) ?_
      refine Ew_of (pc' := 29) (fun _ => x_dup rfl rfl) ?_
      refine w_gI H (o := 5) (w := y3_5_27) rfl (H.perm 5 rfl) rfl rfl rfl (fun _ => rfl) (ey3_5_27) ?_
      refine Ew_of (pc' := 33) (fun _ => x_iconst rfl) ?_
      refine w_iadd rfl ?_
      refine w_pI H (o := 5) rfl rfl (H.perm 5 rfl) rfl rfl rfl (fun _ => rfl) rfl (show (0 : Int) ≤ (y3_5_27 + 1) ∧ (y3_5_27 + 1) ≤ 65536 by omega) (fun σ H => ?_)
      refine Ew_of (pc' := 38) (fun _ => x_aload_n rfl l3_0) ?_
      refine Ew_of (pc' := 39) (fun _ => x_dup rfl rfl) ?_
      refine w_gI H (o := 5) (w := y3_5_40) rfl (H.perm 5 rfl) rfl rfl rfl (fun _ => rfl) (ey3_5_40) ?_
      refine Ew_of (pc' := 43) (fun _ => x_iconst rfl) ?_
      refine w_iadd rfl ?_
      refine w_pI H (o := 5) rfl rfl (H.perm 5 rfl) rfl rfl rfl (fun _ => rfl) rfl (show (0 : Int) ≤ (y3_5_40 + 1) ∧ (y3_5_40 + 1) ≤ 131072 by omega) (fun σ H => ?_)
      refine Ew_of (pc' := 50) (fun _ => x_iinc (len := 3) rfl (l3_4)) ?_
      refine Ew_of (pc' := 3) (fun _ => x_goto rfl rfl) ?_
      exact ih3 _ (by omega) _ σ _ _ ((x3_4 + 1)) (rk_o (l3_0) rfl rfl) (rk_o (l3_1) rfl rfl) (rk_o (l3_2) rfl rfl) (rk_o (l3_3) rfl rfl) (rk_s) H (SF_upd (SF_upd (hS_3) rfl) rfl) (SA_upd (hA_3) rfl) ((y3_5_27 + 1)) (rfl) ((y3_5_40 + 1)) (rfl)  (show inr ((x3_4 + 1)) by omega) (show (0) ≤ ((x3_4 + 1)) by omega) (show ((x3_4 + 1)) ≤ (0) ∨ ((x3_4 + 1)) ≤ ((a1)) by omega) (show ((y3_5_27 + 1)) = (u5_27) + ((x3_4 + 1)) ∧ ((y3_5_40 + 1)) = (u5_40) + ((x3_4 + 1)) by omega) rfl
/-- Reader.rest -/
theorem M290 {σ0 σ : rS} {D N : Nat → Nat} {F : hF} {A : hA} {d c s : Nat} {Q : wQ} (H : HS σ0 σ D N F A)  (u5_27 : Int) (eu5_27 : F 5 27 = u5_27) (u5_39 : Int) (eu5_39 : F 5 39 = u5_39) (u5_40 : Int) (eu5_40 : F 5 40 = u5_40) (h0 : (u5_40) ≤ (u5_39) ∧ (u5_27) + ((u5_39) - (u5_40)) ≤ 65536) (k : ∀ σ F' A', HS σ0 σ D N F' A' → SF [(5, 27), (5, 40)] F F' → SA [45] A A' → ∀ y5_27 : Int, F' 5 27 = y5_27 → ((y5_27) = (u5_27) + ((u5_39) - (u5_40))) → Q none σ c s) : Ew 290 (d + 0) 0 (rargs 0 [.ref (D 5)]) [] σ c s Q := by
  have r1 : (0 : Int) ≤ u5_27 ∧ u5_27 ≤ 65536 := by have h1 : (0 : Int) ≤ F 5 27 ∧ F 5 27 ≤ 65536 := H.frng 5 27; rw [show F 5 27 = u5_27 from (eu5_27)] at h1; exact h1
  have r2 : (0 : Int) ≤ u5_39 ∧ u5_39 ≤ 131072 := by have h1 : (0 : Int) ≤ F 5 39 ∧ F 5 39 ≤ 131072 := H.frng 5 39; rw [show F 5 39 = u5_39 from (eu5_39)] at h1; exact h1
  have r3 : (0 : Int) ≤ u5_40 ∧ u5_40 ≤ 131072 := by have h1 : (0 : Int) ≤ F 5 40 ∧ F 5 40 ≤ 131072 := H.frng 5 40; rw [show F 5 40 = u5_40 from (eu5_40)] at h1; exact h1
  suffices hl0 : ∀ (m : Nat), ∀ (ls : rO) (σ : rS) (F_0 : hF) (A_0 : hA) , rlook ls 0 = some (.ref (D 5)) → HS σ0 σ D N F_0 A_0 → SF [(5, 27), (5, 40)] F F_0 → SA [45] A A_0 → ∀ y0_5_27 : Int, F_0 5 27 = y0_5_27 → ∀ y0_5_40 : Int, F_0 5 40 = y0_5_40 → ((y0_5_27) - (y0_5_40) = (u5_27) - (u5_40)) → ((y0_5_40) ≤ (u5_39)) → ((u5_39) - (y0_5_40)).toNat = m → Ew 290 (d + 0) 0 ls [] σ c s Q from
    hl0 _ _ σ _ _  (rfl) H (SF_refl) (SA_refl) (u5_27) ((eu5_27)) (u5_40) ((eu5_40))  (show (u5_27) - (u5_40) = (u5_27) - (u5_40) by omega) (show (u5_40) ≤ (u5_39) by omega) rfl
  as_aux_lemma =>
  intro m
  induction m using Nat.strongRecOn with
  | _ m ih0 =>
    intro ls σ F_0 A_0  l0_0 H hS_0 hA_0 y0_5_27 ey0_5_27 y0_5_40 ey0_5_40  j0_0 j0_1 hm0
    have r4 : (0 : Int) ≤ y0_5_27 ∧ y0_5_27 ≤ 65536 := by have h1 : (0 : Int) ≤ F_0 5 27 ∧ F_0 5 27 ≤ 65536 := H.frng 5 27; rw [show F_0 5 27 = y0_5_27 from (ey0_5_27)] at h1; exact h1
    have r5 : (0 : Int) ≤ y0_5_40 ∧ y0_5_40 ≤ 131072 := by have h1 : (0 : Int) ≤ F_0 5 40 ∧ F_0 5 40 ≤ 131072 := H.frng 5 40; rw [show F_0 5 40 = y0_5_40 from (ey0_5_40)] at h1; exact h1
    refine Ew_of (pc' := 1) (fun _ => x_aload_n rfl l0_0) ?_
    refine w_gI H (o := 5) (w := y0_5_40) rfl (H.perm 5 rfl) rfl rfl rfl (fun _ => rfl) (ey0_5_40) ?_
    refine Ew_of (pc' := 5) (fun _ => x_aload_n rfl l0_0) ?_
    refine w_gI H (o := 5) (w := u5_39) rfl (H.perm 5 rfl) rfl rfl rfl (fun _ => rfl) ((hS_0 5 39 rfl).trans (eu5_39)) ?_
    refine w_icmpge (t := 52) rfl rfl (show inr (y0_5_40) by omega) (show inr (u5_39) by omega) (fun b6 => ?_) (fun b6 => ?_)
    · exact w_ret rfl (k σ _ _ H (SF_trans (SF_refl) hS_0 (any_sub rfl)) (SA_trans (SA_refl) hA_0 (any_subA rfl)) (y0_5_27) ((ey0_5_27)) (show (y0_5_27) = (u5_27) + ((u5_39) - (u5_40)) by omega))
    · refine Ew_of (pc' := 12) (fun _ => x_aload_n rfl l0_0) ?_
      refine w_gT H (o := 5) (t := 45) rfl (H.perm 5 rfl) rfl rfl rfl rfl rfl rfl ?_
      refine Ew_of (pc' := 16) (fun _ => x_aload_n rfl l0_0) ?_
      refine w_gI H (o := 5) (w := y0_5_27) rfl (H.perm 5 rfl) rfl rfl rfl (fun _ => rfl) (ey0_5_27) ?_
      refine Ew_of (pc' := 20) (fun _ => x_aload_n rfl l0_0) ?_
      refine w_gT H (o := 5) (t := 46) rfl (H.perm 5 rfl) rfl rfl rfl rfl rfl rfl ?_
      refine Ew_of (pc' := 24) (fun _ => x_aload_n rfl l0_0) ?_
      refine w_gI H (o := 5) (w := y0_5_40) rfl (H.perm 5 rfl) rfl rfl rfl (fun _ => rfl) (ey0_5_40) ?_
      refine w_lI H (o := 46) (n := 131072) rfl (H.perm 46 rfl) rfl rfl (H.fix 46 rfl rfl) (show 0 ≤ y0_5_40 ∧ y0_5_40 < ((131072 : Nat) : Int) by omega) (by decide) (fun v7 ev7 qv7 => ?_)
      have qv7 : (0 : Int) ≤ v7 ∧ v7 ≤ 255 := qv7
      have ev7 : (A 46) (y0_5_40) = v7 := (congrFun (funext (hA_0 46 rfl)) (y0_5_40)).symm.trans ev7
      refine w_sI H (o := 45) (n := 65536) rfl (H.perm 45 rfl) rfl rfl (H.fix 45 rfl rfl) (show 0 ≤ y0_5_27 ∧ y0_5_27 < ((65536 : Nat) : Int) by omega) (by decide) (show (0 : Int) ≤ v7 ∧ v7 ≤ 255 by omega) (fun σ H => ?_)
      refine Ew_of (pc' := 30) (fun _ => x_aload_n rfl l0_0) ?_
      refine Ew_of (pc' := 31) (fun _ => x_dup rfl rfl) ?_
      refine w_gI H (o := 5) (w := y0_5_27) rfl (H.perm 5 rfl) rfl rfl rfl (fun _ => rfl) (ey0_5_27) ?_
      refine Ew_of (pc' := 35) (fun _ => x_iconst rfl) ?_
      refine w_iadd rfl ?_
      refine w_pI H (o := 5) rfl rfl (H.perm 5 rfl) rfl rfl rfl (fun _ => rfl) rfl (show (0 : Int) ≤ (y0_5_27 + 1) ∧ (y0_5_27 + 1) ≤ 65536 by omega) (fun σ H => ?_)
      refine Ew_of (pc' := 40) (fun _ => x_aload_n rfl l0_0) ?_
      refine Ew_of (pc' := 41) (fun _ => x_dup rfl rfl) ?_
      refine w_gI H (o := 5) (w := y0_5_40) rfl (H.perm 5 rfl) rfl rfl rfl (fun _ => rfl) (ey0_5_40) ?_
      refine Ew_of (pc' := 45) (fun _ => x_iconst rfl) ?_
      refine w_iadd rfl ?_
      refine w_pI H (o := 5) rfl rfl (H.perm 5 rfl) rfl rfl rfl (fun _ => rfl) rfl (show (0 : Int) ≤ (y0_5_40 + 1) ∧ (y0_5_40 + 1) ≤ 131072 by omega) (fun σ H => ?_)
      refine Ew_of (pc' := 0) (fun _ => x_goto rfl rfl) ?_
      exact ih0 _ (by omega) _ σ _ _  (l0_0) H (SF_upd (SF_upd (hS_0) rfl) rfl) (SA_upd (hA_0) rfl) ((y0_5_27 + 1)) (rfl) ((y0_5_40 + 1)) (rfl)  (show ((y0_5_27 + 1)) - ((y0_5_40 + 1)) = (u5_27) - (u5_40) by omega) (show ((y0_5_40 + 1)) ≤ (u5_39) by omega) rfl
/-- Reader.distanceOf -/
theorem M299 {σ0 σ : rS} {D N : Nat → Nat} {F : hF} {A : hA} {d c s : Nat} {Q : wQ} (H : HS σ0 σ D N F A) {a1 a2 : Int} (w38 : Int → Int) (ew38 : A 38 = w38) (h0 : inrJ (a1)) (h1 : inr (a2)) (h2 : 1 ≤ (a1) ∧ (a1) ≤ 10000000000) (h3 : 0 ≤ (a2)) (h4 : 1 ≤ ((w38)) 0 ∧ 1 ≤ ((w38)) 1 ∧ 1 ≤ ((w38)) 2) (k : ∀ (z : Int) σ F' A', HS σ0 σ D N F' A' → SF [] F F' → SA [38] A A' → ∀ v38 : Int → Int, A' 38 = v38 → (inrJ (z)) → (0 ≤ (z)) → ((z) = 0 ∨ 1 ≤ ((v38)) 0 ∧ 1 ≤ ((v38)) 1 ∧ 1 ≤ ((v38)) 2) → Q (some (J z)) σ c s) : Ew 299 (d + 0) 0 (rargs 0 [.ref (D 5), J a1, I a2]) [] σ c s Q := by
  refine Ew_of (pc' := 1) (fun _ => x_iload_n rfl rfl) ?_
  have hc11 : ∀ (tc11_0 : Int), ∀ (ls : rO) (σ : rS) (F_c11 : hF) (A_c11 : hA) , rlook ls 0 = some (.ref (D 5)) → rlook ls 1 = some (J (a1)) → HS σ0 σ D N F_c11 A_c11 → SF [] F F_c11 → SA [] A A_c11 → (inrJ (tc11_0)) → (((a2) ≠ (0) ∧ (tc11_0) = (a1)) ∨ ((a2) = (0) ∧ (tc11_0) = ((a1 + 1)))) → Ew 299 (d + 0) 11 ls [J (tc11_0)] σ c s Q := by
   as_aux_lemma =>
    intro tc11_0 ls σ F_c11 A_c11  lc11_0 lc11_1 H hS_c11 hA_c11   jc11_0 jc11_1
    refine Ew_of (pc' := 13) (fun _ => x_lstore rfl) ?_
    refine Ew_of (pc' := 14) (fun _ => x_lload_n rfl (rk2_o (lc11_1) rfl rfl)) ?_
    refine Ew_of (pc' := 17) (fun _ => x_ldc2 (z := 3) rfl (by decide)) ?_
    refine w_lcmp rfl (show inrJ (a1) by omega) (show inrJ (3) by omega) (fun z1 gz1 gaz1 gbz1 => ?_)
    have hc35 : ∀ (ls : rO) (σ : rS) (F_c35 : hF) (A_c35 : hA) , rlook ls 0 = some (.ref (D 5)) → rlook ls 1 = some (J (a1)) → rlook ls 4 = some (J (tc11_0)) → HS σ0 σ D N F_c35 A_c35 → SF [] F_c11 F_c35 → SA [] A_c11 A_c35 → (((z1) > (0)) ∨ ((z1) ≤ (0) ∧ (tc11_0) ≠ (1))) → Ew 299 (d + 0) 35 ls [] σ c s Q := by
     as_aux_lemma =>
      intro  ls σ F_c35 A_c35  lc35_0 lc35_1 lc35_4 H hS_c35 hA_c35   jc35_0
      refine Ew_of (pc' := 36) (fun _ => x_lload_n rfl lc35_1) ?_
      refine Ew_of (pc' := 39) (fun _ => x_ldc2 (z := 3) rfl (by decide)) ?_
      refine w_lcmp rfl (show inrJ (a1) by omega) (show inrJ (3) by omega) (fun z2 gz2 gaz2 gbz2 => ?_)
      have hc95 : ∀ (tc95_0 : Int), ∀ (ls : rO) (σ : rS) (F_c95 : hF) (A_c95 : hA) , rlook ls 0 = some (.ref (D 5)) → rlook ls 1 = some (J (a1)) → rlook ls 4 = some (J (tc11_0)) → HS σ0 σ D N F_c95 A_c95 → SF [] F_c35 F_c95 → SA [] A_c35 A_c95 → (inrJ (tc95_0)) → (((z2) ≤ (0) ∧ (tc11_0) ≠ (2) ∧ (tc11_0) ≠ (3) ∧ (-9223372036854775808) ≤ ((w38) (0)) ∧ ((w38) (0)) ≤ 9223372036854775807 ∧ (tc95_0) = (((w38) (0) - 1))) ∨ ((z2) ≤ (0) ∧ (tc11_0) ≠ (2) ∧ (tc11_0) = (3) ∧ (-9223372036854775808) ≤ ((w38) (2)) ∧ ((w38) (2)) ≤ 9223372036854775807 ∧ (tc95_0) = ((w38) (2))) ∨ ((z2) ≤ (0) ∧ (tc11_0) = (2) ∧ (-9223372036854775808) ≤ ((w38) (1)) ∧ ((w38) (1)) ≤ 9223372036854775807 ∧ (tc95_0) = ((w38) (1))) ∨ ((z2) > (0) ∧ (tc95_0) = ((a1 - 3)))) → Ew 299 (d + 0) 95 ls [J (tc95_0)] σ c s Q := by
       as_aux_lemma =>
        intro tc95_0 ls σ F_c95 A_c95  lc95_0 lc95_1 lc95_4 H hS_c95 hA_c95   jc95_0 jc95_1
        refine Ew_of (pc' := 97) (fun _ => x_lstore rfl) ?_
        refine Ew_of (pc' := 98) (fun _ => x_lload_n rfl (rk2_o (lc95_1) rfl rfl)) ?_
        refine Ew_of (pc' := 101) (fun _ => x_ldc2 (z := 3) rfl (by decide)) ?_
        refine w_lcmp rfl (show inrJ (a1) by omega) (show inrJ (3) by omega) (fun z3 gz3 gaz3 gbz3 => ?_)
        have hc114 : ∀ (ls : rO) (σ : rS) (F_c114 : hF) (A_c114 : hA) , rlook ls 0 = some (.ref (D 5)) → rlook ls 6 = some (J (tc95_0)) → HS σ0 σ D N F_c114 A_c114 → SF [] F_c95 F_c114 → SA [] A_c95 A_c114 → (((z3) > (0)) ∨ ((z3) ≤ (0) ∧ (tc11_0) > (2))) → Ew 299 (d + 0) 114 ls [] σ c s Q := by
         as_aux_lemma =>
          intro  ls σ F_c114 A_c114  lc114_0 lc114_6 H hS_c114 hA_c114   jc114_0
          refine Ew_of (pc' := 115) (fun _ => x_aload_n rfl lc114_0) ?_
          refine w_gT H (o := 5) (t := 38) rfl (H.perm 5 rfl) rfl rfl rfl rfl rfl rfl ?_
          refine Ew_of (pc' := 119) (fun _ => x_iconst rfl) ?_
          refine Ew_of (pc' := 120) (fun _ => x_aload_n rfl lc114_0) ?_
          refine w_gT H (o := 5) (t := 38) rfl (H.perm 5 rfl) rfl rfl rfl rfl rfl rfl ?_
          refine Ew_of (pc' := 124) (fun _ => x_iconst rfl) ?_
          refine w_lJ H (o := 38) (n := 3) rfl (H.perm 38 rfl) rfl rfl (H.fix 38 rfl rfl) (show 0 ≤ 1 ∧ 1 < ((3 : Nat) : Int) by omega) (by decide) (fun v4 ev4 qv4 => ?_)
          have qv4 : (-9223372036854775808 : Int) ≤ v4 ∧ v4 ≤ 9223372036854775807 := qv4
          have ev4 : (w38) (1) = v4 := (congrFun ((funext (hA_c114 38 rfl)).trans ((funext (hA_c95 38 rfl)).trans ((funext (hA_c35 38 rfl)).trans ((funext (hA_c11 38 rfl)).trans (ew38))))) (1)).symm.trans ev4
          have hq := ev4
          try simp only [upd1] at hq
          refine w_sJ H (o := 38) (n := 3) rfl (H.perm 38 rfl) rfl rfl (H.fix 38 rfl rfl) (show 0 ≤ 2 ∧ 2 < ((3 : Nat) : Int) by omega) (by decide) (show (-9223372036854775808 : Int) ≤ v4 ∧ v4 ≤ 9223372036854775807 by omega) (fun σ H => ?_)
          refine Ew_of (pc' := 127) (fun _ => x_aload_n rfl lc114_0) ?_
          refine w_gT H (o := 5) (t := 38) rfl (H.perm 5 rfl) rfl rfl rfl rfl rfl rfl ?_
          refine Ew_of (pc' := 131) (fun _ => x_iconst rfl) ?_
          refine Ew_of (pc' := 132) (fun _ => x_aload_n rfl lc114_0) ?_
          refine w_gT H (o := 5) (t := 38) rfl (H.perm 5 rfl) rfl rfl rfl rfl rfl rfl ?_
          refine Ew_of (pc' := 136) (fun _ => x_iconst rfl) ?_
          refine w_lJ H (o := 38) (n := 3) rfl (H.perm 38 rfl) rfl rfl (H.fix 38 rfl rfl) (show 0 ≤ 0 ∧ 0 < ((3 : Nat) : Int) by omega) (by decide) (fun v5 ev5 qv5 => ?_)
          have qv5 : (-9223372036854775808 : Int) ≤ v5 ∧ v5 ≤ 9223372036854775807 := qv5
          have ev5 : (upd1 (w38) (2) (v4)) (0) = v5 := (congrFun (congrArg (fun q => upd1 q (2) (v4)) ((funext (hA_c114 38 rfl)).trans ((funext (hA_c95 38 rfl)).trans ((funext (hA_c35 38 rfl)).trans ((funext (hA_c11 38 rfl)).trans (ew38)))))) (0)).symm.trans ev5
          have hq := ev5
          try simp only [upd1] at hq
          refine w_sJ H (o := 38) (n := 3) rfl (H.perm 38 rfl) rfl rfl (H.fix 38 rfl rfl) (show 0 ≤ 1 ∧ 1 < ((3 : Nat) : Int) by omega) (by decide) (show (-9223372036854775808 : Int) ≤ v5 ∧ v5 ≤ 9223372036854775807 by omega) (fun σ H => ?_)
          refine Ew_of (pc' := 139) (fun _ => x_aload_n rfl lc114_0) ?_
          refine w_gT H (o := 5) (t := 38) rfl (H.perm 5 rfl) rfl rfl rfl rfl rfl rfl ?_
          refine Ew_of (pc' := 143) (fun _ => x_iconst rfl) ?_
          refine Ew_of (pc' := 145) (fun _ => x_lload rfl lc114_6) ?_
          refine w_sJ H (o := 38) (n := 3) rfl (H.perm 38 rfl) rfl rfl (H.fix 38 rfl rfl) (show 0 ≤ 0 ∧ 0 < ((3 : Nat) : Int) by omega) (by decide) (show (-9223372036854775808 : Int) ≤ tc95_0 ∧ tc95_0 ≤ 9223372036854775807 by omega) (fun σ H => ?_)
          have hl0 : ((upd1 (upd1 (upd1 (w38) (2) (v4)) (1) (v5)) (0) (tc95_0))) 0 = (tc95_0) := upd1_s
          have hl1 : 1 ≤ ((upd1 (upd1 (upd1 (w38) (2) (v4)) (1) (v5)) (0) (tc95_0))) 1 := by simp only [upd1]; omega
          have hl2 : 1 ≤ ((upd1 (upd1 (upd1 (w38) (2) (v4)) (1) (v5)) (0) (tc95_0))) 2 := by simp only [upd1]; omega
          refine Ew_of (pc' := 148) (fun _ => x_lload rfl lc114_6) ?_
          exact w_lreturn rfl (k (tc95_0) σ _ _ H (SF_trans (SF_trans (SF_trans (SF_trans (SF_refl) hS_c11 (any_sub rfl)) hS_c35 (any_sub rfl)) hS_c95 (any_sub rfl)) hS_c114 (any_sub rfl)) (SA_upd (SA_upd (SA_upd (SA_trans (SA_trans (SA_trans (SA_trans (SA_refl) hA_c11 (any_subA rfl)) hA_c35 (any_subA rfl)) hA_c95 (any_subA rfl)) hA_c114 (any_subA rfl)) rfl) rfl) rfl) (upd1 (upd1 (upd1 (w38) (2) (v4)) (1) (v5)) (0) (tc95_0)) (congrArg (fun q => upd1 q (0) (tc95_0)) (congrArg (fun q => upd1 q (1) (v5)) (congrArg (fun q => upd1 q (2) (v4)) ((funext (hA_c114 38 rfl)).trans ((funext (hA_c95 38 rfl)).trans ((funext (hA_c35 38 rfl)).trans ((funext (hA_c11 38 rfl)).trans (ew38)))))))) (show inrJ (tc95_0) by omega) (show 0 ≤ (tc95_0) by omega) (show (tc95_0) = 0 ∨ 1 ≤ ((upd1 (upd1 (upd1 (w38) (2) (v4)) (1) (v5)) (0) (tc95_0))) 0 ∧ 1 ≤ ((upd1 (upd1 (upd1 (w38) (2) (v4)) (1) (v5)) (0) (tc95_0))) 1 ∧ 1 ≤ ((upd1 (upd1 (upd1 (w38) (2) (v4)) (1) (v5)) (0) (tc95_0))) 2 by omega))
        refine w_ifgt (t := 114) rfl rfl (show inr (z3) by omega) (fun b6 => ?_) (fun b6 => ?_)
        · exact hc114  _ σ _ _  (rk2_o (lc95_0) rfl rfl) (rk2_s) H (SF_refl) (SA_refl)   (show ((z3) > (0)) ∨ ((z3) ≤ (0) ∧ (tc11_0) > (2)) by omega)
        · refine Ew_of (pc' := 107) (fun _ => x_lload rfl (rk2_o (lc95_4) rfl rfl)) ?_
          refine Ew_of (pc' := 110) (fun _ => x_ldc2 (z := 2) rfl (by decide)) ?_
          refine w_lcmp rfl (show inrJ (tc11_0) by omega) (show inrJ (2) by omega) (fun z7 gz7 gaz7 gbz7 => ?_)
          refine w_ifle (t := 126) rfl rfl (show inr (z7) by omega) (fun b8 => ?_) (fun b8 => ?_)
          · refine Ew_of (pc' := 127) (fun _ => x_aload_n rfl (rk2_o (lc95_0) rfl rfl)) ?_
            refine w_gT H (o := 5) (t := 38) rfl (H.perm 5 rfl) rfl rfl rfl rfl rfl rfl ?_
            refine Ew_of (pc' := 131) (fun _ => x_iconst rfl) ?_
            refine Ew_of (pc' := 132) (fun _ => x_aload_n rfl (rk2_o (lc95_0) rfl rfl)) ?_
            refine w_gT H (o := 5) (t := 38) rfl (H.perm 5 rfl) rfl rfl rfl rfl rfl rfl ?_
            refine Ew_of (pc' := 136) (fun _ => x_iconst rfl) ?_
            refine w_lJ H (o := 38) (n := 3) rfl (H.perm 38 rfl) rfl rfl (H.fix 38 rfl rfl) (show 0 ≤ 0 ∧ 0 < ((3 : Nat) : Int) by omega) (by decide) (fun v9 ev9 qv9 => ?_)
            have qv9 : (-9223372036854775808 : Int) ≤ v9 ∧ v9 ≤ 9223372036854775807 := qv9
            have ev9 : (w38) (0) = v9 := (congrFun ((funext (hA_c95 38 rfl)).trans ((funext (hA_c35 38 rfl)).trans ((funext (hA_c11 38 rfl)).trans (ew38)))) (0)).symm.trans ev9
            have hq := ev9
            try simp only [upd1] at hq
            refine w_sJ H (o := 38) (n := 3) rfl (H.perm 38 rfl) rfl rfl (H.fix 38 rfl rfl) (show 0 ≤ 1 ∧ 1 < ((3 : Nat) : Int) by omega) (by decide) (show (-9223372036854775808 : Int) ≤ v9 ∧ v9 ≤ 9223372036854775807 by omega) (fun σ H => ?_)
            refine Ew_of (pc' := 139) (fun _ => x_aload_n rfl (rk2_o (lc95_0) rfl rfl)) ?_
            refine w_gT H (o := 5) (t := 38) rfl (H.perm 5 rfl) rfl rfl rfl rfl rfl rfl ?_
            refine Ew_of (pc' := 143) (fun _ => x_iconst rfl) ?_
            refine Ew_of (pc' := 145) (fun _ => x_lload rfl rk2_s) ?_
            refine w_sJ H (o := 38) (n := 3) rfl (H.perm 38 rfl) rfl rfl (H.fix 38 rfl rfl) (show 0 ≤ 0 ∧ 0 < ((3 : Nat) : Int) by omega) (by decide) (show (-9223372036854775808 : Int) ≤ tc95_0 ∧ tc95_0 ≤ 9223372036854775807 by omega) (fun σ H => ?_)
            have hl0 : ((upd1 (upd1 (w38) (1) (v9)) (0) (tc95_0))) 0 = (tc95_0) := upd1_s
            have hl1 : 1 ≤ ((upd1 (upd1 (w38) (1) (v9)) (0) (tc95_0))) 1 := by simp only [upd1]; omega
            have hl2 : 1 ≤ ((upd1 (upd1 (w38) (1) (v9)) (0) (tc95_0))) 2 := by simp only [upd1]; omega
            refine Ew_of (pc' := 148) (fun _ => x_lload rfl rk2_s) ?_
            exact w_lreturn rfl (k (tc95_0) σ _ _ H (SF_trans (SF_trans (SF_trans (SF_refl) hS_c11 (any_sub rfl)) hS_c35 (any_sub rfl)) hS_c95 (any_sub rfl)) (SA_upd (SA_upd (SA_trans (SA_trans (SA_trans (SA_refl) hA_c11 (any_subA rfl)) hA_c35 (any_subA rfl)) hA_c95 (any_subA rfl)) rfl) rfl) (upd1 (upd1 (w38) (1) (v9)) (0) (tc95_0)) (congrArg (fun q => upd1 q (0) (tc95_0)) (congrArg (fun q => upd1 q (1) (v9)) ((funext (hA_c95 38 rfl)).trans ((funext (hA_c35 38 rfl)).trans ((funext (hA_c11 38 rfl)).trans (ew38)))))) (show inrJ (tc95_0) by omega) (show 0 ≤ (tc95_0) by omega) (show (tc95_0) = 0 ∨ 1 ≤ ((upd1 (upd1 (w38) (1) (v9)) (0) (tc95_0))) 0 ∧ 1 ≤ ((upd1 (upd1 (w38) (1) (v9)) (0) (tc95_0))) 1 ∧ 1 ≤ ((upd1 (upd1 (w38) (1) (v9)) (0) (tc95_0))) 2 by omega))
          · exact hc114  _ σ _ _  (rk2_o (lc95_0) rfl rfl) (rk2_s) H (SF_refl) (SA_refl)   (show ((z3) > (0)) ∨ ((z3) ≤ (0) ∧ (tc11_0) > (2)) by omega)
      refine w_ifle (t := 51) rfl rfl (show inr (z2) by omega) (fun b10 => ?_) (fun b10 => ?_)
      · refine Ew_of (pc' := 53) (fun _ => x_lload rfl lc35_4) ?_
        refine Ew_of (pc' := 56) (fun _ => x_ldc2 (z := 2) rfl (by decide)) ?_
        refine w_lcmp rfl (show inrJ (tc11_0) by omega) (show inrJ (2) by omega) (fun z11 gz11 gaz11 gbz11 => ?_)
        refine w_ifne (t := 69) rfl rfl (show inr (z11) by omega) (fun b12 => ?_) (fun b12 => ?_)
        · refine Ew_of (pc' := 71) (fun _ => x_lload rfl lc35_4) ?_
          refine Ew_of (pc' := 74) (fun _ => x_ldc2 (z := 3) rfl (by decide)) ?_
          refine w_lcmp rfl (show inrJ (tc11_0) by omega) (show inrJ (3) by omega) (fun z13 gz13 gaz13 gbz13 => ?_)
          refine w_ifne (t := 87) rfl rfl (show inr (z13) by omega) (fun b14 => ?_) (fun b14 => ?_)
          · refine Ew_of (pc' := 88) (fun _ => x_aload_n rfl lc35_0) ?_
            refine w_gT H (o := 5) (t := 38) rfl (H.perm 5 rfl) rfl rfl rfl rfl rfl rfl ?_
            refine Ew_of (pc' := 92) (fun _ => x_iconst rfl) ?_
            refine w_lJ H (o := 38) (n := 3) rfl (H.perm 38 rfl) rfl rfl (H.fix 38 rfl rfl) (show 0 ≤ 0 ∧ 0 < ((3 : Nat) : Int) by omega) (by decide) (fun v15 ev15 qv15 => ?_)
            have qv15 : (-9223372036854775808 : Int) ≤ v15 ∧ v15 ≤ 9223372036854775807 := qv15
            have ev15 : (w38) (0) = v15 := (congrFun ((funext (hA_c35 38 rfl)).trans ((funext (hA_c11 38 rfl)).trans (ew38))) (0)).symm.trans ev15
            refine Ew_of (pc' := 94) (fun _ => x_lconst (z := 1) rfl (by decide)) ?_
            refine w_lsub rfl ?_
            exact hc95 ((v15 - 1)) _ σ _ _  (lc35_0) (lc35_1) (lc35_4) H (SF_refl) (SA_refl)   (show inrJ ((v15 - 1)) by omega) (show ((z2) ≤ (0) ∧ (tc11_0) ≠ (2) ∧ (tc11_0) ≠ (3) ∧ (-9223372036854775808) ≤ ((w38) (0)) ∧ ((w38) (0)) ≤ 9223372036854775807 ∧ ((v15 - 1)) = (((w38) (0) - 1))) ∨ ((z2) ≤ (0) ∧ (tc11_0) ≠ (2) ∧ (tc11_0) = (3) ∧ (-9223372036854775808) ≤ ((w38) (2)) ∧ ((w38) (2)) ≤ 9223372036854775807 ∧ ((v15 - 1)) = ((w38) (2))) ∨ ((z2) ≤ (0) ∧ (tc11_0) = (2) ∧ (-9223372036854775808) ≤ ((w38) (1)) ∧ ((w38) (1)) ≤ 9223372036854775807 ∧ ((v15 - 1)) = ((w38) (1))) ∨ ((z2) > (0) ∧ ((v15 - 1)) = ((a1 - 3))) by omega)
          · refine Ew_of (pc' := 79) (fun _ => x_aload_n rfl lc35_0) ?_
            refine w_gT H (o := 5) (t := 38) rfl (H.perm 5 rfl) rfl rfl rfl rfl rfl rfl ?_
            refine Ew_of (pc' := 83) (fun _ => x_iconst rfl) ?_
            refine w_lJ H (o := 38) (n := 3) rfl (H.perm 38 rfl) rfl rfl (H.fix 38 rfl rfl) (show 0 ≤ 2 ∧ 2 < ((3 : Nat) : Int) by omega) (by decide) (fun v16 ev16 qv16 => ?_)
            have qv16 : (-9223372036854775808 : Int) ≤ v16 ∧ v16 ≤ 9223372036854775807 := qv16
            have ev16 : (w38) (2) = v16 := (congrFun ((funext (hA_c35 38 rfl)).trans ((funext (hA_c11 38 rfl)).trans (ew38))) (2)).symm.trans ev16
            refine Ew_of (pc' := 95) (fun _ => x_goto rfl rfl) ?_
            exact hc95 (v16) _ σ _ _  (lc35_0) (lc35_1) (lc35_4) H (SF_refl) (SA_refl)   (show inrJ (v16) by omega) (show ((z2) ≤ (0) ∧ (tc11_0) ≠ (2) ∧ (tc11_0) ≠ (3) ∧ (-9223372036854775808) ≤ ((w38) (0)) ∧ ((w38) (0)) ≤ 9223372036854775807 ∧ (v16) = (((w38) (0) - 1))) ∨ ((z2) ≤ (0) ∧ (tc11_0) ≠ (2) ∧ (tc11_0) = (3) ∧ (-9223372036854775808) ≤ ((w38) (2)) ∧ ((w38) (2)) ≤ 9223372036854775807 ∧ (v16) = ((w38) (2))) ∨ ((z2) ≤ (0) ∧ (tc11_0) = (2) ∧ (-9223372036854775808) ≤ ((w38) (1)) ∧ ((w38) (1)) ≤ 9223372036854775807 ∧ (v16) = ((w38) (1))) ∨ ((z2) > (0) ∧ (v16) = ((a1 - 3))) by omega)
        · refine Ew_of (pc' := 61) (fun _ => x_aload_n rfl lc35_0) ?_
          refine w_gT H (o := 5) (t := 38) rfl (H.perm 5 rfl) rfl rfl rfl rfl rfl rfl ?_
          refine Ew_of (pc' := 65) (fun _ => x_iconst rfl) ?_
          refine w_lJ H (o := 38) (n := 3) rfl (H.perm 38 rfl) rfl rfl (H.fix 38 rfl rfl) (show 0 ≤ 1 ∧ 1 < ((3 : Nat) : Int) by omega) (by decide) (fun v17 ev17 qv17 => ?_)
          have qv17 : (-9223372036854775808 : Int) ≤ v17 ∧ v17 ≤ 9223372036854775807 := qv17
          have ev17 : (w38) (1) = v17 := (congrFun ((funext (hA_c35 38 rfl)).trans ((funext (hA_c11 38 rfl)).trans (ew38))) (1)).symm.trans ev17
          refine Ew_of (pc' := 95) (fun _ => x_goto rfl rfl) ?_
          exact hc95 (v17) _ σ _ _  (lc35_0) (lc35_1) (lc35_4) H (SF_refl) (SA_refl)   (show inrJ (v17) by omega) (show ((z2) ≤ (0) ∧ (tc11_0) ≠ (2) ∧ (tc11_0) ≠ (3) ∧ (-9223372036854775808) ≤ ((w38) (0)) ∧ ((w38) (0)) ≤ 9223372036854775807 ∧ (v17) = (((w38) (0) - 1))) ∨ ((z2) ≤ (0) ∧ (tc11_0) ≠ (2) ∧ (tc11_0) = (3) ∧ (-9223372036854775808) ≤ ((w38) (2)) ∧ ((w38) (2)) ≤ 9223372036854775807 ∧ (v17) = ((w38) (2))) ∨ ((z2) ≤ (0) ∧ (tc11_0) = (2) ∧ (-9223372036854775808) ≤ ((w38) (1)) ∧ ((w38) (1)) ≤ 9223372036854775807 ∧ (v17) = ((w38) (1))) ∨ ((z2) > (0) ∧ (v17) = ((a1 - 3))) by omega)
      · refine Ew_of (pc' := 44) (fun _ => x_lload_n rfl lc35_1) ?_
        refine Ew_of (pc' := 47) (fun _ => x_ldc2 (z := 3) rfl (by decide)) ?_
        refine w_lsub rfl ?_
        refine Ew_of (pc' := 95) (fun _ => x_goto rfl rfl) ?_
        exact hc95 ((a1 - 3)) _ σ _ _  (lc35_0) (lc35_1) (lc35_4) H (SF_refl) (SA_refl)   (show inrJ ((a1 - 3)) by omega) (show ((z2) ≤ (0) ∧ (tc11_0) ≠ (2) ∧ (tc11_0) ≠ (3) ∧ (-9223372036854775808) ≤ ((w38) (0)) ∧ ((w38) (0)) ≤ 9223372036854775807 ∧ ((a1 - 3)) = (((w38) (0) - 1))) ∨ ((z2) ≤ (0) ∧ (tc11_0) ≠ (2) ∧ (tc11_0) = (3) ∧ (-9223372036854775808) ≤ ((w38) (2)) ∧ ((w38) (2)) ≤ 9223372036854775807 ∧ ((a1 - 3)) = ((w38) (2))) ∨ ((z2) ≤ (0) ∧ (tc11_0) = (2) ∧ (-9223372036854775808) ≤ ((w38) (1)) ∧ ((w38) (1)) ≤ 9223372036854775807 ∧ ((a1 - 3)) = ((w38) (1))) ∨ ((z2) > (0) ∧ ((a1 - 3)) = ((a1 - 3))) by omega)
    refine w_ifgt (t := 35) rfl rfl (show inr (z1) by omega) (fun b18 => ?_) (fun b18 => ?_)
    · exact hc35  _ σ _ _  (rk2_o (lc11_0) rfl rfl) (rk2_o (lc11_1) rfl rfl) (rk2_s) H (SF_refl) (SA_refl)   (show ((z1) > (0)) ∨ ((z1) ≤ (0) ∧ (tc11_0) ≠ (1)) by omega)
    · refine Ew_of (pc' := 23) (fun _ => x_lload rfl rk2_s) ?_
      refine Ew_of (pc' := 24) (fun _ => x_lconst (z := 1) rfl (by decide)) ?_
      refine w_lcmp rfl (show inrJ (tc11_0) by omega) (show inrJ (1) by omega) (fun z19 gz19 gaz19 gbz19 => ?_)
      refine w_ifne (t := 35) rfl rfl (show inr (z19) by omega) (fun b20 => ?_) (fun b20 => ?_)
      · exact hc35  _ σ _ _  (rk2_o (lc11_0) rfl rfl) (rk2_o (lc11_1) rfl rfl) (rk2_s) H (SF_refl) (SA_refl)   (show ((z1) > (0)) ∨ ((z1) ≤ (0) ∧ (tc11_0) ≠ (1)) by omega)
      · refine Ew_of (pc' := 29) (fun _ => x_aload_n rfl (rk2_o (lc11_0) rfl rfl)) ?_
        refine w_gT H (o := 5) (t := 38) rfl (H.perm 5 rfl) rfl rfl rfl rfl rfl rfl ?_
        refine Ew_of (pc' := 33) (fun _ => x_iconst rfl) ?_
        refine w_lJ H (o := 38) (n := 3) rfl (H.perm 38 rfl) rfl rfl (H.fix 38 rfl rfl) (show 0 ≤ 0 ∧ 0 < ((3 : Nat) : Int) by omega) (by decide) (fun v21 ev21 qv21 => ?_)
        have qv21 : (-9223372036854775808 : Int) ≤ v21 ∧ v21 ≤ 9223372036854775807 := qv21
        have ev21 : (w38) (0) = v21 := (congrFun ((funext (hA_c11 38 rfl)).trans (ew38)) (0)).symm.trans ev21
        exact w_lreturn rfl (k (v21) σ _ _ H (SF_trans (SF_refl) hS_c11 (any_sub rfl)) (SA_trans (SA_refl) hA_c11 (any_subA rfl)) (w38) ((funext (hA_c11 38 rfl)).trans (ew38)) (show inrJ (v21) by omega) (show 0 ≤ (v21) by omega) (show (v21) = 0 ∨ 1 ≤ ((w38)) 0 ∧ 1 ≤ ((w38)) 1 ∧ 1 ≤ ((w38)) 2 by omega))
  refine w_ifne (t := 10) rfl rfl (show inr (a2) by omega) (fun b22 => ?_) (fun b22 => ?_)
  · refine Ew_of (pc' := 11) (fun _ => x_lload_n rfl rfl) ?_
    exact hc11 (a1) _ σ _ _  (rfl) (rfl) H (SF_refl) (SA_refl)   (show inrJ (a1) by omega) (show ((a2) ≠ (0) ∧ (a1) = (a1)) ∨ ((a2) = (0) ∧ (a1) = ((a1 + 1))) by omega)
  · refine Ew_of (pc' := 5) (fun _ => x_lload_n rfl rfl) ?_
    refine Ew_of (pc' := 6) (fun _ => x_lconst (z := 1) rfl (by decide)) ?_
    refine w_ladd rfl ?_
    refine Ew_of (pc' := 11) (fun _ => x_goto rfl rfl) ?_
    exact hc11 ((a1 + 1)) _ σ _ _  (rfl) (rfl) H (SF_refl) (SA_refl)   (show inrJ ((a1 + 1)) by omega) (show ((a2) ≠ (0) ∧ ((a1 + 1)) = (a1)) ∨ ((a2) = (0) ∧ ((a1 + 1)) = ((a1 + 1))) by omega)
