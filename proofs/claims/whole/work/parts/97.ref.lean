/-- Model.append -/
theorem M57p {σ0 σ : rS} {D N : Nat → Nat} {F : hF} {A : hA} {d c s : Nat} {Q : wQ} (H : HS σ0 σ D N F A) {a1 a2 : Int} (w10 : Int → Int) (ew10 : A 10 = w10) (w11 : Int → Int) (ew11 : A 11 = w11) (h0 : inr (a1)) (h1 : inr (a2)) (h2 : 0 ≤ (a1) ∧ (a1) ≤ 3) (k : ∀ (z : Int) σ F' A', HS σ0 σ D N F' A' → SF [] F F' → SA [10, 11] A A' → ∀ v10 : Int → Int, A' 10 = v10 → ∀ v11 : Int → Int, A' 11 = v11 → ((z) = 0 ∨ (z) = 1) → (APQ ((w10)) ((w11)) ((v10)) ((v11)) ((a1)) ((a2)) ((z))) → (0 ≤ (z) ∧ (z) ≤ 1) → Q (some (I z)) σ c s) : Ew 57 (d + 0) 0 (rargs 0 [.ref (D 0), I a1, I a2]) [] σ c s Q := by
  refine Ew_of (pc' := 1) (fun _ => x_aload_n rfl rfl) ?_
  refine w_gT H (o := 0) (t := 11) rfl (H.perm 0 rfl) rfl rfl rfl rfl rfl rfl ?_
  refine Ew_of (pc' := 5) (fun _ => x_iload_n rfl rfl) ?_
  refine w_lI H (o := 11) (n := 4) rfl (H.perm 11 rfl) rfl rfl (H.fix 11 rfl rfl) (show 0 ≤ a1 ∧ a1 < ((4 : Nat) : Int) by omega) (by decide) (fun v1 ev1 qv1 => ?_)
  have qv1 : (0 : Int) ≤ v1 ∧ v1 ≤ 65536 := qv1
  have ev1 : (w11) (a1) = v1 := (congrFun (ew11) (a1)).symm.trans ev1
  have hv6 := ev1
  refine Ew_of (pc' := 8) (fun _ => x_ldc (z := 65536) rfl (by decide)) ?_
  refine w_icmpne (t := 13) rfl rfl (show inr (v1) by omega) (show inr (65536) by omega) (fun b2 => ?_) (fun b2 => ?_)
  · refine Ew_of (pc' := 14) (fun _ => x_aload_n rfl rfl) ?_
    refine w_gT H (o := 0) (t := 10) rfl (H.perm 0 rfl) rfl rfl rfl rfl rfl rfl ?_
    refine Ew_of (pc' := 19) (fun _ => x_ldc (z := 65536) rfl (by decide)) ?_
    refine Ew_of (pc' := 20) (fun _ => x_iload_n rfl rfl) ?_
    refine w_imul rfl ?_
    refine Ew_of (pc' := 22) (fun _ => x_aload_n rfl rfl) ?_
    refine w_gT H (o := 0) (t := 11) rfl (H.perm 0 rfl) rfl rfl rfl rfl rfl rfl ?_
    refine Ew_of (pc' := 26) (fun _ => x_iload_n rfl rfl) ?_
    refine w_lI H (o := 11) (n := 4) rfl (H.perm 11 rfl) rfl rfl (H.fix 11 rfl rfl) (show 0 ≤ a1 ∧ a1 < ((4 : Nat) : Int) by omega) (by decide) (fun v3 ev3 qv3 => ?_)
    have qv3 : (0 : Int) ≤ v3 ∧ v3 ≤ 65536 := qv3
    have ev3 : (w11) (a1) = v3 := (congrFun (ew11) (a1)).symm.trans ev3
    have hv27 := ev3
    refine w_iadd rfl ?_
    refine Ew_of (pc' := 29) (fun _ => x_iload_n rfl rfl) ?_
    refine Ew_of (pc' := 32) (fun _ => x_sipush (z := 255) rfl (by decide)) ?_
    refine w_iandG rfl ?_
    have g4 : inr (andI (a2) (255)) := toI_inr _
    obtain ⟨qb, hqb⟩ : ∃ q : Int, q = ((andI (a2) (255))) := ⟨_, rfl⟩
    rw [← hqb]
    have gqb : inr qb := by rw [hqb]; first | assumption | omega
    replace hqb : IMP True (qb = ((andI (a2) (255)))) := fun _ => hqb
    try clear g4
    have hb : qb = u8 ((a2)) := (hqb trivial).trans (andI_255 _)
    have hqr : 0 ≤ qb ∧ qb ≤ 255 := by rw [hb]; exact u8_rng _
    refine w_sI H (o := 10) (n := 262144) rfl (H.perm 10 rfl) rfl rfl (H.fix 10 rfl rfl) (show 0 ≤ ((65536 * a1) + v3) ∧ ((65536 * a1) + v3) < ((262144 : Nat) : Int) by omega) (by decide) (show (0 : Int) ≤ qb ∧ qb ≤ 255 by omega) (fun σ H => ?_)
    refine Ew_of (pc' := 35) (fun _ => x_aload_n rfl rfl) ?_
    refine w_gT H (o := 0) (t := 11) rfl (H.perm 0 rfl) rfl rfl rfl rfl rfl rfl ?_
    refine Ew_of (pc' := 39) (fun _ => x_iload_n rfl rfl) ?_
    refine Ew_of (pc' := 40) (fun _ => x_dup2 rfl rfl rfl) ?_
    refine w_lI H (o := 11) (n := 4) rfl (H.perm 11 rfl) rfl rfl (H.fix 11 rfl rfl) (show 0 ≤ a1 ∧ a1 < ((4 : Nat) : Int) by omega) (by decide) (fun v5 ev5 qv5 => ?_)
    have qv5 : (0 : Int) ≤ v5 ∧ v5 ≤ 65536 := qv5
    have ev5 : (w11) (a1) = v5 := (congrFun (ew11) (a1)).symm.trans ev5
    have hv41 := ev5
    refine Ew_of (pc' := 42) (fun _ => x_iconst rfl) ?_
    refine w_iadd rfl ?_
    refine w_sI H (o := 11) (n := 4) rfl (H.perm 11 rfl) rfl rfl (H.fix 11 rfl rfl) (show 0 ≤ a1 ∧ a1 < ((4 : Nat) : Int) by omega) (by decide) (show (0 : Int) ≤ (v5 + 1) ∧ (v5 + 1) ≤ 65536 by omega) (fun σ H => ?_)
    refine Ew_of (pc' := 45) (fun _ => x_iconst rfl) ?_
    have : APQ ((w10)) ((w11)) ((upd1 (w10) (((65536 * a1) + v3)) (qb))) ((upd1 (w11) (a1) ((v5 + 1)))) ((a1)) ((a2)) (1) := .inr ⟨rfl, by rw [hv6]; omega, by rw [hv27, hb], by rw [hv41]⟩
    exact w_ireturn rfl (k (1) σ _ _ H (SF_refl) (SA_upd (SA_upd (SA_refl) rfl) rfl) (upd1 (w10) (((65536 * a1) + v3)) (qb)) (congrArg (fun q => upd1 q (((65536 * a1) + v3)) (qb)) (ew10)) (upd1 (w11) (a1) ((v5 + 1))) (congrArg (fun q => upd1 q (a1) ((v5 + 1))) (ew11)) (show (1) = 0 ∨ (1) = 1 by omega) (show APQ ((w10)) ((w11)) ((upd1 (w10) (((65536 * a1) + v3)) (qb))) ((upd1 (w11) (a1) ((v5 + 1)))) (a1) (a2) ((1)) by assumption) (show 0 ≤ (1) ∧ (1) ≤ 1 by omega))
  · refine Ew_of (pc' := 12) (fun _ => x_iconst rfl) ?_
    have : APQ ((w10)) ((w11)) ((w10)) ((w11)) ((a1)) ((a2)) (0) := .inl ⟨rfl, by rw [hv6]; omega, rfl, rfl⟩
    exact w_ireturn rfl (k (0) σ _ _ H (SF_refl) (SA_refl) (w10) (ew10) (w11) (ew11) (show (0) = 0 ∨ (0) = 1 by omega) (show APQ ((w10)) ((w11)) ((w10)) ((w11)) (a1) (a2) ((0)) by assumption) (show 0 ≤ (0) ∧ (0) ≤ 1 by omega))
/-- Model.is -/
theorem M56p {σ0 σ : rS} {D N : Nat → Nat} {F : hF} {A : hA} {d c s : Nat} {Q : wQ} (H : HS σ0 σ D N F A) {a1 : Int} (h0 : inr (a1)) (k : ∀ (z : Int) σ F' A', HS σ0 σ D N F' A' → SF [] F F' → SA [] A A' → ((z) = 0 ∨ (z) = 1) → ((z) = 1 ∧ 0 ≤ (a1) ∧ (a1) ≤ 3 ∨ (z) = 0 ∧ ¬ (0 ≤ (a1) ∧ (a1) ≤ 3)) → Q (some (I z)) σ c s) : Ew 56 (d + 0) 0 (rargs 0 [I a1]) [] σ c s Q := by
  refine Ew_of (pc' := 1) (fun _ => x_iload_n rfl rfl) ?_
  refine w_iflt (t := 13) rfl rfl (show inr (a1) by omega) (fun b1 => ?_) (fun b1 => ?_)
  · refine Ew_of (pc' := 14) (fun _ => x_iconst rfl) ?_
    exact w_ireturn rfl (k (0) σ _ _ H (SF_refl) (SA_refl) (show (0) = 0 ∨ (0) = 1 by omega) (show (0) = 1 ∧ 0 ≤ a1 ∧ a1 ≤ 3 ∨ (0) = 0 ∧ ¬ (0 ≤ a1 ∧ a1 ≤ 3) by omega))
  · refine Ew_of (pc' := 5) (fun _ => x_iload_n rfl rfl) ?_
    refine Ew_of (pc' := 6) (fun _ => x_iconst rfl) ?_
    refine w_icmpge (t := 13) rfl rfl (show inr (a1) by omega) (show inr (4) by omega) (fun b2 => ?_) (fun b2 => ?_)
    · refine Ew_of (pc' := 14) (fun _ => x_iconst rfl) ?_
      exact w_ireturn rfl (k (0) σ _ _ H (SF_refl) (SA_refl) (show (0) = 0 ∨ (0) = 1 by omega) (show (0) = 1 ∧ 0 ≤ a1 ∧ a1 ≤ 3 ∨ (0) = 0 ∧ ¬ (0 ≤ a1 ∧ a1 ≤ 3) by omega))
    · refine Ew_of (pc' := 10) (fun _ => x_iconst rfl) ?_
      refine Ew_of (pc' := 14) (fun _ => x_goto rfl rfl) ?_
      exact w_ireturn rfl (k (1) σ _ _ H (SF_refl) (SA_refl) (show (1) = 0 ∨ (1) = 1 by omega) (show (1) = 1 ∧ 0 ≤ a1 ∧ a1 ≤ 3 ∨ (1) = 0 ∧ ¬ (0 ≤ a1 ∧ a1 ≤ 3) by omega))
/-- Model.isPart -/
theorem M62p {σ0 σ : rS} {D N : Nat → Nat} {F : hF} {A : hA} {d c s : Nat} {Q : wQ} (H : HS σ0 σ D N F A) {a1 a2 a3 : Int} (w11 : Int → Int) (ew11 : A 11 = w11) (h0 : inr (a1)) (h1 : inr (a2)) (h2 : inr (a3)) (h3 : 0 ≤ (a1) ∧ (a1) ≤ 3) (k : ∀ (z : Int) σ F' A', HS σ0 σ D N F' A' → SF [] F F' → SA [] A A' → ((z) = 0 ∨ (z) = 1) → ((z) = 1 ∧ 0 ≤ (a2) ∧ (a2) ≤ (a3) ∧ (a3) ≤ ((w11)) ((a1)) ∨ (z) = 0 ∧ ¬ (0 ≤ (a2) ∧ (a2) ≤ (a3) ∧ (a3) ≤ ((w11)) ((a1)))) → Q (some (I z)) σ c s) : Ew 62 (d + 0) 0 (rargs 0 [.ref (D 0), I a1, I a2, I a3]) [] σ c s Q := by
  refine Ew_of (pc' := 1) (fun _ => x_iload_n rfl rfl) ?_
  refine w_iflt (t := 23) rfl rfl (show inr (a2) by omega) (fun b1 => ?_) (fun b1 => ?_)
  · refine Ew_of (pc' := 24) (fun _ => x_iconst rfl) ?_
    exact w_ireturn rfl (k (0) σ _ _ H (SF_refl) (SA_refl) (show (0) = 0 ∨ (0) = 1 by omega) (show (0) = 1 ∧ 0 ≤ a2 ∧ a2 ≤ a3 ∧ a3 ≤ ((w11)) (a1) ∨ (0) = 0 ∧ ¬ (0 ≤ a2 ∧ a2 ≤ a3 ∧ a3 ≤ ((w11)) (a1)) by omega))
  · refine Ew_of (pc' := 5) (fun _ => x_iload_n rfl rfl) ?_
    refine Ew_of (pc' := 6) (fun _ => x_iload_n rfl rfl) ?_
    refine w_icmpgt (t := 23) rfl rfl (show inr (a2) by omega) (show inr (a3) by omega) (fun b2 => ?_) (fun b2 => ?_)
    · refine Ew_of (pc' := 24) (fun _ => x_iconst rfl) ?_
      exact w_ireturn rfl (k (0) σ _ _ H (SF_refl) (SA_refl) (show (0) = 0 ∨ (0) = 1 by omega) (show (0) = 1 ∧ 0 ≤ a2 ∧ a2 ≤ a3 ∧ a3 ≤ ((w11)) (a1) ∨ (0) = 0 ∧ ¬ (0 ≤ a2 ∧ a2 ≤ a3 ∧ a3 ≤ ((w11)) (a1)) by omega))
    · refine Ew_of (pc' := 10) (fun _ => x_iload_n rfl rfl) ?_
      refine Ew_of (pc' := 11) (fun _ => x_aload_n rfl rfl) ?_
      refine w_gT H (o := 0) (t := 11) rfl (H.perm 0 rfl) rfl rfl rfl rfl rfl rfl ?_
      refine Ew_of (pc' := 15) (fun _ => x_iload_n rfl rfl) ?_
      refine w_lI H (o := 11) (n := 4) rfl (H.perm 11 rfl) rfl rfl (H.fix 11 rfl rfl) (show 0 ≤ a1 ∧ a1 < ((4 : Nat) : Int) by omega) (by decide) (fun v3 ev3 qv3 => ?_)
      have qv3 : (0 : Int) ≤ v3 ∧ v3 ≤ 65536 := qv3
      have ev3 : (w11) (a1) = v3 := (congrFun (ew11) (a1)).symm.trans ev3
      refine w_icmpgt (t := 23) rfl rfl (show inr (a3) by omega) (show inr (v3) by omega) (fun b4 => ?_) (fun b4 => ?_)
      · refine Ew_of (pc' := 24) (fun _ => x_iconst rfl) ?_
        exact w_ireturn rfl (k (0) σ _ _ H (SF_refl) (SA_refl) (show (0) = 0 ∨ (0) = 1 by omega) (show (0) = 1 ∧ 0 ≤ a2 ∧ a2 ≤ a3 ∧ a3 ≤ ((w11)) (a1) ∨ (0) = 0 ∧ ¬ (0 ≤ a2 ∧ a2 ≤ a3 ∧ a3 ≤ ((w11)) (a1)) by omega))
      · refine Ew_of (pc' := 20) (fun _ => x_iconst rfl) ?_
        refine Ew_of (pc' := 24) (fun _ => x_goto rfl rfl) ?_
        exact w_ireturn rfl (k (1) σ _ _ H (SF_refl) (SA_refl) (show (1) = 0 ∨ (1) = 1 by omega) (show (1) = 1 ∧ 0 ≤ a2 ∧ a2 ≤ a3 ∧ a3 ≤ ((w11)) (a1) ∨ (1) = 0 ∧ ¬ (0 ≤ a2 ∧ a2 ≤ a3 ∧ a3 ≤ ((w11)) (a1)) by omega))
/-- Model.feed -/
theorem M58p {σ0 σ : rS} {D N : Nat → Nat} {F : hF} {A : hA} {d c s : Nat} {Q : wQ} (H : HS σ0 σ D N F A) {a1 a2 a3 a4 a5 : Int} (w10 : Int → Int) (ew10 : A 10 = w10) (w11 : Int → Int) (ew11 : A 11 = w11) (h0 : inr (a1)) (h1 : inr (a2)) (h2 : inr (a3)) (h3 : inr (a4)) (h4 : inr (a5)) (k : ∀ (z : Int) σ F' A', HS σ0 σ D N F' A' → SF [] F F' → SA [10, 11] A A' → ∀ v10 : Int → Int, A' 10 = v10 → ∀ v11 : Int → Int, A' 11 = v11 → ((z) = 0 ∨ (z) = 1) → (CHQ ((0 ≤ (a1) ∧ (a1) ≤ 3) ∧ ((rwR ((w10)) ((w11)) ((a1))).length : Int) + 16 ≤ 65536) (rwR ((w10)) ((w11)) ((a1))) (rwR ((w10)) ((w11)) ((a1)) ++ fdL ((a2)) ((a3)) ((a4)) ((a5)) 16) ((z)) (rwR ((v10)) ((v11)) ((a1)))) → (∀ q, 0 ≤ q → q ≤ 3 → q ≠ (a1) → rwR ((v10)) ((v11)) (q) = rwR ((w10)) ((w11)) (q)) → Q (some (I z)) σ c s) : Ew 58 (d + 1) 0 (rargs 0 [.ref (D 0), I a1, I a2, I a3, I a4, I a5]) [] σ c s Q := by
  have hSz : ∀ i, (0 : Int) ≤ (w11) i ∧ (w11) i ≤ 65536 := fun i => by have h1 : (0 : Int) ≤ A 11 i ∧ A 11 i ≤ 65536 := H.arng 11 i; rw [show A 11 = w11 from ew11] at h1; exact h1
  have hl0 := rwR_len (ro := (w10)) (si := (w11)) (r := (a1)) (hSz ((a1))).1
  refine Ew_of (pc' := 1) (fun _ => x_iload_n rfl rfl) ?_
  refine w_stat24 rfl rfl (by rfl) (M56p H (show inr (a1) by omega) (fun z5 σ F1 A2 H hS3 hA4 pz5_0 pz5_1 => ⟨rretB rfl pz5_0, ?_⟩))
  refine w_ifeq (t := 21) rfl rfl (show inr (z5) by omega) (fun b6 => ?_) (fun b6 => ?_)
  · have : CHQ ((0 ≤ (a1) ∧ (a1) ≤ 3) ∧ ((rwR ((w10)) ((w11)) ((a1))).length : Int) + 16 ≤ 65536) (rwR ((w10)) ((w11)) ((a1))) (rwR ((w10)) ((w11)) ((a1)) ++ fdL ((a2)) ((a3)) ((a4)) ((a5)) 16) (0) (rwR ((w10)) ((w11)) ((a1))) := .inr ⟨fun q => by omega, rfl, rfl⟩
    have : ∀ q, 0 ≤ q → q ≤ 3 → q ≠ (a1) → rwR ((w10)) ((w11)) (q) = rwR ((w10)) ((w11)) (q) := fun _ _ _ _ => rfl
    refine Ew_of (pc' := 22) (fun _ => x_iconst rfl) ?_
    exact w_ireturn rfl (k (0) σ _ _ H (SF_trans (SF_refl) hS3 (any_sub rfl)) (SA_trans (SA_refl) hA4 (any_subA rfl)) (w10) ((funext (hA4 10 rfl)).trans (ew10)) (w11) ((funext (hA4 11 rfl)).trans (ew11)) (show (0) = 0 ∨ (0) = 1 by omega) (show CHQ ((0 ≤ a1 ∧ a1 ≤ 3) ∧ ((rwR ((w10)) ((w11)) (a1)).length : Int) + 16 ≤ 65536) (rwR ((w10)) ((w11)) (a1)) (rwR ((w10)) ((w11)) (a1) ++ fdL (a2) (a3) (a4) (a5) 16) ((0)) (rwR ((w10)) ((w11)) (a1)) by assumption) (show ∀ q, 0 ≤ q → q ≤ 3 → q ≠ a1 → rwR ((w10)) ((w11)) (q) = rwR ((w10)) ((w11)) (q) by assumption))
  · refine Ew_of (pc' := 8) (fun _ => x_aload_n rfl rfl) ?_
    refine w_gT H (o := 0) (t := 11) rfl (H.perm 0 rfl) rfl rfl rfl rfl rfl rfl ?_
    refine Ew_of (pc' := 12) (fun _ => x_iload_n rfl rfl) ?_
    refine w_lI H (o := 11) (n := 4) rfl (H.perm 11 rfl) rfl rfl (H.fix 11 rfl rfl) (show 0 ≤ a1 ∧ a1 < ((4 : Nat) : Int) by omega) (by decide) (fun v7 ev7 qv7 => ?_)
    have qv7 : (0 : Int) ≤ v7 ∧ v7 ≤ 65536 := qv7
    have ev7 : (w11) (a1) = v7 := (congrFun ((funext (hA4 11 rfl)).trans (ew11)) (a1)).symm.trans ev7
    have hs13 := ev7
    refine Ew_of (pc' := 15) (fun _ => x_bipush (z := 16) rfl (by decide)) ?_
    refine w_iadd rfl ?_
    refine Ew_of (pc' := 18) (fun _ => x_ldc (z := 65536) rfl (by decide)) ?_
    refine w_icmple (t := 23) rfl rfl (show inr ((v7 + 16)) by omega) (show inr (65536) by omega) (fun b8 => ?_) (fun b8 => ?_)
    · refine Ew_of (pc' := 24) (fun _ => x_iconst rfl) ?_
      refine Ew_of (pc' := 26) (fun _ => x_istore rfl) ?_
      refine Ew_of (pc' := 27) (fun _ => x_iconst rfl) ?_
      refine Ew_of (pc' := 29) (fun _ => x_istore rfl) ?_
      have : RWC ((w10)) ((w11)) ((w10)) ((w11)) ((a1)) (rwR ((w10)) ((w11)) ((a1)) ++ fdL ((a2)) ((a3)) ((a4)) ((a5)) (0)) := RWC_e RWC_0 (List.append_nil _).symm
      suffices hl29 : ∀ (m : Nat), ∀ (ls : rO) (σ : rS) (F_29 : hF) (A_29 : hA) (x29_6 : Int) (x29_7 : Int), rlook ls 0 = some (.ref (D 0)) → rlook ls 1 = some (I (a1)) → rlook ls 2 = some (I (a2)) → rlook ls 3 = some (I (a3)) → rlook ls 4 = some (I (a4)) → rlook ls 5 = some (I (a5)) → rlook ls 6 = some (I (x29_6)) → rlook ls 7 = some (I (x29_7)) → HS σ0 σ D N F_29 A_29 → SF [] F1 F_29 → SA [10, 11] A2 A_29 → ∀ w29_10 : Int → Int, A_29 10 = w29_10 → ∀ w29_11 : Int → Int, A_29 11 = w29_11 → (inr (x29_6)) → (inr (x29_7)) → ((x29_6) = 1) → (0 ≤ (x29_7) ∧ (x29_7) ≤ 16) → (((w29_11)) ((a1)) = ((w11)) ((a1)) + (x29_7)) → (RWC ((w10)) ((w11)) ((w29_10)) ((w29_11)) ((a1)) (rwR ((w10)) ((w11)) ((a1)) ++ fdL ((a2)) ((a3)) ((a4)) ((a5)) ((x29_7)))) → (16 - (x29_7)).toNat = m → Ew 58 (d + 1) 29 ls [] σ c s Q from
        hl29 _ _ σ _ _ (1) (0) (rk_o (rk_o (rfl) rfl rfl) rfl rfl) (rk_o (rk_o (rfl) rfl rfl) rfl rfl) (rk_o (rk_o (rfl) rfl rfl) rfl rfl) (rk_o (rk_o (rfl) rfl rfl) rfl rfl) (rk_o (rk_o (rfl) rfl rfl) rfl rfl) (rk_o (rk_o (rfl) rfl rfl) rfl rfl) (rk_o (rk_s) rfl rfl) (rk_s) H (SF_refl) (SA_refl)  (w10) ((funext (hA4 10 rfl)).trans (ew10)) (w11) ((funext (hA4 11 rfl)).trans (ew11)) (show inr (1) by omega) (show inr (0) by omega) (show (1) = 1 by omega) (show 0 ≤ (0) ∧ (0) ≤ 16 by omega) (show ((w11)) ((a1)) = ((w11)) ((a1)) + (0) by omega) (show RWC ((w10)) ((w11)) ((w10)) ((w11)) ((a1)) (rwR ((w10)) ((w11)) ((a1)) ++ fdL ((a2)) ((a3)) ((a4)) ((a5)) ((0))) by assumption) rfl
      as_aux_lemma =>
      intro m
      induction m using Nat.strongRecOn with
      | _ m ih29 =>
        intro ls σ F_29 A_29 x29_6 x29_7 l29_0 l29_1 l29_2 l29_3 l29_4 l29_5 l29_6 l29_7 H hS_29 hA_29  w29_10 ew29_10 w29_11 ew29_11 j29_0 j29_1 j29_2 j29_3 j29_4 j29_5 hm29
        have j29_c : RWC ((w10)) ((w11)) ((w29_10)) ((w29_11)) ((a1)) (rwR ((w10)) ((w11)) ((a1)) ++ fdL ((a2)) ((a3)) ((a4)) ((a5)) ((x29_7))) := by assumption
        have hSz2 : ∀ i, (0 : Int) ≤ (w29_11) i ∧ (w29_11) i ≤ 65536 := fun i => by have h1 : (0 : Int) ≤ A_29 11 i ∧ A_29 11 i ≤ 65536 := H.arng 11 i; rw [show A_29 11 = w29_11 from ew29_11] at h1; exact h1
        obtain ⟨q7, hq7⟩ : ∃ q : Int, q = (x29_7) := ⟨_, rfl⟩
        refine Ew_of (pc' := 31) (fun _ => x_iload rfl l29_7) ?_
        refine Ew_of (pc' := 33) (fun _ => x_bipush (z := 16) rfl (by decide)) ?_
        refine w_icmpge (t := 112) rfl rfl (show inr (x29_7) by omega) (show inr (16) by omega) (fun b9 => ?_) (fun b9 => ?_)
        · have hc12 : RWC ((w10)) ((w11)) ((w29_10)) ((w29_11)) ((a1)) (rwR ((w10)) ((w11)) ((a1)) ++ fdL ((a2)) ((a3)) ((a4)) ((a5)) (16)) := by have h := j29_c; rw [show (x29_7) = 16 by omega] at h; exact h
          have : CHQ ((0 ≤ (a1) ∧ (a1) ≤ 3) ∧ ((rwR ((w10)) ((w11)) ((a1))).length : Int) + 16 ≤ 65536) (rwR ((w10)) ((w11)) ((a1))) (rwR ((w10)) ((w11)) ((a1)) ++ fdL ((a2)) ((a3)) ((a4)) ((a5)) 16) ((x29_6)) (rwR ((w29_10)) ((w29_11)) ((a1))) := .inl ⟨⟨by omega, by omega⟩, by omega, hc12.1⟩
          have : ∀ q, 0 ≤ q → q ≤ 3 → q ≠ (a1) → rwR ((w29_10)) ((w29_11)) (q) = rwR ((w10)) ((w11)) (q) := hc12.2
          refine Ew_of (pc' := 114) (fun _ => x_iload rfl l29_6) ?_
          exact w_ireturn rfl (k (x29_6) σ _ _ H (SF_trans (SF_trans (SF_refl) hS3 (any_sub rfl)) hS_29 (any_sub rfl)) (SA_trans (SA_trans (SA_refl) hA4 (any_subA rfl)) hA_29 (any_subA rfl)) (w29_10) (ew29_10) (w29_11) (ew29_11) (show (x29_6) = 0 ∨ (x29_6) = 1 by omega) (show CHQ ((0 ≤ a1 ∧ a1 ≤ 3) ∧ ((rwR ((w10)) ((w11)) (a1)).length : Int) + 16 ≤ 65536) (rwR ((w10)) ((w11)) (a1)) (rwR ((w10)) ((w11)) (a1) ++ fdL (a2) (a3) (a4) (a5) 16) ((x29_6)) (rwR ((w29_10)) ((w29_11)) (a1)) by assumption) (show ∀ q, 0 ≤ q → q ≤ 3 → q ≠ a1 → rwR ((w29_10)) ((w29_11)) (q) = rwR ((w10)) ((w11)) (q) by assumption))
        · have hc71 : ∀ (tc71_0 : Int), ∀ (ls : rO) (σ : rS) (F_c71 : hF) (A_c71 : hA) , rlook ls 0 = some (.ref (D 0)) → rlook ls 1 = some (I (a1)) → rlook ls 2 = some (I (a2)) → rlook ls 3 = some (I (a3)) → rlook ls 4 = some (I (a4)) → rlook ls 5 = some (I (a5)) → rlook ls 6 = some (I (x29_6)) → rlook ls 7 = some (I (x29_7)) → HS σ0 σ D N F_c71 A_c71 → SF [] F_29 F_c71 → SA [] A_29 A_c71 → (inr (tc71_0)) → ((tc71_0) = (if (x29_7) < 4 then (a2) else if (x29_7) < 8 then (a3) else if (x29_7) < 12 then (a4) else (a5))) → Ew 58 (d + 1) 71 ls [I (tc71_0)] σ c s Q := by
           as_aux_lemma =>
            intro tc71_0 ls σ F_c71 A_c71  lc71_0 lc71_1 lc71_2 lc71_3 lc71_4 lc71_5 lc71_6 lc71_7 H hS_c71 hA_c71   jc71_0 jc71_1
            refine Ew_of (pc' := 73) (fun _ => x_istore rfl) ?_
            have h8 : (tc71_0) = (if (x29_7) < 4 then (a2) else if (x29_7) < 8 then (a3) else if (x29_7) < 12 then (a4) else (a5)) := by assumption
            refine Ew_of (pc' := 74) (fun _ => x_aload_n rfl (rk_o (lc71_0) rfl rfl)) ?_
            refine Ew_of (pc' := 75) (fun _ => x_iload_n rfl (rk_o (lc71_1) rfl rfl)) ?_
            refine Ew_of (pc' := 77) (fun _ => x_iload rfl rk_s) ?_
            refine Ew_of (pc' := 79) (fun _ => x_bipush (z := 24) rfl (by decide)) ?_
            refine Ew_of (pc' := 81) (fun _ => x_bipush (z := 8) rfl (by decide)) ?_
            refine Ew_of (pc' := 83) (fun _ => x_iload rfl (rk_o (lc71_7) rfl rfl)) ?_
            refine Ew_of (pc' := 84) (fun _ => x_iconst rfl) ?_
            refine w_irem rfl (show inr (x29_7) ∧ 0 ≤ x29_7 by omega) (show inr (4) ∧ 0 < 4 by omega) ?_
            refine w_imul rfl ?_
            refine w_isub rfl ?_
            refine w_ishrG rfl ?_
            have g10 : inr (srI (tc71_0) ((24 - (8 * (x29_7 % 4))))) := toI_inr _
            obtain ⟨qs_, hqs_⟩ : ∃ q : Int, q = ((srI (tc71_0) ((24 - (8 * (x29_7 % 4)))))) := ⟨_, rfl⟩
            rw [← hqs_]
            have gqs_ : inr qs_ := by rw [hqs_]; first | assumption | omega
            replace hqs_ : IMP True (qs_ = ((srI (tc71_0) ((24 - (8 * (x29_7 % 4))))))) := fun _ => hqs_
            try clear g10
            have hqs : u8 qs_ = fdK ((a2)) ((a3)) ((a4)) ((a5)) ((x29_7)) := by rw [hqs_ trivial, srI_g (by omega) (by omega)]; unfold fdK; rw [← h8]
            refine w_inv H (o := 0) rfl rfl rfl (H.perm 0 rfl) rfl rfl (by rfl) (M57p H (w29_10) ((funext (hA_c71 10 rfl)).trans (ew29_10)) (w29_11) ((funext (hA_c71 11 rfl)).trans (ew29_11)) (show inr (a1) by omega) (show inr (qs_) by omega) (show 0 ≤ (a1) ∧ (a1) ≤ 3 by omega) (fun z15 σ F11 A12 H hS13 hA14 wq16 ewq17 wq18 ewq19 pz15_0 pz15_1 pz15_2 => ⟨rretB rfl pz15_0, ?_⟩))
            have hap := APQ_1 pz15_1 hSz2 (by omega) (by omega)
            have hr1 := hap.1
            have hsz3 := hap.2.2
            refine w_ifeq (t := 103) rfl rfl (show inr (z15) by omega) (fun b20 => ?_) (fun b20 => ?_)
            · refine Ew_of (pc' := 104) (fun _ => x_iconst rfl) ?_
              refine Ew_of (pc' := 106) (fun _ => x_istore rfl) ?_
              refine Ew_of (pc' := 109) (fun _ => x_iinc (len := 3) rfl (rk_o (rk_o (lc71_7) rfl rfl) rfl rfl)) ?_
              refine Ew_of (pc' := 29) (fun _ => x_goto rfl rfl) ?_
              have : RWC ((w10)) ((w11)) ((wq16)) ((wq18)) ((a1)) (rwR ((w10)) ((w11)) ((a1)) ++ fdL ((a2)) ((a3)) ((a4)) ((a5)) (((x29_7 + 1)))) := by first | exact RWC_e (RWC_a j29_c hap.2.1) (by rw [fdL_s (n := q7) (m := ((x29_7 + 1))) (by omega) (by omega), hq7, hqs, List.append_assoc]) | (exfalso; omega)
              exact ih29 _ (by omega) _ σ _ _ (0) ((x29_7 + 1)) (rk_o (rk_o (rk_o (lc71_0) rfl rfl) rfl rfl) rfl rfl) (rk_o (rk_o (rk_o (lc71_1) rfl rfl) rfl rfl) rfl rfl) (rk_o (rk_o (rk_o (lc71_2) rfl rfl) rfl rfl) rfl rfl) (rk_o (rk_o (rk_o (lc71_3) rfl rfl) rfl rfl) rfl rfl) (rk_o (rk_o (rk_o (lc71_4) rfl rfl) rfl rfl) rfl rfl) (rk_o (rk_o (rk_o (lc71_5) rfl rfl) rfl rfl) rfl rfl) (rk_o (rk_s) rfl rfl) (rk_s) H (SF_trans (SF_trans (hS_29) hS_c71 (any_sub rfl)) hS13 (any_sub rfl)) (SA_trans (SA_trans (hA_29) hA_c71 (any_subA rfl)) hA14 (any_subA rfl))  (wq16) (ewq17) (wq18) (ewq19) (show inr (0) by omega) (show inr ((x29_7 + 1)) by omega) (show (0) = 1 by omega) (show 0 ≤ ((x29_7 + 1)) ∧ ((x29_7 + 1)) ≤ 16 by omega) (show ((wq18)) ((a1)) = ((w11)) ((a1)) + ((x29_7 + 1)) by omega) (show RWC ((w10)) ((w11)) ((wq16)) ((wq18)) ((a1)) (rwR ((w10)) ((w11)) ((a1)) ++ fdL ((a2)) ((a3)) ((a4)) ((a5)) (((x29_7 + 1)))) by assumption) rfl
            · refine Ew_of (pc' := 96) (fun _ => x_iload rfl (rk_o (lc71_6) rfl rfl)) ?_
              refine w_ifeq (t := 103) rfl rfl (show inr (x29_6) by omega) (fun b21 => ?_) (fun b21 => ?_)
              · refine Ew_of (pc' := 104) (fun _ => x_iconst rfl) ?_
                refine Ew_of (pc' := 106) (fun _ => x_istore rfl) ?_
                refine Ew_of (pc' := 109) (fun _ => x_iinc (len := 3) rfl (rk_o (rk_o (lc71_7) rfl rfl) rfl rfl)) ?_
                refine Ew_of (pc' := 29) (fun _ => x_goto rfl rfl) ?_
                have : RWC ((w10)) ((w11)) ((wq16)) ((wq18)) ((a1)) (rwR ((w10)) ((w11)) ((a1)) ++ fdL ((a2)) ((a3)) ((a4)) ((a5)) (((x29_7 + 1)))) := by first | exact RWC_e (RWC_a j29_c hap.2.1) (by rw [fdL_s (n := q7) (m := ((x29_7 + 1))) (by omega) (by omega), hq7, hqs, List.append_assoc]) | (exfalso; omega)
                exact ih29 _ (by omega) _ σ _ _ (0) ((x29_7 + 1)) (rk_o (rk_o (rk_o (lc71_0) rfl rfl) rfl rfl) rfl rfl) (rk_o (rk_o (rk_o (lc71_1) rfl rfl) rfl rfl) rfl rfl) (rk_o (rk_o (rk_o (lc71_2) rfl rfl) rfl rfl) rfl rfl) (rk_o (rk_o (rk_o (lc71_3) rfl rfl) rfl rfl) rfl rfl) (rk_o (rk_o (rk_o (lc71_4) rfl rfl) rfl rfl) rfl rfl) (rk_o (rk_o (rk_o (lc71_5) rfl rfl) rfl rfl) rfl rfl) (rk_o (rk_s) rfl rfl) (rk_s) H (SF_trans (SF_trans (hS_29) hS_c71 (any_sub rfl)) hS13 (any_sub rfl)) (SA_trans (SA_trans (hA_29) hA_c71 (any_subA rfl)) hA14 (any_subA rfl))  (wq16) (ewq17) (wq18) (ewq19) (show inr (0) by omega) (show inr ((x29_7 + 1)) by omega) (show (0) = 1 by omega) (show 0 ≤ ((x29_7 + 1)) ∧ ((x29_7 + 1)) ≤ 16 by omega) (show ((wq18)) ((a1)) = ((w11)) ((a1)) + ((x29_7 + 1)) by omega) (show RWC ((w10)) ((w11)) ((wq16)) ((wq18)) ((a1)) (rwR ((w10)) ((w11)) ((a1)) ++ fdL ((a2)) ((a3)) ((a4)) ((a5)) (((x29_7 + 1)))) by assumption) rfl
              · refine Ew_of (pc' := 100) (fun _ => x_iconst rfl) ?_
                refine Ew_of (pc' := 104) (fun _ => x_goto rfl rfl) ?_
                refine Ew_of (pc' := 106) (fun _ => x_istore rfl) ?_
                refine Ew_of (pc' := 109) (fun _ => x_iinc (len := 3) rfl (rk_o (rk_o (lc71_7) rfl rfl) rfl rfl)) ?_
                refine Ew_of (pc' := 29) (fun _ => x_goto rfl rfl) ?_
                have : RWC ((w10)) ((w11)) ((wq16)) ((wq18)) ((a1)) (rwR ((w10)) ((w11)) ((a1)) ++ fdL ((a2)) ((a3)) ((a4)) ((a5)) (((x29_7 + 1)))) := by first | exact RWC_e (RWC_a j29_c hap.2.1) (by rw [fdL_s (n := q7) (m := ((x29_7 + 1))) (by omega) (by omega), hq7, hqs, List.append_assoc]) | (exfalso; omega)
                exact ih29 _ (by omega) _ σ _ _ (1) ((x29_7 + 1)) (rk_o (rk_o (rk_o (lc71_0) rfl rfl) rfl rfl) rfl rfl) (rk_o (rk_o (rk_o (lc71_1) rfl rfl) rfl rfl) rfl rfl) (rk_o (rk_o (rk_o (lc71_2) rfl rfl) rfl rfl) rfl rfl) (rk_o (rk_o (rk_o (lc71_3) rfl rfl) rfl rfl) rfl rfl) (rk_o (rk_o (rk_o (lc71_4) rfl rfl) rfl rfl) rfl rfl) (rk_o (rk_o (rk_o (lc71_5) rfl rfl) rfl rfl) rfl rfl) (rk_o (rk_s) rfl rfl) (rk_s) H (SF_trans (SF_trans (hS_29) hS_c71 (any_sub rfl)) hS13 (any_sub rfl)) (SA_trans (SA_trans (hA_29) hA_c71 (any_subA rfl)) hA14 (any_subA rfl))  (wq16) (ewq17) (wq18) (ewq19) (show inr (1) by omega) (show inr ((x29_7 + 1)) by omega) (show (1) = 1 by omega) (show 0 ≤ ((x29_7 + 1)) ∧ ((x29_7 + 1)) ≤ 16 by omega) (show ((wq18)) ((a1)) = ((w11)) ((a1)) + ((x29_7 + 1)) by omega) (show RWC ((w10)) ((w11)) ((wq16)) ((wq18)) ((a1)) (rwR ((w10)) ((w11)) ((a1)) ++ fdL ((a2)) ((a3)) ((a4)) ((a5)) (((x29_7 + 1)))) by assumption) rfl
          refine Ew_of (pc' := 38) (fun _ => x_iload rfl l29_7) ?_
          refine Ew_of (pc' := 39) (fun _ => x_iconst rfl) ?_
          refine w_icmpge (t := 46) rfl rfl (show inr (x29_7) by omega) (show inr (4) by omega) (fun b22 => ?_) (fun b22 => ?_)
          · refine Ew_of (pc' := 48) (fun _ => x_iload rfl l29_7) ?_
            refine Ew_of (pc' := 50) (fun _ => x_bipush (z := 8) rfl (by decide)) ?_
            refine w_icmpge (t := 57) rfl rfl (show inr (x29_7) by omega) (show inr (8) by omega) (fun b23 => ?_) (fun b23 => ?_)
            · refine Ew_of (pc' := 59) (fun _ => x_iload rfl l29_7) ?_
              refine Ew_of (pc' := 61) (fun _ => x_bipush (z := 12) rfl (by decide)) ?_
              refine w_icmpge (t := 69) rfl rfl (show inr (x29_7) by omega) (show inr (12) by omega) (fun b24 => ?_) (fun b24 => ?_)
              · refine Ew_of (pc' := 71) (fun _ => x_iload rfl l29_5) ?_
                have : (a5) = (if (x29_7) < 4 then (a2) else if (x29_7) < 8 then (a3) else if (x29_7) < 12 then (a4) else (a5)) := by first | (rw [if_pos (by omega)]) | (rw [if_neg (by omega), if_pos (by omega)]) | (rw [if_neg (by omega), if_neg (by omega), if_pos (by omega)]) | (rw [if_neg (by omega), if_neg (by omega), if_neg (by omega)])
                exact hc71 (a5) _ σ _ _  (l29_0) (l29_1) (l29_2) (l29_3) (l29_4) (l29_5) (l29_6) (l29_7) H (SF_refl) (SA_refl)   (show inr (a5) by omega) (show (a5) = (if (x29_7) < 4 then (a2) else if (x29_7) < 8 then (a3) else if (x29_7) < 12 then (a4) else (a5)) by assumption)
              · refine Ew_of (pc' := 66) (fun _ => x_iload rfl l29_4) ?_
                refine Ew_of (pc' := 71) (fun _ => x_goto rfl rfl) ?_
                have : (a4) = (if (x29_7) < 4 then (a2) else if (x29_7) < 8 then (a3) else if (x29_7) < 12 then (a4) else (a5)) := by first | (rw [if_pos (by omega)]) | (rw [if_neg (by omega), if_pos (by omega)]) | (rw [if_neg (by omega), if_neg (by omega), if_pos (by omega)]) | (rw [if_neg (by omega), if_neg (by omega), if_neg (by omega)])
                exact hc71 (a4) _ σ _ _  (l29_0) (l29_1) (l29_2) (l29_3) (l29_4) (l29_5) (l29_6) (l29_7) H (SF_refl) (SA_refl)   (show inr (a4) by omega) (show (a4) = (if (x29_7) < 4 then (a2) else if (x29_7) < 8 then (a3) else if (x29_7) < 12 then (a4) else (a5)) by assumption)
            · refine Ew_of (pc' := 54) (fun _ => x_iload_n rfl l29_3) ?_
              refine Ew_of (pc' := 71) (fun _ => x_goto rfl rfl) ?_
              have : (a3) = (if (x29_7) < 4 then (a2) else if (x29_7) < 8 then (a3) else if (x29_7) < 12 then (a4) else (a5)) := by first | (rw [if_pos (by omega)]) | (rw [if_neg (by omega), if_pos (by omega)]) | (rw [if_neg (by omega), if_neg (by omega), if_pos (by omega)]) | (rw [if_neg (by omega), if_neg (by omega), if_neg (by omega)])
              exact hc71 (a3) _ σ _ _  (l29_0) (l29_1) (l29_2) (l29_3) (l29_4) (l29_5) (l29_6) (l29_7) H (SF_refl) (SA_refl)   (show inr (a3) by omega) (show (a3) = (if (x29_7) < 4 then (a2) else if (x29_7) < 8 then (a3) else if (x29_7) < 12 then (a4) else (a5)) by assumption)
          · refine Ew_of (pc' := 43) (fun _ => x_iload_n rfl l29_2) ?_
            refine Ew_of (pc' := 71) (fun _ => x_goto rfl rfl) ?_
            have : (a2) = (if (x29_7) < 4 then (a2) else if (x29_7) < 8 then (a3) else if (x29_7) < 12 then (a4) else (a5)) := by first | (rw [if_pos (by omega)]) | (rw [if_neg (by omega), if_pos (by omega)]) | (rw [if_neg (by omega), if_neg (by omega), if_pos (by omega)]) | (rw [if_neg (by omega), if_neg (by omega), if_neg (by omega)])
            exact hc71 (a2) _ σ _ _  (l29_0) (l29_1) (l29_2) (l29_3) (l29_4) (l29_5) (l29_6) (l29_7) H (SF_refl) (SA_refl)   (show inr (a2) by omega) (show (a2) = (if (x29_7) < 4 then (a2) else if (x29_7) < 8 then (a3) else if (x29_7) < 12 then (a4) else (a5)) by assumption)
    · have : CHQ ((0 ≤ (a1) ∧ (a1) ≤ 3) ∧ ((rwR ((w10)) ((w11)) ((a1))).length : Int) + 16 ≤ 65536) (rwR ((w10)) ((w11)) ((a1))) (rwR ((w10)) ((w11)) ((a1)) ++ fdL ((a2)) ((a3)) ((a4)) ((a5)) 16) (0) (rwR ((w10)) ((w11)) ((a1))) := .inr ⟨fun q => by omega, rfl, rfl⟩
      have : ∀ q, 0 ≤ q → q ≤ 3 → q ≠ (a1) → rwR ((w10)) ((w11)) (q) = rwR ((w10)) ((w11)) (q) := fun _ _ _ _ => rfl
      refine Ew_of (pc' := 22) (fun _ => x_iconst rfl) ?_
      exact w_ireturn rfl (k (0) σ _ _ H (SF_trans (SF_refl) hS3 (any_sub rfl)) (SA_trans (SA_refl) hA4 (any_subA rfl)) (w10) ((funext (hA4 10 rfl)).trans (ew10)) (w11) ((funext (hA4 11 rfl)).trans (ew11)) (show (0) = 0 ∨ (0) = 1 by omega) (show CHQ ((0 ≤ a1 ∧ a1 ≤ 3) ∧ ((rwR ((w10)) ((w11)) (a1)).length : Int) + 16 ≤ 65536) (rwR ((w10)) ((w11)) (a1)) (rwR ((w10)) ((w11)) (a1) ++ fdL (a2) (a3) (a4) (a5) 16) ((0)) (rwR ((w10)) ((w11)) (a1)) by assumption) (show ∀ q, 0 ≤ q → q ≤ 3 → q ≠ a1 → rwR ((w10)) ((w11)) (q) = rwR ((w10)) ((w11)) (q) by assumption))
/-- Model.give -/
theorem M59p {σ0 σ : rS} {D N : Nat → Nat} {F : hF} {A : hA} {d c s : Nat} {Q : wQ} (H : HS σ0 σ D N F A) {a1 a2 a3 : Int} (w10 : Int → Int) (ew10 : A 10 = w10) (w11 : Int → Int) (ew11 : A 11 = w11) (h0 : inr (a1)) (h1 : inr (a2)) (h2 : inrJ (a3)) (k : ∀ (z : Int) σ F' A', HS σ0 σ D N F' A' → SF [] F F' → SA [10, 11] A A' → ∀ v10 : Int → Int, A' 10 = v10 → ∀ v11 : Int → Int, A' 11 = v11 → ((z) = 0 ∨ (z) = 1) → (CHQ ((0 ≤ (a1) ∧ (a1) ≤ 3) ∧ (1 ≤ (a2) ∧ (a2) ≤ 8) ∧ ((rwR ((w10)) ((w11)) ((a1))).length : Int) + (a2) ≤ 65536) (rwR ((w10)) ((w11)) ((a1))) (rwR ((w10)) ((w11)) ((a1)) ++ beB ((a3)) ((a2))) ((z)) (rwR ((v10)) ((v11)) ((a1)))) → (∀ q, 0 ≤ q → q ≤ 3 → q ≠ (a1) → rwR ((v10)) ((v11)) (q) = rwR ((w10)) ((w11)) (q)) → Q (some (I z)) σ c s) : Ew 59 (d + 1) 0 (rargs 0 [.ref (D 0), I a1, I a2, J a3]) [] σ c s Q := by
  have hSz : ∀ i, (0 : Int) ≤ (w11) i ∧ (w11) i ≤ 65536 := fun i => by have h1 : (0 : Int) ≤ A 11 i ∧ A 11 i ≤ 65536 := H.arng 11 i; rw [show A 11 = w11 from ew11] at h1; exact h1
  have hl0 := rwR_len (ro := (w10)) (si := (w11)) (r := (a1)) (hSz ((a1))).1
  refine Ew_of (pc' := 1) (fun _ => x_iload_n rfl rfl) ?_
  refine w_stat24 rfl rfl (by rfl) (M56p H (show inr (a1) by omega) (fun z5 σ F1 A2 H hS3 hA4 pz5_0 pz5_1 => ⟨rretB rfl pz5_0, ?_⟩))
  refine w_ifeq (t := 31) rfl rfl (show inr (z5) by omega) (fun b6 => ?_) (fun b6 => ?_)
  · have : CHQ ((0 ≤ (a1) ∧ (a1) ≤ 3) ∧ (1 ≤ (a2) ∧ (a2) ≤ 8) ∧ ((rwR ((w10)) ((w11)) ((a1))).length : Int) + (a2) ≤ 65536) (rwR ((w10)) ((w11)) ((a1))) (rwR ((w10)) ((w11)) ((a1)) ++ beB ((a3)) ((a2))) (0) (rwR ((w10)) ((w11)) ((a1))) := .inr ⟨fun q => by omega, rfl, rfl⟩
    have : ∀ q, 0 ≤ q → q ≤ 3 → q ≠ (a1) → rwR ((w10)) ((w11)) (q) = rwR ((w10)) ((w11)) (q) := fun _ _ _ _ => rfl
    refine Ew_of (pc' := 32) (fun _ => x_iconst rfl) ?_
    exact w_ireturn rfl (k (0) σ _ _ H (SF_trans (SF_refl) hS3 (any_sub rfl)) (SA_trans (SA_refl) hA4 (any_subA rfl)) (w10) ((funext (hA4 10 rfl)).trans (ew10)) (w11) ((funext (hA4 11 rfl)).trans (ew11)) (show (0) = 0 ∨ (0) = 1 by omega) (show CHQ ((0 ≤ a1 ∧ a1 ≤ 3) ∧ (1 ≤ a2 ∧ a2 ≤ 8) ∧ ((rwR ((w10)) ((w11)) (a1)).length : Int) + a2 ≤ 65536) (rwR ((w10)) ((w11)) (a1)) (rwR ((w10)) ((w11)) (a1) ++ beB (a3) (a2)) ((0)) (rwR ((w10)) ((w11)) (a1)) by assumption) (show ∀ q, 0 ≤ q → q ≤ 3 → q ≠ a1 → rwR ((w10)) ((w11)) (q) = rwR ((w10)) ((w11)) (q) by assumption))
  · refine Ew_of (pc' := 8) (fun _ => x_iload_n rfl rfl) ?_
    refine Ew_of (pc' := 9) (fun _ => x_iconst rfl) ?_
    refine w_icmplt (t := 31) rfl rfl (show inr (a2) by omega) (show inr (1) by omega) (fun b7 => ?_) (fun b7 => ?_)
    · have : CHQ ((0 ≤ (a1) ∧ (a1) ≤ 3) ∧ (1 ≤ (a2) ∧ (a2) ≤ 8) ∧ ((rwR ((w10)) ((w11)) ((a1))).length : Int) + (a2) ≤ 65536) (rwR ((w10)) ((w11)) ((a1))) (rwR ((w10)) ((w11)) ((a1)) ++ beB ((a3)) ((a2))) (0) (rwR ((w10)) ((w11)) ((a1))) := .inr ⟨fun q => by omega, rfl, rfl⟩
      have : ∀ q, 0 ≤ q → q ≤ 3 → q ≠ (a1) → rwR ((w10)) ((w11)) (q) = rwR ((w10)) ((w11)) (q) := fun _ _ _ _ => rfl
      refine Ew_of (pc' := 32) (fun _ => x_iconst rfl) ?_
      exact w_ireturn rfl (k (0) σ _ _ H (SF_trans (SF_refl) hS3 (any_sub rfl)) (SA_trans (SA_refl) hA4 (any_subA rfl)) (w10) ((funext (hA4 10 rfl)).trans (ew10)) (w11) ((funext (hA4 11 rfl)).trans (ew11)) (show (0) = 0 ∨ (0) = 1 by omega) (show CHQ ((0 ≤ a1 ∧ a1 ≤ 3) ∧ (1 ≤ a2 ∧ a2 ≤ 8) ∧ ((rwR ((w10)) ((w11)) (a1)).length : Int) + a2 ≤ 65536) (rwR ((w10)) ((w11)) (a1)) (rwR ((w10)) ((w11)) (a1) ++ beB (a3) (a2)) ((0)) (rwR ((w10)) ((w11)) (a1)) by assumption) (show ∀ q, 0 ≤ q → q ≤ 3 → q ≠ a1 → rwR ((w10)) ((w11)) (q) = rwR ((w10)) ((w11)) (q) by assumption))
    · refine Ew_of (pc' := 13) (fun _ => x_iload_n rfl rfl) ?_
      refine Ew_of (pc' := 15) (fun _ => x_bipush (z := 8) rfl (by decide)) ?_
      refine w_icmpgt (t := 31) rfl rfl (show inr (a2) by omega) (show inr (8) by omega) (fun b8 => ?_) (fun b8 => ?_)
      · have : CHQ ((0 ≤ (a1) ∧ (a1) ≤ 3) ∧ (1 ≤ (a2) ∧ (a2) ≤ 8) ∧ ((rwR ((w10)) ((w11)) ((a1))).length : Int) + (a2) ≤ 65536) (rwR ((w10)) ((w11)) ((a1))) (rwR ((w10)) ((w11)) ((a1)) ++ beB ((a3)) ((a2))) (0) (rwR ((w10)) ((w11)) ((a1))) := .inr ⟨fun q => by omega, rfl, rfl⟩
        have : ∀ q, 0 ≤ q → q ≤ 3 → q ≠ (a1) → rwR ((w10)) ((w11)) (q) = rwR ((w10)) ((w11)) (q) := fun _ _ _ _ => rfl
        refine Ew_of (pc' := 32) (fun _ => x_iconst rfl) ?_
        exact w_ireturn rfl (k (0) σ _ _ H (SF_trans (SF_refl) hS3 (any_sub rfl)) (SA_trans (SA_refl) hA4 (any_subA rfl)) (w10) ((funext (hA4 10 rfl)).trans (ew10)) (w11) ((funext (hA4 11 rfl)).trans (ew11)) (show (0) = 0 ∨ (0) = 1 by omega) (show CHQ ((0 ≤ a1 ∧ a1 ≤ 3) ∧ (1 ≤ a2 ∧ a2 ≤ 8) ∧ ((rwR ((w10)) ((w11)) (a1)).length : Int) + a2 ≤ 65536) (rwR ((w10)) ((w11)) (a1)) (rwR ((w10)) ((w11)) (a1) ++ beB (a3) (a2)) ((0)) (rwR ((w10)) ((w11)) (a1)) by assumption) (show ∀ q, 0 ≤ q → q ≤ 3 → q ≠ a1 → rwR ((w10)) ((w11)) (q) = rwR ((w10)) ((w11)) (q) by assumption))
      · refine Ew_of (pc' := 19) (fun _ => x_aload_n rfl rfl) ?_
        refine w_gT H (o := 0) (t := 11) rfl (H.perm 0 rfl) rfl rfl rfl rfl rfl rfl ?_
        refine Ew_of (pc' := 23) (fun _ => x_iload_n rfl rfl) ?_
        refine w_lI H (o := 11) (n := 4) rfl (H.perm 11 rfl) rfl rfl (H.fix 11 rfl rfl) (show 0 ≤ a1 ∧ a1 < ((4 : Nat) : Int) by omega) (by decide) (fun v9 ev9 qv9 => ?_)
        have qv9 : (0 : Int) ≤ v9 ∧ v9 ≤ 65536 := qv9
        have ev9 : (w11) (a1) = v9 := (congrFun ((funext (hA4 11 rfl)).trans (ew11)) (a1)).symm.trans ev9
        have hs13 := ev9
        refine Ew_of (pc' := 25) (fun _ => x_iload_n rfl rfl) ?_
        refine w_iadd rfl ?_
        refine Ew_of (pc' := 28) (fun _ => x_ldc (z := 65536) rfl (by decide)) ?_
        refine w_icmple (t := 33) rfl rfl (show inr ((v9 + a2)) by omega) (show inr (65536) by omega) (fun b10 => ?_) (fun b10 => ?_)
        · refine Ew_of (pc' := 34) (fun _ => x_iconst rfl) ?_
          refine Ew_of (pc' := 36) (fun _ => x_istore rfl) ?_
          refine Ew_of (pc' := 37) (fun _ => x_iconst rfl) ?_
          refine Ew_of (pc' := 39) (fun _ => x_istore rfl) ?_
          have : RWC ((w10)) ((w11)) ((w10)) ((w11)) ((a1)) (rwR ((w10)) ((w11)) ((a1)) ++ beB ((a3)) (0)) := RWC_e RWC_0 (List.append_nil _).symm
          suffices hl39 : ∀ (m : Nat), ∀ (ls : rO) (σ : rS) (F_39 : hF) (A_39 : hA) (x39_5 : Int) (x39_6 : Int), rlook ls 0 = some (.ref (D 0)) → rlook ls 1 = some (I (a1)) → rlook ls 2 = some (I (a2)) → rlook ls 3 = some (J (a3)) → rlook ls 5 = some (I (x39_5)) → rlook ls 6 = some (I (x39_6)) → HS σ0 σ D N F_39 A_39 → SF [] F1 F_39 → SA [10, 11] A2 A_39 → ∀ w39_10 : Int → Int, A_39 10 = w39_10 → ∀ w39_11 : Int → Int, A_39 11 = w39_11 → (inr (x39_5)) → (inr (x39_6)) → ((x39_5) = 1) → (0 ≤ (x39_6) ∧ (x39_6) ≤ (a2)) → (((w39_11)) ((a1)) = ((w11)) ((a1)) + (x39_6)) → (RWC ((w10)) ((w11)) ((w39_10)) ((w39_11)) ((a1)) (rwR ((w10)) ((w11)) ((a1)) ++ beB ((a3)) ((x39_6)))) → ((a2) - (x39_6)).toNat = m → Ew 59 (d + 1) 39 ls [] σ c s Q from
            hl39 _ _ σ _ _ (1) (0) (rk_o (rk_o (rfl) rfl rfl) rfl rfl) (rk_o (rk_o (rfl) rfl rfl) rfl rfl) (rk_o (rk_o (rfl) rfl rfl) rfl rfl) (rk_o (rk_o (rfl) rfl rfl) rfl rfl) (rk_o (rk_s) rfl rfl) (rk_s) H (SF_refl) (SA_refl)  (w10) ((funext (hA4 10 rfl)).trans (ew10)) (w11) ((funext (hA4 11 rfl)).trans (ew11)) (show inr (1) by omega) (show inr (0) by omega) (show (1) = 1 by omega) (show 0 ≤ (0) ∧ (0) ≤ (a2) by omega) (show ((w11)) ((a1)) = ((w11)) ((a1)) + (0) by omega) (show RWC ((w10)) ((w11)) ((w10)) ((w11)) ((a1)) (rwR ((w10)) ((w11)) ((a1)) ++ beB ((a3)) ((0))) by assumption) rfl
          as_aux_lemma =>
          intro m
          induction m using Nat.strongRecOn with
          | _ m ih39 =>
            intro ls σ F_39 A_39 x39_5 x39_6 l39_0 l39_1 l39_2 l39_3 l39_5 l39_6 H hS_39 hA_39  w39_10 ew39_10 w39_11 ew39_11 j39_0 j39_1 j39_2 j39_3 j39_4 j39_5 hm39
            have j39_c : RWC ((w10)) ((w11)) ((w39_10)) ((w39_11)) ((a1)) (rwR ((w10)) ((w11)) ((a1)) ++ beB ((a3)) ((x39_6))) := by assumption
            have hSz2 : ∀ i, (0 : Int) ≤ (w39_11) i ∧ (w39_11) i ≤ 65536 := fun i => by have h1 : (0 : Int) ≤ A_39 11 i ∧ A_39 11 i ≤ 65536 := H.arng 11 i; rw [show A_39 11 = w39_11 from ew39_11] at h1; exact h1
            obtain ⟨q6, hq6⟩ : ∃ q : Int, q = (x39_6) := ⟨_, rfl⟩
            refine Ew_of (pc' := 41) (fun _ => x_iload rfl l39_6) ?_
            refine Ew_of (pc' := 42) (fun _ => x_iload_n rfl l39_2) ?_
            refine w_icmpge (t := 82) rfl rfl (show inr (x39_6) by omega) (show inr (a2) by omega) (fun b11 => ?_) (fun b11 => ?_)
            · have hc12 : RWC ((w10)) ((w11)) ((w39_10)) ((w39_11)) ((a1)) (rwR ((w10)) ((w11)) ((a1)) ++ beB ((a3)) ((a2))) := by have h := j39_c; rw [show (x39_6) = (a2) by omega] at h; exact h
              have : CHQ ((0 ≤ (a1) ∧ (a1) ≤ 3) ∧ (1 ≤ (a2) ∧ (a2) ≤ 8) ∧ ((rwR ((w10)) ((w11)) ((a1))).length : Int) + (a2) ≤ 65536) (rwR ((w10)) ((w11)) ((a1))) (rwR ((w10)) ((w11)) ((a1)) ++ beB ((a3)) ((a2))) ((x39_5)) (rwR ((w39_10)) ((w39_11)) ((a1))) := .inl ⟨⟨by omega, by omega, by omega⟩, by omega, hc12.1⟩
              have : ∀ q, 0 ≤ q → q ≤ 3 → q ≠ (a1) → rwR ((w39_10)) ((w39_11)) (q) = rwR ((w10)) ((w11)) (q) := hc12.2
              refine Ew_of (pc' := 84) (fun _ => x_iload rfl l39_5) ?_
              exact w_ireturn rfl (k (x39_5) σ _ _ H (SF_trans (SF_trans (SF_refl) hS3 (any_sub rfl)) hS_39 (any_sub rfl)) (SA_trans (SA_trans (SA_refl) hA4 (any_subA rfl)) hA_39 (any_subA rfl)) (w39_10) (ew39_10) (w39_11) (ew39_11) (show (x39_5) = 0 ∨ (x39_5) = 1 by omega) (show CHQ ((0 ≤ a1 ∧ a1 ≤ 3) ∧ (1 ≤ a2 ∧ a2 ≤ 8) ∧ ((rwR ((w10)) ((w11)) (a1)).length : Int) + a2 ≤ 65536) (rwR ((w10)) ((w11)) (a1)) (rwR ((w10)) ((w11)) (a1) ++ beB (a3) (a2)) ((x39_5)) (rwR ((w39_10)) ((w39_11)) (a1)) by assumption) (show ∀ q, 0 ≤ q → q ≤ 3 → q ≠ a1 → rwR ((w39_10)) ((w39_11)) (q) = rwR ((w10)) ((w11)) (q) by assumption))
            · refine Ew_of (pc' := 46) (fun _ => x_aload_n rfl l39_0) ?_
              refine Ew_of (pc' := 47) (fun _ => x_iload_n rfl l39_1) ?_
              refine Ew_of (pc' := 48) (fun _ => x_lload_n rfl l39_3) ?_
              refine Ew_of (pc' := 50) (fun _ => x_bipush (z := 56) rfl (by decide)) ?_
              refine Ew_of (pc' := 52) (fun _ => x_bipush (z := 8) rfl (by decide)) ?_
              refine Ew_of (pc' := 54) (fun _ => x_iload rfl l39_6) ?_
              refine w_imul rfl ?_
              refine w_isub rfl ?_
              refine w_lshrE rfl ?_
              have g12 : inrJ (srJ (a3) ((56 - (8 * x39_6)))) := toJ_inr _
              refine w_l2iW rfl ?_
              have g13 : inr (w32 ((srJ (a3) ((56 - (8 * x39_6)))))) := w32_r _
              obtain ⟨qs_, hqs_⟩ : ∃ q : Int, q = ((w32 ((srJ (a3) ((56 - (8 * x39_6))))))) := ⟨_, rfl⟩
              rw [← hqs_]
              have gqs_ : inr qs_ := by rw [hqs_]; first | assumption | omega
              replace hqs_ : IMP True (qs_ = ((w32 ((srJ (a3) ((56 - (8 * x39_6)))))))) := fun _ => hqs_
              try clear g12
              have hqs : u8 qs_ = u8 ((a3) / p2 (56 - 8 * (x39_6))) := by rw [hqs_ trivial, u8_w32, srJ_d (by omega) (by omega)]
              refine w_inv H (o := 0) rfl rfl rfl (H.perm 0 rfl) rfl rfl (by rfl) (M57p H (w39_10) (ew39_10) (w39_11) (ew39_11) (show inr (a1) by omega) (show inr (qs_) by omega) (show 0 ≤ (a1) ∧ (a1) ≤ 3 by omega) (fun z18 σ F14 A15 H hS16 hA17 wq19 ewq20 wq21 ewq22 pz18_0 pz18_1 pz18_2 => ⟨rretB rfl pz18_0, ?_⟩))
              have hap := APQ_1 pz18_1 hSz2 (by omega) (by omega)
              have hr1 := hap.1
              have hsz3 := hap.2.2
              refine w_ifeq (t := 73) rfl rfl (show inr (z18) by omega) (fun b23 => ?_) (fun b23 => ?_)
              · refine Ew_of (pc' := 74) (fun _ => x_iconst rfl) ?_
                refine Ew_of (pc' := 76) (fun _ => x_istore rfl) ?_
                refine Ew_of (pc' := 79) (fun _ => x_iinc (len := 3) rfl (rk_o (l39_6) rfl rfl)) ?_
                refine Ew_of (pc' := 39) (fun _ => x_goto rfl rfl) ?_
                have : RWC ((w10)) ((w11)) ((wq19)) ((wq21)) ((a1)) (rwR ((w10)) ((w11)) ((a1)) ++ beB ((a3)) (((x39_6 + 1)))) := by first | exact RWC_e (RWC_a j39_c hap.2.1) (by rw [beB_s (n := q6) (m := ((x39_6 + 1))) (by omega) (by omega), hq6, hqs, List.append_assoc]) | (exfalso; omega)
                exact ih39 _ (by omega) _ σ _ _ (0) ((x39_6 + 1)) (rk_o (rk_o (l39_0) rfl rfl) rfl rfl) (rk_o (rk_o (l39_1) rfl rfl) rfl rfl) (rk_o (rk_o (l39_2) rfl rfl) rfl rfl) (rk_o (rk_o (l39_3) rfl rfl) rfl rfl) (rk_o (rk_s) rfl rfl) (rk_s) H (SF_trans (hS_39) hS16 (any_sub rfl)) (SA_trans (hA_39) hA17 (any_subA rfl))  (wq19) (ewq20) (wq21) (ewq22) (show inr (0) by omega) (show inr ((x39_6 + 1)) by omega) (show (0) = 1 by omega) (show 0 ≤ ((x39_6 + 1)) ∧ ((x39_6 + 1)) ≤ (a2) by omega) (show ((wq21)) ((a1)) = ((w11)) ((a1)) + ((x39_6 + 1)) by omega) (show RWC ((w10)) ((w11)) ((wq19)) ((wq21)) ((a1)) (rwR ((w10)) ((w11)) ((a1)) ++ beB ((a3)) (((x39_6 + 1)))) by assumption) rfl
              · refine Ew_of (pc' := 66) (fun _ => x_iload rfl l39_5) ?_
                refine w_ifeq (t := 73) rfl rfl (show inr (x39_5) by omega) (fun b24 => ?_) (fun b24 => ?_)
                · refine Ew_of (pc' := 74) (fun _ => x_iconst rfl) ?_
                  refine Ew_of (pc' := 76) (fun _ => x_istore rfl) ?_
                  refine Ew_of (pc' := 79) (fun _ => x_iinc (len := 3) rfl (rk_o (l39_6) rfl rfl)) ?_
                  refine Ew_of (pc' := 39) (fun _ => x_goto rfl rfl) ?_
                  have : RWC ((w10)) ((w11)) ((wq19)) ((wq21)) ((a1)) (rwR ((w10)) ((w11)) ((a1)) ++ beB ((a3)) (((x39_6 + 1)))) := by first | exact RWC_e (RWC_a j39_c hap.2.1) (by rw [beB_s (n := q6) (m := ((x39_6 + 1))) (by omega) (by omega), hq6, hqs, List.append_assoc]) | (exfalso; omega)
                  exact ih39 _ (by omega) _ σ _ _ (0) ((x39_6 + 1)) (rk_o (rk_o (l39_0) rfl rfl) rfl rfl) (rk_o (rk_o (l39_1) rfl rfl) rfl rfl) (rk_o (rk_o (l39_2) rfl rfl) rfl rfl) (rk_o (rk_o (l39_3) rfl rfl) rfl rfl) (rk_o (rk_s) rfl rfl) (rk_s) H (SF_trans (hS_39) hS16 (any_sub rfl)) (SA_trans (hA_39) hA17 (any_subA rfl))  (wq19) (ewq20) (wq21) (ewq22) (show inr (0) by omega) (show inr ((x39_6 + 1)) by omega) (show (0) = 1 by omega) (show 0 ≤ ((x39_6 + 1)) ∧ ((x39_6 + 1)) ≤ (a2) by omega) (show ((wq21)) ((a1)) = ((w11)) ((a1)) + ((x39_6 + 1)) by omega) (show RWC ((w10)) ((w11)) ((wq19)) ((wq21)) ((a1)) (rwR ((w10)) ((w11)) ((a1)) ++ beB ((a3)) (((x39_6 + 1)))) by assumption) rfl
                · refine Ew_of (pc' := 70) (fun _ => x_iconst rfl) ?_
                  refine Ew_of (pc' := 74) (fun _ => x_goto rfl rfl) ?_
                  refine Ew_of (pc' := 76) (fun _ => x_istore rfl) ?_
                  refine Ew_of (pc' := 79) (fun _ => x_iinc (len := 3) rfl (rk_o (l39_6) rfl rfl)) ?_
                  refine Ew_of (pc' := 39) (fun _ => x_goto rfl rfl) ?_
                  have : RWC ((w10)) ((w11)) ((wq19)) ((wq21)) ((a1)) (rwR ((w10)) ((w11)) ((a1)) ++ beB ((a3)) (((x39_6 + 1)))) := by first | exact RWC_e (RWC_a j39_c hap.2.1) (by rw [beB_s (n := q6) (m := ((x39_6 + 1))) (by omega) (by omega), hq6, hqs, List.append_assoc]) | (exfalso; omega)
                  exact ih39 _ (by omega) _ σ _ _ (1) ((x39_6 + 1)) (rk_o (rk_o (l39_0) rfl rfl) rfl rfl) (rk_o (rk_o (l39_1) rfl rfl) rfl rfl) (rk_o (rk_o (l39_2) rfl rfl) rfl rfl) (rk_o (rk_o (l39_3) rfl rfl) rfl rfl) (rk_o (rk_s) rfl rfl) (rk_s) H (SF_trans (hS_39) hS16 (any_sub rfl)) (SA_trans (hA_39) hA17 (any_subA rfl))  (wq19) (ewq20) (wq21) (ewq22) (show inr (1) by omega) (show inr ((x39_6 + 1)) by omega) (show (1) = 1 by omega) (show 0 ≤ ((x39_6 + 1)) ∧ ((x39_6 + 1)) ≤ (a2) by omega) (show ((wq21)) ((a1)) = ((w11)) ((a1)) + ((x39_6 + 1)) by omega) (show RWC ((w10)) ((w11)) ((wq19)) ((wq21)) ((a1)) (rwR ((w10)) ((w11)) ((a1)) ++ beB ((a3)) (((x39_6 + 1)))) by assumption) rfl
        · have : CHQ ((0 ≤ (a1) ∧ (a1) ≤ 3) ∧ (1 ≤ (a2) ∧ (a2) ≤ 8) ∧ ((rwR ((w10)) ((w11)) ((a1))).length : Int) + (a2) ≤ 65536) (rwR ((w10)) ((w11)) ((a1))) (rwR ((w10)) ((w11)) ((a1)) ++ beB ((a3)) ((a2))) (0) (rwR ((w10)) ((w11)) ((a1))) := .inr ⟨fun q => by omega, rfl, rfl⟩
          have : ∀ q, 0 ≤ q → q ≤ 3 → q ≠ (a1) → rwR ((w10)) ((w11)) (q) = rwR ((w10)) ((w11)) (q) := fun _ _ _ _ => rfl
          refine Ew_of (pc' := 32) (fun _ => x_iconst rfl) ?_
          exact w_ireturn rfl (k (0) σ _ _ H (SF_trans (SF_refl) hS3 (any_sub rfl)) (SA_trans (SA_refl) hA4 (any_subA rfl)) (w10) ((funext (hA4 10 rfl)).trans (ew10)) (w11) ((funext (hA4 11 rfl)).trans (ew11)) (show (0) = 0 ∨ (0) = 1 by omega) (show CHQ ((0 ≤ a1 ∧ a1 ≤ 3) ∧ (1 ≤ a2 ∧ a2 ≤ 8) ∧ ((rwR ((w10)) ((w11)) (a1)).length : Int) + a2 ≤ 65536) (rwR ((w10)) ((w11)) (a1)) (rwR ((w10)) ((w11)) (a1) ++ beB (a3) (a2)) ((0)) (rwR ((w10)) ((w11)) (a1)) by assumption) (show ∀ q, 0 ≤ q → q ≤ 3 → q ≠ a1 → rwR ((w10)) ((w11)) (q) = rwR ((w10)) ((w11)) (q) by assumption))
