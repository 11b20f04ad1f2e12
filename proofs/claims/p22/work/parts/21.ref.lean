/-- Model.is -/
theorem M56 {σ0 σ : rS} {D N : Nat → Nat} {F : hF} {A : hA} {d c s : Nat} {Q : wQ} (H : HS σ0 σ D N F A) {a1 : Int} (h0 : inr (a1)) (k : ∀ (z : Int) σ Fₚ Aₚ, HS σ0 σ D N Fₚ Aₚ → SF [] F Fₚ → SA [] A Aₚ → ((z) = 0 ∨ (z) = 1) → ((z) = 1 → 0 ≤ (a1) ∧ (a1) ≤ 3) → Q (some (I z)) σ c s) : Ew 56 (d + 0) 0 (rargs 0 [I a1]) [] σ c s Q := by
  refine Ew_of (pcₚ := 1) (fun _ => x_iload_n rfl rfl) ?_
  refine w_iflt (t := 13) rfl rfl (show inr (a1) from h0) (fun b1 => ?_) (fun b1 => ?_)
  · refine Ew_of (pcₚ := 14) (fun _ => x_iconst rfl) ?_
    exact w_ireturn rfl (k (0) σ _ _ H (SF_refl) (SA_refl) (show (0) = 0 ∨ (0) = 1 by first | exact q_1 | omega) (show (0) = 1 → 0 ≤ a1 ∧ a1 ≤ 3 by first | exact q_0 b1 h0 | omega))
  · refine Ew_of (pcₚ := 5) (fun _ => x_iload_n rfl rfl) ?_
    refine Ew_of (pcₚ := 6) (fun _ => x_iconst rfl) ?_
    refine w_icmpge (t := 13) rfl rfl (show inr (a1) from h0) (show inr (4) from q_2) (fun b2 => ?_) (fun b2 => ?_)
    · refine Ew_of (pcₚ := 14) (fun _ => x_iconst rfl) ?_
      exact w_ireturn rfl (k (0) σ _ _ H (SF_refl) (SA_refl) (show (0) = 0 ∨ (0) = 1 by first | exact q_1 | omega) (show (0) = 1 → 0 ≤ a1 ∧ a1 ≤ 3 by first | exact q_3 b1 h0 | omega))
    · refine Ew_of (pcₚ := 10) (fun _ => x_iconst rfl) ?_
      refine Ew_of (pcₚ := 14) (fun _ => x_goto rfl rfl) ?_
      exact w_ireturn rfl (k (1) σ _ _ H (SF_refl) (SA_refl) (show (1) = 0 ∨ (1) = 1 by first | exact q_5 | omega) (show (1) = 1 → 0 ≤ a1 ∧ a1 ≤ 3 by first | exact q_4 b1 b2 | omega))
/-- Model.within -/
theorem M67 {σ0 σ : rS} {D N : Nat → Nat} {F : hF} {A : hA} {d c s : Nat} {Q : wQ} (H : HS σ0 σ D N F A) {a1 a2 a3 : Int} (h0 : inr (a1)) (h1 : inr (a2)) (h2 : inr (a3)) (k : ∀ (z : Int) σ Fₚ Aₚ, HS σ0 σ D N Fₚ Aₚ → SF [] F Fₚ → SA [] A Aₚ → ((z) = 0 ∨ (z) = 1) → ((z) = 1 → (a2) ≤ (a1) ∧ (a1) ≤ (a3)) → Q (some (I z)) σ c s) : Ew 67 (d + 0) 0 (rargs 0 [I a1, I a2, I a3]) [] σ c s Q := by
  refine Ew_of (pcₚ := 1) (fun _ => x_iload_n rfl rfl) ?_
  refine Ew_of (pcₚ := 2) (fun _ => x_iload_n rfl rfl) ?_
  refine w_icmplt (t := 14) rfl rfl (show inr (a1) from h0) (show inr (a2) from h1) (fun b1 => ?_) (fun b1 => ?_)
  · refine Ew_of (pcₚ := 15) (fun _ => x_iconst rfl) ?_
    exact w_ireturn rfl (k (0) σ _ _ H (SF_refl) (SA_refl) (show (0) = 0 ∨ (0) = 1 by first | exact q_1 | omega) (show (0) = 1 → a2 ≤ a1 ∧ a1 ≤ a3 by first | exact q_6 h0 h1 h2 | omega))
  · refine Ew_of (pcₚ := 6) (fun _ => x_iload_n rfl rfl) ?_
    refine Ew_of (pcₚ := 7) (fun _ => x_iload_n rfl rfl) ?_
    refine w_icmpgt (t := 14) rfl rfl (show inr (a1) from h0) (show inr (a3) from h2) (fun b2 => ?_) (fun b2 => ?_)
    · refine Ew_of (pcₚ := 15) (fun _ => x_iconst rfl) ?_
      exact w_ireturn rfl (k (0) σ _ _ H (SF_refl) (SA_refl) (show (0) = 0 ∨ (0) = 1 by first | exact q_1 | omega) (show (0) = 1 → a2 ≤ a1 ∧ a1 ≤ a3 by first | exact q_7 b1 h0 h2 | omega))
    · refine Ew_of (pcₚ := 11) (fun _ => x_iconst rfl) ?_
      refine Ew_of (pcₚ := 15) (fun _ => x_goto rfl rfl) ?_
      exact w_ireturn rfl (k (1) σ _ _ H (SF_refl) (SA_refl) (show (1) = 0 ∨ (1) = 1 by first | exact q_5 | omega) (show (1) = 1 → a2 ≤ a1 ∧ a1 ≤ a3 by first | exact q_8 b1 b2 | omega))
/-- Model.isPart -/
theorem M62 {σ0 σ : rS} {D N : Nat → Nat} {F : hF} {A : hA} {d c s : Nat} {Q : wQ} (H : HS σ0 σ D N F A) {a1 a2 a3 : Int} (h0 : inr (a1)) (h1 : inr (a2)) (h2 : inr (a3)) (h3 : 0 ≤ (a1) ∧ (a1) ≤ 3) (k : ∀ (z : Int) σ Fₚ Aₚ, HS σ0 σ D N Fₚ Aₚ → SF [] F Fₚ → SA [] A Aₚ → ((z) = 0 ∨ (z) = 1) → ((z) = 1 → 0 ≤ (a2) ∧ (a2) ≤ (a3) ∧ (a3) ≤ 65536) → Q (some (I z)) σ c s) : Ew 62 (d + 0) 0 (rargs 0 [.ref (D 0), I a1, I a2, I a3]) [] σ c s Q := by
  refine Ew_of (pcₚ := 1) (fun _ => x_iload_n rfl rfl) ?_
  refine w_iflt (t := 23) rfl rfl (show inr (a2) from h1) (fun b1 => ?_) (fun b1 => ?_)
  · refine Ew_of (pcₚ := 24) (fun _ => x_iconst rfl) ?_
    exact w_ireturn rfl (k (0) σ _ _ H (SF_refl) (SA_refl) (show (0) = 0 ∨ (0) = 1 by first | exact q_1 | omega) (show (0) = 1 → 0 ≤ a2 ∧ a2 ≤ a3 ∧ a3 ≤ 65536 by first | exact q_9 b1 h1 h2 | omega))
  · refine Ew_of (pcₚ := 5) (fun _ => x_iload_n rfl rfl) ?_
    refine Ew_of (pcₚ := 6) (fun _ => x_iload_n rfl rfl) ?_
    refine w_icmpgt (t := 23) rfl rfl (show inr (a2) from h1) (show inr (a3) from h2) (fun b2 => ?_) (fun b2 => ?_)
    · refine Ew_of (pcₚ := 24) (fun _ => x_iconst rfl) ?_
      exact w_ireturn rfl (k (0) σ _ _ H (SF_refl) (SA_refl) (show (0) = 0 ∨ (0) = 1 by first | exact q_1 | omega) (show (0) = 1 → 0 ≤ a2 ∧ a2 ≤ a3 ∧ a3 ≤ 65536 by first | exact q_10 b1 h1 h2 | omega))
    · refine Ew_of (pcₚ := 10) (fun _ => x_iload_n rfl rfl) ?_
      refine Ew_of (pcₚ := 11) (fun _ => x_aload_n rfl rfl) ?_
      refine w_gT H (o := 0) (t := 11) rfl (H.perm 0 rfl) rfl rfl rfl rfl rfl rfl ?_
      refine Ew_of (pcₚ := 15) (fun _ => x_iload_n rfl rfl) ?_
      refine w_lI H (o := 11) (n := 4) rfl (H.perm 11 rfl) rfl rfl (H.fix 11 rfl rfl) (show 0 ≤ a1 ∧ a1 < ((4 : Nat) : Int) from q_11 h3) (by decide) (fun v3 ev3 qv3 => ?_)
      have qv3 : (0 : Int) ≤ v3 ∧ v3 ≤ 65536 := qv3
      have ev3 : (A 11) (a1) = v3 := (congrFun (rfl : A 11 = A 11) (a1)).symm.trans ev3
      refine w_icmpgt (t := 23) rfl rfl (show inr (a3) from h2) (show inr (v3) from q_12 qv3) (fun b4 => ?_) (fun b4 => ?_)
      · refine Ew_of (pcₚ := 24) (fun _ => x_iconst rfl) ?_
        exact w_ireturn rfl (k (0) σ _ _ H (SF_refl) (SA_refl) (show (0) = 0 ∨ (0) = 1 by first | exact q_1 | omega) (show (0) = 1 → 0 ≤ a2 ∧ a2 ≤ a3 ∧ a3 ≤ 65536 by first | exact q_13 b1 b2 h2 | omega))
      · refine Ew_of (pcₚ := 20) (fun _ => x_iconst rfl) ?_
        refine Ew_of (pcₚ := 24) (fun _ => x_goto rfl rfl) ?_
        exact w_ireturn rfl (k (1) σ _ _ H (SF_refl) (SA_refl) (show (1) = 0 ∨ (1) = 1 by first | exact q_5 | omega) (show (1) = 1 → 0 ≤ a2 ∧ a2 ≤ a3 ∧ a3 ≤ 65536 by first | exact q_14 b1 b2 b4 qv3 | omega))
/-- Model.size -/
theorem M64 {σ0 σ : rS} {D N : Nat → Nat} {F : hF} {A : hA} {d c s : Nat} {Q : wQ} (H : HS σ0 σ D N F A) {a1 : Int} (h0 : inr (a1)) (k : ∀ (z : Int) σ Fₚ Aₚ, HS σ0 σ D N Fₚ Aₚ → SF [] F Fₚ → SA [] A Aₚ → (inr (z)) → Q (some (I z)) σ c s) : Ew 64 (d + 1) 0 (rargs 0 [.ref (D 0), I a1]) [] σ c s Q := by
  refine Ew_of (pcₚ := 1) (fun _ => x_iload_n rfl rfl) ?_
  refine w_stat24 rfl rfl (by rfl) (M56 H (show inr (a1) from h0) (fun z5 σ F1 A2 H hS3 hA4 pz5_0 pz5_1 => ⟨rretB rfl pz5_0, ?_⟩))
  refine w_ifeq (t := 16) rfl rfl (show inr (z5) from q_15 pz5_0) (fun b6 => ?_) (fun b6 => ?_)
  · refine Ew_of (pcₚ := 17) (fun _ => x_iconst rfl) ?_
    exact w_ireturn rfl (k ((-1)) σ _ _ H (SF_trans (SF_refl) hS3 (any_sub rfl)) (SA_trans (SA_refl) hA4 (any_subA rfl)) (show inr ((-1)) from q_16))
  · refine Ew_of (pcₚ := 8) (fun _ => x_aload_n rfl rfl) ?_
    refine w_gT H (o := 0) (t := 11) rfl (H.perm 0 rfl) rfl rfl rfl rfl rfl rfl ?_
    refine Ew_of (pcₚ := 12) (fun _ => x_iload_n rfl rfl) ?_
    refine w_lI H (o := 11) (n := 4) rfl (H.perm 11 rfl) rfl rfl (H.fix 11 rfl rfl) (show 0 ≤ a1 ∧ a1 < ((4 : Nat) : Int) from q_17 b6 pz5_0 pz5_1) (by decide) (fun v7 ev7 qv7 => ?_)
    have qv7 : (0 : Int) ≤ v7 ∧ v7 ≤ 65536 := qv7
    have ev7 : (A 11) (a1) = v7 := (congrFun (funext (hA4 11 rfl)) (a1)).symm.trans ev7
    refine Ew_of (pcₚ := 17) (fun _ => x_goto rfl rfl) ?_
    exact w_ireturn rfl (k (v7) σ _ _ H (SF_trans (SF_refl) hS3 (any_sub rfl)) (SA_trans (SA_refl) hA4 (any_subA rfl)) (show inr (v7) from q_12 qv7))
/-- Model.cut -/
theorem M61 {σ0 σ : rS} {D N : Nat → Nat} {F : hF} {A : hA} {d c s : Nat} {Q : wQ} (H : HS σ0 σ D N F A) {a1 a2 : Int} (h0 : inr (a1)) (h1 : inr (a2)) (k : ∀ (z : Int) σ Fₚ Aₚ, HS σ0 σ D N Fₚ Aₚ → SF [] F Fₚ → SA [11] A Aₚ → ((z) = 0 ∨ (z) = 1) → Q (some (I z)) σ c s) : Ew 61 (d + 1) 0 (rargs 0 [.ref (D 0), I a1, I a2]) [] σ c s Q := by
  refine Ew_of (pcₚ := 1) (fun _ => x_iload_n rfl rfl) ?_
  refine w_stat24 rfl rfl (by rfl) (M56 H (show inr (a1) from h0) (fun z5 σ F1 A2 H hS3 hA4 pz5_0 pz5_1 => ⟨rretB rfl pz5_0, ?_⟩))
  refine w_ifeq (t := 21) rfl rfl (show inr (z5) from q_15 pz5_0) (fun b6 => ?_) (fun b6 => ?_)
  · refine Ew_of (pcₚ := 22) (fun _ => x_iconst rfl) ?_
    exact w_ireturn rfl (k (0) σ _ _ H (SF_trans (SF_refl) hS3 (any_sub rfl)) (SA_trans (SA_refl) hA4 (any_subA rfl)) (show (0) = 0 ∨ (0) = 1 by first | exact q_1 | omega))
  · refine Ew_of (pcₚ := 8) (fun _ => x_iload_n rfl rfl) ?_
    refine w_iflt (t := 21) rfl rfl (show inr (a2) from h1) (fun b7 => ?_) (fun b7 => ?_)
    · refine Ew_of (pcₚ := 22) (fun _ => x_iconst rfl) ?_
      exact w_ireturn rfl (k (0) σ _ _ H (SF_trans (SF_refl) hS3 (any_sub rfl)) (SA_trans (SA_refl) hA4 (any_subA rfl)) (show (0) = 0 ∨ (0) = 1 by first | exact q_1 | omega))
    · refine Ew_of (pcₚ := 12) (fun _ => x_iload_n rfl rfl) ?_
      refine Ew_of (pcₚ := 13) (fun _ => x_aload_n rfl rfl) ?_
      refine w_gT H (o := 0) (t := 11) rfl (H.perm 0 rfl) rfl rfl rfl rfl rfl rfl ?_
      refine Ew_of (pcₚ := 17) (fun _ => x_iload_n rfl rfl) ?_
      refine w_lI H (o := 11) (n := 4) rfl (H.perm 11 rfl) rfl rfl (H.fix 11 rfl rfl) (show 0 ≤ a1 ∧ a1 < ((4 : Nat) : Int) from q_17 b6 pz5_0 pz5_1) (by decide) (fun v8 ev8 qv8 => ?_)
      have qv8 : (0 : Int) ≤ v8 ∧ v8 ≤ 65536 := qv8
      have ev8 : (A 11) (a1) = v8 := (congrFun (funext (hA4 11 rfl)) (a1)).symm.trans ev8
      refine w_icmple (t := 23) rfl rfl (show inr (a2) from h1) (show inr (v8) from q_12 qv8) (fun b9 => ?_) (fun b9 => ?_)
      · refine Ew_of (pcₚ := 24) (fun _ => x_aload_n rfl rfl) ?_
        refine w_gT H (o := 0) (t := 11) rfl (H.perm 0 rfl) rfl rfl rfl rfl rfl rfl ?_
        refine Ew_of (pcₚ := 28) (fun _ => x_iload_n rfl rfl) ?_
        refine Ew_of (pcₚ := 29) (fun _ => x_iload_n rfl rfl) ?_
        refine w_sI H (o := 11) (n := 4) rfl (H.perm 11 rfl) rfl rfl (H.fix 11 rfl rfl) (show 0 ≤ a1 ∧ a1 < ((4 : Nat) : Int) from q_17 b6 pz5_0 pz5_1) (by decide) (show (0 : Int) ≤ a2 ∧ a2 ≤ 65536 from q_18 b7 b9 qv8) (fun σ H => ?_)
        refine Ew_of (pcₚ := 31) (fun _ => x_iconst rfl) ?_
        exact w_ireturn rfl (k (1) σ _ _ H (SF_trans (SF_refl) hS3 (any_sub rfl)) (SA_upd (SA_trans (SA_refl) hA4 (any_subA rfl)) rfl) (show (1) = 0 ∨ (1) = 1 by first | exact q_5 | omega))
      · refine Ew_of (pcₚ := 22) (fun _ => x_iconst rfl) ?_
        exact w_ireturn rfl (k (0) σ _ _ H (SF_trans (SF_refl) hS3 (any_sub rfl)) (SA_trans (SA_refl) hA4 (any_subA rfl)) (show (0) = 0 ∨ (0) = 1 by first | exact q_1 | omega))
/-- Model.get -/
theorem M70 {σ0 σ : rS} {D N : Nat → Nat} {F : hF} {A : hA} {d c s : Nat} {Q : wQ} (H : HS σ0 σ D N F A) {a1 : Int} (h0 : inr (a1)) (k : ∀ (z : Int) σ Fₚ Aₚ, HS σ0 σ D N Fₚ Aₚ → SF [] F Fₚ → SA [] A Aₚ → (inr (z)) → Q (some (I z)) σ c s) : Ew 70 (d + 1) 0 (rargs 0 [.ref (D 0), I a1]) [] σ c s Q := by
  refine Ew_of (pcₚ := 1) (fun _ => x_iload_n rfl rfl) ?_
  refine Ew_of (pcₚ := 2) (fun _ => x_iconst rfl) ?_
  refine Ew_of (pcₚ := 4) (fun _ => x_bipush (z := 9) rfl (by decide)) ?_
  refine w_stat24 rfl rfl (by rfl) (M67 H (show inr (a1) from h0) (show inr (0) from q_20) (show inr (9) from q_19) (fun z5 σ F1 A2 H hS3 hA4 pz5_0 pz5_1 => ⟨rretB rfl pz5_0, ?_⟩))
  refine w_ifeq (t := 19) rfl rfl (show inr (z5) from q_15 pz5_0) (fun b6 => ?_) (fun b6 => ?_)
  · refine Ew_of (pcₚ := 20) (fun _ => x_iconst rfl) ?_
    exact w_ireturn rfl (k ((-1)) σ _ _ H (SF_trans (SF_refl) hS3 (any_sub rfl)) (SA_trans (SA_refl) hA4 (any_subA rfl)) (show inr ((-1)) from q_16))
  · refine Ew_of (pcₚ := 11) (fun _ => x_aload_n rfl rfl) ?_
    refine w_gT H (o := 0) (t := 12) rfl (H.perm 0 rfl) rfl rfl rfl rfl rfl rfl ?_
    refine Ew_of (pcₚ := 15) (fun _ => x_iload_n rfl rfl) ?_
    refine w_lI H (o := 12) (n := 10) rfl (H.perm 12 rfl) rfl rfl (H.fix 12 rfl rfl) (show 0 ≤ a1 ∧ a1 < ((10 : Nat) : Int) from q_21 b6 pz5_0 pz5_1) (by decide) (fun v7 ev7 qv7 => ?_)
    have qv7 : (-2147483648 : Int) ≤ v7 ∧ v7 ≤ 2147483647 := qv7
    have ev7 : (A 12) (a1) = v7 := (congrFun (funext (hA4 12 rfl)) (a1)).symm.trans ev7
    refine Ew_of (pcₚ := 20) (fun _ => x_goto rfl rfl) ?_
    exact w_ireturn rfl (k (v7) σ _ _ H (SF_trans (SF_refl) hS3 (any_sub rfl)) (SA_trans (SA_refl) hA4 (any_subA rfl)) (show inr (v7) from q_22 qv7))
/-- Model.strayed -/
theorem M91 {σ0 σ : rS} {D N : Nat → Nat} {F : hF} {A : hA} {d c s : Nat} {Q : wQ} (H : HS σ0 σ D N F A) {a1 : Int} (h0 : inr (a1)) (k : ∀ (z : Int) σ Fₚ Aₚ, HS σ0 σ D N Fₚ Aₚ → SF [] F Fₚ → SA [] A Aₚ → (inr (z)) → Q (some (I z)) σ c s) : Ew 91 (d + 0) 0 (rargs 0 [.ref (D 0), I a1]) [] σ c s Q := by
  refine Ew_of (pcₚ := 1) (fun _ => x_iload_n rfl rfl) ?_
  refine w_ifne (t := 11) rfl rfl (show inr (a1) from h0) (fun b1 => ?_) (fun b1 => ?_)
  · refine Ew_of (pcₚ := 12) (fun _ => x_iload_n rfl rfl) ?_
    refine Ew_of (pcₚ := 13) (fun _ => x_iconst rfl) ?_
    refine w_icmpne (t := 23) rfl rfl (show inr (a1) from h0) (show inr (1) from q_23) (fun b2 => ?_) (fun b2 => ?_)
    · refine Ew_of (pcₚ := 24) (fun _ => x_iconst rfl) ?_
      exact w_ireturn rfl (k ((-1)) σ _ _ H (SF_refl) (SA_refl) (show inr ((-1)) from q_16))
    · refine Ew_of (pcₚ := 17) (fun _ => x_aload_n rfl rfl) ?_
      have r3 : (-2147483648 : Int) ≤ F 0 11 ∧ F 0 11 ≤ 2147483647 := H.frng 0 11
      refine w_gI H (o := 0) (w := F 0 11) rfl (H.perm 0 rfl) rfl rfl rfl (fun _ => rfl) rfl ?_
      refine Ew_of (pcₚ := 24) (fun _ => x_goto rfl rfl) ?_
      exact w_ireturn rfl (k (F 0 11) σ _ _ H (SF_refl) (SA_refl) (show inr (F 0 11) from q_22 r3))
  · refine Ew_of (pcₚ := 5) (fun _ => x_aload_n rfl rfl) ?_
    have r4 : (-2147483648 : Int) ≤ F 0 10 ∧ F 0 10 ≤ 2147483647 := H.frng 0 10
    refine w_gI H (o := 0) (w := F 0 10) rfl (H.perm 0 rfl) rfl rfl rfl (fun _ => rfl) rfl ?_
    refine Ew_of (pcₚ := 24) (fun _ => x_goto rfl rfl) ?_
    exact w_ireturn rfl (k (F 0 10) σ _ _ H (SF_refl) (SA_refl) (show inr (F 0 10) from q_22 r4))
/-- Model.load -/
theorem M74 {σ0 σ : rS} {D N : Nat → Nat} {F : hF} {A : hA} {d c s : Nat} {Q : wQ} (H : HS σ0 σ D N F A) {a1 : Int} (h0 : inr (a1)) (h1 : 0 ≤ (a1) ∧ (a1) ≤ 3) (k : ∀ σ Fₚ Aₚ, HS σ0 σ D N Fₚ Aₚ → SF [(1, 1)] F Fₚ → SA [14] A Aₚ → Q none σ c s) : Ew 74 (d + 0) 0 (rargs 0 [.ref (D 0), I a1]) [] σ c s Q := by
  refine Ew_of (pcₚ := 1) (fun _ => x_iconst rfl) ?_
  refine Ew_of (pcₚ := 2) (fun _ => x_istore_n rfl) ?_
  suffices hl2 : ∀ (m : Nat), ∀ (ls : rO) (σ : rS) (F_2 : hF) (A_2 : hA) (x2_2 : Int), rlook ls 0 = some (.ref (D 0)) → rlook ls 1 = some (I (a1)) → rlook ls 2 = some (I (x2_2)) → HS σ0 σ D N F_2 A_2 → SF [] F F_2 → SA [14] A A_2 → (inr (x2_2)) → ((0) ≤ (x2_2)) → ((x2_2) ≤ (0) ∨ (x2_2) ≤ ((A 11) ((a1)))) → (((A 11) ((a1))) - (x2_2)).toNat = m → Ew 74 (d + 0) 2 ls [] σ c s Q from
    hl2 _ _ σ _ _ (0) (rk_o (rfl) rfl rfl) (rk_o (rfl) rfl rfl) (rk_s) H (SF_refl) (SA_refl)   (show inr (0) from q_20) (show (0) ≤ (0) from q_25) (show (0) ≤ (0) ∨ (0) ≤ ((A 11) ((a1))) from q_24) rfl
  as_aux_lemma =>
  intro m
  induction m using Nat.strongRecOn with
  | _ m ih2 =>
    intro ls σ F_2 A_2 x2_2 l2_0 l2_1 l2_2 H hS_2 hA_2   j2_0 j2_1 j2_2 hm2
    refine Ew_of (pcₚ := 3) (fun _ => x_iload_n rfl l2_2) ?_
    refine Ew_of (pcₚ := 4) (fun _ => x_aload_n rfl l2_0) ?_
    refine w_gT H (o := 0) (t := 11) rfl (H.perm 0 rfl) rfl rfl rfl rfl rfl rfl ?_
    refine Ew_of (pcₚ := 8) (fun _ => x_iload_n rfl l2_1) ?_
    refine w_lI H (o := 11) (n := 4) rfl (H.perm 11 rfl) rfl rfl (H.fix 11 rfl rfl) (show 0 ≤ a1 ∧ a1 < ((4 : Nat) : Int) from q_11 h1) (by decide) (fun v1 ev1 qv1 => ?_)
    have qv1 : (0 : Int) ≤ v1 ∧ v1 ≤ 65536 := qv1
    have ev1 : (A 11) (a1) = v1 := (congrFun (funext (hA_2 11 rfl)) (a1)).symm.trans ev1
    refine w_icmpge (t := 38) rfl rfl (show inr (x2_2) from j2_0) (show inr (v1) from q_12 qv1) (fun b2 => ?_) (fun b2 => ?_)
    · refine Ew_of (pcₚ := 39) (fun _ => x_aload_n rfl l2_0) ?_
      refine w_gT H (o := 0) (t := 1) rfl (H.perm 0 rfl) rfl rfl rfl rfl rfl rfl ?_
      refine Ew_of (pcₚ := 43) (fun _ => x_aload_n rfl l2_0) ?_
      refine w_gT H (o := 0) (t := 11) rfl (H.perm 0 rfl) rfl rfl rfl rfl rfl rfl ?_
      refine Ew_of (pcₚ := 47) (fun _ => x_iload_n rfl l2_1) ?_
      refine w_lI H (o := 11) (n := 4) rfl (H.perm 11 rfl) rfl rfl (H.fix 11 rfl rfl) (show 0 ≤ a1 ∧ a1 < ((4 : Nat) : Int) from q_11 h1) (by decide) (fun v3 ev3 qv3 => ?_)
      have qv3 : (0 : Int) ≤ v3 ∧ v3 ≤ 65536 := qv3
      have ev3 : (A 11) (a1) = v3 := (congrFun (funext (hA_2 11 rfl)) (a1)).symm.trans ev3
      refine w_pI H (o := 1) rfl rfl (H.perm 1 rfl) rfl rfl rfl (fun _ => rfl) rfl (show (0 : Int) ≤ v3 ∧ v3 ≤ 65536 from qv3) (fun σ H => ?_)
      exact w_ret rfl (k σ _ _ H (SF_upd (SF_trans (SF_refl) hS_2 (any_sub rfl)) rfl) (SA_trans (SA_refl) hA_2 (any_subA rfl)))
    · refine Ew_of (pcₚ := 13) (fun _ => x_aload_n rfl l2_0) ?_
      refine w_gT H (o := 0) (t := 1) rfl (H.perm 0 rfl) rfl rfl rfl rfl rfl rfl ?_
      refine w_gT H (o := 1) (t := 14) rfl (H.perm 1 rfl) rfl rfl rfl rfl rfl rfl ?_
      refine Ew_of (pcₚ := 20) (fun _ => x_iload_n rfl l2_2) ?_
      refine Ew_of (pcₚ := 21) (fun _ => x_aload_n rfl l2_0) ?_
      refine w_gT H (o := 0) (t := 10) rfl (H.perm 0 rfl) rfl rfl rfl rfl rfl rfl ?_
      refine Ew_of (pcₚ := 26) (fun _ => x_ldc (z := 65536) rfl (by decide)) ?_
      refine Ew_of (pcₚ := 27) (fun _ => x_iload_n rfl l2_1) ?_
      refine w_imul rfl ?_
      refine Ew_of (pcₚ := 29) (fun _ => x_iload_n rfl l2_2) ?_
      refine w_iadd rfl ?_
      refine w_lI H (o := 10) (n := 262144) rfl (H.perm 10 rfl) rfl rfl (H.fix 10 rfl rfl) (show 0 ≤ ((65536 * a1) + x2_2) ∧ ((65536 * a1) + x2_2) < ((262144 : Nat) : Int) from q_26 b2 h1 j2_1 qv1) (by decide) (fun v4 ev4 qv4 => ?_)
      have qv4 : (0 : Int) ≤ v4 ∧ v4 ≤ 255 := qv4
      have ev4 : (A 10) (((65536 * a1) + x2_2)) = v4 := (congrFun (funext (hA_2 10 rfl)) (((65536 * a1) + x2_2))).symm.trans ev4
      refine w_sI H (o := 14) (n := 65536) rfl (H.perm 14 rfl) rfl rfl (H.fix 14 rfl rfl) (show 0 ≤ x2_2 ∧ x2_2 < ((65536 : Nat) : Int) from q_27 b2 j2_1 qv1) (by decide) (show (0 : Int) ≤ v4 ∧ v4 ≤ 255 from qv4) (fun σ H => ?_)
      refine Ew_of (pcₚ := 35) (fun _ => x_iinc (len := 3) rfl (l2_2)) ?_
      refine Ew_of (pcₚ := 2) (fun _ => x_goto rfl rfl) ?_
      exact ih2 _ (msE hm2 q_31 (q_32 b2 ev1)) _ σ _ _ ((x2_2 + 1)) (rk_o (l2_0) rfl rfl) (rk_o (l2_1) rfl rfl) (rk_s) H (hS_2) (SA_upd (hA_2) rfl)   (show inr ((x2_2 + 1)) from q_30 b2 j2_1 qv1) (show (0) ≤ ((x2_2 + 1)) from q_29 j2_1) (show ((x2_2 + 1)) ≤ (0) ∨ ((x2_2 + 1)) ≤ ((A 11) ((a1))) from q_28 b2 ev1) rfl
/-- Model.store -/
theorem M75 {σ0 σ : rS} {D N : Nat → Nat} {F : hF} {A : hA} {d c s : Nat} {Q : wQ} (H : HS σ0 σ D N F A) {a1 : Int} (h0 : inr (a1)) (h1 : 0 ≤ (a1) ∧ (a1) ≤ 3) (k : ∀ σ Fₚ Aₚ, HS σ0 σ D N Fₚ Aₚ → SF [] F Fₚ → SA [10, 11] A Aₚ → Q none σ c s) : Ew 75 (d + 0) 0 (rargs 0 [.ref (D 0), I a1]) [] σ c s Q := by
  refine Ew_of (pcₚ := 1) (fun _ => x_iconst rfl) ?_
  refine Ew_of (pcₚ := 2) (fun _ => x_istore_n rfl) ?_
  have r1 : (0 : Int) ≤ F 1 3 ∧ F 1 3 ≤ 65536 := H.frng 1 3
  suffices hl2 : ∀ (m : Nat), ∀ (ls : rO) (σ : rS) (F_2 : hF) (A_2 : hA) (x2_2 : Int), rlook ls 0 = some (.ref (D 0)) → rlook ls 1 = some (I (a1)) → rlook ls 2 = some (I (x2_2)) → HS σ0 σ D N F_2 A_2 → SF [] F F_2 → SA [10] A A_2 → (inr (x2_2)) → ((0) ≤ (x2_2)) → ((x2_2) ≤ (0) ∨ (x2_2) ≤ ((F 1 3))) → (((F 1 3)) - (x2_2)).toNat = m → Ew 75 (d + 0) 2 ls [] σ c s Q from
    hl2 _ _ σ _ _ (0) (rk_o (rfl) rfl rfl) (rk_o (rfl) rfl rfl) (rk_s) H (SF_refl) (SA_refl)   (show inr (0) from q_20) (show (0) ≤ (0) from q_25) (show (0) ≤ (0) ∨ (0) ≤ ((F 1 3)) from q_24) rfl
  as_aux_lemma =>
  intro m
  induction m using Nat.strongRecOn with
  | _ m ih2 =>
    intro ls σ F_2 A_2 x2_2 l2_0 l2_1 l2_2 H hS_2 hA_2   j2_0 j2_1 j2_2 hm2
    refine Ew_of (pcₚ := 3) (fun _ => x_iload_n rfl l2_2) ?_
    refine Ew_of (pcₚ := 4) (fun _ => x_aload_n rfl l2_0) ?_
    refine w_gT H (o := 0) (t := 1) rfl (H.perm 0 rfl) rfl rfl rfl rfl rfl rfl ?_
    refine w_gI H (o := 1) (w := F 1 3) rfl (H.perm 1 rfl) rfl rfl rfl (fun _ => rfl) (hS_2 1 3 rfl) ?_
    refine w_icmpge (t := 39) rfl rfl (show inr (x2_2) from j2_0) (show inr (F 1 3) from q_12 r1) (fun b2 => ?_) (fun b2 => ?_)
    · refine Ew_of (pcₚ := 40) (fun _ => x_aload_n rfl l2_0) ?_
      refine w_gT H (o := 0) (t := 11) rfl (H.perm 0 rfl) rfl rfl rfl rfl rfl rfl ?_
      refine Ew_of (pcₚ := 44) (fun _ => x_iload_n rfl l2_1) ?_
      refine Ew_of (pcₚ := 45) (fun _ => x_aload_n rfl l2_0) ?_
      refine w_gT H (o := 0) (t := 1) rfl (H.perm 0 rfl) rfl rfl rfl rfl rfl rfl ?_
      refine w_gI H (o := 1) (w := F 1 3) rfl (H.perm 1 rfl) rfl rfl rfl (fun _ => rfl) (hS_2 1 3 rfl) ?_
      refine w_sI H (o := 11) (n := 4) rfl (H.perm 11 rfl) rfl rfl (H.fix 11 rfl rfl) (show 0 ≤ a1 ∧ a1 < ((4 : Nat) : Int) from q_11 h1) (by decide) (show (0 : Int) ≤ F 1 3 ∧ F 1 3 ≤ 65536 from r1) (fun σ H => ?_)
      exact w_ret rfl (k σ _ _ H (SF_trans (SF_refl) hS_2 (any_sub rfl)) (SA_upd (SA_trans (SA_refl) hA_2 (any_subA rfl)) rfl))
    · refine Ew_of (pcₚ := 14) (fun _ => x_aload_n rfl l2_0) ?_
      refine w_gT H (o := 0) (t := 10) rfl (H.perm 0 rfl) rfl rfl rfl rfl rfl rfl ?_
      refine Ew_of (pcₚ := 19) (fun _ => x_ldc (z := 65536) rfl (by decide)) ?_
      refine Ew_of (pcₚ := 20) (fun _ => x_iload_n rfl l2_1) ?_
      refine w_imul rfl ?_
      refine Ew_of (pcₚ := 22) (fun _ => x_iload_n rfl l2_2) ?_
      refine w_iadd rfl ?_
      refine Ew_of (pcₚ := 24) (fun _ => x_aload_n rfl l2_0) ?_
      refine w_gT H (o := 0) (t := 1) rfl (H.perm 0 rfl) rfl rfl rfl rfl rfl rfl ?_
      refine w_gT H (o := 1) (t := 15) rfl (H.perm 1 rfl) rfl rfl rfl rfl rfl rfl ?_
      refine Ew_of (pcₚ := 31) (fun _ => x_iload_n rfl l2_2) ?_
      refine w_lI H (o := 15) (n := 65536) rfl (H.perm 15 rfl) rfl rfl (H.fix 15 rfl rfl) (show 0 ≤ x2_2 ∧ x2_2 < ((65536 : Nat) : Int) from q_27 b2 j2_1 r1) (by decide) (fun v3 ev3 qv3 => ?_)
      have qv3 : (0 : Int) ≤ v3 ∧ v3 ≤ 255 := qv3
      have ev3 : (A 15) (x2_2) = v3 := (congrFun (funext (hA_2 15 rfl)) (x2_2)).symm.trans ev3
      refine w_sI H (o := 10) (n := 262144) rfl (H.perm 10 rfl) rfl rfl (H.fix 10 rfl rfl) (show 0 ≤ ((65536 * a1) + x2_2) ∧ ((65536 * a1) + x2_2) < ((262144 : Nat) : Int) from q_26 b2 h1 j2_1 r1) (by decide) (show (0 : Int) ≤ v3 ∧ v3 ≤ 255 from qv3) (fun σ H => ?_)
      refine Ew_of (pcₚ := 36) (fun _ => x_iinc (len := 3) rfl (l2_2)) ?_
      refine Ew_of (pcₚ := 2) (fun _ => x_goto rfl rfl) ?_
      exact ih2 _ (msE hm2 q_31 (q_34 b2)) _ σ _ _ ((x2_2 + 1)) (rk_o (l2_0) rfl rfl) (rk_o (l2_1) rfl rfl) (rk_s) H (hS_2) (SA_upd (hA_2) rfl)   (show inr ((x2_2 + 1)) from q_30 b2 j2_1 r1) (show (0) ≤ ((x2_2 + 1)) from q_29 j2_1) (show ((x2_2 + 1)) ≤ (0) ∨ ((x2_2 + 1)) ≤ ((F 1 3)) from q_33 b2) rfl
/-- Model.append -/
theorem M57 {σ0 σ : rS} {D N : Nat → Nat} {F : hF} {A : hA} {d c s : Nat} {Q : wQ} (H : HS σ0 σ D N F A) {a1 a2 : Int} (h0 : inr (a1)) (h1 : inr (a2)) (h2 : 0 ≤ (a1) ∧ (a1) ≤ 3) (k : ∀ (z : Int) σ Fₚ Aₚ, HS σ0 σ D N Fₚ Aₚ → SF [] F Fₚ → SA [10, 11] A Aₚ → ((z) = 0 ∨ (z) = 1) → Q (some (I z)) σ c s) : Ew 57 (d + 0) 0 (rargs 0 [.ref (D 0), I a1, I a2]) [] σ c s Q := by
  refine Ew_of (pcₚ := 1) (fun _ => x_aload_n rfl rfl) ?_
  refine w_gT H (o := 0) (t := 11) rfl (H.perm 0 rfl) rfl rfl rfl rfl rfl rfl ?_
  refine Ew_of (pcₚ := 5) (fun _ => x_iload_n rfl rfl) ?_
  refine w_lI H (o := 11) (n := 4) rfl (H.perm 11 rfl) rfl rfl (H.fix 11 rfl rfl) (show 0 ≤ a1 ∧ a1 < ((4 : Nat) : Int) from q_11 h2) (by decide) (fun v1 ev1 qv1 => ?_)
  have qv1 : (0 : Int) ≤ v1 ∧ v1 ≤ 65536 := qv1
  have ev1 : (A 11) (a1) = v1 := (congrFun (rfl : A 11 = A 11) (a1)).symm.trans ev1
  refine Ew_of (pcₚ := 8) (fun _ => x_ldc (z := 65536) rfl (by decide)) ?_
  refine w_icmpne (t := 13) rfl rfl (show inr (v1) from q_12 qv1) (show inr (65536) from q_35) (fun b2 => ?_) (fun b2 => ?_)
  · refine Ew_of (pcₚ := 14) (fun _ => x_aload_n rfl rfl) ?_
    refine w_gT H (o := 0) (t := 10) rfl (H.perm 0 rfl) rfl rfl rfl rfl rfl rfl ?_
    refine Ew_of (pcₚ := 19) (fun _ => x_ldc (z := 65536) rfl (by decide)) ?_
    refine Ew_of (pcₚ := 20) (fun _ => x_iload_n rfl rfl) ?_
    refine w_imul rfl ?_
    refine Ew_of (pcₚ := 22) (fun _ => x_aload_n rfl rfl) ?_
    refine w_gT H (o := 0) (t := 11) rfl (H.perm 0 rfl) rfl rfl rfl rfl rfl rfl ?_
    refine Ew_of (pcₚ := 26) (fun _ => x_iload_n rfl rfl) ?_
    refine w_lI H (o := 11) (n := 4) rfl (H.perm 11 rfl) rfl rfl (H.fix 11 rfl rfl) (show 0 ≤ a1 ∧ a1 < ((4 : Nat) : Int) from q_11 h2) (by decide) (fun v3 ev3 qv3 => ?_)
    have qv3 : (0 : Int) ≤ v3 ∧ v3 ≤ 65536 := qv3
    have ev3 : (A 11) (a1) = v3 := (congrFun (rfl : A 11 = A 11) (a1)).symm.trans ev3
    refine w_iadd rfl ?_
    refine Ew_of (pcₚ := 29) (fun _ => x_iload_n rfl rfl) ?_
    refine Ew_of (pcₚ := 32) (fun _ => x_sipush (z := 255) rfl (by decide)) ?_
    refine w_iand rfl (show inr (a2) from h1) (show inr (255) from q_36) (fun z4 gz4 gaz4 gbz4 => ?_)
    refine w_sI H (o := 10) (n := 262144) rfl (H.perm 10 rfl) rfl rfl (H.fix 10 rfl rfl) (show 0 ≤ ((65536 * a1) + v3) ∧ ((65536 * a1) + v3) < ((262144 : Nat) : Int) by omega) (by decide) (show (0 : Int) ≤ z4 ∧ z4 ≤ 255 by omega) (fun σ H => ?_)
    refine Ew_of (pcₚ := 35) (fun _ => x_aload_n rfl rfl) ?_
    refine w_gT H (o := 0) (t := 11) rfl (H.perm 0 rfl) rfl rfl rfl rfl rfl rfl ?_
    refine Ew_of (pcₚ := 39) (fun _ => x_iload_n rfl rfl) ?_
    refine Ew_of (pcₚ := 40) (fun _ => x_dup2 rfl rfl rfl) ?_
    refine w_lI H (o := 11) (n := 4) rfl (H.perm 11 rfl) rfl rfl (H.fix 11 rfl rfl) (show 0 ≤ a1 ∧ a1 < ((4 : Nat) : Int) from q_11 h2) (by decide) (fun v5 ev5 qv5 => ?_)
    have qv5 : (0 : Int) ≤ v5 ∧ v5 ≤ 65536 := qv5
    have ev5 : (A 11) (a1) = v5 := (congrFun (rfl : (updA A 10 (((65536 * a1) + v3)) (z4)) 11 = A 11) (a1)).symm.trans ev5
    refine Ew_of (pcₚ := 42) (fun _ => x_iconst rfl) ?_
    refine w_iadd rfl ?_
    refine w_sI H (o := 11) (n := 4) rfl (H.perm 11 rfl) rfl rfl (H.fix 11 rfl rfl) (show 0 ≤ a1 ∧ a1 < ((4 : Nat) : Int) from q_11 h2) (by decide) (show (0 : Int) ≤ (v5 + 1) ∧ (v5 + 1) ≤ 65536 by omega) (fun σ H => ?_)
    refine Ew_of (pcₚ := 45) (fun _ => x_iconst rfl) ?_
    exact w_ireturn rfl (k (1) σ _ _ H (SF_refl) (SA_upd (SA_upd (SA_refl) rfl) rfl) (show (1) = 0 ∨ (1) = 1 by first | exact q_5 | omega))
  · refine Ew_of (pcₚ := 12) (fun _ => x_iconst rfl) ?_
    exact w_ireturn rfl (k (0) σ _ _ H (SF_refl) (SA_refl) (show (0) = 0 ∨ (0) = 1 by first | exact q_1 | omega))
/-- Model.byteAt -/
theorem M65 {σ0 σ : rS} {D N : Nat → Nat} {F : hF} {A : hA} {d c s : Nat} {Q : wQ} (H : HS σ0 σ D N F A) {a1 a2 : Int} (h0 : inr (a1)) (h1 : inr (a2)) (k : ∀ (z : Int) σ Fₚ Aₚ, HS σ0 σ D N Fₚ Aₚ → SF [] F Fₚ → SA [] A Aₚ → (inr (z)) → Q (some (I z)) σ c s) : Ew 65 (d + 1) 0 (rargs 0 [.ref (D 0), I a1, I a2]) [] σ c s Q := by
  refine Ew_of (pcₚ := 1) (fun _ => x_iload_n rfl rfl) ?_
  refine w_stat24 rfl rfl (by rfl) (M56 H (show inr (a1) from h0) (fun z5 σ F1 A2 H hS3 hA4 pz5_0 pz5_1 => ⟨rretB rfl pz5_0, ?_⟩))
  refine w_ifeq (t := 35) rfl rfl (show inr (z5) from q_15 pz5_0) (fun b6 => ?_) (fun b6 => ?_)
  · refine Ew_of (pcₚ := 36) (fun _ => x_iconst rfl) ?_
    exact w_ireturn rfl (k ((-1)) σ _ _ H (SF_trans (SF_refl) hS3 (any_sub rfl)) (SA_trans (SA_refl) hA4 (any_subA rfl)) (show inr ((-1)) from q_16))
  · refine Ew_of (pcₚ := 8) (fun _ => x_iload_n rfl rfl) ?_
    refine w_iflt (t := 35) rfl rfl (show inr (a2) from h1) (fun b7 => ?_) (fun b7 => ?_)
    · refine Ew_of (pcₚ := 36) (fun _ => x_iconst rfl) ?_
      exact w_ireturn rfl (k ((-1)) σ _ _ H (SF_trans (SF_refl) hS3 (any_sub rfl)) (SA_trans (SA_refl) hA4 (any_subA rfl)) (show inr ((-1)) from q_16))
    · refine Ew_of (pcₚ := 12) (fun _ => x_iload_n rfl rfl) ?_
      refine Ew_of (pcₚ := 13) (fun _ => x_aload_n rfl rfl) ?_
      refine w_gT H (o := 0) (t := 11) rfl (H.perm 0 rfl) rfl rfl rfl rfl rfl rfl ?_
      refine Ew_of (pcₚ := 17) (fun _ => x_iload_n rfl rfl) ?_
      refine w_lI H (o := 11) (n := 4) rfl (H.perm 11 rfl) rfl rfl (H.fix 11 rfl rfl) (show 0 ≤ a1 ∧ a1 < ((4 : Nat) : Int) from q_17 b6 pz5_0 pz5_1) (by decide) (fun v8 ev8 qv8 => ?_)
      have qv8 : (0 : Int) ≤ v8 ∧ v8 ≤ 65536 := qv8
      have ev8 : (A 11) (a1) = v8 := (congrFun (funext (hA4 11 rfl)) (a1)).symm.trans ev8
      refine w_icmpge (t := 35) rfl rfl (show inr (a2) from h1) (show inr (v8) from q_12 qv8) (fun b9 => ?_) (fun b9 => ?_)
      · refine Ew_of (pcₚ := 36) (fun _ => x_iconst rfl) ?_
        exact w_ireturn rfl (k ((-1)) σ _ _ H (SF_trans (SF_refl) hS3 (any_sub rfl)) (SA_trans (SA_refl) hA4 (any_subA rfl)) (show inr ((-1)) from q_16))
      · refine Ew_of (pcₚ := 22) (fun _ => x_aload_n rfl rfl) ?_
        refine w_gT H (o := 0) (t := 10) rfl (H.perm 0 rfl) rfl rfl rfl rfl rfl rfl ?_
        refine Ew_of (pcₚ := 27) (fun _ => x_ldc (z := 65536) rfl (by decide)) ?_
        refine Ew_of (pcₚ := 28) (fun _ => x_iload_n rfl rfl) ?_
        refine w_imul rfl ?_
        refine Ew_of (pcₚ := 30) (fun _ => x_iload_n rfl rfl) ?_
        refine w_iadd rfl ?_
        refine w_lI H (o := 10) (n := 262144) rfl (H.perm 10 rfl) rfl rfl (H.fix 10 rfl rfl) (show 0 ≤ ((65536 * a1) + a2) ∧ ((65536 * a1) + a2) < ((262144 : Nat) : Int) from q_37 b6 b7 b9 pz5_0 pz5_1 qv8) (by decide) (fun v10 ev10 qv10 => ?_)
        have qv10 : (0 : Int) ≤ v10 ∧ v10 ≤ 255 := qv10
        have ev10 : (A 10) (((65536 * a1) + a2)) = v10 := (congrFun (funext (hA4 10 rfl)) (((65536 * a1) + a2))).symm.trans ev10
        refine Ew_of (pcₚ := 36) (fun _ => x_goto rfl rfl) ?_
        exact w_ireturn rfl (k (v10) σ _ _ H (SF_trans (SF_refl) hS3 (any_sub rfl)) (SA_trans (SA_refl) hA4 (any_subA rfl)) (show inr (v10) from q_38 qv10))
/-- Tokens.remember -/
theorem M354 {σ0 σ : rS} {D N : Nat → Nat} {F : hF} {A : hA} {d c s : Nat} {Q : wQ} (H : HS σ0 σ D N F A)  (k : ∀ σ Fₚ Aₚ, HS σ0 σ D N Fₚ Aₚ → SF [(3, 2)] F Fₚ → SA [16] A Aₚ → Q none σ c s) : Ew 354 (d + 0) 0 (rargs 0 [.ref (D 3)]) [] σ c s Q := by
  refine Ew_of (pcₚ := 1) (fun _ => x_iconst rfl) ?_
  refine Ew_of (pcₚ := 2) (fun _ => x_istore_n rfl) ?_
  have r1 : (0 : Int) ≤ F 1 1 ∧ F 1 1 ≤ 65536 := H.frng 1 1
  suffices hl2 : ∀ (m : Nat), ∀ (ls : rO) (σ : rS) (F_2 : hF) (A_2 : hA) (x2_1 : Int), rlook ls 0 = some (.ref (D 3)) → rlook ls 1 = some (I (x2_1)) → HS σ0 σ D N F_2 A_2 → SF [] F F_2 → SA [16] A A_2 → (inr (x2_1)) → ((0) ≤ (x2_1)) → ((x2_1) ≤ (0) ∨ (x2_1) ≤ ((F 1 1))) → (((F 1 1)) - (x2_1)).toNat = m → Ew 354 (d + 0) 2 ls [] σ c s Q from
    hl2 _ _ σ _ _ (0) (rk_o (rfl) rfl rfl) (rk_s) H (SF_refl) (SA_refl)   (show inr (0) from q_20) (show (0) ≤ (0) from q_25) (show (0) ≤ (0) ∨ (0) ≤ ((F 1 1)) from q_24) rfl
  as_aux_lemma =>
  intro m
  induction m using Nat.strongRecOn with
  | _ m ih2 =>
    intro ls σ F_2 A_2 x2_1 l2_0 l2_1 H hS_2 hA_2   j2_0 j2_1 j2_2 hm2
    refine Ew_of (pcₚ := 3) (fun _ => x_iload_n rfl l2_1) ?_
    refine Ew_of (pcₚ := 4) (fun _ => x_aload_n rfl l2_0) ?_
    refine w_gT H (o := 3) (t := 1) rfl (H.perm 3 rfl) rfl rfl rfl rfl rfl rfl ?_
    refine w_gI H (o := 1) (w := F 1 1) rfl (H.perm 1 rfl) rfl rfl rfl (fun _ => rfl) (hS_2 1 1 rfl) ?_
    refine w_icmpge (t := 34) rfl rfl (show inr (x2_1) from j2_0) (show inr (F 1 1) from q_12 r1) (fun b2 => ?_) (fun b2 => ?_)
    · refine Ew_of (pcₚ := 35) (fun _ => x_aload_n rfl l2_0) ?_
      refine Ew_of (pcₚ := 36) (fun _ => x_aload_n rfl l2_0) ?_
      refine w_gT H (o := 3) (t := 1) rfl (H.perm 3 rfl) rfl rfl rfl rfl rfl rfl ?_
      refine w_gI H (o := 1) (w := F 1 1) rfl (H.perm 1 rfl) rfl rfl rfl (fun _ => rfl) (hS_2 1 1 rfl) ?_
      refine w_pI H (o := 3) rfl rfl (H.perm 3 rfl) rfl rfl rfl (fun _ => rfl) rfl (show (0 : Int) ≤ F 1 1 ∧ F 1 1 ≤ 65536 from r1) (fun σ H => ?_)
      exact w_ret rfl (k σ _ _ H (SF_upd (SF_trans (SF_refl) hS_2 (any_sub rfl)) rfl) (SA_trans (SA_refl) hA_2 (any_subA rfl)))
    · refine Ew_of (pcₚ := 14) (fun _ => x_aload_n rfl l2_0) ?_
      refine w_gT H (o := 3) (t := 16) rfl (H.perm 3 rfl) rfl rfl rfl rfl rfl rfl ?_
      refine Ew_of (pcₚ := 18) (fun _ => x_iload_n rfl l2_1) ?_
      refine Ew_of (pcₚ := 19) (fun _ => x_aload_n rfl l2_0) ?_
      refine w_gT H (o := 3) (t := 1) rfl (H.perm 3 rfl) rfl rfl rfl rfl rfl rfl ?_
      refine w_gT H (o := 1) (t := 14) rfl (H.perm 1 rfl) rfl rfl rfl rfl rfl rfl ?_
      refine Ew_of (pcₚ := 26) (fun _ => x_iload_n rfl l2_1) ?_
      refine w_lI H (o := 14) (n := 65536) rfl (H.perm 14 rfl) rfl rfl (H.fix 14 rfl rfl) (show 0 ≤ x2_1 ∧ x2_1 < ((65536 : Nat) : Int) from q_27 b2 j2_1 r1) (by decide) (fun v3 ev3 qv3 => ?_)
      have qv3 : (0 : Int) ≤ v3 ∧ v3 ≤ 255 := qv3
      have ev3 : (A 14) (x2_1) = v3 := (congrFun (funext (hA_2 14 rfl)) (x2_1)).symm.trans ev3
      refine w_sI H (o := 16) (n := 65536) rfl (H.perm 16 rfl) rfl rfl (H.fix 16 rfl rfl) (show 0 ≤ x2_1 ∧ x2_1 < ((65536 : Nat) : Int) from q_27 b2 j2_1 r1) (by decide) (show (0 : Int) ≤ v3 ∧ v3 ≤ 255 from qv3) (fun σ H => ?_)
      refine Ew_of (pcₚ := 31) (fun _ => x_iinc (len := 3) rfl (l2_1)) ?_
      refine Ew_of (pcₚ := 2) (fun _ => x_goto rfl rfl) ?_
      exact ih2 _ (msE hm2 q_31 (q_34 b2)) _ σ _ _ ((x2_1 + 1)) (rk_o (l2_0) rfl rfl) (rk_s) H (hS_2) (SA_upd (hA_2) rfl)   (show inr ((x2_1 + 1)) from q_30 b2 j2_1 r1) (show (0) ≤ ((x2_1 + 1)) from q_29 j2_1) (show ((x2_1 + 1)) ≤ (0) ∨ ((x2_1 + 1)) ≤ ((F 1 1)) from q_33 b2) rfl
/-- Tokens.forget -/
theorem M355 {σ0 σ : rS} {D N : Nat → Nat} {F : hF} {A : hA} {d c s : Nat} {Q : wQ} (H : HS σ0 σ D N F A)  (k : ∀ σ Fₚ Aₚ, HS σ0 σ D N Fₚ Aₚ → SF [(3, 2)] F Fₚ → SA [] A Aₚ → Q none σ c s) : Ew 355 (d + 0) 0 (rargs 0 [.ref (D 3)]) [] σ c s Q := by
  refine Ew_of (pcₚ := 1) (fun _ => x_aload_n rfl rfl) ?_
  refine Ew_of (pcₚ := 2) (fun _ => x_iconst rfl) ?_
  refine w_pI H (o := 3) rfl rfl (H.perm 3 rfl) rfl rfl rfl (fun _ => rfl) rfl (show (0 : Int) ≤ 0 ∧ 0 ≤ 65536 from q_39) (fun σ H => ?_)
  exact w_ret rfl (k σ _ _ H (SF_upd (SF_refl) rfl) (SA_refl))
/-- Model.history -/
theorem M76 {σ0 σ : rS} {D N : Nat → Nat} {F : hF} {A : hA} {d c s : Nat} {Q : wQ} (H : HS σ0 σ D N F A) {a1 : Int} (h0 : inr (a1)) (k : ∀ (z : Int) σ Fₚ Aₚ, HS σ0 σ D N Fₚ Aₚ → SF [(1, 1), (3, 2)] F Fₚ → SA [14, 16] A Aₚ → ((z) = 0 ∨ (z) = 1) → Q (some (I z)) σ c s) : Ew 76 (d + 1) 0 (rargs 0 [.ref (D 0), I a1]) [] σ c s Q := by
  refine Ew_of (pcₚ := 1) (fun _ => x_iload_n rfl rfl) ?_
  refine w_stat24 rfl rfl (by rfl) (M56 H (show inr (a1) from h0) (fun z5 σ F1 A2 H hS3 hA4 pz5_0 pz5_1 => ⟨rretB rfl pz5_0, ?_⟩))
  refine w_ifne (t := 9) rfl rfl (show inr (z5) from q_15 pz5_0) (fun b6 => ?_) (fun b6 => ?_)
  · refine Ew_of (pcₚ := 10) (fun _ => x_aload_n rfl rfl) ?_
    refine Ew_of (pcₚ := 11) (fun _ => x_iload_n rfl rfl) ?_
    refine w_inv H (o := 0) rfl rfl rfl (H.perm 0 rfl) rfl rfl (by rfl) (M74 H (show inr (a1) from h0) (show 0 ≤ (a1) ∧ (a1) ≤ 3 from q_40 b6 pz5_0 pz5_1) (fun σ F7 A8 H hS9 hA10 => ⟨rfl, ?_⟩))
    refine Ew_of (pcₚ := 15) (fun _ => x_aload_n rfl rfl) ?_
    refine w_gT H (o := 0) (t := 3) rfl (H.perm 0 rfl) rfl rfl rfl rfl rfl rfl ?_
    refine w_inv H (o := 3) rfl rfl rfl (H.perm 3 rfl) rfl rfl (by rfl) (M354 H  (fun σ F12 A13 H hS14 hA15 => ⟨rfl, ?_⟩))
    refine Ew_of (pcₚ := 22) (fun _ => x_iconst rfl) ?_
    exact w_ireturn rfl (k (1) σ _ _ H (SF_trans (SF_trans (SF_trans (SF_refl) hS3 (any_sub rfl)) hS9 (any_sub rfl)) hS14 (any_sub rfl)) (SA_trans (SA_trans (SA_trans (SA_refl) hA4 (any_subA rfl)) hA10 (any_subA rfl)) hA15 (any_subA rfl)) (show (1) = 0 ∨ (1) = 1 by first | exact q_5 | omega))
  · refine Ew_of (pcₚ := 8) (fun _ => x_iconst rfl) ?_
    exact w_ireturn rfl (k (0) σ _ _ H (SF_trans (SF_refl) hS3 (any_sub rfl)) (SA_trans (SA_refl) hA4 (any_subA rfl)) (show (0) = 0 ∨ (0) = 1 by first | exact q_1 | omega))
/-- Tokens.begin -/
theorem M367 {σ0 σ : rS} {D N : Nat → Nat} {F : hF} {A : hA} {d c s : Nat} {Q : wQ} (H : HS σ0 σ D N F A)  (u3_2 : Int) (eu3_2 : F 3 2 = u3_2) (h0 : (u3_2) ≤ 16384) (k : ∀ σ Fₚ Aₚ, HS σ0 σ D N Fₚ Aₚ → SF [(3, 5)] F Fₚ → SA [18] A Aₚ → ∀ y3_5 : Int, Fₚ 3 5 = y3_5 → ((y3_5) = (u3_2)) → Q none σ c s) : Ew 367 (d + 0) 0 (rargs 0 [.ref (D 3)]) [] σ c s Q := by
  have r1 : (0 : Int) ≤ u3_2 ∧ u3_2 ≤ 65536 := rngE (show (0 : Int) ≤ F 3 2 ∧ F 3 2 ≤ 65536 from H.frng 3 2) (show F 3 2 = u3_2 from (eu3_2))
  refine Ew_of (pcₚ := 1) (fun _ => x_iconst rfl) ?_
  refine Ew_of (pcₚ := 2) (fun _ => x_istore_n rfl) ?_
  suffices hl2 : ∀ (m : Nat), ∀ (ls : rO) (σ : rS) (F_2 : hF) (A_2 : hA) (x2_1 : Int), rlook ls 0 = some (.ref (D 3)) → rlook ls 1 = some (I (x2_1)) → HS σ0 σ D N F_2 A_2 → SF [] F F_2 → SA [18] A A_2 → (inr (x2_1)) → ((0) ≤ (x2_1)) → ((x2_1) ≤ (0) ∨ (x2_1) ≤ ((u3_2))) → (((u3_2)) - (x2_1)).toNat = m → Ew 367 (d + 0) 2 ls [] σ c s Q from
    hl2 _ _ σ _ _ (0) (rk_o (rfl) rfl rfl) (rk_s) H (SF_refl) (SA_refl)   (show inr (0) from q_20) (show (0) ≤ (0) from q_25) (show (0) ≤ (0) ∨ (0) ≤ ((u3_2)) from q_24) rfl
  as_aux_lemma =>
  intro m
  induction m using Nat.strongRecOn with
  | _ m ih2 =>
    intro ls σ F_2 A_2 x2_1 l2_0 l2_1 H hS_2 hA_2   j2_0 j2_1 j2_2 hm2
    refine Ew_of (pcₚ := 3) (fun _ => x_iload_n rfl l2_1) ?_
    refine Ew_of (pcₚ := 4) (fun _ => x_aload_n rfl l2_0) ?_
    refine w_gI H (o := 3) (w := u3_2) rfl (H.perm 3 rfl) rfl rfl rfl (fun _ => rfl) ((hS_2 3 2 rfl).trans (eu3_2)) ?_
    refine w_icmpge (t := 28) rfl rfl (show inr (x2_1) from j2_0) (show inr (u3_2) from q_12 r1) (fun b2 => ?_) (fun b2 => ?_)
    · refine Ew_of (pcₚ := 29) (fun _ => x_aload_n rfl l2_0) ?_
      refine Ew_of (pcₚ := 30) (fun _ => x_aload_n rfl l2_0) ?_
      refine w_gI H (o := 3) (w := u3_2) rfl (H.perm 3 rfl) rfl rfl rfl (fun _ => rfl) ((hS_2 3 2 rfl).trans (eu3_2)) ?_
      refine w_pI H (o := 3) rfl rfl (H.perm 3 rfl) rfl rfl rfl (fun _ => rfl) rfl (show (-2147483648 : Int) ≤ u3_2 ∧ u3_2 ≤ 2147483647 from q_41 r1) (fun σ H => ?_)
      exact w_ret rfl (k σ _ _ H (SF_upd (SF_trans (SF_refl) hS_2 (any_sub rfl)) rfl) (SA_trans (SA_refl) hA_2 (any_subA rfl)) (u3_2) (rfl) (show (u3_2) = (u3_2) from q_42))
    · refine Ew_of (pcₚ := 11) (fun _ => x_aload_n rfl l2_0) ?_
      refine w_gT H (o := 3) (t := 18) rfl (H.perm 3 rfl) rfl rfl rfl rfl rfl rfl ?_
      refine Ew_of (pcₚ := 15) (fun _ => x_iload_n rfl l2_1) ?_
      refine Ew_of (pcₚ := 16) (fun _ => x_aload_n rfl l2_0) ?_
      refine w_gT H (o := 3) (t := 16) rfl (H.perm 3 rfl) rfl rfl rfl rfl rfl rfl ?_
      refine Ew_of (pcₚ := 20) (fun _ => x_iload_n rfl l2_1) ?_
      refine w_lI H (o := 16) (n := 65536) rfl (H.perm 16 rfl) rfl rfl (H.fix 16 rfl rfl) (show 0 ≤ x2_1 ∧ x2_1 < ((65536 : Nat) : Int) from q_27 b2 j2_1 r1) (by decide) (fun v3 ev3 qv3 => ?_)
      have qv3 : (0 : Int) ≤ v3 ∧ v3 ≤ 255 := qv3
      have ev3 : (A 16) (x2_1) = v3 := (congrFun (funext (hA_2 16 rfl)) (x2_1)).symm.trans ev3
      refine w_sI H (o := 18) (n := 16384) rfl (H.perm 18 rfl) rfl rfl (H.fix 18 rfl rfl) (show 0 ≤ x2_1 ∧ x2_1 < ((16384 : Nat) : Int) from q_43 b2 h0 j2_1) (by decide) (show (0 : Int) ≤ v3 ∧ v3 ≤ 255 from qv3) (fun σ H => ?_)
      refine Ew_of (pcₚ := 25) (fun _ => x_iinc (len := 3) rfl (l2_1)) ?_
      refine Ew_of (pcₚ := 2) (fun _ => x_goto rfl rfl) ?_
      exact ih2 _ (msE hm2 q_31 (q_34 b2)) _ σ _ _ ((x2_1 + 1)) (rk_o (l2_0) rfl rfl) (rk_s) H (hS_2) (SA_upd (hA_2) rfl)   (show inr ((x2_1 + 1)) from q_30 b2 j2_1 r1) (show (0) ≤ ((x2_1 + 1)) from q_29 j2_1) (show ((x2_1 + 1)) ≤ (0) ∨ ((x2_1 + 1)) ≤ ((u3_2)) from q_33 b2) rfl
/-- Tokens.beginBack -/
theorem M373 {σ0 σ : rS} {D N : Nat → Nat} {F : hF} {A : hA} {d c s : Nat} {Q : wQ} (H : HS σ0 σ D N F A)  (u3_2 : Int) (eu3_2 : F 3 2 = u3_2) (k : ∀ σ Fₚ Aₚ, HS σ0 σ D N Fₚ Aₚ → SF [(3, 12)] F Fₚ → SA [21] A Aₚ → ∀ y3_12 : Int, Fₚ 3 12 = y3_12 → ((y3_12) = (u3_2)) → Q none σ c s) : Ew 373 (d + 0) 0 (rargs 0 [.ref (D 3)]) [] σ c s Q := by
  have r1 : (0 : Int) ≤ u3_2 ∧ u3_2 ≤ 65536 := rngE (show (0 : Int) ≤ F 3 2 ∧ F 3 2 ≤ 65536 from H.frng 3 2) (show F 3 2 = u3_2 from (eu3_2))
  refine Ew_of (pcₚ := 1) (fun _ => x_iconst rfl) ?_
  refine Ew_of (pcₚ := 2) (fun _ => x_istore_n rfl) ?_
  suffices hl2 : ∀ (m : Nat), ∀ (ls : rO) (σ : rS) (F_2 : hF) (A_2 : hA) (x2_1 : Int), rlook ls 0 = some (.ref (D 3)) → rlook ls 1 = some (I (x2_1)) → HS σ0 σ D N F_2 A_2 → SF [] F F_2 → SA [21] A A_2 → (inr (x2_1)) → ((0) ≤ (x2_1)) → ((x2_1) ≤ (0) ∨ (x2_1) ≤ ((u3_2))) → (((u3_2)) - (x2_1)).toNat = m → Ew 373 (d + 0) 2 ls [] σ c s Q from
    hl2 _ _ σ _ _ (0) (rk_o (rfl) rfl rfl) (rk_s) H (SF_refl) (SA_refl)   (show inr (0) from q_20) (show (0) ≤ (0) from q_25) (show (0) ≤ (0) ∨ (0) ≤ ((u3_2)) from q_24) rfl
  as_aux_lemma =>
  intro m
  induction m using Nat.strongRecOn with
  | _ m ih2 =>
    intro ls σ F_2 A_2 x2_1 l2_0 l2_1 H hS_2 hA_2   j2_0 j2_1 j2_2 hm2
    refine Ew_of (pcₚ := 3) (fun _ => x_iload_n rfl l2_1) ?_
    refine Ew_of (pcₚ := 4) (fun _ => x_aload_n rfl l2_0) ?_
    refine w_gI H (o := 3) (w := u3_2) rfl (H.perm 3 rfl) rfl rfl rfl (fun _ => rfl) ((hS_2 3 2 rfl).trans (eu3_2)) ?_
    refine w_icmpge (t := 28) rfl rfl (show inr (x2_1) from j2_0) (show inr (u3_2) from q_12 r1) (fun b2 => ?_) (fun b2 => ?_)
    · refine Ew_of (pcₚ := 29) (fun _ => x_aload_n rfl l2_0) ?_
      refine Ew_of (pcₚ := 30) (fun _ => x_aload_n rfl l2_0) ?_
      refine w_gI H (o := 3) (w := u3_2) rfl (H.perm 3 rfl) rfl rfl rfl (fun _ => rfl) ((hS_2 3 2 rfl).trans (eu3_2)) ?_
      refine w_pI H (o := 3) rfl rfl (H.perm 3 rfl) rfl rfl rfl (fun _ => rfl) rfl (show (-2147483648 : Int) ≤ u3_2 ∧ u3_2 ≤ 2147483647 from q_41 r1) (fun σ H => ?_)
      exact w_ret rfl (k σ _ _ H (SF_upd (SF_trans (SF_refl) hS_2 (any_sub rfl)) rfl) (SA_trans (SA_refl) hA_2 (any_subA rfl)) (u3_2) (rfl) (show (u3_2) = (u3_2) from q_42))
    · refine Ew_of (pcₚ := 11) (fun _ => x_aload_n rfl l2_0) ?_
      refine w_gT H (o := 3) (t := 21) rfl (H.perm 3 rfl) rfl rfl rfl rfl rfl rfl ?_
      refine Ew_of (pcₚ := 15) (fun _ => x_iload_n rfl l2_1) ?_
      refine Ew_of (pcₚ := 16) (fun _ => x_aload_n rfl l2_0) ?_
      refine w_gT H (o := 3) (t := 16) rfl (H.perm 3 rfl) rfl rfl rfl rfl rfl rfl ?_
      refine Ew_of (pcₚ := 20) (fun _ => x_iload_n rfl l2_1) ?_
      refine w_lI H (o := 16) (n := 65536) rfl (H.perm 16 rfl) rfl rfl (H.fix 16 rfl rfl) (show 0 ≤ x2_1 ∧ x2_1 < ((65536 : Nat) : Int) from q_27 b2 j2_1 r1) (by decide) (fun v3 ev3 qv3 => ?_)
      have qv3 : (0 : Int) ≤ v3 ∧ v3 ≤ 255 := qv3
      have ev3 : (A 16) (x2_1) = v3 := (congrFun (funext (hA_2 16 rfl)) (x2_1)).symm.trans ev3
      refine w_sI H (o := 21) (n := 131072) rfl (H.perm 21 rfl) rfl rfl (H.fix 21 rfl rfl) (show 0 ≤ x2_1 ∧ x2_1 < ((131072 : Nat) : Int) from q_44 b2 j2_1 r1) (by decide) (show (0 : Int) ≤ v3 ∧ v3 ≤ 255 from qv3) (fun σ H => ?_)
      refine Ew_of (pcₚ := 25) (fun _ => x_iinc (len := 3) rfl (l2_1)) ?_
      refine Ew_of (pcₚ := 2) (fun _ => x_goto rfl rfl) ?_
      exact ih2 _ (msE hm2 q_31 (q_34 b2)) _ σ _ _ ((x2_1 + 1)) (rk_o (l2_0) rfl rfl) (rk_s) H (hS_2) (SA_upd (hA_2) rfl)   (show inr ((x2_1 + 1)) from q_30 b2 j2_1 r1) (show (0) ≤ ((x2_1 + 1)) from q_29 j2_1) (show ((x2_1 + 1)) ≤ (0) ∨ ((x2_1 + 1)) ≤ ((u3_2)) from q_33 b2) rfl
/-- Tokens.say -/
theorem M363 {σ0 σ : rS} {D N : Nat → Nat} {F : hF} {A : hA} {d c s : Nat} {Q : wQ} (H : HS σ0 σ D N F A) {a1 : Int} (u3_10 : Int) (eu3_10 : F 3 10 = u3_10) (h0 : inr (a1)) (h1 : 0 ≤ (a1) ∧ (a1) ≤ 255) (h2 : 0 ≤ (u3_10) ∧ (u3_10) ≤ 100000000) (k : ∀ σ Fₚ Aₚ, HS σ0 σ D N Fₚ Aₚ → SF [(3, 10)] F Fₚ → SA [20] A Aₚ → ∀ y3_10 : Int, Fₚ 3 10 = y3_10 → ((y3_10) = (u3_10) + 1) → Q none σ c s) : Ew 363 (d + 0) 0 (rargs 0 [.ref (D 3), I a1]) [] σ c s Q := by
  have r1 : (-2147483648 : Int) ≤ u3_10 ∧ u3_10 ≤ 2147483647 := rngE (show (-2147483648 : Int) ≤ F 3 10 ∧ F 3 10 ≤ 2147483647 from H.frng 3 10) (show F 3 10 = u3_10 from (eu3_10))
  refine Ew_of (pcₚ := 1) (fun _ => x_aload_n rfl rfl) ?_
  refine w_gI H (o := 3) (w := u3_10) rfl (H.perm 3 rfl) rfl rfl rfl (fun _ => rfl) (eu3_10) ?_
  refine Ew_of (pcₚ := 6) (fun _ => x_ldc (z := 70000) rfl (by decide)) ?_
  refine w_icmpge (t := 19) rfl rfl (show inr (u3_10) from q_46 h2 r1) (show inr (70000) from q_45) (fun b2 => ?_) (fun b2 => ?_)
  · refine Ew_of (pcₚ := 20) (fun _ => x_aload_n rfl rfl) ?_
    refine Ew_of (pcₚ := 21) (fun _ => x_dup rfl rfl) ?_
    refine w_gI H (o := 3) (w := u3_10) rfl (H.perm 3 rfl) rfl rfl rfl (fun _ => rfl) (eu3_10) ?_
    refine Ew_of (pcₚ := 25) (fun _ => x_iconst rfl) ?_
    refine w_iadd rfl ?_
    refine w_pI H (o := 3) rfl rfl (H.perm 3 rfl) rfl rfl rfl (fun _ => rfl) rfl (show (-2147483648 : Int) ≤ (u3_10 + 1) ∧ (u3_10 + 1) ≤ 2147483647 by omega) (fun σ H => ?_)
    exact w_ret rfl (k σ _ _ H (SF_upd (SF_refl) rfl) (SA_refl) ((u3_10 + 1)) (rfl) (show ((u3_10 + 1)) = (u3_10) + 1 from q_47))
  · refine Ew_of (pcₚ := 10) (fun _ => x_aload_n rfl rfl) ?_
    refine w_gT H (o := 3) (t := 20) rfl (H.perm 3 rfl) rfl rfl rfl rfl rfl rfl ?_
    refine Ew_of (pcₚ := 14) (fun _ => x_aload_n rfl rfl) ?_
    refine w_gI H (o := 3) (w := u3_10) rfl (H.perm 3 rfl) rfl rfl rfl (fun _ => rfl) (eu3_10) ?_
    refine Ew_of (pcₚ := 18) (fun _ => x_iload_n rfl rfl) ?_
    refine w_sI H (o := 20) (n := 70000) rfl (H.perm 20 rfl) rfl rfl (H.fix 20 rfl rfl) (show 0 ≤ u3_10 ∧ u3_10 < ((70000 : Nat) : Int) from q_48 b2 h2) (by decide) (show (0 : Int) ≤ a1 ∧ a1 ≤ 255 from h1) (fun σ H => ?_)
    refine Ew_of (pcₚ := 20) (fun _ => x_aload_n rfl rfl) ?_
    refine Ew_of (pcₚ := 21) (fun _ => x_dup rfl rfl) ?_
    refine w_gI H (o := 3) (w := u3_10) rfl (H.perm 3 rfl) rfl rfl rfl (fun _ => rfl) (eu3_10) ?_
    refine Ew_of (pcₚ := 25) (fun _ => x_iconst rfl) ?_
    refine w_iadd rfl ?_
    refine w_pI H (o := 3) rfl rfl (H.perm 3 rfl) rfl rfl rfl (fun _ => rfl) rfl (show (-2147483648 : Int) ≤ (u3_10 + 1) ∧ (u3_10 + 1) ≤ 2147483647 from q_49 b2 h2) (fun σ H => ?_)
    exact w_ret rfl (k σ _ _ H (SF_upd (SF_refl) rfl) (SA_upd (SA_refl) rfl) ((u3_10 + 1)) (rfl) (show ((u3_10 + 1)) = (u3_10) + 1 from q_47))
/-- Tokens.turned -/
theorem M356 {σ0 σ : rS} {D N : Nat → Nat} {F : hF} {A : hA} {d c s : Nat} {Q : wQ} (H : HS σ0 σ D N F A) {a1 a2 : Int} (h0 : inrJ (a1)) (h1 : inr (a2)) (k : ∀ (z : Int) σ Fₚ Aₚ, HS σ0 σ D N Fₚ Aₚ → SF [] F Fₚ → SA [] A Aₚ → (inrJ (z)) → Q (some (J z)) σ c s) : Ew 356 (d + 0) 0 (rargs 0 [J a1, I a2]) [] σ c s Q := by
  refine Ew_of (pcₚ := 1) (fun _ => x_lload_n rfl rfl) ?_
  refine Ew_of (pcₚ := 2) (fun _ => x_iload_n rfl rfl) ?_
  refine w_lshlA rfl (fun z1 gz1 => ?_)
  refine Ew_of (pcₚ := 4) (fun _ => x_lload_n rfl rfl) ?_
  refine Ew_of (pcₚ := 6) (fun _ => x_bipush (z := 32) rfl (by decide)) ?_
  refine Ew_of (pcₚ := 7) (fun _ => x_iload_n rfl rfl) ?_
  refine w_isubA rfl (fun z2 gz2 => ?_)
  refine w_lshrA rfl (fun z3 gz3 => ?_)
  refine w_lorA rfl (fun z4 gz4 => ?_)
  refine Ew_of (pcₚ := 13) (fun _ => x_ldc2 (z := 4294967295) rfl (by decide)) ?_
  refine w_land rfl (show inrJ (z4) from gz4) (show inrJ (4294967295) from q_50) (fun z5 gz5 gaz5 gbz5 => ?_)
  exact w_lreturn rfl (k (z5) σ _ _ H (SF_refl) (SA_refl) (show inrJ (z5) from gz5))
/-- Tokens.times -/
theorem M357 {σ0 σ : rS} {D N : Nat → Nat} {F : hF} {A : hA} {d c s : Nat} {Q : wQ} (H : HS σ0 σ D N F A) {a1 a2 : Int} (h0 : inrJ (a1)) (h1 : inrJ (a2)) (k : ∀ (z : Int) σ Fₚ Aₚ, HS σ0 σ D N Fₚ Aₚ → SF [] F Fₚ → SA [] A Aₚ → (inrJ (z)) → Q (some (J z)) σ c s) : Ew 357 (d + 0) 0 (rargs 0 [J a1, J a2]) [] σ c s Q := by
  refine Ew_of (pcₚ := 1) (fun _ => x_lload_n rfl rfl) ?_
  refine Ew_of (pcₚ := 2) (fun _ => x_lload_n rfl rfl) ?_
  refine w_lmulA rfl (fun z1 gz1 => ?_)
  refine Ew_of (pcₚ := 6) (fun _ => x_ldc2 (z := 4294967295) rfl (by decide)) ?_
  refine w_land rfl (show inrJ (z1) from gz1) (show inrJ (4294967295) from q_50) (fun z2 gz2 gaz2 gbz2 => ?_)
  exact w_lreturn rfl (k (z2) σ _ _ H (SF_refl) (SA_refl) (show inrJ (z2) from gz2))
/-- Tokens.areFlags -/
theorem M375 {σ0 σ : rS} {D N : Nat → Nat} {F : hF} {A : hA} {d c s : Nat} {Q : wQ} (H : HS σ0 σ D N F A) {a1 : Int} (h0 : inr (a1)) (k : ∀ (z : Int) σ Fₚ Aₚ, HS σ0 σ D N Fₚ Aₚ → SF [] F Fₚ → SA [] A Aₚ → ((z) = 0 ∨ (z) = 1) → ((z) = 1 → 64 ≤ (a1) ∧ (a1) < 128) → Q (some (I z)) σ c s) : Ew 375 (d + 0) 0 (rargs 0 [I a1]) [] σ c s Q := by
  refine Ew_of (pcₚ := 1) (fun _ => x_iload_n rfl rfl) ?_
  refine Ew_of (pcₚ := 3) (fun _ => x_bipush (z := 64) rfl (by decide)) ?_
  refine w_icmplt (t := 23) rfl rfl (show inr (a1) from h0) (show inr (64) from q_51) (fun b1 => ?_) (fun b1 => ?_)
  · refine Ew_of (pcₚ := 24) (fun _ => x_iconst rfl) ?_
    exact w_ireturn rfl (k (0) σ _ _ H (SF_refl) (SA_refl) (show (0) = 0 ∨ (0) = 1 by first | exact q_1 | omega) (show (0) = 1 → 64 ≤ a1 ∧ a1 < 128 by first | exact q_52 b1 h0 | omega))
  · refine Ew_of (pcₚ := 7) (fun _ => x_iload_n rfl rfl) ?_
    refine Ew_of (pcₚ := 10) (fun _ => x_sipush (z := 128) rfl (by decide)) ?_
    refine w_icmpge (t := 23) rfl rfl (show inr (a1) from h0) (show inr (128) from q_53) (fun b2 => ?_) (fun b2 => ?_)
    · refine Ew_of (pcₚ := 24) (fun _ => x_iconst rfl) ?_
      exact w_ireturn rfl (k (0) σ _ _ H (SF_refl) (SA_refl) (show (0) = 0 ∨ (0) = 1 by first | exact q_1 | omega) (show (0) = 1 → 64 ≤ a1 ∧ a1 < 128 by first | exact q_54 b1 h0 | omega))
    · refine Ew_of (pcₚ := 14) (fun _ => x_iload_n rfl rfl) ?_
      refine Ew_of (pcₚ := 15) (fun _ => x_iconst rfl) ?_
      refine w_iand rfl (show inr (a1) from h0) (show inr (2) from q_55) (fun z3 gz3 gaz3 gbz3 => ?_)
      refine w_ifne (t := 23) rfl rfl (show inr (z3) from gz3) (fun b4 => ?_) (fun b4 => ?_)
      · refine Ew_of (pcₚ := 24) (fun _ => x_iconst rfl) ?_
        exact w_ireturn rfl (k (0) σ _ _ H (SF_refl) (SA_refl) (show (0) = 0 ∨ (0) = 1 by first | exact q_1 | omega) (show (0) = 1 → 64 ≤ a1 ∧ a1 < 128 by first | exact q_56 b1 b2 | omega))
      · refine Ew_of (pcₚ := 20) (fun _ => x_iconst rfl) ?_
        refine Ew_of (pcₚ := 24) (fun _ => x_goto rfl rfl) ?_
        exact w_ireturn rfl (k (1) σ _ _ H (SF_refl) (SA_refl) (show (1) = 0 ∨ (1) = 1 by first | exact q_5 | omega) (show (1) = 1 → 64 ≤ a1 ∧ a1 < 128 by first | exact q_57 b1 b2 | omega))
/-- Tokens.has -/
theorem M379 {σ0 σ : rS} {D N : Nat → Nat} {F : hF} {A : hA} {d c s : Nat} {Q : wQ} (H : HS σ0 σ D N F A) {a1 : Int} (u1_1 : Int) (eu1_1 : F 1 1 = u1_1) (u3_15 : Int) (eu3_15 : F 3 15 = u3_15) (h0 : inr (a1)) (h1 : 0 ≤ (a1) ∧ (a1) ≤ 65536) (h2 : 0 ≤ (u3_15) ∧ (u3_15) ≤ 70000) (k : ∀ (z : Int) σ Fₚ Aₚ, HS σ0 σ D N Fₚ Aₚ → SF [] F Fₚ → SA [] A Aₚ → ((z) = 0 ∨ (z) = 1) → ((z) = 1 → (u3_15) + (a1) ≤ (u1_1)) → Q (some (I z)) σ c s) : Ew 379 (d + 0) 0 (rargs 0 [.ref (D 3), I a1]) [] σ c s Q := by
  have r1 : (0 : Int) ≤ u1_1 ∧ u1_1 ≤ 65536 := rngE (show (0 : Int) ≤ F 1 1 ∧ F 1 1 ≤ 65536 from H.frng 1 1) (show F 1 1 = u1_1 from (eu1_1))
  have r2 : (-2147483648 : Int) ≤ u3_15 ∧ u3_15 ≤ 2147483647 := rngE (show (-2147483648 : Int) ≤ F 3 15 ∧ F 3 15 ≤ 2147483647 from H.frng 3 15) (show F 3 15 = u3_15 from (eu3_15))
  refine Ew_of (pcₚ := 1) (fun _ => x_aload_n rfl rfl) ?_
  refine w_gI H (o := 3) (w := u3_15) rfl (H.perm 3 rfl) rfl rfl rfl (fun _ => rfl) (eu3_15) ?_
  refine Ew_of (pcₚ := 5) (fun _ => x_iload_n rfl rfl) ?_
  refine w_iadd rfl ?_
  refine Ew_of (pcₚ := 7) (fun _ => x_aload_n rfl rfl) ?_
  refine w_gT H (o := 3) (t := 1) rfl (H.perm 3 rfl) rfl rfl rfl rfl rfl rfl ?_
  refine w_gI H (o := 1) (w := u1_1) rfl (H.perm 1 rfl) rfl rfl rfl (fun _ => rfl) (eu1_1) ?_
  refine w_icmpgt (t := 20) rfl rfl (show inr ((u3_15 + a1)) from q_58 h1 h2) (show inr (u1_1) from q_12 r1) (fun b3 => ?_) (fun b3 => ?_)
  · refine Ew_of (pcₚ := 21) (fun _ => x_iconst rfl) ?_
    exact w_ireturn rfl (k (0) σ _ _ H (SF_refl) (SA_refl) (show (0) = 0 ∨ (0) = 1 by first | exact q_1 | omega) (show (0) = 1 → (u3_15) + a1 ≤ (u1_1) by first | exact q_59 h1 h2 r1 | omega))
  · refine Ew_of (pcₚ := 17) (fun _ => x_iconst rfl) ?_
    refine Ew_of (pcₚ := 21) (fun _ => x_goto rfl rfl) ?_
    exact w_ireturn rfl (k (1) σ _ _ H (SF_refl) (SA_refl) (show (1) = 0 ∨ (1) = 1 by first | exact q_5 | omega) (show (1) = 1 → (u3_15) + a1 ≤ (u1_1) by first | exact q_60 b3 | omega))
/-- Tokens.fault -/
theorem M381 {σ0 σ : rS} {D N : Nat → Nat} {F : hF} {A : hA} {d c s : Nat} {Q : wQ} (H : HS σ0 σ D N F A) {a1 a2 : Int} (h0 : inr (a1)) (h1 : inr (a2)) (k : ∀ (z : Int) σ Fₚ Aₚ, HS σ0 σ D N Fₚ Aₚ → SF [(1, 4)] F Fₚ → SA [] A Aₚ → (inr (z)) → ((z) = (a1)) → Q (some (I z)) σ c s) : Ew 381 (d + 0) 0 (rargs 0 [.ref (D 3), I a1, I a2]) [] σ c s Q := by
  refine Ew_of (pcₚ := 1) (fun _ => x_aload_n rfl rfl) ?_
  refine w_gT H (o := 3) (t := 1) rfl (H.perm 3 rfl) rfl rfl rfl rfl rfl rfl ?_
  refine Ew_of (pcₚ := 5) (fun _ => x_iload_n rfl rfl) ?_
  refine w_pI H (o := 1) rfl rfl (H.perm 1 rfl) rfl rfl rfl (fun _ => rfl) rfl (show (-2147483648 : Int) ≤ a2 ∧ a2 ≤ 2147483647 from q_61 h1) (fun σ H => ?_)
  refine Ew_of (pcₚ := 9) (fun _ => x_iload_n rfl rfl) ?_
  exact w_ireturn rfl (k (a1) σ _ _ H (SF_upd (SF_refl) rfl) (SA_refl) (show inr (a1) from h0) (show (a1) = a1 from q_42))
/-- Sums.rotated -/
theorem M307 {σ0 σ : rS} {D N : Nat → Nat} {F : hF} {A : hA} {d c s : Nat} {Q : wQ} (H : HS σ0 σ D N F A) {a1 a2 : Int} (h0 : inr (a1)) (h1 : inr (a2)) (k : ∀ (z : Int) σ Fₚ Aₚ, HS σ0 σ D N Fₚ Aₚ → SF [] F Fₚ → SA [] A Aₚ → (inr (z)) → Q (some (I z)) σ c s) : Ew 307 (d + 0) 0 (rargs 0 [I a1, I a2]) [] σ c s Q := by
  refine Ew_of (pcₚ := 1) (fun _ => x_iload_n rfl rfl) ?_
  refine Ew_of (pcₚ := 2) (fun _ => x_iload_n rfl rfl) ?_
  refine w_ishlA rfl (fun z1 gz1 => ?_)
  refine Ew_of (pcₚ := 4) (fun _ => x_iload_n rfl rfl) ?_
  refine Ew_of (pcₚ := 6) (fun _ => x_bipush (z := 32) rfl (by decide)) ?_
  refine Ew_of (pcₚ := 7) (fun _ => x_iload_n rfl rfl) ?_
  refine w_isubA rfl (fun z2 gz2 => ?_)
  refine w_iushrA rfl (fun z3 gz3 => ?_)
  refine w_ior rfl (fun z4 gz4 => ?_)
  exact w_ireturn rfl (k (z4) σ _ _ H (SF_refl) (SA_refl) (show inr (z4) from gz4))
/-- Sums.turned -/
theorem M310 {σ0 σ : rS} {D N : Nat → Nat} {F : hF} {A : hA} {d c s : Nat} {Q : wQ} (H : HS σ0 σ D N F A) {a1 a2 : Int} (h0 : inrJ (a1)) (h1 : inr (a2)) (k : ∀ (z : Int) σ Fₚ Aₚ, HS σ0 σ D N Fₚ Aₚ → SF [] F Fₚ → SA [] A Aₚ → (inrJ (z)) → Q (some (J z)) σ c s) : Ew 310 (d + 0) 0 (rargs 0 [J a1, I a2]) [] σ c s Q := by
  refine Ew_of (pcₚ := 1) (fun _ => x_lload_n rfl rfl) ?_
  refine Ew_of (pcₚ := 2) (fun _ => x_iload_n rfl rfl) ?_
  refine w_lshlA rfl (fun z1 gz1 => ?_)
  refine Ew_of (pcₚ := 4) (fun _ => x_lload_n rfl rfl) ?_
  refine Ew_of (pcₚ := 6) (fun _ => x_bipush (z := 64) rfl (by decide)) ?_
  refine Ew_of (pcₚ := 7) (fun _ => x_iload_n rfl rfl) ?_
  refine w_isubA rfl (fun z2 gz2 => ?_)
  refine w_lushrA rfl (fun z3 gz3 => ?_)
  refine w_lorA rfl (fun z4 gz4 => ?_)
  exact w_lreturn rfl (k (z4) σ _ _ H (SF_refl) (SA_refl) (show inrJ (z4) from gz4))
/-- Sums.joinLane -/
theorem M312 {σ0 σ : rS} {D N : Nat → Nat} {F : hF} {A : hA} {d c s : Nat} {Q : wQ} (H : HS σ0 σ D N F A) {a1 a2 : Int} (h0 : inrJ (a1)) (h1 : inrJ (a2)) (k : ∀ (z : Int) σ Fₚ Aₚ, HS σ0 σ D N Fₚ Aₚ → SF [] F Fₚ → SA [] A Aₚ → (inrJ (z)) → Q (some (J z)) σ c s) : Ew 312 (d + 1) 0 (rargs 0 [J a1, J a2]) [] σ c s Q := by
  refine Ew_of (pcₚ := 1) (fun _ => x_lload_n rfl rfl) ?_
  refine Ew_of (pcₚ := 2) (fun _ => x_lload_n rfl rfl) ?_
  refine Ew_of (pcₚ := 5) (fun _ => x_ldc2 (z := -4417276706812531889) rfl (by decide)) ?_
  refine w_lmulA rfl (fun z1 gz1 => ?_)
  refine Ew_of (pcₚ := 8) (fun _ => x_bipush (z := 31) rfl (by decide)) ?_
  refine w_stat24 rfl rfl (by rfl) (M310 H (show inrJ (z1) from gz1) (show inr (31) from q_62) (fun z6 σ F2 A3 H hS4 hA5 pz6_0 => ⟨rfl, ?_⟩))
  refine Ew_of (pcₚ := 14) (fun _ => x_ldc2 (z := -7046029288634856825) rfl (by decide)) ?_
  refine w_lmulA rfl (fun z7 gz7 => ?_)
  refine w_lxorA rfl (fun z8 gz8 => ?_)
  refine Ew_of (pcₚ := 19) (fun _ => x_ldc2 (z := -7046029288634856825) rfl (by decide)) ?_
  refine w_lmulA rfl (fun z9 gz9 => ?_)
  refine Ew_of (pcₚ := 23) (fun _ => x_ldc2 (z := -8796714831421723037) rfl (by decide)) ?_
  refine w_laddA rfl (fun z10 gz10 => ?_)
  exact w_lreturn rfl (k (z10) σ _ _ H (SF_trans (SF_refl) hS4 (any_sub rfl)) (SA_trans (SA_refl) hA5 (any_subA rfl)) (show inrJ (z10) from gz10))
/-- Sums.right -/
theorem M315 {σ0 σ : rS} {D N : Nat → Nat} {F : hF} {A : hA} {d c s : Nat} {Q : wQ} (H : HS σ0 σ D N F A) {a1 : Int} (h0 : inr (a1)) (k : ∀ (z : Int) σ Fₚ Aₚ, HS σ0 σ D N Fₚ Aₚ → SF [] F Fₚ → SA [] A Aₚ → (inr (z)) → Q (some (I z)) σ c s) : Ew 315 (d + 0) 0 (rargs 0 [I a1]) [] σ c s Q := by
  refine Ew_of (pcₚ := 1) (fun _ => x_iload_n rfl rfl) ?_
  refine Ew_of (pcₚ := 2) (fun _ => x_iconst rfl) ?_
  refine w_iand rfl (show inr (a1) from h0) (show inr (1) from q_23) (fun z1 gz1 gaz1 gbz1 => ?_)
  refine w_ifne (t := 12) rfl rfl (show inr (z1) from gz1) (fun b2 => ?_) (fun b2 => ?_)
  · refine Ew_of (pcₚ := 13) (fun _ => x_iload_n rfl rfl) ?_
    refine Ew_of (pcₚ := 14) (fun _ => x_iconst rfl) ?_
    refine w_iushrA rfl (fun z3 gz3 => ?_)
    refine Ew_of (pcₚ := 17) (fun _ => x_ldc (z := -2097792136) rfl (by decide)) ?_
    refine w_ixor rfl (fun z4 gz4 => ?_)
    exact w_ireturn rfl (k (z4) σ _ _ H (SF_refl) (SA_refl) (show inr (z4) from gz4))
  · refine Ew_of (pcₚ := 7) (fun _ => x_iload_n rfl rfl) ?_
    refine Ew_of (pcₚ := 8) (fun _ => x_iconst rfl) ?_
    refine w_iushrA rfl (fun z5 gz5 => ?_)
    refine Ew_of (pcₚ := 18) (fun _ => x_goto rfl rfl) ?_
    exact w_ireturn rfl (k (z5) σ _ _ H (SF_refl) (SA_refl) (show inr (z5) from gz5))
/-- Sums.begin -/
theorem M304 {σ0 σ : rS} {D N : Nat → Nat} {F : hF} {A : hA} {d c s : Nat} {Q : wQ} (H : HS σ0 σ D N F A) {a1 : Int} (h0 : inr (a1)) (k : ∀ σ Fₚ Aₚ, HS σ0 σ D N Fₚ Aₚ → SF [(2, 1)] F Fₚ → SA [] A Aₚ → Q none σ c s) : Ew 304 (d + 0) 0 (rargs 0 [.ref (D 2), I a1]) [] σ c s Q := by
  refine Ew_of (pcₚ := 1) (fun _ => x_aload_n rfl rfl) ?_
  refine Ew_of (pcₚ := 2) (fun _ => x_iload_n rfl rfl) ?_
  refine w_pI H (o := 2) rfl rfl (H.perm 2 rfl) rfl rfl rfl (fun _ => rfl) rfl (show (-2147483648 : Int) ≤ a1 ∧ a1 ≤ 2147483647 from q_61 h0) (fun σ H => ?_)
  exact w_ret rfl (k σ _ _ H (SF_upd (SF_refl) rfl) (SA_refl))
/-- Tags.put -/
theorem M320 {σ0 σ : rS} {D N : Nat → Nat} {F : hF} {A : hA} {d c s : Nat} {Q : wQ} (H : HS σ0 σ D N F A) {a1 : Int} (u4_2 : Int) (eu4_2 : F 4 2 = u4_2) (h0 : inr (a1)) (h1 : 0 ≤ (u4_2) ∧ (u4_2) ≤ 100000000) (k : ∀ σ Fₚ Aₚ, HS σ0 σ D N Fₚ Aₚ → SF [(4, 2)] F Fₚ → SA [23] A Aₚ → ∀ y4_2 : Int, Fₚ 4 2 = y4_2 → ((y4_2) = (u4_2) + 1) → Q none σ c s) : Ew 320 (d + 0) 0 (rargs 0 [.ref (D 4), I a1]) [] σ c s Q := by
  have r1 : (-2147483648 : Int) ≤ u4_2 ∧ u4_2 ≤ 2147483647 := rngE (show (-2147483648 : Int) ≤ F 4 2 ∧ F 4 2 ≤ 2147483647 from H.frng 4 2) (show F 4 2 = u4_2 from (eu4_2))
  refine Ew_of (pcₚ := 1) (fun _ => x_aload_n rfl rfl) ?_
  refine w_gI H (o := 4) (w := u4_2) rfl (H.perm 4 rfl) rfl rfl rfl (fun _ => rfl) (eu4_2) ?_
  refine Ew_of (pcₚ := 6) (fun _ => x_ldc (z := 70000) rfl (by decide)) ?_
  refine w_icmpge (t := 23) rfl rfl (show inr (u4_2) from q_46 h1 r1) (show inr (70000) from q_45) (fun b2 => ?_) (fun b2 => ?_)
  · refine Ew_of (pcₚ := 24) (fun _ => x_aload_n rfl rfl) ?_
    refine Ew_of (pcₚ := 25) (fun _ => x_dup rfl rfl) ?_
    refine w_gI H (o := 4) (w := u4_2) rfl (H.perm 4 rfl) rfl rfl rfl (fun _ => rfl) (eu4_2) ?_
    refine Ew_of (pcₚ := 29) (fun _ => x_iconst rfl) ?_
    refine w_iadd rfl ?_
    refine w_pI H (o := 4) rfl rfl (H.perm 4 rfl) rfl rfl rfl (fun _ => rfl) rfl (show (-2147483648 : Int) ≤ (u4_2 + 1) ∧ (u4_2 + 1) ≤ 2147483647 by omega) (fun σ H => ?_)
    exact w_ret rfl (k σ _ _ H (SF_upd (SF_refl) rfl) (SA_refl) ((u4_2 + 1)) (rfl) (show ((u4_2 + 1)) = (u4_2) + 1 from q_47))
  · refine Ew_of (pcₚ := 10) (fun _ => x_aload_n rfl rfl) ?_
    refine w_gT H (o := 4) (t := 23) rfl (H.perm 4 rfl) rfl rfl rfl rfl rfl rfl ?_
    refine Ew_of (pcₚ := 14) (fun _ => x_aload_n rfl rfl) ?_
    refine w_gI H (o := 4) (w := u4_2) rfl (H.perm 4 rfl) rfl rfl rfl (fun _ => rfl) (eu4_2) ?_
    refine Ew_of (pcₚ := 18) (fun _ => x_iload_n rfl rfl) ?_
    refine Ew_of (pcₚ := 21) (fun _ => x_sipush (z := 255) rfl (by decide)) ?_
    refine w_iand rfl (show inr (a1) from h0) (show inr (255) from q_36) (fun z3 gz3 gaz3 gbz3 => ?_)
    refine w_sI H (o := 23) (n := 70000) rfl (H.perm 23 rfl) rfl rfl (H.fix 23 rfl rfl) (show 0 ≤ u4_2 ∧ u4_2 < ((70000 : Nat) : Int) from q_48 b2 h1) (by decide) (show (0 : Int) ≤ z3 ∧ z3 ≤ 255 by omega) (fun σ H => ?_)
    refine Ew_of (pcₚ := 24) (fun _ => x_aload_n rfl rfl) ?_
    refine Ew_of (pcₚ := 25) (fun _ => x_dup rfl rfl) ?_
    refine w_gI H (o := 4) (w := u4_2) rfl (H.perm 4 rfl) rfl rfl rfl (fun _ => rfl) (eu4_2) ?_
    refine Ew_of (pcₚ := 29) (fun _ => x_iconst rfl) ?_
    refine w_iadd rfl ?_
    refine w_pI H (o := 4) rfl rfl (H.perm 4 rfl) rfl rfl rfl (fun _ => rfl) rfl (show (-2147483648 : Int) ≤ (u4_2 + 1) ∧ (u4_2 + 1) ≤ 2147483647 from q_49 b2 h1) (fun σ H => ?_)
    exact w_ret rfl (k σ _ _ H (SF_upd (SF_refl) rfl) (SA_upd (SA_refl) rfl) ((u4_2 + 1)) (rfl) (show ((u4_2 + 1)) = (u4_2) + 1 from q_47))
/-- Tags.fails -/
theorem M335 {σ0 σ : rS} {D N : Nat → Nat} {F : hF} {A : hA} {d c s : Nat} {Q : wQ} (H : HS σ0 σ D N F A) {a1 a2 : Int} (u4_10 : Int) (eu4_10 : F 4 10 = u4_10) (h0 : inr (a1)) (h1 : inr (a2)) (k : ∀ (z : Int) σ Fₚ Aₚ, HS σ0 σ D N Fₚ Aₚ → SF [(4, 10), (4, 11)] F Fₚ → SA [] A Aₚ → ∀ y4_10 : Int, Fₚ 4 10 = y4_10 → ((z) = 0 ∨ (z) = 1) → ((z) = 0) → ((u4_10) = 0 ∧ (y4_10) = (a1) ∨ (u4_10) ≠ 0 ∧ (y4_10) = (u4_10)) → Q (some (I z)) σ c s) : Ew 335 (d + 0) 0 (rargs 0 [.ref (D 4), I a1, I a2]) [] σ c s Q := by
  have r1 : (-2147483648 : Int) ≤ u4_10 ∧ u4_10 ≤ 2147483647 := rngE (show (-2147483648 : Int) ≤ F 4 10 ∧ F 4 10 ≤ 2147483647 from H.frng 4 10) (show F 4 10 = u4_10 from (eu4_10))
  refine Ew_of (pcₚ := 1) (fun _ => x_aload_n rfl rfl) ?_
  refine w_gI H (o := 4) (w := u4_10) rfl (H.perm 4 rfl) rfl rfl rfl (fun _ => rfl) (eu4_10) ?_
  refine w_ifne (t := 17) rfl rfl (show inr (u4_10) from q_22 r1) (fun b2 => ?_) (fun b2 => ?_)
  · refine Ew_of (pcₚ := 18) (fun _ => x_iconst rfl) ?_
    exact w_ireturn rfl (k (0) σ _ _ H (SF_refl) (SA_refl) (u4_10) ((eu4_10)) (show (0) = 0 ∨ (0) = 1 by first | exact q_1 | omega) (show (0) = 0 by first | exact q_64 | omega) (show (u4_10) = 0 ∧ (u4_10) = a1 ∨ (u4_10) ≠ 0 ∧ (u4_10) = (u4_10) from q_63 b2))
  · refine Ew_of (pcₚ := 8) (fun _ => x_aload_n rfl rfl) ?_
    refine Ew_of (pcₚ := 9) (fun _ => x_iload_n rfl rfl) ?_
    refine w_pI H (o := 4) rfl rfl (H.perm 4 rfl) rfl rfl rfl (fun _ => rfl) rfl (show (-2147483648 : Int) ≤ a1 ∧ a1 ≤ 2147483647 from q_61 h0) (fun σ H => ?_)
    refine Ew_of (pcₚ := 13) (fun _ => x_aload_n rfl rfl) ?_
    refine Ew_of (pcₚ := 14) (fun _ => x_iload_n rfl rfl) ?_
    refine w_pI H (o := 4) rfl rfl (H.perm 4 rfl) rfl rfl rfl (fun _ => rfl) rfl (show (-2147483648 : Int) ≤ a2 ∧ a2 ≤ 2147483647 from q_61 h1) (fun σ H => ?_)
    refine Ew_of (pcₚ := 18) (fun _ => x_iconst rfl) ?_
    exact w_ireturn rfl (k (0) σ _ _ H (SF_upd (SF_upd (SF_refl) rfl) rfl) (SA_refl) (a1) (rfl) (show (0) = 0 ∨ (0) = 1 by first | exact q_1 | omega) (show (0) = 0 by first | exact q_64 | omega) (show (u4_10) = 0 ∧ (a1) = a1 ∨ (u4_10) ≠ 0 ∧ (a1) = (u4_10) from q_65 b2))
/-- Tags.bytesFor -/
theorem M327 {σ0 σ : rS} {D N : Nat → Nat} {F : hF} {A : hA} {d c s : Nat} {Q : wQ} (H : HS σ0 σ D N F A) {a1 a2 : Int} (h0 : inr (a1)) (h1 : inr (a2)) (h2 : (a2) = 0 ∨ (a2) = 1) (k : ∀ (z : Int) σ Fₚ Aₚ, HS σ0 σ D N Fₚ Aₚ → SF [] F Fₚ → SA [] A Aₚ → (inr (z)) → ((a2) = 1 ∧ 4 ≤ (a1) ∧ (a1) ≤ 11 ∧ (z) = 2 ∨ ¬((a2) = 1 ∧ 4 ≤ (a1) ∧ (a1) ≤ 11) ∧ (z) = 3) → Q (some (I z)) σ c s) : Ew 327 (d + 0) 0 (rargs 0 [I a1, I a2]) [] σ c s Q := by
  refine Ew_of (pcₚ := 1) (fun _ => x_iload_n rfl rfl) ?_
  refine w_ifeq (t := 19) rfl rfl (show inr (a2) from h1) (fun b1 => ?_) (fun b1 => ?_)
  · refine Ew_of (pcₚ := 20) (fun _ => x_iconst rfl) ?_
    exact w_ireturn rfl (k (3) σ _ _ H (SF_refl) (SA_refl) (show inr (3) from q_66) (show a2 = 1 ∧ 4 ≤ a1 ∧ a1 ≤ 11 ∧ (3) = 2 ∨ ¬(a2 = 1 ∧ 4 ≤ a1 ∧ a1 ≤ 11) ∧ (3) = 3 by omega))
  · refine Ew_of (pcₚ := 5) (fun _ => x_iload_n rfl rfl) ?_
    refine Ew_of (pcₚ := 6) (fun _ => x_iconst rfl) ?_
    refine w_icmplt (t := 19) rfl rfl (show inr (a1) from h0) (show inr (4) from q_2) (fun b2 => ?_) (fun b2 => ?_)
    · refine Ew_of (pcₚ := 20) (fun _ => x_iconst rfl) ?_
      exact w_ireturn rfl (k (3) σ _ _ H (SF_refl) (SA_refl) (show inr (3) from q_66) (show a2 = 1 ∧ 4 ≤ a1 ∧ a1 ≤ 11 ∧ (3) = 2 ∨ ¬(a2 = 1 ∧ 4 ≤ a1 ∧ a1 ≤ 11) ∧ (3) = 3 by omega))
    · refine Ew_of (pcₚ := 10) (fun _ => x_iload_n rfl rfl) ?_
      refine Ew_of (pcₚ := 12) (fun _ => x_bipush (z := 11) rfl (by decide)) ?_
      refine w_icmpgt (t := 19) rfl rfl (show inr (a1) from h0) (show inr (11) from q_67) (fun b3 => ?_) (fun b3 => ?_)
      · refine Ew_of (pcₚ := 20) (fun _ => x_iconst rfl) ?_
        exact w_ireturn rfl (k (3) σ _ _ H (SF_refl) (SA_refl) (show inr (3) from q_66) (show a2 = 1 ∧ 4 ≤ a1 ∧ a1 ≤ 11 ∧ (3) = 2 ∨ ¬(a2 = 1 ∧ 4 ≤ a1 ∧ a1 ≤ 11) ∧ (3) = 3 by omega))
      · refine Ew_of (pcₚ := 16) (fun _ => x_iconst rfl) ?_
        refine Ew_of (pcₚ := 20) (fun _ => x_goto rfl rfl) ?_
        exact w_ireturn rfl (k (2) σ _ _ H (SF_refl) (SA_refl) (show inr (2) from q_55) (show a2 = 1 ∧ 4 ≤ a1 ∧ a1 ≤ 11 ∧ (2) = 2 ∨ ¬(a2 = 1 ∧ 4 ≤ a1 ∧ a1 ≤ 11) ∧ (2) = 3 by omega))
/-- Tags.mark -/
theorem M346 {σ0 σ : rS} {D N : Nat → Nat} {F : hF} {A : hA} {d c s : Nat} {Q : wQ} (H : HS σ0 σ D N F A) {a1 : Int} (h0 : inr (a1)) (k : ∀ (z : Int) σ Fₚ Aₚ, HS σ0 σ D N Fₚ Aₚ → SF [] F Fₚ → SA [] A Aₚ → (inr (z)) → (0 ≤ (z) ∧ (z) ≤ 255) → Q (some (I z)) σ c s) : Ew 346 (d + 0) 0 (rargs 0 [I a1]) [] σ c s Q := by
  refine Ew_of (pcₚ := 1) (fun _ => x_iload_n rfl rfl) ?_
  refine w_ifne (t := 9) rfl rfl (show inr (a1) from h0) (fun b1 => ?_) (fun b1 => ?_)
  · refine Ew_of (pcₚ := 10) (fun _ => x_iload_n rfl rfl) ?_
    refine Ew_of (pcₚ := 11) (fun _ => x_iconst rfl) ?_
    refine w_icmpne (t := 19) rfl rfl (show inr (a1) from h0) (show inr (1) from q_23) (fun b2 => ?_) (fun b2 => ?_)
    · refine Ew_of (pcₚ := 20) (fun _ => x_iload_n rfl rfl) ?_
      refine Ew_of (pcₚ := 21) (fun _ => x_iconst rfl) ?_
      refine w_icmpne (t := 29) rfl rfl (show inr (a1) from h0) (show inr (2) from q_55) (fun b3 => ?_) (fun b3 => ?_)
      · refine Ew_of (pcₚ := 30) (fun _ => x_iload_n rfl rfl) ?_
        refine Ew_of (pcₚ := 31) (fun _ => x_iconst rfl) ?_
        refine w_icmpne (t := 39) rfl rfl (show inr (a1) from h0) (show inr (3) from q_66) (fun b4 => ?_) (fun b4 => ?_)
        · refine Ew_of (pcₚ := 40) (fun _ => x_iload_n rfl rfl) ?_
          refine Ew_of (pcₚ := 41) (fun _ => x_iconst rfl) ?_
          refine w_icmpne (t := 49) rfl rfl (show inr (a1) from h0) (show inr (4) from q_2) (fun b5 => ?_) (fun b5 => ?_)
          · refine Ew_of (pcₚ := 51) (fun _ => x_bipush (z := 89) rfl (by decide)) ?_
            exact w_ireturn rfl (k (89) σ _ _ H (SF_refl) (SA_refl) (show inr (89) from q_69) (show 0 ≤ (89) ∧ (89) ≤ 255 by first | exact q_68 | omega))
          · refine Ew_of (pcₚ := 46) (fun _ => x_bipush (z := 112) rfl (by decide)) ?_
            refine Ew_of (pcₚ := 51) (fun _ => x_goto rfl rfl) ?_
            exact w_ireturn rfl (k (112) σ _ _ H (SF_refl) (SA_refl) (show inr (112) from q_71) (show 0 ≤ (112) ∧ (112) ≤ 255 by first | exact q_70 | omega))
        · refine Ew_of (pcₚ := 36) (fun _ => x_bipush (z := 80) rfl (by decide)) ?_
          refine Ew_of (pcₚ := 51) (fun _ => x_goto rfl rfl) ?_
          exact w_ireturn rfl (k (80) σ _ _ H (SF_refl) (SA_refl) (show inr (80) from q_73) (show 0 ≤ (80) ∧ (80) ≤ 255 by first | exact q_72 | omega))
      · refine Ew_of (pcₚ := 26) (fun _ => x_bipush (z := 97) rfl (by decide)) ?_
        refine Ew_of (pcₚ := 51) (fun _ => x_goto rfl rfl) ?_
        exact w_ireturn rfl (k (97) σ _ _ H (SF_refl) (SA_refl) (show inr (97) from q_75) (show 0 ≤ (97) ∧ (97) ≤ 255 by first | exact q_74 | omega))
    · refine Ew_of (pcₚ := 16) (fun _ => x_bipush (z := 78) rfl (by decide)) ?_
      refine Ew_of (pcₚ := 51) (fun _ => x_goto rfl rfl) ?_
      exact w_ireturn rfl (k (78) σ _ _ H (SF_refl) (SA_refl) (show inr (78) from q_77) (show 0 ≤ (78) ∧ (78) ≤ 255 by first | exact q_76 | omega))
  · refine Ew_of (pcₚ := 6) (fun _ => x_bipush (z := 115) rfl (by decide)) ?_
    refine Ew_of (pcₚ := 51) (fun _ => x_goto rfl rfl) ?_
    exact w_ireturn rfl (k (115) σ _ _ H (SF_refl) (SA_refl) (show inr (115) from q_79) (show 0 ≤ (115) ∧ (115) ≤ 255 by first | exact q_78 | omega))
/-- Sums.at -/
theorem M305 {σ0 σ : rS} {D N : Nat → Nat} {F : hF} {A : hA} {d c s : Nat} {Q : wQ} (H : HS σ0 σ D N F A) {a1 : Int} (u2_1 : Int) (eu2_1 : F 2 1 = u2_1) (h0 : inr (a1)) (h1 : 0 ≤ (u2_1) + (a1) ∧ (u2_1) + (a1) < 262144 ∧ 0 ≤ (u2_1) ∧ (u2_1) ≤ 262144) (k : ∀ (z : Int) σ Fₚ Aₚ, HS σ0 σ D N Fₚ Aₚ → SF [] F Fₚ → SA [] A Aₚ → (inr (z)) → (0 ≤ (z) ∧ (z) ≤ 255) → Q (some (I z)) σ c s) : Ew 305 (d + 0) 0 (rargs 0 [.ref (D 2), I a1]) [] σ c s Q := by
  have r1 : (-2147483648 : Int) ≤ u2_1 ∧ u2_1 ≤ 2147483647 := rngE (show (-2147483648 : Int) ≤ F 2 1 ∧ F 2 1 ≤ 2147483647 from H.frng 2 1) (show F 2 1 = u2_1 from (eu2_1))
  refine Ew_of (pcₚ := 1) (fun _ => x_aload_n rfl rfl) ?_
  refine w_gT H (o := 2) (t := 10) rfl (H.perm 2 rfl) rfl rfl rfl rfl rfl rfl ?_
  refine Ew_of (pcₚ := 5) (fun _ => x_aload_n rfl rfl) ?_
  refine w_gI H (o := 2) (w := u2_1) rfl (H.perm 2 rfl) rfl rfl rfl (fun _ => rfl) (eu2_1) ?_
  refine Ew_of (pcₚ := 9) (fun _ => x_iload_n rfl rfl) ?_
  refine w_iadd rfl ?_
  refine w_lI H (o := 10) (n := 262144) rfl (H.perm 10 rfl) rfl rfl (H.fix 10 rfl rfl) (show 0 ≤ (u2_1 + a1) ∧ (u2_1 + a1) < ((262144 : Nat) : Int) from q_80 h1) (by decide) (fun v2 ev2 qv2 => ?_)
  have qv2 : (0 : Int) ≤ v2 ∧ v2 ≤ 255 := qv2
  have ev2 : (A 10) ((u2_1 + a1)) = v2 := (congrFun (rfl : A 10 = A 10) ((u2_1 + a1))).symm.trans ev2
  exact w_ireturn rfl (k (v2) σ _ _ H (SF_refl) (SA_refl) (show inr (v2) from q_38 qv2) (show 0 ≤ (v2) ∧ (v2) ≤ 255 from qv2))
/-- Sums.number -/
theorem M306 {σ0 σ : rS} {D N : Nat → Nat} {F : hF} {A : hA} {d c s : Nat} {Q : wQ} (H : HS σ0 σ D N F A) {a1 a2 : Int} (u2_1 : Int) (eu2_1 : F 2 1 = u2_1) (h0 : inr (a1)) (h1 : inr (a2)) (h2 : 0 ≤ (u2_1) ∧ (u2_1) ≤ 196608) (h3 : 0 ≤ (a1) ∧ 0 ≤ (a2) ∧ (a2) ≤ 8 ∧ (a1) + (a2) ≤ 65536) (k : ∀ (z : Int) σ Fₚ Aₚ, HS σ0 σ D N Fₚ Aₚ → SF [] F Fₚ → SA [] A Aₚ → (inrJ (z)) → Q (some (J z)) σ c s) : Ew 306 (d + 1) 0 (rargs 0 [.ref (D 2), I a1, I a2]) [] σ c s Q := by
  have r1 : (-2147483648 : Int) ≤ u2_1 ∧ u2_1 ≤ 2147483647 := rngE (show (-2147483648 : Int) ≤ F 2 1 ∧ F 2 1 ≤ 2147483647 from H.frng 2 1) (show F 2 1 = u2_1 from (eu2_1))
  refine Ew_of (pcₚ := 1) (fun _ => x_lconst (z := 0) rfl (by decide)) ?_
  refine Ew_of (pcₚ := 2) (fun _ => x_lstore_n rfl) ?_
  refine Ew_of (pcₚ := 3) (fun _ => x_iconst rfl) ?_
  refine Ew_of (pcₚ := 5) (fun _ => x_istore rfl) ?_
  suffices hl5 : ∀ (m : Nat), ∀ (ls : rO) (σ : rS) (F_5 : hF) (A_5 : hA) (x5_3 : Int) (x5_5 : Int), rlook ls 0 = some (.ref (D 2)) → rlook ls 1 = some (I (a1)) → rlook ls 2 = some (I (a2)) → rlook ls 3 = some (J (x5_3)) → rlook ls 5 = some (I (x5_5)) → HS σ0 σ D N F_5 A_5 → SF [] F F_5 → SA [] A A_5 → (inrJ (x5_3)) → (inr (x5_5)) → ((0) ≤ (x5_5)) → ((x5_5) ≤ (0) ∨ (x5_5) ≤ ((a2))) → (((a2)) - (x5_5)).toNat = m → Ew 306 (d + 1) 5 ls [] σ c s Q from
    hl5 _ _ σ _ _ (0) (0) (rk_o (rk2_o (rfl) rfl rfl) rfl rfl) (rk_o (rk2_o (rfl) rfl rfl) rfl rfl) (rk_o (rk2_o (rfl) rfl rfl) rfl rfl) (rk_o (rk2_s) rfl rfl) (rk_s) H (SF_refl) (SA_refl)   (show inrJ (0) from q_81) (show inr (0) from q_20) (show (0) ≤ (0) from q_25) (show (0) ≤ (0) ∨ (0) ≤ ((a2)) from q_24) rfl
  as_aux_lemma =>
  intro m
  induction m using Nat.strongRecOn with
  | _ m ih5 =>
    intro ls σ F_5 A_5 x5_3 x5_5 l5_0 l5_1 l5_2 l5_3 l5_5 H hS_5 hA_5   j5_0 j5_1 j5_2 j5_3 hm5
    refine Ew_of (pcₚ := 7) (fun _ => x_iload rfl l5_5) ?_
    refine Ew_of (pcₚ := 8) (fun _ => x_iload_n rfl l5_2) ?_
    refine w_icmpge (t := 35) rfl rfl (show inr (x5_5) from j5_1) (show inr (a2) from h1) (fun b2 => ?_) (fun b2 => ?_)
    · refine Ew_of (pcₚ := 36) (fun _ => x_lload_n rfl l5_3) ?_
      exact w_lreturn rfl (k (x5_3) σ _ _ H (SF_trans (SF_refl) hS_5 (any_sub rfl)) (SA_trans (SA_refl) hA_5 (any_subA rfl)) (show inrJ (x5_3) from j5_0))
    · refine Ew_of (pcₚ := 12) (fun _ => x_lload_n rfl l5_3) ?_
      refine Ew_of (pcₚ := 13) (fun _ => x_aload_n rfl l5_0) ?_
      refine Ew_of (pcₚ := 14) (fun _ => x_iload_n rfl l5_1) ?_
      refine Ew_of (pcₚ := 16) (fun _ => x_iload rfl l5_5) ?_
      refine w_iadd rfl ?_
      refine w_inv H (o := 2) rfl rfl rfl (H.perm 2 rfl) rfl rfl (by rfl) (M305 H (u2_1) (((hS_5 2 1 rfl).trans (eu2_1))) (show inr ((a1 + x5_5)) from q_83 b2 h3 j5_2) (show 0 ≤ (u2_1) + ((a1 + x5_5)) ∧ (u2_1) + ((a1 + x5_5)) < 262144 ∧ 0 ≤ (u2_1) ∧ (u2_1) ≤ 262144 from q_82 b2 h2 h3 j5_2) (fun z7 σ F3 A4 H hS5 hA6 pz7_0 pz7_1 => ⟨rfl, ?_⟩))
      refine w_i2l rfl (show inr (z7) from pz7_0) ?_
      refine Ew_of (pcₚ := 23) (fun _ => x_bipush (z := 8) rfl (by decide)) ?_
      refine Ew_of (pcₚ := 25) (fun _ => x_iload rfl l5_5) ?_
      refine w_imul rfl ?_
      refine w_lshlA rfl (fun z8 gz8 => ?_)
      refine w_lorA rfl (fun z9 gz9 => ?_)
      refine Ew_of (pcₚ := 29) (fun _ => x_lstore_n rfl) ?_
      refine Ew_of (pcₚ := 32) (fun _ => x_iinc (len := 3) rfl (rk2_o (l5_5) rfl rfl)) ?_
      refine Ew_of (pcₚ := 5) (fun _ => x_goto rfl rfl) ?_
      exact ih5 _ (msE hm5 q_31 (q_34 b2)) _ σ _ _ (z9) ((x5_5 + 1)) (rk_o (rk2_o (l5_0) rfl rfl) rfl rfl) (rk_o (rk2_o (l5_1) rfl rfl) rfl rfl) (rk_o (rk2_o (l5_2) rfl rfl) rfl rfl) (rk_o (rk2_s) rfl rfl) (rk_s) H (SF_trans (hS_5) hS5 (any_sub rfl)) (SA_trans (hA_5) hA6 (any_subA rfl))   (show inrJ (z9) from gz9) (show inr ((x5_5 + 1)) from q_84 b2 h3 j5_2) (show (0) ≤ ((x5_5 + 1)) from q_29 j5_2) (show ((x5_5 + 1)) ≤ (0) ∨ ((x5_5 + 1)) ≤ ((a2)) from q_33 b2) rfl
/-- Sums.lane -/
theorem M308 {σ0 σ : rS} {D N : Nat → Nat} {F : hF} {A : hA} {d c s : Nat} {Q : wQ} (H : HS σ0 σ D N F A) {a1 a2 a3 a4 : Int} (u2_1 : Int) (eu2_1 : F 2 1 = u2_1) (h0 : inr (a1)) (h1 : inr (a2)) (h2 : inr (a3)) (h3 : inr (a4)) (h4 : 0 ≤ (u2_1) ∧ (u2_1) ≤ 196608) (h5 : 0 ≤ (a2) ∧ (a2) ≤ (a3) ∧ (a3) ≤ 65536 ∧ 0 ≤ (a4) ∧ (a4) ≤ 3) (k : ∀ (z : Int) σ Fₚ Aₚ, HS σ0 σ D N Fₚ Aₚ → SF [] F Fₚ → SA [] A Aₚ → (inr (z)) → Q (some (I z)) σ c s) : Ew 308 (d + 2) 0 (rargs 0 [.ref (D 2), I a1, I a2, I a3, I a4]) [] σ c s Q := by
  have r1 : (-2147483648 : Int) ≤ u2_1 ∧ u2_1 ≤ 2147483647 := rngE (show (-2147483648 : Int) ≤ F 2 1 ∧ F 2 1 ≤ 2147483647 from H.frng 2 1) (show F 2 1 = u2_1 from (eu2_1))
  refine Ew_of (pcₚ := 1) (fun _ => x_iload_n rfl rfl) ?_
  refine Ew_of (pcₚ := 3) (fun _ => x_istore rfl) ?_
  refine Ew_of (pcₚ := 4) (fun _ => x_iload_n rfl (rk_o (rfl) rfl rfl)) ?_
  refine Ew_of (pcₚ := 6) (fun _ => x_istore rfl) ?_
  suffices hl6 : ∀ (m : Nat), ∀ (ls : rO) (σ : rS) (F_6 : hF) (A_6 : hA) (x6_5 : Int) (x6_6 : Int), rlook ls 0 = some (.ref (D 2)) → rlook ls 3 = some (I (a3)) → rlook ls 4 = some (I (a4)) → rlook ls 5 = some (I (x6_5)) → rlook ls 6 = some (I (x6_6)) → HS σ0 σ D N F_6 A_6 → SF [] F F_6 → SA [] A A_6 → (inr (x6_5)) → (inr (x6_6)) → ((a2) ≤ (x6_6) ∧ (x6_6) ≤ (a3)) → ((a3) - (x6_6)).toNat = m → Ew 308 (d + 2) 6 ls [] σ c s Q from
    hl6 _ _ σ _ _ (a1) (a2) (rk_o (rk_o (rfl) rfl rfl) rfl rfl) (rk_o (rk_o (rfl) rfl rfl) rfl rfl) (rk_o (rk_o (rfl) rfl rfl) rfl rfl) (rk_o (rk_s) rfl rfl) (rk_s) H (SF_refl) (SA_refl)   (show inr (a1) from h0) (show inr (a2) from h1) (show (a2) ≤ (a2) ∧ (a2) ≤ (a3) from q_85 h5) rfl
  as_aux_lemma =>
  intro m
  induction m using Nat.strongRecOn with
  | _ m ih6 =>
    intro ls σ F_6 A_6 x6_5 x6_6 l6_0 l6_3 l6_4 l6_5 l6_6 H hS_6 hA_6   j6_0 j6_1 j6_2 hm6
    refine Ew_of (pcₚ := 7) (fun _ => x_iload_n rfl l6_3) ?_
    refine Ew_of (pcₚ := 9) (fun _ => x_iload rfl l6_6) ?_
    refine w_isub rfl ?_
    refine Ew_of (pcₚ := 12) (fun _ => x_bipush (z := 16) rfl (by decide)) ?_
    refine w_icmplt (t := 50) rfl rfl (show inr ((a3 - x6_6)) from q_87 h5 j6_2) (show inr (16) from q_86) (fun b2 => ?_) (fun b2 => ?_)
    · refine Ew_of (pcₚ := 52) (fun _ => x_iload rfl l6_5) ?_
      exact w_ireturn rfl (k (x6_5) σ _ _ H (SF_trans (SF_refl) hS_6 (any_sub rfl)) (SA_trans (SA_refl) hA_6 (any_subA rfl)) (show inr (x6_5) from j6_0))
    · refine Ew_of (pcₚ := 17) (fun _ => x_iload rfl l6_5) ?_
      refine Ew_of (pcₚ := 18) (fun _ => x_aload_n rfl l6_0) ?_
      refine Ew_of (pcₚ := 20) (fun _ => x_iload rfl l6_6) ?_
      refine Ew_of (pcₚ := 21) (fun _ => x_iconst rfl) ?_
      refine Ew_of (pcₚ := 23) (fun _ => x_iload rfl l6_4) ?_
      refine w_imul rfl ?_
      refine w_iadd rfl ?_
      refine Ew_of (pcₚ := 26) (fun _ => x_iconst rfl) ?_
      refine w_inv H (o := 2) rfl rfl rfl (H.perm 2 rfl) rfl rfl (by rfl) (M306 H (u2_1) (((hS_6 2 1 rfl).trans (eu2_1))) (show inr ((x6_6 + (4 * a4))) from q_89 b2 h5 j6_2) (show inr (4) from q_2) (show 0 ≤ (u2_1) ∧ (u2_1) ≤ 196608 from h4) (show 0 ≤ ((x6_6 + (4 * a4))) ∧ 0 ≤ (4) ∧ (4) ≤ 8 ∧ ((x6_6 + (4 * a4))) + (4) ≤ 65536 from q_88 b2 h5 j6_2) (fun z7 σ F3 A4 H hS5 hA6 pz7_0 => ⟨rfl, ?_⟩))
      refine w_l2iA rfl (fun z8 gz8 => ?_)
      refine Ew_of (pcₚ := 32) (fun _ => x_ldc (z := -2048144777) rfl (by decide)) ?_
      refine w_imulA rfl (fun z9 gz9 => ?_)
      refine w_iaddA rfl (fun z10 gz10 => ?_)
      refine Ew_of (pcₚ := 36) (fun _ => x_bipush (z := 13) rfl (by decide)) ?_
      refine w_stat24 rfl rfl (by rfl) (M307 H (show inr (z10) from gz10) (show inr (13) from q_90) (fun z15 σ F11 A12 H hS13 hA14 pz15_0 => ⟨rfl, ?_⟩))
      refine Ew_of (pcₚ := 41) (fun _ => x_ldc (z := -1640531535) rfl (by decide)) ?_
      refine w_imulA rfl (fun z16 gz16 => ?_)
      refine Ew_of (pcₚ := 44) (fun _ => x_istore rfl) ?_
      refine Ew_of (pcₚ := 47) (fun _ => x_iinc (len := 3) rfl (rk_o (l6_6) rfl rfl)) ?_
      refine Ew_of (pcₚ := 6) (fun _ => x_goto rfl rfl) ?_
      exact ih6 _ (msE hm6 q_93 (q_94 b2)) _ σ _ _ (z16) ((x6_6 + 16)) (rk_o (rk_o (l6_0) rfl rfl) rfl rfl) (rk_o (rk_o (l6_3) rfl rfl) rfl rfl) (rk_o (rk_o (l6_4) rfl rfl) rfl rfl) (rk_o (rk_s) rfl rfl) (rk_s) H (SF_trans (SF_trans (hS_6) hS5 (any_sub rfl)) hS13 (any_sub rfl)) (SA_trans (SA_trans (hA_6) hA6 (any_subA rfl)) hA14 (any_subA rfl))   (show inr (z16) from gz16) (show inr ((x6_6 + 16)) from q_92 b2 h5 j6_1) (show (a2) ≤ ((x6_6 + 16)) ∧ ((x6_6 + 16)) ≤ (a3) from q_91 b2 j6_2) rfl
/-- Sums.withByte -/
theorem M316 {σ0 σ : rS} {D N : Nat → Nat} {F : hF} {A : hA} {d c s : Nat} {Q : wQ} (H : HS σ0 σ D N F A) {a1 a2 : Int} (h0 : inr (a1)) (h1 : inr (a2)) (k : ∀ (z : Int) σ Fₚ Aₚ, HS σ0 σ D N Fₚ Aₚ → SF [] F Fₚ → SA [] A Aₚ → (inr (z)) → Q (some (I z)) σ c s) : Ew 316 (d + 1) 0 (rargs 0 [I a1, I a2]) [] σ c s Q := by
  refine Ew_of (pcₚ := 1) (fun _ => x_iload_n rfl rfl) ?_
  refine Ew_of (pcₚ := 2) (fun _ => x_istore_n rfl) ?_
  refine Ew_of (pcₚ := 3) (fun _ => x_iconst rfl) ?_
  refine Ew_of (pcₚ := 4) (fun _ => x_istore_n rfl) ?_
  suffices hl4 : ∀ (m : Nat), ∀ (ls : rO) (σ : rS) (F_4 : hF) (A_4 : hA) (x4_2 : Int) (x4_3 : Int), rlook ls 1 = some (I (a2)) → rlook ls 2 = some (I (x4_2)) → rlook ls 3 = some (I (x4_3)) → HS σ0 σ D N F_4 A_4 → SF [] F F_4 → SA [] A A_4 → (inr (x4_2)) → (inr (x4_3)) → ((0) ≤ (x4_3)) → ((x4_3) ≤ (0) ∨ (x4_3) ≤ ((8))) → (((8)) - (x4_3)).toNat = m → Ew 316 (d + 1) 4 ls [] σ c s Q from
    hl4 _ _ σ _ _ (a1) (0) (rk_o (rk_o (rfl) rfl rfl) rfl rfl) (rk_o (rk_s) rfl rfl) (rk_s) H (SF_refl) (SA_refl)   (show inr (a1) from h0) (show inr (0) from q_20) (show (0) ≤ (0) from q_25) (show (0) ≤ (0) ∨ (0) ≤ ((8)) from q_95) rfl
  as_aux_lemma =>
  intro m
  induction m using Nat.strongRecOn with
  | _ m ih4 =>
    intro ls σ F_4 A_4 x4_2 x4_3 l4_1 l4_2 l4_3 H hS_4 hA_4   j4_0 j4_1 j4_2 j4_3 hm4
    refine Ew_of (pcₚ := 5) (fun _ => x_iload_n rfl l4_3) ?_
    refine Ew_of (pcₚ := 7) (fun _ => x_bipush (z := 8) rfl (by decide)) ?_
    refine w_icmpge (t := 27) rfl rfl (show inr (x4_3) from j4_1) (show inr (8) from q_96) (fun b1 => ?_) (fun b1 => ?_)
    · refine Ew_of (pcₚ := 28) (fun _ => x_iload_n rfl l4_2) ?_
      exact w_ireturn rfl (k (x4_2) σ _ _ H (SF_trans (SF_refl) hS_4 (any_sub rfl)) (SA_trans (SA_refl) hA_4 (any_subA rfl)) (show inr (x4_2) from j4_0))
    · refine Ew_of (pcₚ := 11) (fun _ => x_iload_n rfl l4_2) ?_
      refine Ew_of (pcₚ := 12) (fun _ => x_iload_n rfl l4_1) ?_
      refine Ew_of (pcₚ := 13) (fun _ => x_iload_n rfl l4_3) ?_
      refine w_ishrA rfl (fun z2 gz2 => ?_)
      refine Ew_of (pcₚ := 15) (fun _ => x_iconst rfl) ?_
      refine w_iand rfl (show inr (z2) from gz2) (show inr (1) from q_23) (fun z3 gz3 gaz3 gbz3 => ?_)
      refine w_ixor rfl (fun z4 gz4 => ?_)
      refine w_stat24 rfl rfl (by rfl) (M315 H (show inr (z4) from gz4) (fun z9 σ F5 A6 H hS7 hA8 pz9_0 => ⟨rfl, ?_⟩))
      refine Ew_of (pcₚ := 21) (fun _ => x_istore_n rfl) ?_
      refine Ew_of (pcₚ := 24) (fun _ => x_iinc (len := 3) rfl (rk_o (l4_3) rfl rfl)) ?_
      refine Ew_of (pcₚ := 4) (fun _ => x_goto rfl rfl) ?_
      exact ih4 _ (msE hm4 q_99 (q_100 b1)) _ σ _ _ (z9) ((x4_3 + 1)) (rk_o (rk_o (l4_1) rfl rfl) rfl rfl) (rk_o (rk_s) rfl rfl) (rk_s) H (SF_trans (hS_4) hS7 (any_sub rfl)) (SA_trans (hA_4) hA8 (any_subA rfl))   (show inr (z9) from pz9_0) (show inr ((x4_3 + 1)) from q_98 b1 j4_2) (show (0) ≤ ((x4_3 + 1)) from q_29 j4_2) (show ((x4_3 + 1)) ≤ (0) ∨ ((x4_3 + 1)) ≤ ((8)) from q_97 b1) rfl
/-- Sums.register -/
theorem M317 {σ0 σ : rS} {D N : Nat → Nat} {F : hF} {A : hA} {d c s : Nat} {Q : wQ} (H : HS σ0 σ D N F A) {a1 a2 : Int} (u2_1 : Int) (eu2_1 : F 2 1 = u2_1) (h0 : inr (a1)) (h1 : inr (a2)) (h2 : 0 ≤ (u2_1) ∧ (u2_1) ≤ 196608) (h3 : 0 ≤ (a1) ∧ (a1) ≤ (a2) ∧ (a2) ≤ 65536) (k : ∀ (z : Int) σ Fₚ Aₚ, HS σ0 σ D N Fₚ Aₚ → SF [] F Fₚ → SA [] A Aₚ → (inr (z)) → Q (some (I z)) σ c s) : Ew 317 (d + 2) 0 (rargs 0 [.ref (D 2), I a1, I a2]) [] σ c s Q := by
  have r1 : (-2147483648 : Int) ≤ u2_1 ∧ u2_1 ≤ 2147483647 := rngE (show (-2147483648 : Int) ≤ F 2 1 ∧ F 2 1 ≤ 2147483647 from H.frng 2 1) (show F 2 1 = u2_1 from (eu2_1))
  refine Ew_of (pcₚ := 1) (fun _ => x_iconst rfl) ?_
  refine Ew_of (pcₚ := 2) (fun _ => x_istore_n rfl) ?_
  refine Ew_of (pcₚ := 3) (fun _ => x_iload_n rfl (rk_o (rfl) rfl rfl)) ?_
  refine Ew_of (pcₚ := 5) (fun _ => x_istore rfl) ?_
  suffices hl5 : ∀ (m : Nat), ∀ (ls : rO) (σ : rS) (F_5 : hF) (A_5 : hA) (x5_3 : Int) (x5_4 : Int), rlook ls 0 = some (.ref (D 2)) → rlook ls 2 = some (I (a2)) → rlook ls 3 = some (I (x5_3)) → rlook ls 4 = some (I (x5_4)) → HS σ0 σ D N F_5 A_5 → SF [] F F_5 → SA [] A A_5 → (inr (x5_3)) → (inr (x5_4)) → ((a1) ≤ (x5_4)) → ((x5_4) ≤ (a1) ∨ (x5_4) ≤ ((a2))) → (((a2)) - (x5_4)).toNat = m → Ew 317 (d + 2) 5 ls [] σ c s Q from
    hl5 _ _ σ _ _ ((-1)) (a1) (rk_o (rk_o (rfl) rfl rfl) rfl rfl) (rk_o (rk_o (rfl) rfl rfl) rfl rfl) (rk_o (rk_s) rfl rfl) (rk_s) H (SF_refl) (SA_refl)   (show inr ((-1)) from q_16) (show inr (a1) from h0) (show (a1) ≤ (a1) from q_102) (show (a1) ≤ (a1) ∨ (a1) ≤ ((a2)) from q_101) rfl
  as_aux_lemma =>
  intro m
  induction m using Nat.strongRecOn with
  | _ m ih5 =>
    intro ls σ F_5 A_5 x5_3 x5_4 l5_0 l5_2 l5_3 l5_4 H hS_5 hA_5   j5_0 j5_1 j5_2 j5_3 hm5
    refine Ew_of (pcₚ := 7) (fun _ => x_iload rfl l5_4) ?_
    refine Ew_of (pcₚ := 8) (fun _ => x_iload_n rfl l5_2) ?_
    refine w_icmpge (t := 28) rfl rfl (show inr (x5_4) from j5_1) (show inr (a2) from h1) (fun b2 => ?_) (fun b2 => ?_)
    · refine Ew_of (pcₚ := 29) (fun _ => x_iload_n rfl l5_3) ?_
      exact w_ireturn rfl (k (x5_3) σ _ _ H (SF_trans (SF_refl) hS_5 (any_sub rfl)) (SA_trans (SA_refl) hA_5 (any_subA rfl)) (show inr (x5_3) from j5_0))
    · refine Ew_of (pcₚ := 12) (fun _ => x_iload_n rfl l5_3) ?_
      refine Ew_of (pcₚ := 13) (fun _ => x_aload_n rfl l5_0) ?_
      refine Ew_of (pcₚ := 15) (fun _ => x_iload rfl l5_4) ?_
      refine w_inv H (o := 2) rfl rfl rfl (H.perm 2 rfl) rfl rfl (by rfl) (M305 H (u2_1) (((hS_5 2 1 rfl).trans (eu2_1))) (show inr (x5_4) from j5_1) (show 0 ≤ (u2_1) + (x5_4) ∧ (u2_1) + (x5_4) < 262144 ∧ 0 ≤ (u2_1) ∧ (u2_1) ≤ 262144 from q_103 b2 h2 h3 j5_2) (fun z7 σ F3 A4 H hS5 hA6 pz7_0 pz7_1 => ⟨rfl, ?_⟩))
      refine w_stat24 rfl rfl (by rfl) (M316 H (show inr (x5_3) from j5_0) (show inr (z7) from pz7_0) (fun z12 σ F8 A9 H hS10 hA11 pz12_0 => ⟨rfl, ?_⟩))
      refine Ew_of (pcₚ := 22) (fun _ => x_istore_n rfl) ?_
      refine Ew_of (pcₚ := 25) (fun _ => x_iinc (len := 3) rfl (rk_o (l5_4) rfl rfl)) ?_
      refine Ew_of (pcₚ := 5) (fun _ => x_goto rfl rfl) ?_
      exact ih5 _ (msE hm5 q_31 (q_34 b2)) _ σ _ _ (z12) ((x5_4 + 1)) (rk_o (rk_o (l5_0) rfl rfl) rfl rfl) (rk_o (rk_o (l5_2) rfl rfl) rfl rfl) (rk_o (rk_s) rfl rfl) (rk_s) H (SF_trans (SF_trans (hS_5) hS5 (any_sub rfl)) hS10 (any_sub rfl)) (SA_trans (SA_trans (hA_5) hA6 (any_subA rfl)) hA11 (any_subA rfl))   (show inr (z12) from pz12_0) (show inr ((x5_4 + 1)) from q_106 b2 h3 j5_1) (show (a1) ≤ ((x5_4 + 1)) from q_105 j5_2) (show ((x5_4 + 1)) ≤ (a1) ∨ ((x5_4 + 1)) ≤ ((a2)) from q_104 b2) rfl
/-- Sums.poly -/
theorem M318 {σ0 σ : rS} {D N : Nat → Nat} {F : hF} {A : hA} {d c s : Nat} {Q : wQ} (H : HS σ0 σ D N F A) {a1 a2 : Int} (u2_1 : Int) (eu2_1 : F 2 1 = u2_1) (h0 : inr (a1)) (h1 : inr (a2)) (h2 : 0 ≤ (u2_1) ∧ (u2_1) ≤ 196608) (h3 : 0 ≤ (a1) ∧ (a1) ≤ (a2) ∧ (a2) ≤ 65536) (k : ∀ (z : Int) σ Fₚ Aₚ, HS σ0 σ D N Fₚ Aₚ → SF [] F Fₚ → SA [] A Aₚ → (inr (z)) → Q (some (I z)) σ c s) : Ew 318 (d + 3) 0 (rargs 0 [.ref (D 2), I a1, I a2]) [] σ c s Q := by
  have r1 : (-2147483648 : Int) ≤ u2_1 ∧ u2_1 ≤ 2147483647 := rngE (show (-2147483648 : Int) ≤ F 2 1 ∧ F 2 1 ≤ 2147483647 from H.frng 2 1) (show F 2 1 = u2_1 from (eu2_1))
  refine Ew_of (pcₚ := 1) (fun _ => x_aload_n rfl rfl) ?_
  refine Ew_of (pcₚ := 2) (fun _ => x_iload_n rfl rfl) ?_
  refine Ew_of (pcₚ := 3) (fun _ => x_iload_n rfl rfl) ?_
  refine w_inv H (o := 2) rfl rfl rfl (H.perm 2 rfl) rfl rfl (by rfl) (M317 H (u2_1) ((eu2_1)) (show inr (a1) from h0) (show inr (a2) from h1) (show 0 ≤ (u2_1) ∧ (u2_1) ≤ 196608 from h2) (show 0 ≤ (a1) ∧ (a1) ≤ (a2) ∧ (a2) ≤ 65536 from h3) (fun z6 σ F2 A3 H hS4 hA5 pz6_0 => ⟨rfl, ?_⟩))
  refine Ew_of (pcₚ := 7) (fun _ => x_iconst rfl) ?_
  refine w_ixor rfl (fun z7 gz7 => ?_)
  exact w_ireturn rfl (k (z7) σ _ _ H (SF_trans (SF_refl) hS4 (any_sub rfl)) (SA_trans (SA_refl) hA5 (any_subA rfl)) (show inr (z7) from gz7))
/-- Model.differ -/
theorem M66 {σ0 σ : rS} {D N : Nat → Nat} {F : hF} {A : hA} {d c s : Nat} {Q : wQ} (H : HS σ0 σ D N F A) {a1 a2 : Int} (h0 : inr (a1)) (h1 : inr (a2)) (k : ∀ (z : Int) σ Fₚ Aₚ, HS σ0 σ D N Fₚ Aₚ → SF [] F Fₚ → SA [] A Aₚ → (inr (z)) → Q (some (I z)) σ c s) : Ew 66 (d + 1) 0 (rargs 0 [.ref (D 0), I a1, I a2]) [] σ c s Q := by
  refine Ew_of (pcₚ := 1) (fun _ => x_iload_n rfl rfl) ?_
  refine w_stat24 rfl rfl (by rfl) (M56 H (show inr (a1) from h0) (fun z5 σ F1 A2 H hS3 hA4 pz5_0 pz5_1 => ⟨rretB rfl pz5_0, ?_⟩))
  refine w_ifeq (t := 14) rfl rfl (show inr (z5) from q_15 pz5_0) (fun b6 => ?_) (fun b6 => ?_)
  · refine Ew_of (pcₚ := 16) (fun _ => x_bipush (z := -2) rfl (by decide)) ?_
    exact w_ireturn rfl (k ((-2)) σ _ _ H (SF_trans (SF_refl) hS3 (any_sub rfl)) (SA_trans (SA_refl) hA4 (any_subA rfl)) (show inr ((-2)) from q_107))
  · refine Ew_of (pcₚ := 8) (fun _ => x_iload_n rfl rfl) ?_
    refine w_stat24 rfl rfl (by rfl) (M56 H (show inr (a2) from h1) (fun z11 σ F7 A8 H hS9 hA10 pz11_0 pz11_1 => ⟨rretB rfl pz11_0, ?_⟩))
    refine w_ifne (t := 17) rfl rfl (show inr (z11) from q_15 pz11_0) (fun b12 => ?_) (fun b12 => ?_)
    · refine Ew_of (pcₚ := 18) (fun _ => x_iconst rfl) ?_
      refine Ew_of (pcₚ := 19) (fun _ => x_istore_n rfl) ?_
      suffices hl19 : ∀ (m : Nat), ∀ (ls : rO) (σ : rS) (F_19 : hF) (A_19 : hA) (x19_3 : Int), rlook ls 0 = some (.ref (D 0)) → rlook ls 1 = some (I (a1)) → rlook ls 2 = some (I (a2)) → rlook ls 3 = some (I (x19_3)) → HS σ0 σ D N F_19 A_19 → SF [] F7 F_19 → SA [] A8 A_19 → (inr (x19_3)) → ((0) ≤ (x19_3)) → ((x19_3) ≤ (0) ∨ (x19_3) ≤ ((A 11) ((a1)))) → (((A 11) ((a1))) - (x19_3)).toNat = m → Ew 66 (d + 1) 19 ls [] σ c s Q from
        hl19 _ _ σ _ _ (0) (rk_o (rfl) rfl rfl) (rk_o (rfl) rfl rfl) (rk_o (rfl) rfl rfl) (rk_s) H (SF_refl) (SA_refl)   (show inr (0) from q_20) (show (0) ≤ (0) from q_25) (show (0) ≤ (0) ∨ (0) ≤ ((A 11) ((a1))) from q_24) rfl
      as_aux_lemma =>
      intro m
      induction m using Nat.strongRecOn with
      | _ m ih19 =>
        intro ls σ F_19 A_19 x19_3 l19_0 l19_1 l19_2 l19_3 H hS_19 hA_19   j19_0 j19_1 j19_2 hm19
        refine Ew_of (pcₚ := 20) (fun _ => x_iload_n rfl l19_3) ?_
        refine Ew_of (pcₚ := 21) (fun _ => x_aload_n rfl l19_0) ?_
        refine w_gT H (o := 0) (t := 11) rfl (H.perm 0 rfl) rfl rfl rfl rfl rfl rfl ?_
        refine Ew_of (pcₚ := 25) (fun _ => x_iload_n rfl l19_1) ?_
        refine w_lI H (o := 11) (n := 4) rfl (H.perm 11 rfl) rfl rfl (H.fix 11 rfl rfl) (show 0 ≤ a1 ∧ a1 < ((4 : Nat) : Int) from q_17 b6 pz5_0 pz5_1) (by decide) (fun v13 ev13 qv13 => ?_)
        have qv13 : (0 : Int) ≤ v13 ∧ v13 ≤ 65536 := qv13
        have ev13 : (A 11) (a1) = v13 := (congrFun ((funext (hA_19 11 rfl)).trans ((funext (hA10 11 rfl)).trans (funext (hA4 11 rfl)))) (a1)).symm.trans ev13
        refine w_icmpge (t := 70) rfl rfl (show inr (x19_3) from j19_0) (show inr (v13) from q_12 qv13) (fun b14 => ?_) (fun b14 => ?_)
        · refine Ew_of (pcₚ := 71) (fun _ => x_iload_n rfl l19_3) ?_
          refine Ew_of (pcₚ := 72) (fun _ => x_aload_n rfl l19_0) ?_
          refine w_gT H (o := 0) (t := 11) rfl (H.perm 0 rfl) rfl rfl rfl rfl rfl rfl ?_
          refine Ew_of (pcₚ := 76) (fun _ => x_iload_n rfl l19_1) ?_
          refine w_lI H (o := 11) (n := 4) rfl (H.perm 11 rfl) rfl rfl (H.fix 11 rfl rfl) (show 0 ≤ a1 ∧ a1 < ((4 : Nat) : Int) from q_17 b6 pz5_0 pz5_1) (by decide) (fun v15 ev15 qv15 => ?_)
          have qv15 : (0 : Int) ≤ v15 ∧ v15 ≤ 65536 := qv15
          have ev15 : (A 11) (a1) = v15 := (congrFun ((funext (hA_19 11 rfl)).trans ((funext (hA10 11 rfl)).trans (funext (hA4 11 rfl)))) (a1)).symm.trans ev15
          refine w_icmpne (t := 94) rfl rfl (show inr (x19_3) from j19_0) (show inr (v15) from q_12 qv15) (fun b16 => ?_) (fun b16 => ?_)
          · refine Ew_of (pcₚ := 95) (fun _ => x_iload_n rfl l19_3) ?_
            exact w_ireturn rfl (k (x19_3) σ _ _ H (SF_trans (SF_trans (SF_trans (SF_refl) hS3 (any_sub rfl)) hS9 (any_sub rfl)) hS_19 (any_sub rfl)) (SA_trans (SA_trans (SA_trans (SA_refl) hA4 (any_subA rfl)) hA10 (any_subA rfl)) hA_19 (any_subA rfl)) (show inr (x19_3) from j19_0))
          · refine Ew_of (pcₚ := 81) (fun _ => x_iload_n rfl l19_3) ?_
            refine Ew_of (pcₚ := 82) (fun _ => x_aload_n rfl l19_0) ?_
            refine w_gT H (o := 0) (t := 11) rfl (H.perm 0 rfl) rfl rfl rfl rfl rfl rfl ?_
            refine Ew_of (pcₚ := 86) (fun _ => x_iload_n rfl l19_2) ?_
            refine w_lI H (o := 11) (n := 4) rfl (H.perm 11 rfl) rfl rfl (H.fix 11 rfl rfl) (show 0 ≤ a2 ∧ a2 < ((4 : Nat) : Int) from q_17 b12 pz11_0 pz11_1) (by decide) (fun v17 ev17 qv17 => ?_)
            have qv17 : (0 : Int) ≤ v17 ∧ v17 ≤ 65536 := qv17
            have ev17 : (A 11) (a2) = v17 := (congrFun ((funext (hA_19 11 rfl)).trans ((funext (hA10 11 rfl)).trans (funext (hA4 11 rfl)))) (a2)).symm.trans ev17
            refine w_icmpne (t := 94) rfl rfl (show inr (x19_3) from j19_0) (show inr (v17) from q_12 qv17) (fun b18 => ?_) (fun b18 => ?_)
            · refine Ew_of (pcₚ := 95) (fun _ => x_iload_n rfl l19_3) ?_
              exact w_ireturn rfl (k (x19_3) σ _ _ H (SF_trans (SF_trans (SF_trans (SF_refl) hS3 (any_sub rfl)) hS9 (any_sub rfl)) hS_19 (any_sub rfl)) (SA_trans (SA_trans (SA_trans (SA_refl) hA4 (any_subA rfl)) hA10 (any_subA rfl)) hA_19 (any_subA rfl)) (show inr (x19_3) from j19_0))
            · refine Ew_of (pcₚ := 91) (fun _ => x_iconst rfl) ?_
              refine Ew_of (pcₚ := 95) (fun _ => x_goto rfl rfl) ?_
              exact w_ireturn rfl (k ((-1)) σ _ _ H (SF_trans (SF_trans (SF_trans (SF_refl) hS3 (any_sub rfl)) hS9 (any_sub rfl)) hS_19 (any_sub rfl)) (SA_trans (SA_trans (SA_trans (SA_refl) hA4 (any_subA rfl)) hA10 (any_subA rfl)) hA_19 (any_subA rfl)) (show inr ((-1)) from q_16))
        · refine Ew_of (pcₚ := 30) (fun _ => x_iload_n rfl l19_3) ?_
          refine Ew_of (pcₚ := 31) (fun _ => x_aload_n rfl l19_0) ?_
          refine w_gT H (o := 0) (t := 11) rfl (H.perm 0 rfl) rfl rfl rfl rfl rfl rfl ?_
          refine Ew_of (pcₚ := 35) (fun _ => x_iload_n rfl l19_2) ?_
          refine w_lI H (o := 11) (n := 4) rfl (H.perm 11 rfl) rfl rfl (H.fix 11 rfl rfl) (show 0 ≤ a2 ∧ a2 < ((4 : Nat) : Int) from q_17 b12 pz11_0 pz11_1) (by decide) (fun v19 ev19 qv19 => ?_)
          have qv19 : (0 : Int) ≤ v19 ∧ v19 ≤ 65536 := qv19
          have ev19 : (A 11) (a2) = v19 := (congrFun ((funext (hA_19 11 rfl)).trans ((funext (hA10 11 rfl)).trans (funext (hA4 11 rfl)))) (a2)).symm.trans ev19
          refine w_icmpge (t := 70) rfl rfl (show inr (x19_3) from j19_0) (show inr (v19) from q_12 qv19) (fun b20 => ?_) (fun b20 => ?_)
          · refine Ew_of (pcₚ := 71) (fun _ => x_iload_n rfl l19_3) ?_
            refine Ew_of (pcₚ := 72) (fun _ => x_aload_n rfl l19_0) ?_
            refine w_gT H (o := 0) (t := 11) rfl (H.perm 0 rfl) rfl rfl rfl rfl rfl rfl ?_
            refine Ew_of (pcₚ := 76) (fun _ => x_iload_n rfl l19_1) ?_
            refine w_lI H (o := 11) (n := 4) rfl (H.perm 11 rfl) rfl rfl (H.fix 11 rfl rfl) (show 0 ≤ a1 ∧ a1 < ((4 : Nat) : Int) from q_17 b6 pz5_0 pz5_1) (by decide) (fun v21 ev21 qv21 => ?_)
            have qv21 : (0 : Int) ≤ v21 ∧ v21 ≤ 65536 := qv21
            have ev21 : (A 11) (a1) = v21 := (congrFun ((funext (hA_19 11 rfl)).trans ((funext (hA10 11 rfl)).trans (funext (hA4 11 rfl)))) (a1)).symm.trans ev21
            refine w_icmpne (t := 94) rfl rfl (show inr (x19_3) from j19_0) (show inr (v21) from q_12 qv21) (fun b22 => ?_) (fun b22 => ?_)
            · refine Ew_of (pcₚ := 95) (fun _ => x_iload_n rfl l19_3) ?_
              exact w_ireturn rfl (k (x19_3) σ _ _ H (SF_trans (SF_trans (SF_trans (SF_refl) hS3 (any_sub rfl)) hS9 (any_sub rfl)) hS_19 (any_sub rfl)) (SA_trans (SA_trans (SA_trans (SA_refl) hA4 (any_subA rfl)) hA10 (any_subA rfl)) hA_19 (any_subA rfl)) (show inr (x19_3) from j19_0))
            · refine Ew_of (pcₚ := 81) (fun _ => x_iload_n rfl l19_3) ?_
              refine Ew_of (pcₚ := 82) (fun _ => x_aload_n rfl l19_0) ?_
              refine w_gT H (o := 0) (t := 11) rfl (H.perm 0 rfl) rfl rfl rfl rfl rfl rfl ?_
              refine Ew_of (pcₚ := 86) (fun _ => x_iload_n rfl l19_2) ?_
              refine w_lI H (o := 11) (n := 4) rfl (H.perm 11 rfl) rfl rfl (H.fix 11 rfl rfl) (show 0 ≤ a2 ∧ a2 < ((4 : Nat) : Int) from q_17 b12 pz11_0 pz11_1) (by decide) (fun v23 ev23 qv23 => ?_)
              have qv23 : (0 : Int) ≤ v23 ∧ v23 ≤ 65536 := qv23
              have ev23 : (A 11) (a2) = v23 := (congrFun ((funext (hA_19 11 rfl)).trans ((funext (hA10 11 rfl)).trans (funext (hA4 11 rfl)))) (a2)).symm.trans ev23
              refine w_icmpne (t := 94) rfl rfl (show inr (x19_3) from j19_0) (show inr (v23) from q_12 qv23) (fun b24 => ?_) (fun b24 => ?_)
              · refine Ew_of (pcₚ := 95) (fun _ => x_iload_n rfl l19_3) ?_
                exact w_ireturn rfl (k (x19_3) σ _ _ H (SF_trans (SF_trans (SF_trans (SF_refl) hS3 (any_sub rfl)) hS9 (any_sub rfl)) hS_19 (any_sub rfl)) (SA_trans (SA_trans (SA_trans (SA_refl) hA4 (any_subA rfl)) hA10 (any_subA rfl)) hA_19 (any_subA rfl)) (show inr (x19_3) from j19_0))
              · refine Ew_of (pcₚ := 91) (fun _ => x_iconst rfl) ?_
                refine Ew_of (pcₚ := 95) (fun _ => x_goto rfl rfl) ?_
                exact w_ireturn rfl (k ((-1)) σ _ _ H (SF_trans (SF_trans (SF_trans (SF_refl) hS3 (any_sub rfl)) hS9 (any_sub rfl)) hS_19 (any_sub rfl)) (SA_trans (SA_trans (SA_trans (SA_refl) hA4 (any_subA rfl)) hA10 (any_subA rfl)) hA_19 (any_subA rfl)) (show inr ((-1)) from q_16))
          · refine Ew_of (pcₚ := 40) (fun _ => x_aload_n rfl l19_0) ?_
            refine w_gT H (o := 0) (t := 10) rfl (H.perm 0 rfl) rfl rfl rfl rfl rfl rfl ?_
            refine Ew_of (pcₚ := 45) (fun _ => x_ldc (z := 65536) rfl (by decide)) ?_
            refine Ew_of (pcₚ := 46) (fun _ => x_iload_n rfl l19_1) ?_
            refine w_imul rfl ?_
            refine Ew_of (pcₚ := 48) (fun _ => x_iload_n rfl l19_3) ?_
            refine w_iadd rfl ?_
            refine w_lI H (o := 10) (n := 262144) rfl (H.perm 10 rfl) rfl rfl (H.fix 10 rfl rfl) (show 0 ≤ ((65536 * a1) + x19_3) ∧ ((65536 * a1) + x19_3) < ((262144 : Nat) : Int) from q_108 b20 b6 j19_1 pz5_0 pz5_1 qv19) (by decide) (fun v25 ev25 qv25 => ?_)
            have qv25 : (0 : Int) ≤ v25 ∧ v25 ≤ 255 := qv25
            have ev25 : (A 10) (((65536 * a1) + x19_3)) = v25 := (congrFun ((funext (hA_19 10 rfl)).trans ((funext (hA10 10 rfl)).trans (funext (hA4 10 rfl)))) (((65536 * a1) + x19_3))).symm.trans ev25
            refine Ew_of (pcₚ := 51) (fun _ => x_aload_n rfl l19_0) ?_
            refine w_gT H (o := 0) (t := 10) rfl (H.perm 0 rfl) rfl rfl rfl rfl rfl rfl ?_
            refine Ew_of (pcₚ := 56) (fun _ => x_ldc (z := 65536) rfl (by decide)) ?_
            refine Ew_of (pcₚ := 57) (fun _ => x_iload_n rfl l19_2) ?_
            refine w_imul rfl ?_
            refine Ew_of (pcₚ := 59) (fun _ => x_iload_n rfl l19_3) ?_
            refine w_iadd rfl ?_
            refine w_lI H (o := 10) (n := 262144) rfl (H.perm 10 rfl) rfl rfl (H.fix 10 rfl rfl) (show 0 ≤ ((65536 * a2) + x19_3) ∧ ((65536 * a2) + x19_3) < ((262144 : Nat) : Int) from q_109 b12 b20 j19_1 pz11_0 pz11_1 qv19) (by decide) (fun v26 ev26 qv26 => ?_)
            have qv26 : (0 : Int) ≤ v26 ∧ v26 ≤ 255 := qv26
            have ev26 : (A 10) (((65536 * a2) + x19_3)) = v26 := (congrFun ((funext (hA_19 10 rfl)).trans ((funext (hA10 10 rfl)).trans (funext (hA4 10 rfl)))) (((65536 * a2) + x19_3))).symm.trans ev26
            refine w_icmpne (t := 70) rfl rfl (show inr (v25) from q_38 qv25) (show inr (v26) from q_38 qv26) (fun b27 => ?_) (fun b27 => ?_)
            · refine Ew_of (pcₚ := 71) (fun _ => x_iload_n rfl l19_3) ?_
              refine Ew_of (pcₚ := 72) (fun _ => x_aload_n rfl l19_0) ?_
              refine w_gT H (o := 0) (t := 11) rfl (H.perm 0 rfl) rfl rfl rfl rfl rfl rfl ?_
              refine Ew_of (pcₚ := 76) (fun _ => x_iload_n rfl l19_1) ?_
              refine w_lI H (o := 11) (n := 4) rfl (H.perm 11 rfl) rfl rfl (H.fix 11 rfl rfl) (show 0 ≤ a1 ∧ a1 < ((4 : Nat) : Int) from q_17 b6 pz5_0 pz5_1) (by decide) (fun v28 ev28 qv28 => ?_)
              have qv28 : (0 : Int) ≤ v28 ∧ v28 ≤ 65536 := qv28
              have ev28 : (A 11) (a1) = v28 := (congrFun ((funext (hA_19 11 rfl)).trans ((funext (hA10 11 rfl)).trans (funext (hA4 11 rfl)))) (a1)).symm.trans ev28
              refine w_icmpne (t := 94) rfl rfl (show inr (x19_3) from j19_0) (show inr (v28) from q_12 qv28) (fun b29 => ?_) (fun b29 => ?_)
              · refine Ew_of (pcₚ := 95) (fun _ => x_iload_n rfl l19_3) ?_
                exact w_ireturn rfl (k (x19_3) σ _ _ H (SF_trans (SF_trans (SF_trans (SF_refl) hS3 (any_sub rfl)) hS9 (any_sub rfl)) hS_19 (any_sub rfl)) (SA_trans (SA_trans (SA_trans (SA_refl) hA4 (any_subA rfl)) hA10 (any_subA rfl)) hA_19 (any_subA rfl)) (show inr (x19_3) from j19_0))
              · refine Ew_of (pcₚ := 81) (fun _ => x_iload_n rfl l19_3) ?_
                refine Ew_of (pcₚ := 82) (fun _ => x_aload_n rfl l19_0) ?_
                refine w_gT H (o := 0) (t := 11) rfl (H.perm 0 rfl) rfl rfl rfl rfl rfl rfl ?_
                refine Ew_of (pcₚ := 86) (fun _ => x_iload_n rfl l19_2) ?_
                refine w_lI H (o := 11) (n := 4) rfl (H.perm 11 rfl) rfl rfl (H.fix 11 rfl rfl) (show 0 ≤ a2 ∧ a2 < ((4 : Nat) : Int) from q_17 b12 pz11_0 pz11_1) (by decide) (fun v30 ev30 qv30 => ?_)
                have qv30 : (0 : Int) ≤ v30 ∧ v30 ≤ 65536 := qv30
                have ev30 : (A 11) (a2) = v30 := (congrFun ((funext (hA_19 11 rfl)).trans ((funext (hA10 11 rfl)).trans (funext (hA4 11 rfl)))) (a2)).symm.trans ev30
                refine w_icmpne (t := 94) rfl rfl (show inr (x19_3) from j19_0) (show inr (v30) from q_12 qv30) (fun b31 => ?_) (fun b31 => ?_)
                · refine Ew_of (pcₚ := 95) (fun _ => x_iload_n rfl l19_3) ?_
                  exact w_ireturn rfl (k (x19_3) σ _ _ H (SF_trans (SF_trans (SF_trans (SF_refl) hS3 (any_sub rfl)) hS9 (any_sub rfl)) hS_19 (any_sub rfl)) (SA_trans (SA_trans (SA_trans (SA_refl) hA4 (any_subA rfl)) hA10 (any_subA rfl)) hA_19 (any_subA rfl)) (show inr (x19_3) from j19_0))
                · refine Ew_of (pcₚ := 91) (fun _ => x_iconst rfl) ?_
                  refine Ew_of (pcₚ := 95) (fun _ => x_goto rfl rfl) ?_
                  exact w_ireturn rfl (k ((-1)) σ _ _ H (SF_trans (SF_trans (SF_trans (SF_refl) hS3 (any_sub rfl)) hS9 (any_sub rfl)) hS_19 (any_sub rfl)) (SA_trans (SA_trans (SA_trans (SA_refl) hA4 (any_subA rfl)) hA10 (any_subA rfl)) hA_19 (any_subA rfl)) (show inr ((-1)) from q_16))
            · refine Ew_of (pcₚ := 67) (fun _ => x_iinc (len := 3) rfl (l19_3)) ?_
              refine Ew_of (pcₚ := 19) (fun _ => x_goto rfl rfl) ?_
              exact ih19 _ (msE hm19 q_31 (q_32 b14 ev13)) _ σ _ _ ((x19_3 + 1)) (rk_o (l19_0) rfl rfl) (rk_o (l19_1) rfl rfl) (rk_o (l19_2) rfl rfl) (rk_s) H (hS_19) (hA_19)   (show inr ((x19_3 + 1)) from q_30 b20 j19_1 qv19) (show (0) ≤ ((x19_3 + 1)) from q_29 j19_1) (show ((x19_3 + 1)) ≤ (0) ∨ ((x19_3 + 1)) ≤ ((A 11) ((a1))) from q_28 b14 ev13) rfl
    · refine Ew_of (pcₚ := 16) (fun _ => x_bipush (z := -2) rfl (by decide)) ?_
      exact w_ireturn rfl (k ((-2)) σ _ _ H (SF_trans (SF_trans (SF_refl) hS3 (any_sub rfl)) hS9 (any_sub rfl)) (SA_trans (SA_trans (SA_refl) hA4 (any_subA rfl)) hA10 (any_subA rfl)) (show inr ((-2)) from q_107))
/-- Tags.putNumber -/
theorem M321 {σ0 σ : rS} {D N : Nat → Nat} {F : hF} {A : hA} {d c s : Nat} {Q : wQ} (H : HS σ0 σ D N F A) {a1 a2 : Int} (u4_2 : Int) (eu4_2 : F 4 2 = u4_2) (h0 : inr (a1)) (h1 : inr (a2)) (h2 : 0 ≤ (a2) ∧ (a2) ≤ 4) (h3 : 0 ≤ (u4_2) ∧ (u4_2) ≤ 10000000) (k : ∀ σ Fₚ Aₚ, HS σ0 σ D N Fₚ Aₚ → SF [(4, 2)] F Fₚ → SA [23] A Aₚ → ∀ y4_2 : Int, Fₚ 4 2 = y4_2 → ((y4_2) = (u4_2) + (a2)) → Q none σ c s) : Ew 321 (d + 1) 0 (rargs 0 [.ref (D 4), I a1, I a2]) [] σ c s Q := by
  have r1 : (-2147483648 : Int) ≤ u4_2 ∧ u4_2 ≤ 2147483647 := rngE (show (-2147483648 : Int) ≤ F 4 2 ∧ F 4 2 ≤ 2147483647 from H.frng 4 2) (show F 4 2 = u4_2 from (eu4_2))
  refine Ew_of (pcₚ := 1) (fun _ => x_iconst rfl) ?_
  refine Ew_of (pcₚ := 2) (fun _ => x_istore_n rfl) ?_
  suffices hl2 : ∀ (m : Nat), ∀ (ls : rO) (σ : rS) (F_2 : hF) (A_2 : hA) (x2_3 : Int), rlook ls 0 = some (.ref (D 4)) → rlook ls 1 = some (I (a1)) → rlook ls 2 = some (I (a2)) → rlook ls 3 = some (I (x2_3)) → HS σ0 σ D N F_2 A_2 → SF [(4, 2)] F F_2 → SA [23] A A_2 → ∀ y2_4_2 : Int, F_2 4 2 = y2_4_2 → (inr (x2_3)) → ((0) ≤ (x2_3)) → ((x2_3) ≤ (0) ∨ (x2_3) ≤ ((a2))) → ((y2_4_2) = (u4_2) + (x2_3)) → (((a2)) - (x2_3)).toNat = m → Ew 321 (d + 1) 2 ls [] σ c s Q from
    hl2 _ _ σ _ _ (0) (rk_o (rfl) rfl rfl) (rk_o (rfl) rfl rfl) (rk_o (rfl) rfl rfl) (rk_s) H (SF_refl) (SA_refl) (u4_2) ((eu4_2))  (show inr (0) from q_20) (show (0) ≤ (0) from q_25) (show (0) ≤ (0) ∨ (0) ≤ ((a2)) from q_24) (show (u4_2) = (u4_2) + (0) from q_110) rfl
  as_aux_lemma =>
  intro m
  induction m using Nat.strongRecOn with
  | _ m ih2 =>
    intro ls σ F_2 A_2 x2_3 l2_0 l2_1 l2_2 l2_3 H hS_2 hA_2 y2_4_2 ey2_4_2  j2_0 j2_1 j2_2 j2_3 hm2
    have r2 : (-2147483648 : Int) ≤ y2_4_2 ∧ y2_4_2 ≤ 2147483647 := rngE (show (-2147483648 : Int) ≤ F_2 4 2 ∧ F_2 4 2 ≤ 2147483647 from H.frng 4 2) (show F_2 4 2 = y2_4_2 from (ey2_4_2))
    refine Ew_of (pcₚ := 3) (fun _ => x_iload_n rfl l2_3) ?_
    refine Ew_of (pcₚ := 4) (fun _ => x_iload_n rfl l2_2) ?_
    refine w_icmpge (t := 23) rfl rfl (show inr (x2_3) from j2_0) (show inr (a2) from h1) (fun b3 => ?_) (fun b3 => ?_)
    · exact w_ret rfl (k σ _ _ H (SF_trans (SF_refl) hS_2 (any_sub rfl)) (SA_trans (SA_refl) hA_2 (any_subA rfl)) (y2_4_2) ((ey2_4_2)) (show (y2_4_2) = (u4_2) + a2 from q_111 b3 h2 j2_2 j2_3))
    · refine Ew_of (pcₚ := 8) (fun _ => x_aload_n rfl l2_0) ?_
      refine Ew_of (pcₚ := 9) (fun _ => x_iload_n rfl l2_1) ?_
      refine Ew_of (pcₚ := 11) (fun _ => x_bipush (z := 8) rfl (by decide)) ?_
      refine Ew_of (pcₚ := 12) (fun _ => x_iload_n rfl l2_3) ?_
      refine w_imul rfl ?_
      refine w_iushrA rfl (fun z4 gz4 => ?_)
      refine w_inv H (o := 4) rfl rfl rfl (H.perm 4 rfl) rfl rfl (by rfl) (M320 H (y2_4_2) ((ey2_4_2)) (show inr (z4) from gz4) (show 0 ≤ (y2_4_2) ∧ (y2_4_2) ≤ 100000000 from q_112 b3 h2 h3 j2_1 j2_3 r2) (fun σ F5 A6 H hS7 hA8 y10 ey11 pz9_0 => ⟨rfl, ?_⟩))
      have r12 : (-2147483648 : Int) ≤ y10 ∧ y10 ≤ 2147483647 := rngE (show (-2147483648 : Int) ≤ F5 4 2 ∧ F5 4 2 ≤ 2147483647 from H.frng 4 2) (show F5 4 2 = y10 from (ey11))
      refine Ew_of (pcₚ := 20) (fun _ => x_iinc (len := 3) rfl (l2_3)) ?_
      refine Ew_of (pcₚ := 2) (fun _ => x_goto rfl rfl) ?_
      exact ih2 _ (msE hm2 q_31 (q_34 b3)) _ σ _ _ ((x2_3 + 1)) (rk_o (l2_0) rfl rfl) (rk_o (l2_1) rfl rfl) (rk_o (l2_2) rfl rfl) (rk_s) H (SF_trans (hS_2) hS7 (any_sub rfl)) (SA_trans (hA_2) hA8 (any_subA rfl)) (y10) ((ey11))  (show inr ((x2_3 + 1)) from q_114 b3 h2 j2_1) (show (0) ≤ ((x2_3 + 1)) from q_29 j2_1) (show ((x2_3 + 1)) ≤ (0) ∨ ((x2_3 + 1)) ≤ ((a2)) from q_33 b3) (show (y10) = (u4_2) + ((x2_3 + 1)) from q_113 j2_3 pz9_0) rfl
/-- Tags.settle -/
theorem M322 {σ0 σ : rS} {D N : Nat → Nat} {F : hF} {A : hA} {d c s : Nat} {Q : wQ} (H : HS σ0 σ D N F A)  (u4_2 : Int) (eu4_2 : F 4 2 = u4_2) (h0 : 0 ≤ (u4_2) ∧ (u4_2) ≤ 65536) (k : ∀ (z : Int) σ Fₚ Aₚ, HS σ0 σ D N Fₚ Aₚ → SF [(1, 3)] F Fₚ → SA [15] A Aₚ → (inr (z)) → Q (some (I z)) σ c s) : Ew 322 (d + 0) 0 (rargs 0 [.ref (D 4)]) [] σ c s Q := by
  have r1 : (-2147483648 : Int) ≤ u4_2 ∧ u4_2 ≤ 2147483647 := rngE (show (-2147483648 : Int) ≤ F 4 2 ∧ F 4 2 ≤ 2147483647 from H.frng 4 2) (show F 4 2 = u4_2 from (eu4_2))
  refine Ew_of (pcₚ := 1) (fun _ => x_iconst rfl) ?_
  refine Ew_of (pcₚ := 2) (fun _ => x_istore_n rfl) ?_
  suffices hl2 : ∀ (m : Nat), ∀ (ls : rO) (σ : rS) (F_2 : hF) (A_2 : hA) (x2_1 : Int), rlook ls 0 = some (.ref (D 4)) → rlook ls 1 = some (I (x2_1)) → HS σ0 σ D N F_2 A_2 → SF [] F F_2 → SA [15] A A_2 → (inr (x2_1)) → ((0) ≤ (x2_1)) → ((x2_1) ≤ (0) ∨ (x2_1) ≤ ((u4_2))) → (((u4_2)) - (x2_1)).toNat = m → Ew 322 (d + 0) 2 ls [] σ c s Q from
    hl2 _ _ σ _ _ (0) (rk_o (rfl) rfl rfl) (rk_s) H (SF_refl) (SA_refl)   (show inr (0) from q_20) (show (0) ≤ (0) from q_25) (show (0) ≤ (0) ∨ (0) ≤ ((u4_2)) from q_24) rfl
  as_aux_lemma =>
  intro m
  induction m using Nat.strongRecOn with
  | _ m ih2 =>
    intro ls σ F_2 A_2 x2_1 l2_0 l2_1 H hS_2 hA_2   j2_0 j2_1 j2_2 hm2
    refine Ew_of (pcₚ := 3) (fun _ => x_iload_n rfl l2_1) ?_
    refine Ew_of (pcₚ := 4) (fun _ => x_aload_n rfl l2_0) ?_
    refine w_gI H (o := 4) (w := u4_2) rfl (H.perm 4 rfl) rfl rfl rfl (fun _ => rfl) ((hS_2 4 2 rfl).trans (eu4_2)) ?_
    refine w_icmpge (t := 31) rfl rfl (show inr (x2_1) from j2_0) (show inr (u4_2) from q_12 h0) (fun b2 => ?_) (fun b2 => ?_)
    · refine Ew_of (pcₚ := 32) (fun _ => x_aload_n rfl l2_0) ?_
      refine w_gT H (o := 4) (t := 1) rfl (H.perm 4 rfl) rfl rfl rfl rfl rfl rfl ?_
      refine Ew_of (pcₚ := 36) (fun _ => x_aload_n rfl l2_0) ?_
      refine w_gI H (o := 4) (w := u4_2) rfl (H.perm 4 rfl) rfl rfl rfl (fun _ => rfl) ((hS_2 4 2 rfl).trans (eu4_2)) ?_
      refine w_pI H (o := 1) rfl rfl (H.perm 1 rfl) rfl rfl rfl (fun _ => rfl) rfl (show (0 : Int) ≤ u4_2 ∧ u4_2 ≤ 65536 from h0) (fun σ H => ?_)
      refine Ew_of (pcₚ := 43) (fun _ => x_aload_n rfl l2_0) ?_
      refine w_gT H (o := 4) (t := 1) rfl (H.perm 4 rfl) rfl rfl rfl rfl rfl rfl ?_
      refine w_gI H (o := 1) (w := u4_2) rfl (H.perm 1 rfl) rfl rfl rfl (fun _ => rfl) rfl ?_
      exact w_ireturn rfl (k (u4_2) σ _ _ H (SF_upd (SF_trans (SF_refl) hS_2 (any_sub rfl)) rfl) (SA_trans (SA_refl) hA_2 (any_subA rfl)) (show inr (u4_2) from q_12 h0))
    · refine Ew_of (pcₚ := 11) (fun _ => x_aload_n rfl l2_0) ?_
      refine w_gT H (o := 4) (t := 1) rfl (H.perm 4 rfl) rfl rfl rfl rfl rfl rfl ?_
      refine w_gT H (o := 1) (t := 15) rfl (H.perm 1 rfl) rfl rfl rfl rfl rfl rfl ?_
      refine Ew_of (pcₚ := 18) (fun _ => x_iload_n rfl l2_1) ?_
      refine Ew_of (pcₚ := 19) (fun _ => x_aload_n rfl l2_0) ?_
      refine w_gT H (o := 4) (t := 23) rfl (H.perm 4 rfl) rfl rfl rfl rfl rfl rfl ?_
      refine Ew_of (pcₚ := 23) (fun _ => x_iload_n rfl l2_1) ?_
      refine w_lI H (o := 23) (n := 70000) rfl (H.perm 23 rfl) rfl rfl (H.fix 23 rfl rfl) (show 0 ≤ x2_1 ∧ x2_1 < ((70000 : Nat) : Int) from q_115 b2 h0 j2_1) (by decide) (fun v3 ev3 qv3 => ?_)
      have qv3 : (0 : Int) ≤ v3 ∧ v3 ≤ 255 := qv3
      have ev3 : (A 23) (x2_1) = v3 := (congrFun (funext (hA_2 23 rfl)) (x2_1)).symm.trans ev3
      refine w_sI H (o := 15) (n := 65536) rfl (H.perm 15 rfl) rfl rfl (H.fix 15 rfl rfl) (show 0 ≤ x2_1 ∧ x2_1 < ((65536 : Nat) : Int) from q_116 b2 h0 j2_1) (by decide) (show (0 : Int) ≤ v3 ∧ v3 ≤ 255 from qv3) (fun σ H => ?_)
      refine Ew_of (pcₚ := 28) (fun _ => x_iinc (len := 3) rfl (l2_1)) ?_
      refine Ew_of (pcₚ := 2) (fun _ => x_goto rfl rfl) ?_
      exact ih2 _ (msE hm2 q_31 (q_34 b2)) _ σ _ _ ((x2_1 + 1)) (rk_o (l2_0) rfl rfl) (rk_s) H (hS_2) (SA_upd (hA_2) rfl)   (show inr ((x2_1 + 1)) from q_117 b2 h0 j2_1) (show (0) ≤ ((x2_1 + 1)) from q_29 j2_1) (show ((x2_1 + 1)) ≤ (0) ∨ ((x2_1 + 1)) ≤ ((u4_2)) from q_33 b2) rfl
/-- Tokens.word -/
theorem M358_19 {σ0 σ : rS} {D N : Nat → Nat} {F : hF} {A : hA} {d c s : Nat} {Q : wQ} (H : HS σ0 σ D N F A) {a2 : Int} (h0 : inr (a2)) (h1 : 0 ≤ (a2) ∧ (a2) + 3 < 70000) (k : ∀ (z : Int) σ Fₚ Aₚ, HS σ0 σ D N Fₚ Aₚ → SF [] F Fₚ → SA [] A Aₚ → (inrJ (z)) → Q (some (J z)) σ c s) : Ew 358 (d + 0) 0 (rargs 0 [.ref (D 19), I a2]) [] σ c s Q := by
  refine Ew_of (pcₚ := 1) (fun _ => x_aload_n rfl rfl) ?_
  refine Ew_of (pcₚ := 2) (fun _ => x_iload_n rfl rfl) ?_
  refine w_lI H (o := 19) (n := 70000) rfl (H.perm 19 rfl) rfl rfl (H.fix 19 rfl rfl) (show 0 ≤ a2 ∧ a2 < ((70000 : Nat) : Int) from q_118 h1) (by decide) (fun v1 ev1 qv1 => ?_)
  have qv1 : (0 : Int) ≤ v1 ∧ v1 ≤ 255 := qv1
  have ev1 : (A 19) (a2) = v1 := (congrFun (rfl : A 19 = A 19) (a2)).symm.trans ev1
  refine w_i2l rfl (show inr (v1) from q_38 qv1) ?_
  refine Ew_of (pcₚ := 5) (fun _ => x_aload_n rfl rfl) ?_
  refine Ew_of (pcₚ := 6) (fun _ => x_iload_n rfl rfl) ?_
  refine Ew_of (pcₚ := 7) (fun _ => x_iconst rfl) ?_
  refine w_iadd rfl ?_
  refine w_lI H (o := 19) (n := 70000) rfl (H.perm 19 rfl) rfl rfl (H.fix 19 rfl rfl) (show 0 ≤ (a2 + 1) ∧ (a2 + 1) < ((70000 : Nat) : Int) from q_119 h1) (by decide) (fun v2 ev2 qv2 => ?_)
  have qv2 : (0 : Int) ≤ v2 ∧ v2 ≤ 255 := qv2
  have ev2 : (A 19) ((a2 + 1)) = v2 := (congrFun (rfl : A 19 = A 19) ((a2 + 1))).symm.trans ev2
  refine w_i2l rfl (show inr (v2) from q_38 qv2) ?_
  refine Ew_of (pcₚ := 12) (fun _ => x_bipush (z := 8) rfl (by decide)) ?_
  refine w_lshlA rfl (fun z3 gz3 => ?_)
  refine w_lorA rfl (fun z4 gz4 => ?_)
  refine Ew_of (pcₚ := 15) (fun _ => x_aload_n rfl rfl) ?_
  refine Ew_of (pcₚ := 16) (fun _ => x_iload_n rfl rfl) ?_
  refine Ew_of (pcₚ := 17) (fun _ => x_iconst rfl) ?_
  refine w_iadd rfl ?_
  refine w_lI H (o := 19) (n := 70000) rfl (H.perm 19 rfl) rfl rfl (H.fix 19 rfl rfl) (show 0 ≤ (a2 + 2) ∧ (a2 + 2) < ((70000 : Nat) : Int) from q_120 h1) (by decide) (fun v5 ev5 qv5 => ?_)
  have qv5 : (0 : Int) ≤ v5 ∧ v5 ≤ 255 := qv5
  have ev5 : (A 19) ((a2 + 2)) = v5 := (congrFun (rfl : A 19 = A 19) ((a2 + 2))).symm.trans ev5
  refine w_i2l rfl (show inr (v5) from q_38 qv5) ?_
  refine Ew_of (pcₚ := 22) (fun _ => x_bipush (z := 16) rfl (by decide)) ?_
  refine w_lshlA rfl (fun z6 gz6 => ?_)
  refine w_lorA rfl (fun z7 gz7 => ?_)
  refine Ew_of (pcₚ := 25) (fun _ => x_aload_n rfl rfl) ?_
  refine Ew_of (pcₚ := 26) (fun _ => x_iload_n rfl rfl) ?_
  refine Ew_of (pcₚ := 27) (fun _ => x_iconst rfl) ?_
  refine w_iadd rfl ?_
  refine w_lI H (o := 19) (n := 70000) rfl (H.perm 19 rfl) rfl rfl (H.fix 19 rfl rfl) (show 0 ≤ (a2 + 3) ∧ (a2 + 3) < ((70000 : Nat) : Int) from q_121 h1) (by decide) (fun v8 ev8 qv8 => ?_)
  have qv8 : (0 : Int) ≤ v8 ∧ v8 ≤ 255 := qv8
  have ev8 : (A 19) ((a2 + 3)) = v8 := (congrFun (rfl : A 19 = A 19) ((a2 + 3))).symm.trans ev8
  refine w_i2l rfl (show inr (v8) from q_38 qv8) ?_
  refine Ew_of (pcₚ := 32) (fun _ => x_bipush (z := 24) rfl (by decide)) ?_
  refine w_lshlA rfl (fun z9 gz9 => ?_)
  refine w_lorA rfl (fun z10 gz10 => ?_)
  exact w_lreturn rfl (k (z10) σ _ _ H (SF_refl) (SA_refl) (show inrJ (z10) from gz10))
/-- Tokens.word -/
theorem M358_20 {σ0 σ : rS} {D N : Nat → Nat} {F : hF} {A : hA} {d c s : Nat} {Q : wQ} (H : HS σ0 σ D N F A) {a2 : Int} (h0 : inr (a2)) (h1 : 0 ≤ (a2) ∧ (a2) + 3 < 70000) (k : ∀ (z : Int) σ Fₚ Aₚ, HS σ0 σ D N Fₚ Aₚ → SF [] F Fₚ → SA [] A Aₚ → (inrJ (z)) → Q (some (J z)) σ c s) : Ew 358 (d + 0) 0 (rargs 0 [.ref (D 20), I a2]) [] σ c s Q := by
  refine Ew_of (pcₚ := 1) (fun _ => x_aload_n rfl rfl) ?_
  refine Ew_of (pcₚ := 2) (fun _ => x_iload_n rfl rfl) ?_
  refine w_lI H (o := 20) (n := 70000) rfl (H.perm 20 rfl) rfl rfl (H.fix 20 rfl rfl) (show 0 ≤ a2 ∧ a2 < ((70000 : Nat) : Int) from q_118 h1) (by decide) (fun v1 ev1 qv1 => ?_)
  have qv1 : (0 : Int) ≤ v1 ∧ v1 ≤ 255 := qv1
  have ev1 : (A 20) (a2) = v1 := (congrFun (rfl : A 20 = A 20) (a2)).symm.trans ev1
  refine w_i2l rfl (show inr (v1) from q_38 qv1) ?_
  refine Ew_of (pcₚ := 5) (fun _ => x_aload_n rfl rfl) ?_
  refine Ew_of (pcₚ := 6) (fun _ => x_iload_n rfl rfl) ?_
  refine Ew_of (pcₚ := 7) (fun _ => x_iconst rfl) ?_
  refine w_iadd rfl ?_
  refine w_lI H (o := 20) (n := 70000) rfl (H.perm 20 rfl) rfl rfl (H.fix 20 rfl rfl) (show 0 ≤ (a2 + 1) ∧ (a2 + 1) < ((70000 : Nat) : Int) from q_119 h1) (by decide) (fun v2 ev2 qv2 => ?_)
  have qv2 : (0 : Int) ≤ v2 ∧ v2 ≤ 255 := qv2
  have ev2 : (A 20) ((a2 + 1)) = v2 := (congrFun (rfl : A 20 = A 20) ((a2 + 1))).symm.trans ev2
  refine w_i2l rfl (show inr (v2) from q_38 qv2) ?_
  refine Ew_of (pcₚ := 12) (fun _ => x_bipush (z := 8) rfl (by decide)) ?_
  refine w_lshlA rfl (fun z3 gz3 => ?_)
  refine w_lorA rfl (fun z4 gz4 => ?_)
  refine Ew_of (pcₚ := 15) (fun _ => x_aload_n rfl rfl) ?_
  refine Ew_of (pcₚ := 16) (fun _ => x_iload_n rfl rfl) ?_
  refine Ew_of (pcₚ := 17) (fun _ => x_iconst rfl) ?_
  refine w_iadd rfl ?_
  refine w_lI H (o := 20) (n := 70000) rfl (H.perm 20 rfl) rfl rfl (H.fix 20 rfl rfl) (show 0 ≤ (a2 + 2) ∧ (a2 + 2) < ((70000 : Nat) : Int) from q_120 h1) (by decide) (fun v5 ev5 qv5 => ?_)
  have qv5 : (0 : Int) ≤ v5 ∧ v5 ≤ 255 := qv5
  have ev5 : (A 20) ((a2 + 2)) = v5 := (congrFun (rfl : A 20 = A 20) ((a2 + 2))).symm.trans ev5
  refine w_i2l rfl (show inr (v5) from q_38 qv5) ?_
  refine Ew_of (pcₚ := 22) (fun _ => x_bipush (z := 16) rfl (by decide)) ?_
  refine w_lshlA rfl (fun z6 gz6 => ?_)
  refine w_lorA rfl (fun z7 gz7 => ?_)
  refine Ew_of (pcₚ := 25) (fun _ => x_aload_n rfl rfl) ?_
  refine Ew_of (pcₚ := 26) (fun _ => x_iload_n rfl rfl) ?_
  refine Ew_of (pcₚ := 27) (fun _ => x_iconst rfl) ?_
  refine w_iadd rfl ?_
  refine w_lI H (o := 20) (n := 70000) rfl (H.perm 20 rfl) rfl rfl (H.fix 20 rfl rfl) (show 0 ≤ (a2 + 3) ∧ (a2 + 3) < ((70000 : Nat) : Int) from q_121 h1) (by decide) (fun v8 ev8 qv8 => ?_)
  have qv8 : (0 : Int) ≤ v8 ∧ v8 ≤ 255 := qv8
  have ev8 : (A 20) ((a2 + 3)) = v8 := (congrFun (rfl : A 20 = A 20) ((a2 + 3))).symm.trans ev8
  refine w_i2l rfl (show inr (v8) from q_38 qv8) ?_
  refine Ew_of (pcₚ := 32) (fun _ => x_bipush (z := 24) rfl (by decide)) ?_
  refine w_lshlA rfl (fun z9 gz9 => ?_)
  refine w_lorA rfl (fun z10 gz10 => ?_)
  exact w_lreturn rfl (k (z10) σ _ _ H (SF_refl) (SA_refl) (show inrJ (z10) from gz10))
/-- Tokens.word -/
theorem M358_14 {σ0 σ : rS} {D N : Nat → Nat} {F : hF} {A : hA} {d c s : Nat} {Q : wQ} (H : HS σ0 σ D N F A) {a2 : Int} (h0 : inr (a2)) (h1 : 0 ≤ (a2) ∧ (a2) + 3 < 65536) (k : ∀ (z : Int) σ Fₚ Aₚ, HS σ0 σ D N Fₚ Aₚ → SF [] F Fₚ → SA [] A Aₚ → (inrJ (z)) → Q (some (J z)) σ c s) : Ew 358 (d + 0) 0 (rargs 0 [.ref (D 14), I a2]) [] σ c s Q := by
  refine Ew_of (pcₚ := 1) (fun _ => x_aload_n rfl rfl) ?_
  refine Ew_of (pcₚ := 2) (fun _ => x_iload_n rfl rfl) ?_
  refine w_lI H (o := 14) (n := 65536) rfl (H.perm 14 rfl) rfl rfl (H.fix 14 rfl rfl) (show 0 ≤ a2 ∧ a2 < ((65536 : Nat) : Int) from q_122 h1) (by decide) (fun v1 ev1 qv1 => ?_)
  have qv1 : (0 : Int) ≤ v1 ∧ v1 ≤ 255 := qv1
  have ev1 : (A 14) (a2) = v1 := (congrFun (rfl : A 14 = A 14) (a2)).symm.trans ev1
  refine w_i2l rfl (show inr (v1) from q_38 qv1) ?_
  refine Ew_of (pcₚ := 5) (fun _ => x_aload_n rfl rfl) ?_
  refine Ew_of (pcₚ := 6) (fun _ => x_iload_n rfl rfl) ?_
  refine Ew_of (pcₚ := 7) (fun _ => x_iconst rfl) ?_
  refine w_iadd rfl ?_
  refine w_lI H (o := 14) (n := 65536) rfl (H.perm 14 rfl) rfl rfl (H.fix 14 rfl rfl) (show 0 ≤ (a2 + 1) ∧ (a2 + 1) < ((65536 : Nat) : Int) from q_123 h1) (by decide) (fun v2 ev2 qv2 => ?_)
  have qv2 : (0 : Int) ≤ v2 ∧ v2 ≤ 255 := qv2
  have ev2 : (A 14) ((a2 + 1)) = v2 := (congrFun (rfl : A 14 = A 14) ((a2 + 1))).symm.trans ev2
  refine w_i2l rfl (show inr (v2) from q_38 qv2) ?_
  refine Ew_of (pcₚ := 12) (fun _ => x_bipush (z := 8) rfl (by decide)) ?_
  refine w_lshlA rfl (fun z3 gz3 => ?_)
  refine w_lorA rfl (fun z4 gz4 => ?_)
  refine Ew_of (pcₚ := 15) (fun _ => x_aload_n rfl rfl) ?_
  refine Ew_of (pcₚ := 16) (fun _ => x_iload_n rfl rfl) ?_
  refine Ew_of (pcₚ := 17) (fun _ => x_iconst rfl) ?_
  refine w_iadd rfl ?_
  refine w_lI H (o := 14) (n := 65536) rfl (H.perm 14 rfl) rfl rfl (H.fix 14 rfl rfl) (show 0 ≤ (a2 + 2) ∧ (a2 + 2) < ((65536 : Nat) : Int) from q_124 h1) (by decide) (fun v5 ev5 qv5 => ?_)
  have qv5 : (0 : Int) ≤ v5 ∧ v5 ≤ 255 := qv5
  have ev5 : (A 14) ((a2 + 2)) = v5 := (congrFun (rfl : A 14 = A 14) ((a2 + 2))).symm.trans ev5
  refine w_i2l rfl (show inr (v5) from q_38 qv5) ?_
  refine Ew_of (pcₚ := 22) (fun _ => x_bipush (z := 16) rfl (by decide)) ?_
  refine w_lshlA rfl (fun z6 gz6 => ?_)
  refine w_lorA rfl (fun z7 gz7 => ?_)
  refine Ew_of (pcₚ := 25) (fun _ => x_aload_n rfl rfl) ?_
  refine Ew_of (pcₚ := 26) (fun _ => x_iload_n rfl rfl) ?_
  refine Ew_of (pcₚ := 27) (fun _ => x_iconst rfl) ?_
  refine w_iadd rfl ?_
  refine w_lI H (o := 14) (n := 65536) rfl (H.perm 14 rfl) rfl rfl (H.fix 14 rfl rfl) (show 0 ≤ (a2 + 3) ∧ (a2 + 3) < ((65536 : Nat) : Int) from q_125 h1) (by decide) (fun v8 ev8 qv8 => ?_)
  have qv8 : (0 : Int) ≤ v8 ∧ v8 ≤ 255 := qv8
  have ev8 : (A 14) ((a2 + 3)) = v8 := (congrFun (rfl : A 14 = A 14) ((a2 + 3))).symm.trans ev8
  refine w_i2l rfl (show inr (v8) from q_38 qv8) ?_
  refine Ew_of (pcₚ := 32) (fun _ => x_bipush (z := 24) rfl (by decide)) ?_
  refine w_lshlA rfl (fun z9 gz9 => ?_)
  refine w_lorA rfl (fun z10 gz10 => ?_)
  exact w_lreturn rfl (k (z10) σ _ _ H (SF_refl) (SA_refl) (show inrJ (z10) from gz10))
/-- Tokens.word -/
theorem M358_22 {σ0 σ : rS} {D N : Nat → Nat} {F : hF} {A : hA} {d c s : Nat} {Q : wQ} (H : HS σ0 σ D N F A) {a2 : Int} (h0 : inr (a2)) (h1 : 0 ≤ (a2) ∧ (a2) + 3 < 65536) (k : ∀ (z : Int) σ Fₚ Aₚ, HS σ0 σ D N Fₚ Aₚ → SF [] F Fₚ → SA [] A Aₚ → (inrJ (z)) → Q (some (J z)) σ c s) : Ew 358 (d + 0) 0 (rargs 0 [.ref (D 22), I a2]) [] σ c s Q := by
  refine Ew_of (pcₚ := 1) (fun _ => x_aload_n rfl rfl) ?_
  refine Ew_of (pcₚ := 2) (fun _ => x_iload_n rfl rfl) ?_
  refine w_lI H (o := 22) (n := 65536) rfl (H.perm 22 rfl) rfl rfl (H.fix 22 rfl rfl) (show 0 ≤ a2 ∧ a2 < ((65536 : Nat) : Int) from q_122 h1) (by decide) (fun v1 ev1 qv1 => ?_)
  have qv1 : (0 : Int) ≤ v1 ∧ v1 ≤ 255 := qv1
  have ev1 : (A 22) (a2) = v1 := (congrFun (rfl : A 22 = A 22) (a2)).symm.trans ev1
  refine w_i2l rfl (show inr (v1) from q_38 qv1) ?_
  refine Ew_of (pcₚ := 5) (fun _ => x_aload_n rfl rfl) ?_
  refine Ew_of (pcₚ := 6) (fun _ => x_iload_n rfl rfl) ?_
  refine Ew_of (pcₚ := 7) (fun _ => x_iconst rfl) ?_
  refine w_iadd rfl ?_
  refine w_lI H (o := 22) (n := 65536) rfl (H.perm 22 rfl) rfl rfl (H.fix 22 rfl rfl) (show 0 ≤ (a2 + 1) ∧ (a2 + 1) < ((65536 : Nat) : Int) from q_123 h1) (by decide) (fun v2 ev2 qv2 => ?_)
  have qv2 : (0 : Int) ≤ v2 ∧ v2 ≤ 255 := qv2
  have ev2 : (A 22) ((a2 + 1)) = v2 := (congrFun (rfl : A 22 = A 22) ((a2 + 1))).symm.trans ev2
  refine w_i2l rfl (show inr (v2) from q_38 qv2) ?_
  refine Ew_of (pcₚ := 12) (fun _ => x_bipush (z := 8) rfl (by decide)) ?_
  refine w_lshlA rfl (fun z3 gz3 => ?_)
  refine w_lorA rfl (fun z4 gz4 => ?_)
  refine Ew_of (pcₚ := 15) (fun _ => x_aload_n rfl rfl) ?_
  refine Ew_of (pcₚ := 16) (fun _ => x_iload_n rfl rfl) ?_
  refine Ew_of (pcₚ := 17) (fun _ => x_iconst rfl) ?_
  refine w_iadd rfl ?_
  refine w_lI H (o := 22) (n := 65536) rfl (H.perm 22 rfl) rfl rfl (H.fix 22 rfl rfl) (show 0 ≤ (a2 + 2) ∧ (a2 + 2) < ((65536 : Nat) : Int) from q_124 h1) (by decide) (fun v5 ev5 qv5 => ?_)
  have qv5 : (0 : Int) ≤ v5 ∧ v5 ≤ 255 := qv5
  have ev5 : (A 22) ((a2 + 2)) = v5 := (congrFun (rfl : A 22 = A 22) ((a2 + 2))).symm.trans ev5
  refine w_i2l rfl (show inr (v5) from q_38 qv5) ?_
  refine Ew_of (pcₚ := 22) (fun _ => x_bipush (z := 16) rfl (by decide)) ?_
  refine w_lshlA rfl (fun z6 gz6 => ?_)
  refine w_lorA rfl (fun z7 gz7 => ?_)
  refine Ew_of (pcₚ := 25) (fun _ => x_aload_n rfl rfl) ?_
  refine Ew_of (pcₚ := 26) (fun _ => x_iload_n rfl rfl) ?_
  refine Ew_of (pcₚ := 27) (fun _ => x_iconst rfl) ?_
  refine w_iadd rfl ?_
  refine w_lI H (o := 22) (n := 65536) rfl (H.perm 22 rfl) rfl rfl (H.fix 22 rfl rfl) (show 0 ≤ (a2 + 3) ∧ (a2 + 3) < ((65536 : Nat) : Int) from q_125 h1) (by decide) (fun v8 ev8 qv8 => ?_)
  have qv8 : (0 : Int) ≤ v8 ∧ v8 ≤ 255 := qv8
  have ev8 : (A 22) ((a2 + 3)) = v8 := (congrFun (rfl : A 22 = A 22) ((a2 + 3))).symm.trans ev8
  refine w_i2l rfl (show inr (v8) from q_38 qv8) ?_
  refine Ew_of (pcₚ := 32) (fun _ => x_bipush (z := 24) rfl (by decide)) ?_
  refine w_lshlA rfl (fun z9 gz9 => ?_)
  refine w_lorA rfl (fun z10 gz10 => ?_)
  exact w_lreturn rfl (k (z10) σ _ _ H (SF_refl) (SA_refl) (show inrJ (z10) from gz10))
/-- Tokens.added -/
theorem M364 {σ0 σ : rS} {D N : Nat → Nat} {F : hF} {A : hA} {d c s : Nat} {Q : wQ} (H : HS σ0 σ D N F A) {a1 : Int} (u3_10 : Int) (eu3_10 : F 3 10 = u3_10) (h0 : inr (a1)) (h1 : -10 ≤ (a1) ∧ (a1) ≤ 100000) (h2 : 0 ≤ (u3_10) ∧ (u3_10) ≤ 10000000) (k : ∀ σ Fₚ Aₚ, HS σ0 σ D N Fₚ Aₚ → SF [(3, 10)] F Fₚ → SA [20] A Aₚ → ∀ y3_10 : Int, Fₚ 3 10 = y3_10 → ((y3_10) * 255 ≤ (u3_10) * 255 + 255 + (a1) + 10 ∧ (u3_10) ≤ (y3_10)) → Q none σ c s) : Ew 364 (d + 1) 0 (rargs 0 [.ref (D 3), I a1]) [] σ c s Q := by
  have r1 : (-2147483648 : Int) ≤ u3_10 ∧ u3_10 ≤ 2147483647 := rngE (show (-2147483648 : Int) ≤ F 3 10 ∧ F 3 10 ≤ 2147483647 from H.frng 3 10) (show F 3 10 = u3_10 from (eu3_10))
  refine Ew_of (pcₚ := 1) (fun _ => x_iload_n rfl rfl) ?_
  refine Ew_of (pcₚ := 3) (fun _ => x_bipush (z := 15) rfl (by decide)) ?_
  refine w_isub rfl ?_
  refine Ew_of (pcₚ := 5) (fun _ => x_istore_n rfl) ?_
  suffices hl5 : ∀ (m : Nat), ∀ (ls : rO) (σ : rS) (F_5 : hF) (A_5 : hA) (x5_2 : Int), rlook ls 0 = some (.ref (D 3)) → rlook ls 2 = some (I (x5_2)) → HS σ0 σ D N F_5 A_5 → SF [(3, 10)] F F_5 → SA [20] A A_5 → ∀ y5_3_10 : Int, F_5 3 10 = y5_3_10 → (inr (x5_2)) → ((x5_2) ≤ (a1) - 15) → ((y5_3_10) * 255 = (u3_10) * 255 + ((a1) - 15 - (x5_2))) → ((x5_2) ≥ 0 ∨ (y5_3_10) = (u3_10)) → ((x5_2) ≥ -25) → ((x5_2) + 1000).toNat = m → Ew 364 (d + 1) 5 ls [] σ c s Q from
    hl5 _ _ σ _ _ ((a1 - 15)) (rk_o (rfl) rfl rfl) (rk_s) H (SF_refl) (SA_refl) (u3_10) ((eu3_10))  (show inr ((a1 - 15)) from q_130 h1) (show ((a1 - 15)) ≤ (a1) - 15 from q_129) (show (u3_10) * 255 = (u3_10) * 255 + ((a1) - 15 - ((a1 - 15))) from q_128) (show ((a1 - 15)) ≥ 0 ∨ (u3_10) = (u3_10) from q_127) (show ((a1 - 15)) ≥ -25 from q_126 h1) rfl
  as_aux_lemma =>
  intro m
  induction m using Nat.strongRecOn with
  | _ m ih5 =>
    intro ls σ F_5 A_5 x5_2 l5_0 l5_2 H hS_5 hA_5 y5_3_10 ey5_3_10  j5_0 j5_1 j5_2 j5_3 j5_4 hm5
    have r2 : (-2147483648 : Int) ≤ y5_3_10 ∧ y5_3_10 ≤ 2147483647 := rngE (show (-2147483648 : Int) ≤ F_5 3 10 ∧ F_5 3 10 ≤ 2147483647 from H.frng 3 10) (show F_5 3 10 = y5_3_10 from (ey5_3_10))
    refine Ew_of (pcₚ := 6) (fun _ => x_iload_n rfl l5_2) ?_
    refine Ew_of (pcₚ := 9) (fun _ => x_sipush (z := 255) rfl (by decide)) ?_
    refine w_icmplt (t := 28) rfl rfl (show inr (x5_2) from j5_0) (show inr (255) from q_36) (fun b3 => ?_) (fun b3 => ?_)
    · refine Ew_of (pcₚ := 29) (fun _ => x_iload_n rfl l5_2) ?_
      refine w_iflt (t := 37) rfl rfl (show inr (x5_2) from j5_0) (fun b4 => ?_) (fun b4 => ?_)
      · exact w_ret rfl (k σ _ _ H (SF_trans (SF_refl) hS_5 (any_sub rfl)) (SA_trans (SA_refl) hA_5 (any_subA rfl)) (y5_3_10) ((ey5_3_10)) (show (y5_3_10) * 255 ≤ (u3_10) * 255 + 255 + a1 + 10 ∧ (u3_10) ≤ (y5_3_10) from q_131 j5_1 j5_2 j5_4))
      · refine Ew_of (pcₚ := 33) (fun _ => x_aload_n rfl l5_0) ?_
        refine Ew_of (pcₚ := 34) (fun _ => x_iload_n rfl l5_2) ?_
        refine w_inv H (o := 3) rfl rfl rfl (H.perm 3 rfl) rfl rfl (by rfl) (M363 H (y5_3_10) ((ey5_3_10)) (show inr (x5_2) from j5_0) (show 0 ≤ (x5_2) ∧ (x5_2) ≤ 255 from q_132 b3 b4) (show 0 ≤ (y5_3_10) ∧ (y5_3_10) ≤ 100000000 by omega) (fun σ F5 A6 H hS7 hA8 y10 ey11 pz9_0 => ⟨rfl, ?_⟩))
        have r12 : (-2147483648 : Int) ≤ y10 ∧ y10 ≤ 2147483647 := rngE (show (-2147483648 : Int) ≤ F5 3 10 ∧ F5 3 10 ≤ 2147483647 from H.frng 3 10) (show F5 3 10 = y10 from (ey11))
        exact w_ret rfl (k σ _ _ H (SF_trans (SF_trans (SF_refl) hS_5 (any_sub rfl)) hS7 (any_sub rfl)) (SA_trans (SA_trans (SA_refl) hA_5 (any_subA rfl)) hA8 (any_subA rfl)) (y10) ((ey11)) (show (y10) * 255 ≤ (u3_10) * 255 + 255 + a1 + 10 ∧ (u3_10) ≤ (y10) from q_133 b4 j5_1 j5_2 pz9_0))
    · refine Ew_of (pcₚ := 13) (fun _ => x_aload_n rfl l5_0) ?_
      refine Ew_of (pcₚ := 16) (fun _ => x_sipush (z := 255) rfl (by decide)) ?_
      refine w_inv H (o := 3) rfl rfl rfl (H.perm 3 rfl) rfl rfl (by rfl) (M363 H (y5_3_10) ((ey5_3_10)) (show inr (255) from q_36) (show 0 ≤ (255) ∧ (255) ≤ 255 from q_134) (show 0 ≤ (y5_3_10) ∧ (y5_3_10) ≤ 100000000 by omega) (fun σ F13 A14 H hS15 hA16 y18 ey19 pz17_0 => ⟨rfl, ?_⟩))
      have r20 : (-2147483648 : Int) ≤ y18 ∧ y18 ≤ 2147483647 := rngE (show (-2147483648 : Int) ≤ F13 3 10 ∧ F13 3 10 ≤ 2147483647 from H.frng 3 10) (show F13 3 10 = y18 from (ey19))
      refine Ew_of (pcₚ := 25) (fun _ => x_iinc (len := 6) rfl (l5_2)) ?_
      refine Ew_of (pcₚ := 5) (fun _ => x_goto rfl rfl) ?_
      exact ih5 _ (msE hm5 q_140 (q_141 b3)) _ σ _ _ ((x5_2 + (-255))) (rk_o (l5_0) rfl rfl) (rk_s) H (SF_trans (hS_5) hS15 (any_sub rfl)) (SA_trans (hA_5) hA16 (any_subA rfl)) (y18) ((ey19))  (show inr ((x5_2 + (-255))) from q_139 b3 j5_0) (show ((x5_2 + (-255))) ≤ (a1) - 15 from q_138 j5_1) (show (y18) * 255 = (u3_10) * 255 + ((a1) - 15 - ((x5_2 + (-255)))) from q_137 j5_2 pz17_0) (show ((x5_2 + (-255))) ≥ 0 ∨ (y18) = (u3_10) from q_136 b3) (show ((x5_2 + (-255))) ≥ -25 from q_135 b3) rfl
/-- Tokens.adds -/
theorem M371 {σ0 σ : rS} {D N : Nat → Nat} {F : hF} {A : hA} {d c s : Nat} {Q : wQ} (H : HS σ0 σ D N F A) {a1 a2 : Int} (u3_15 : Int) (eu3_15 : F 3 15 = u3_15) (h0 : inr (a1)) (h1 : inr (a2)) (h2 : 0 ≤ (a1) ∧ (a1) ≤ 15) (h3 : 0 ≤ (u3_15) ∧ (u3_15) ≤ (a2) ∧ (a2) ≤ 65536) (k : ∀ (z : Int) σ Fₚ Aₚ, HS σ0 σ D N Fₚ Aₚ → SF [(3, 15), (3, 16)] F Fₚ → SA [] A Aₚ → ∀ y3_15 : Int, Fₚ 3 15 = y3_15 → ∀ y3_16 : Int, Fₚ 3 16 = y3_16 → ((z) = 0 ∨ (z) = 1) → ((u3_15) ≤ (y3_15) ∧ (y3_15) ≤ (a2)) → (0 ≤ (y3_16) ∧ (y3_16) ≤ 16711695) → Q (some (I z)) σ c s) : Ew 371 (d + 0) 0 (rargs 0 [.ref (D 3), I a1, I a2]) [] σ c s Q := by
  have r1 : (-2147483648 : Int) ≤ u3_15 ∧ u3_15 ≤ 2147483647 := rngE (show (-2147483648 : Int) ≤ F 3 15 ∧ F 3 15 ≤ 2147483647 from H.frng 3 15) (show F 3 15 = u3_15 from (eu3_15))
  refine Ew_of (pcₚ := 1) (fun _ => x_aload_n rfl rfl) ?_
  refine Ew_of (pcₚ := 2) (fun _ => x_iload_n rfl rfl) ?_
  refine w_pI H (o := 3) rfl rfl (H.perm 3 rfl) rfl rfl rfl (fun _ => rfl) rfl (show (-2147483648 : Int) ≤ a1 ∧ a1 ≤ 2147483647 from q_142 h2) (fun σ H => ?_)
  refine Ew_of (pcₚ := 6) (fun _ => x_iload_n rfl rfl) ?_
  refine Ew_of (pcₚ := 8) (fun _ => x_bipush (z := 15) rfl (by decide)) ?_
  refine w_icmpne (t := 15) rfl rfl (show inr (a1) from h0) (show inr (15) from q_143) (fun b2 => ?_) (fun b2 => ?_)
  · refine Ew_of (pcₚ := 16) (fun _ => x_iconst rfl) ?_
    refine Ew_of (pcₚ := 17) (fun _ => x_istore_n rfl) ?_
    suffices hl17 : ∀ (m : Nat), ∀ (ls : rO) (σ : rS) (F_17 : hF) (A_17 : hA) (x17_3 : Int), rlook ls 0 = some (.ref (D 3)) → rlook ls 2 = some (I (a2)) → rlook ls 3 = some (I (x17_3)) → HS σ0 σ D N F_17 A_17 → SF [(3, 15), (3, 16)] (updF F 3 16 (a1)) F_17 → SA [] A A_17 → ∀ y17_3_15 : Int, F_17 3 15 = y17_3_15 → ∀ y17_3_16 : Int, F_17 3 16 = y17_3_16 → (inr (x17_3)) → (0 ≤ (y17_3_15) ∧ (u3_15) ≤ (y17_3_15) ∧ (y17_3_15) ≤ (a2)) → (0 ≤ (y17_3_16) ∧ (y17_3_16) ≤ 15 + 255 * ((y17_3_15) - (u3_15))) → ((x17_3) = 0 ∨ (x17_3) = 1) → ((a2) - (y17_3_15)).toNat = m → Ew 371 (d + 0) 17 ls [] σ c s Q from
      hl17 _ _ σ _ _ (0) (rk_o (rfl) rfl rfl) (rk_o (rfl) rfl rfl) (rk_s) H (SF_refl) (SA_refl) (u3_15) ((eu3_15)) (a1) (rfl)  (show inr (0) from q_20) (show 0 ≤ (u3_15) ∧ (u3_15) ≤ (u3_15) ∧ (u3_15) ≤ (a2) from q_145 h3) (show 0 ≤ (a1) ∧ (a1) ≤ 15 + 255 * ((u3_15) - (u3_15)) from q_144 h2) (show (0) = 0 ∨ (0) = 1 from q_1) rfl
    as_aux_lemma =>
    intro m
    induction m using Nat.strongRecOn with
    | _ m ih17 =>
      intro ls σ F_17 A_17 x17_3 l17_0 l17_2 l17_3 H hS_17 hA_17 y17_3_15 ey17_3_15 y17_3_16 ey17_3_16  j17_0 j17_1 j17_2 j17_3 hm17
      have r3 : (-2147483648 : Int) ≤ y17_3_15 ∧ y17_3_15 ≤ 2147483647 := rngE (show (-2147483648 : Int) ≤ F_17 3 15 ∧ F_17 3 15 ≤ 2147483647 from H.frng 3 15) (show F_17 3 15 = y17_3_15 from (ey17_3_15))
      have r4 : (-2147483648 : Int) ≤ y17_3_16 ∧ y17_3_16 ≤ 2147483647 := rngE (show (-2147483648 : Int) ≤ F_17 3 16 ∧ F_17 3 16 ≤ 2147483647 from H.frng 3 16) (show F_17 3 16 = y17_3_16 from (ey17_3_16))
      refine Ew_of (pcₚ := 18) (fun _ => x_iload_n rfl l17_3) ?_
      refine w_ifeq (t := 89) rfl rfl (show inr (x17_3) from j17_0) (fun b5 => ?_) (fun b5 => ?_)
      · refine Ew_of (pcₚ := 90) (fun _ => x_iconst rfl) ?_
        exact w_ireturn rfl (k (1) σ _ _ H (SF_trans (SF_upd (SF_refl) rfl) hS_17 (any_sub rfl)) (SA_trans (SA_refl) hA_17 (any_subA rfl)) (y17_3_15) ((ey17_3_15)) (y17_3_16) ((ey17_3_16)) (show (1) = 0 ∨ (1) = 1 by first | exact q_5 | omega) (show (u3_15) ≤ (y17_3_15) ∧ (y17_3_15) ≤ a2 from q_147 j17_1) (show 0 ≤ (y17_3_16) ∧ (y17_3_16) ≤ 16711695 from q_146 h3 j17_1 j17_2))
      · refine Ew_of (pcₚ := 22) (fun _ => x_aload_n rfl l17_0) ?_
        refine w_gI H (o := 3) (w := y17_3_15) rfl (H.perm 3 rfl) rfl rfl rfl (fun _ => rfl) (ey17_3_15) ?_
        refine Ew_of (pcₚ := 26) (fun _ => x_iload_n rfl l17_2) ?_
        refine w_icmpne (t := 31) rfl rfl (show inr (y17_3_15) from q_148 j17_1 r3) (show inr (a2) from h1) (fun b6 => ?_) (fun b6 => ?_)
        · refine Ew_of (pcₚ := 32) (fun _ => x_aload_n rfl l17_0) ?_
          refine Ew_of (pcₚ := 33) (fun _ => x_dup rfl rfl) ?_
          refine w_gI H (o := 3) (w := y17_3_16) rfl (H.perm 3 rfl) rfl rfl rfl (fun _ => rfl) (ey17_3_16) ?_
          refine Ew_of (pcₚ := 37) (fun _ => x_aload_n rfl l17_0) ?_
          refine w_gT H (o := 3) (t := 1) rfl (H.perm 3 rfl) rfl rfl rfl rfl rfl rfl ?_
          refine w_gT H (o := 1) (t := 14) rfl (H.perm 1 rfl) rfl rfl rfl rfl rfl rfl ?_
          refine Ew_of (pcₚ := 44) (fun _ => x_aload_n rfl l17_0) ?_
          refine w_gI H (o := 3) (w := y17_3_15) rfl (H.perm 3 rfl) rfl rfl rfl (fun _ => rfl) (ey17_3_15) ?_
          refine w_lI H (o := 14) (n := 65536) rfl (H.perm 14 rfl) rfl rfl (H.fix 14 rfl rfl) (show 0 ≤ y17_3_15 ∧ y17_3_15 < ((65536 : Nat) : Int) by omega) (by decide) (fun v7 ev7 qv7 => ?_)
          have qv7 : (0 : Int) ≤ v7 ∧ v7 ≤ 255 := qv7
          have ev7 : (A 14) (y17_3_15) = v7 := (congrFun (funext (hA_17 14 rfl)) (y17_3_15)).symm.trans ev7
          refine w_iadd rfl ?_
          refine w_pI H (o := 3) rfl rfl (H.perm 3 rfl) rfl rfl rfl (fun _ => rfl) rfl (show (-2147483648 : Int) ≤ (y17_3_16 + v7) ∧ (y17_3_16 + v7) ≤ 2147483647 by omega) (fun σ H => ?_)
          refine Ew_of (pcₚ := 53) (fun _ => x_aload_n rfl l17_0) ?_
          refine w_gT H (o := 3) (t := 1) rfl (H.perm 3 rfl) rfl rfl rfl rfl rfl rfl ?_
          refine w_gT H (o := 1) (t := 14) rfl (H.perm 1 rfl) rfl rfl rfl rfl rfl rfl ?_
          refine Ew_of (pcₚ := 60) (fun _ => x_aload_n rfl l17_0) ?_
          refine w_gI H (o := 3) (w := y17_3_15) rfl (H.perm 3 rfl) rfl rfl rfl (fun _ => rfl) (ey17_3_15) ?_
          refine w_lI H (o := 14) (n := 65536) rfl (H.perm 14 rfl) rfl rfl (H.fix 14 rfl rfl) (show 0 ≤ y17_3_15 ∧ y17_3_15 < ((65536 : Nat) : Int) by omega) (by decide) (fun v8 ev8 qv8 => ?_)
          have qv8 : (0 : Int) ≤ v8 ∧ v8 ≤ 255 := qv8
          have ev8 : (A 14) (y17_3_15) = v8 := (congrFun (funext (hA_17 14 rfl)) (y17_3_15)).symm.trans ev8
          refine Ew_of (pcₚ := 67) (fun _ => x_sipush (z := 255) rfl (by decide)) ?_
          refine w_icmpne (t := 74) rfl rfl (show inr (v8) from q_38 qv8) (show inr (255) from q_36) (fun b9 => ?_) (fun b9 => ?_)
          · refine Ew_of (pcₚ := 75) (fun _ => x_iconst rfl) ?_
            refine Ew_of (pcₚ := 76) (fun _ => x_istore_n rfl) ?_
            refine Ew_of (pcₚ := 77) (fun _ => x_aload_n rfl (rk_o (l17_0) rfl rfl)) ?_
            refine Ew_of (pcₚ := 78) (fun _ => x_dup rfl rfl) ?_
            refine w_gI H (o := 3) (w := y17_3_15) rfl (H.perm 3 rfl) rfl rfl rfl (fun _ => rfl) (ey17_3_15) ?_
            refine Ew_of (pcₚ := 82) (fun _ => x_iconst rfl) ?_
            refine w_iadd rfl ?_
            refine w_pI H (o := 3) rfl rfl (H.perm 3 rfl) rfl rfl rfl (fun _ => rfl) rfl (show (-2147483648 : Int) ≤ (y17_3_15 + 1) ∧ (y17_3_15 + 1) ≤ 2147483647 from q_149 h3 j17_1) (fun σ H => ?_)
            refine Ew_of (pcₚ := 17) (fun _ => x_goto rfl rfl) ?_
            exact ih17 _ (by omega) _ σ _ _ (0) (rk_o (l17_0) rfl rfl) (rk_o (l17_2) rfl rfl) (rk_s) H (SF_upd (SF_upd (hS_17) rfl) rfl) (hA_17) ((y17_3_15 + 1)) (rfl) ((y17_3_16 + v7)) (rfl)  (show inr (0) from q_20) (show 0 ≤ ((y17_3_15 + 1)) ∧ (u3_15) ≤ ((y17_3_15 + 1)) ∧ ((y17_3_15 + 1)) ≤ (a2) by omega) (show 0 ≤ ((y17_3_16 + v7)) ∧ ((y17_3_16 + v7)) ≤ 15 + 255 * (((y17_3_15 + 1)) - (u3_15)) from q_150 j17_2 qv7) (show (0) = 0 ∨ (0) = 1 from q_1) rfl
          · refine Ew_of (pcₚ := 71) (fun _ => x_iconst rfl) ?_
            refine Ew_of (pcₚ := 75) (fun _ => x_goto rfl rfl) ?_
            refine Ew_of (pcₚ := 76) (fun _ => x_istore_n rfl) ?_
            refine Ew_of (pcₚ := 77) (fun _ => x_aload_n rfl (rk_o (l17_0) rfl rfl)) ?_
            refine Ew_of (pcₚ := 78) (fun _ => x_dup rfl rfl) ?_
            refine w_gI H (o := 3) (w := y17_3_15) rfl (H.perm 3 rfl) rfl rfl rfl (fun _ => rfl) (ey17_3_15) ?_
            refine Ew_of (pcₚ := 82) (fun _ => x_iconst rfl) ?_
            refine w_iadd rfl ?_
            refine w_pI H (o := 3) rfl rfl (H.perm 3 rfl) rfl rfl rfl (fun _ => rfl) rfl (show (-2147483648 : Int) ≤ (y17_3_15 + 1) ∧ (y17_3_15 + 1) ≤ 2147483647 from q_149 h3 j17_1) (fun σ H => ?_)
            refine Ew_of (pcₚ := 17) (fun _ => x_goto rfl rfl) ?_
            exact ih17 _ (by omega) _ σ _ _ (1) (rk_o (l17_0) rfl rfl) (rk_o (l17_2) rfl rfl) (rk_s) H (SF_upd (SF_upd (hS_17) rfl) rfl) (hA_17) ((y17_3_15 + 1)) (rfl) ((y17_3_16 + v7)) (rfl)  (show inr (1) from q_23) (show 0 ≤ ((y17_3_15 + 1)) ∧ (u3_15) ≤ ((y17_3_15 + 1)) ∧ ((y17_3_15 + 1)) ≤ (a2) by omega) (show 0 ≤ ((y17_3_16 + v7)) ∧ ((y17_3_16 + v7)) ≤ 15 + 255 * (((y17_3_15 + 1)) - (u3_15)) from q_150 j17_2 qv7) (show (1) = 0 ∨ (1) = 1 from q_5) rfl
        · refine Ew_of (pcₚ := 30) (fun _ => x_iconst rfl) ?_
          exact w_ireturn rfl (k (0) σ _ _ H (SF_trans (SF_upd (SF_refl) rfl) hS_17 (any_sub rfl)) (SA_trans (SA_refl) hA_17 (any_subA rfl)) (y17_3_15) ((ey17_3_15)) (y17_3_16) ((ey17_3_16)) (show (0) = 0 ∨ (0) = 1 by first | exact q_1 | omega) (show (u3_15) ≤ (y17_3_15) ∧ (y17_3_15) ≤ a2 from q_147 j17_1) (show 0 ≤ (y17_3_16) ∧ (y17_3_16) ≤ 16711695 from q_151 b6 h3 j17_2))
  · refine Ew_of (pcₚ := 12) (fun _ => x_iconst rfl) ?_
    refine Ew_of (pcₚ := 16) (fun _ => x_goto rfl rfl) ?_
    refine Ew_of (pcₚ := 17) (fun _ => x_istore_n rfl) ?_
    suffices hl17 : ∀ (m : Nat), ∀ (ls : rO) (σ : rS) (F_17 : hF) (A_17 : hA) (x17_3 : Int), rlook ls 0 = some (.ref (D 3)) → rlook ls 2 = some (I (a2)) → rlook ls 3 = some (I (x17_3)) → HS σ0 σ D N F_17 A_17 → SF [(3, 15), (3, 16)] (updF F 3 16 (a1)) F_17 → SA [] A A_17 → ∀ y17_3_15 : Int, F_17 3 15 = y17_3_15 → ∀ y17_3_16 : Int, F_17 3 16 = y17_3_16 → (inr (x17_3)) → (0 ≤ (y17_3_15) ∧ (u3_15) ≤ (y17_3_15) ∧ (y17_3_15) ≤ (a2)) → (0 ≤ (y17_3_16) ∧ (y17_3_16) ≤ 15 + 255 * ((y17_3_15) - (u3_15))) → ((x17_3) = 0 ∨ (x17_3) = 1) → ((a2) - (y17_3_15)).toNat = m → Ew 371 (d + 0) 17 ls [] σ c s Q from
      hl17 _ _ σ _ _ (1) (rk_o (rfl) rfl rfl) (rk_o (rfl) rfl rfl) (rk_s) H (SF_refl) (SA_refl) (u3_15) ((eu3_15)) (a1) (rfl)  (show inr (1) from q_23) (show 0 ≤ (u3_15) ∧ (u3_15) ≤ (u3_15) ∧ (u3_15) ≤ (a2) from q_145 h3) (show 0 ≤ (a1) ∧ (a1) ≤ 15 + 255 * ((u3_15) - (u3_15)) from q_152 b2 h2) (show (1) = 0 ∨ (1) = 1 from q_5) rfl
    as_aux_lemma =>
    intro m
    induction m using Nat.strongRecOn with
    | _ m ih17 =>
      intro ls σ F_17 A_17 x17_3 l17_0 l17_2 l17_3 H hS_17 hA_17 y17_3_15 ey17_3_15 y17_3_16 ey17_3_16  j17_0 j17_1 j17_2 j17_3 hm17
      have r10 : (-2147483648 : Int) ≤ y17_3_15 ∧ y17_3_15 ≤ 2147483647 := rngE (show (-2147483648 : Int) ≤ F_17 3 15 ∧ F_17 3 15 ≤ 2147483647 from H.frng 3 15) (show F_17 3 15 = y17_3_15 from (ey17_3_15))
      have r11 : (-2147483648 : Int) ≤ y17_3_16 ∧ y17_3_16 ≤ 2147483647 := rngE (show (-2147483648 : Int) ≤ F_17 3 16 ∧ F_17 3 16 ≤ 2147483647 from H.frng 3 16) (show F_17 3 16 = y17_3_16 from (ey17_3_16))
      refine Ew_of (pcₚ := 18) (fun _ => x_iload_n rfl l17_3) ?_
      refine w_ifeq (t := 89) rfl rfl (show inr (x17_3) from j17_0) (fun b12 => ?_) (fun b12 => ?_)
      · refine Ew_of (pcₚ := 90) (fun _ => x_iconst rfl) ?_
        exact w_ireturn rfl (k (1) σ _ _ H (SF_trans (SF_upd (SF_refl) rfl) hS_17 (any_sub rfl)) (SA_trans (SA_refl) hA_17 (any_subA rfl)) (y17_3_15) ((ey17_3_15)) (y17_3_16) ((ey17_3_16)) (show (1) = 0 ∨ (1) = 1 by first | exact q_5 | omega) (show (u3_15) ≤ (y17_3_15) ∧ (y17_3_15) ≤ a2 from q_147 j17_1) (show 0 ≤ (y17_3_16) ∧ (y17_3_16) ≤ 16711695 from q_146 h3 j17_1 j17_2))
      · refine Ew_of (pcₚ := 22) (fun _ => x_aload_n rfl l17_0) ?_
        refine w_gI H (o := 3) (w := y17_3_15) rfl (H.perm 3 rfl) rfl rfl rfl (fun _ => rfl) (ey17_3_15) ?_
        refine Ew_of (pcₚ := 26) (fun _ => x_iload_n rfl l17_2) ?_
        refine w_icmpne (t := 31) rfl rfl (show inr (y17_3_15) from q_148 j17_1 r10) (show inr (a2) from h1) (fun b13 => ?_) (fun b13 => ?_)
        · refine Ew_of (pcₚ := 32) (fun _ => x_aload_n rfl l17_0) ?_
          refine Ew_of (pcₚ := 33) (fun _ => x_dup rfl rfl) ?_
          refine w_gI H (o := 3) (w := y17_3_16) rfl (H.perm 3 rfl) rfl rfl rfl (fun _ => rfl) (ey17_3_16) ?_
          refine Ew_of (pcₚ := 37) (fun _ => x_aload_n rfl l17_0) ?_
          refine w_gT H (o := 3) (t := 1) rfl (H.perm 3 rfl) rfl rfl rfl rfl rfl rfl ?_
          refine w_gT H (o := 1) (t := 14) rfl (H.perm 1 rfl) rfl rfl rfl rfl rfl rfl ?_
          refine Ew_of (pcₚ := 44) (fun _ => x_aload_n rfl l17_0) ?_
          refine w_gI H (o := 3) (w := y17_3_15) rfl (H.perm 3 rfl) rfl rfl rfl (fun _ => rfl) (ey17_3_15) ?_
          refine w_lI H (o := 14) (n := 65536) rfl (H.perm 14 rfl) rfl rfl (H.fix 14 rfl rfl) (show 0 ≤ y17_3_15 ∧ y17_3_15 < ((65536 : Nat) : Int) by omega) (by decide) (fun v14 ev14 qv14 => ?_)
          have qv14 : (0 : Int) ≤ v14 ∧ v14 ≤ 255 := qv14
          have ev14 : (A 14) (y17_3_15) = v14 := (congrFun (funext (hA_17 14 rfl)) (y17_3_15)).symm.trans ev14
          refine w_iadd rfl ?_
          refine w_pI H (o := 3) rfl rfl (H.perm 3 rfl) rfl rfl rfl (fun _ => rfl) rfl (show (-2147483648 : Int) ≤ (y17_3_16 + v14) ∧ (y17_3_16 + v14) ≤ 2147483647 by omega) (fun σ H => ?_)
          refine Ew_of (pcₚ := 53) (fun _ => x_aload_n rfl l17_0) ?_
          refine w_gT H (o := 3) (t := 1) rfl (H.perm 3 rfl) rfl rfl rfl rfl rfl rfl ?_
          refine w_gT H (o := 1) (t := 14) rfl (H.perm 1 rfl) rfl rfl rfl rfl rfl rfl ?_
          refine Ew_of (pcₚ := 60) (fun _ => x_aload_n rfl l17_0) ?_
          refine w_gI H (o := 3) (w := y17_3_15) rfl (H.perm 3 rfl) rfl rfl rfl (fun _ => rfl) (ey17_3_15) ?_
          refine w_lI H (o := 14) (n := 65536) rfl (H.perm 14 rfl) rfl rfl (H.fix 14 rfl rfl) (show 0 ≤ y17_3_15 ∧ y17_3_15 < ((65536 : Nat) : Int) by omega) (by decide) (fun v15 ev15 qv15 => ?_)
          have qv15 : (0 : Int) ≤ v15 ∧ v15 ≤ 255 := qv15
          have ev15 : (A 14) (y17_3_15) = v15 := (congrFun (funext (hA_17 14 rfl)) (y17_3_15)).symm.trans ev15
          refine Ew_of (pcₚ := 67) (fun _ => x_sipush (z := 255) rfl (by decide)) ?_
          refine w_icmpne (t := 74) rfl rfl (show inr (v15) from q_38 qv15) (show inr (255) from q_36) (fun b16 => ?_) (fun b16 => ?_)
          · refine Ew_of (pcₚ := 75) (fun _ => x_iconst rfl) ?_
            refine Ew_of (pcₚ := 76) (fun _ => x_istore_n rfl) ?_
            refine Ew_of (pcₚ := 77) (fun _ => x_aload_n rfl (rk_o (l17_0) rfl rfl)) ?_
            refine Ew_of (pcₚ := 78) (fun _ => x_dup rfl rfl) ?_
            refine w_gI H (o := 3) (w := y17_3_15) rfl (H.perm 3 rfl) rfl rfl rfl (fun _ => rfl) (ey17_3_15) ?_
            refine Ew_of (pcₚ := 82) (fun _ => x_iconst rfl) ?_
            refine w_iadd rfl ?_
            refine w_pI H (o := 3) rfl rfl (H.perm 3 rfl) rfl rfl rfl (fun _ => rfl) rfl (show (-2147483648 : Int) ≤ (y17_3_15 + 1) ∧ (y17_3_15 + 1) ≤ 2147483647 from q_149 h3 j17_1) (fun σ H => ?_)
            refine Ew_of (pcₚ := 17) (fun _ => x_goto rfl rfl) ?_
            exact ih17 _ (by omega) _ σ _ _ (0) (rk_o (l17_0) rfl rfl) (rk_o (l17_2) rfl rfl) (rk_s) H (SF_upd (SF_upd (hS_17) rfl) rfl) (hA_17) ((y17_3_15 + 1)) (rfl) ((y17_3_16 + v14)) (rfl)  (show inr (0) from q_20) (show 0 ≤ ((y17_3_15 + 1)) ∧ (u3_15) ≤ ((y17_3_15 + 1)) ∧ ((y17_3_15 + 1)) ≤ (a2) by omega) (show 0 ≤ ((y17_3_16 + v14)) ∧ ((y17_3_16 + v14)) ≤ 15 + 255 * (((y17_3_15 + 1)) - (u3_15)) from q_150 j17_2 qv14) (show (0) = 0 ∨ (0) = 1 from q_1) rfl
          · refine Ew_of (pcₚ := 71) (fun _ => x_iconst rfl) ?_
            refine Ew_of (pcₚ := 75) (fun _ => x_goto rfl rfl) ?_
            refine Ew_of (pcₚ := 76) (fun _ => x_istore_n rfl) ?_
            refine Ew_of (pcₚ := 77) (fun _ => x_aload_n rfl (rk_o (l17_0) rfl rfl)) ?_
            refine Ew_of (pcₚ := 78) (fun _ => x_dup rfl rfl) ?_
            refine w_gI H (o := 3) (w := y17_3_15) rfl (H.perm 3 rfl) rfl rfl rfl (fun _ => rfl) (ey17_3_15) ?_
            refine Ew_of (pcₚ := 82) (fun _ => x_iconst rfl) ?_
            refine w_iadd rfl ?_
            refine w_pI H (o := 3) rfl rfl (H.perm 3 rfl) rfl rfl rfl (fun _ => rfl) rfl (show (-2147483648 : Int) ≤ (y17_3_15 + 1) ∧ (y17_3_15 + 1) ≤ 2147483647 from q_149 h3 j17_1) (fun σ H => ?_)
            refine Ew_of (pcₚ := 17) (fun _ => x_goto rfl rfl) ?_
            exact ih17 _ (by omega) _ σ _ _ (1) (rk_o (l17_0) rfl rfl) (rk_o (l17_2) rfl rfl) (rk_s) H (SF_upd (SF_upd (hS_17) rfl) rfl) (hA_17) ((y17_3_15 + 1)) (rfl) ((y17_3_16 + v14)) (rfl)  (show inr (1) from q_23) (show 0 ≤ ((y17_3_15 + 1)) ∧ (u3_15) ≤ ((y17_3_15 + 1)) ∧ ((y17_3_15 + 1)) ≤ (a2) by omega) (show 0 ≤ ((y17_3_16 + v14)) ∧ ((y17_3_16 + v14)) ≤ 15 + 255 * (((y17_3_15 + 1)) - (u3_15)) from q_150 j17_2 qv14) (show (1) = 0 ∨ (1) = 1 from q_5) rfl
        · refine Ew_of (pcₚ := 30) (fun _ => x_iconst rfl) ?_
          exact w_ireturn rfl (k (0) σ _ _ H (SF_trans (SF_upd (SF_refl) rfl) hS_17 (any_sub rfl)) (SA_trans (SA_refl) hA_17 (any_subA rfl)) (y17_3_15) ((ey17_3_15)) (y17_3_16) ((ey17_3_16)) (show (0) = 0 ∨ (0) = 1 by first | exact q_1 | omega) (show (u3_15) ≤ (y17_3_15) ∧ (y17_3_15) ≤ a2 from q_147 j17_1) (show 0 ≤ (y17_3_16) ∧ (y17_3_16) ≤ 16711695 from q_151 b13 h3 j17_2))
/-- Tokens.alike -/
theorem M360 {σ0 σ : rS} {D N : Nat → Nat} {F : hF} {A : hA} {d c s : Nat} {Q : wQ} (H : HS σ0 σ D N F A) {a1 a2 a3 : Int} (u3_5 : Int) (eu3_5 : F 3 5 = u3_5) (h0 : inr (a1)) (h1 : inr (a2)) (h2 : inr (a3)) (h3 : 0 ≤ (u3_5) ∧ (u3_5) ≤ 16384) (h4 : 0 ≤ (a1) ∧ (a1) < (a2) ∧ (a3) + (a2) ≤ 16384 ∧ 0 ≤ (a3)) (k : ∀ (z : Int) σ Fₚ Aₚ, HS σ0 σ D N Fₚ Aₚ → SF [] F Fₚ → SA [] A Aₚ → (inr (z)) → (0 ≤ (z) ∧ (z) ≤ (a3)) → Q (some (I z)) σ c s) : Ew 360 (d + 0) 0 (rargs 0 [.ref (D 3), I a1, I a2, I a3]) [] σ c s Q := by
  have r1 : (-2147483648 : Int) ≤ u3_5 ∧ u3_5 ≤ 2147483647 := rngE (show (-2147483648 : Int) ≤ F 3 5 ∧ F 3 5 ≤ 2147483647 from H.frng 3 5) (show F 3 5 = u3_5 from (eu3_5))
  refine Ew_of (pcₚ := 1) (fun _ => x_iconst rfl) ?_
  refine Ew_of (pcₚ := 3) (fun _ => x_istore rfl) ?_
  suffices hl3 : ∀ (m : Nat), ∀ (ls : rO) (σ : rS) (F_3 : hF) (A_3 : hA) (x3_4 : Int), rlook ls 0 = some (.ref (D 3)) → rlook ls 1 = some (I (a1)) → rlook ls 2 = some (I (a2)) → rlook ls 3 = some (I (a3)) → rlook ls 4 = some (I (x3_4)) → HS σ0 σ D N F_3 A_3 → SF [] F F_3 → SA [] A A_3 → (inr (x3_4)) → ((0) ≤ (x3_4)) → ((x3_4) ≤ (0) ∨ (x3_4) ≤ ((a3))) → (((a3)) - (x3_4)).toNat = m → Ew 360 (d + 0) 3 ls [] σ c s Q from
    hl3 _ _ σ _ _ (0) (rk_o (rfl) rfl rfl) (rk_o (rfl) rfl rfl) (rk_o (rfl) rfl rfl) (rk_o (rfl) rfl rfl) (rk_s) H (SF_refl) (SA_refl)   (show inr (0) from q_20) (show (0) ≤ (0) from q_25) (show (0) ≤ (0) ∨ (0) ≤ ((a3)) from q_24) rfl
  as_aux_lemma =>
  intro m
  induction m using Nat.strongRecOn with
  | _ m ih3 =>
    intro ls σ F_3 A_3 x3_4 l3_0 l3_1 l3_2 l3_3 l3_4 H hS_3 hA_3   j3_0 j3_1 j3_2 hm3
    refine Ew_of (pcₚ := 5) (fun _ => x_iload rfl l3_4) ?_
    refine Ew_of (pcₚ := 6) (fun _ => x_iload_n rfl l3_3) ?_
    refine w_icmpge (t := 36) rfl rfl (show inr (x3_4) from j3_0) (show inr (a3) from h2) (fun b2 => ?_) (fun b2 => ?_)
    · refine Ew_of (pcₚ := 38) (fun _ => x_iload rfl l3_4) ?_
      exact w_ireturn rfl (k (x3_4) σ _ _ H (SF_trans (SF_refl) hS_3 (any_sub rfl)) (SA_trans (SA_refl) hA_3 (any_subA rfl)) (show inr (x3_4) from j3_0) (show 0 ≤ (x3_4) ∧ (x3_4) ≤ a3 from q_153 h4 j3_1 j3_2))
    · refine Ew_of (pcₚ := 10) (fun _ => x_aload_n rfl l3_0) ?_
      refine w_gT H (o := 3) (t := 18) rfl (H.perm 3 rfl) rfl rfl rfl rfl rfl rfl ?_
      refine Ew_of (pcₚ := 14) (fun _ => x_iload_n rfl l3_1) ?_
      refine Ew_of (pcₚ := 16) (fun _ => x_iload rfl l3_4) ?_
      refine w_iadd rfl ?_
      refine w_lI H (o := 18) (n := 16384) rfl (H.perm 18 rfl) rfl rfl (H.fix 18 rfl rfl) (show 0 ≤ (a1 + x3_4) ∧ (a1 + x3_4) < ((16384 : Nat) : Int) from q_154 b2 h4 j3_1) (by decide) (fun v3 ev3 qv3 => ?_)
      have qv3 : (0 : Int) ≤ v3 ∧ v3 ≤ 255 := qv3
      have ev3 : (A 18) ((a1 + x3_4)) = v3 := (congrFun (funext (hA_3 18 rfl)) ((a1 + x3_4))).symm.trans ev3
      refine Ew_of (pcₚ := 19) (fun _ => x_aload_n rfl l3_0) ?_
      refine w_gT H (o := 3) (t := 18) rfl (H.perm 3 rfl) rfl rfl rfl rfl rfl rfl ?_
      refine Ew_of (pcₚ := 23) (fun _ => x_iload_n rfl l3_2) ?_
      refine Ew_of (pcₚ := 25) (fun _ => x_iload rfl l3_4) ?_
      refine w_iadd rfl ?_
      refine w_lI H (o := 18) (n := 16384) rfl (H.perm 18 rfl) rfl rfl (H.fix 18 rfl rfl) (show 0 ≤ (a2 + x3_4) ∧ (a2 + x3_4) < ((16384 : Nat) : Int) from q_155 b2 h4 j3_1) (by decide) (fun v4 ev4 qv4 => ?_)
      have qv4 : (0 : Int) ≤ v4 ∧ v4 ≤ 255 := qv4
      have ev4 : (A 18) ((a2 + x3_4)) = v4 := (congrFun (funext (hA_3 18 rfl)) ((a2 + x3_4))).symm.trans ev4
      refine w_icmpne (t := 36) rfl rfl (show inr (v3) from q_38 qv3) (show inr (v4) from q_38 qv4) (fun b5 => ?_) (fun b5 => ?_)
      · refine Ew_of (pcₚ := 38) (fun _ => x_iload rfl l3_4) ?_
        exact w_ireturn rfl (k (x3_4) σ _ _ H (SF_trans (SF_refl) hS_3 (any_sub rfl)) (SA_trans (SA_refl) hA_3 (any_subA rfl)) (show inr (x3_4) from j3_0) (show 0 ≤ (x3_4) ∧ (x3_4) ≤ a3 from q_156 b2 j3_1))
      · refine Ew_of (pcₚ := 33) (fun _ => x_iinc (len := 3) rfl (l3_4)) ?_
        refine Ew_of (pcₚ := 3) (fun _ => x_goto rfl rfl) ?_
        exact ih3 _ (msE hm3 q_31 (q_34 b2)) _ σ _ _ ((x3_4 + 1)) (rk_o (l3_0) rfl rfl) (rk_o (l3_1) rfl rfl) (rk_o (l3_2) rfl rfl) (rk_o (l3_3) rfl rfl) (rk_s) H (hS_3) (hA_3)   (show inr ((x3_4 + 1)) from q_157 b2 h4 j3_1) (show (0) ≤ ((x3_4 + 1)) from q_29 j3_1) (show ((x3_4 + 1)) ≤ (0) ∨ ((x3_4 + 1)) ≤ ((a3)) from q_33 b2) rfl
/-- Tokens.match -/
theorem M361 {σ0 σ : rS} {D N : Nat → Nat} {F : hF} {A : hA} {d c s : Nat} {Q : wQ} (H : HS σ0 σ D N F A) {a1 a2 : Int} (u3_5 : Int) (eu3_5 : F 3 5 = u3_5) (h0 : inr (a1)) (h1 : inr (a2)) (h2 : 0 ≤ (u3_5) ∧ (u3_5) ≤ 16384) (h3 : 0 ≤ (a1) ∧ (a1) ≤ 16384) (k : ∀ (z : Int) σ Fₚ Aₚ, HS σ0 σ D N Fₚ Aₚ → SF [(3, 6)] F Fₚ → SA [] A Aₚ → ∀ y3_6 : Int, Fₚ 3 6 = y3_6 → (inr (z)) → (0 ≤ (z)) → ((z) = 0 ∨ 4 ≤ (z) ∧ (z) ≤ (u3_5) - 5 - (a1)) → ((z) = 0 ∨ (y3_6) < (a1)) → Q (some (I z)) σ c s) : Ew 361 (d + 1) 0 (rargs 0 [.ref (D 3), I a1, I a2]) [] σ c s Q := by
  have r1 : (-2147483648 : Int) ≤ u3_5 ∧ u3_5 ≤ 2147483647 := rngE (show (-2147483648 : Int) ≤ F 3 5 ∧ F 3 5 ≤ 2147483647 from H.frng 3 5) (show F 3 5 = u3_5 from (eu3_5))
  refine Ew_of (pcₚ := 1) (fun _ => x_aload_n rfl rfl) ?_
  refine w_gI H (o := 3) (w := u3_5) rfl (H.perm 3 rfl) rfl rfl rfl (fun _ => rfl) (eu3_5) ?_
  refine Ew_of (pcₚ := 5) (fun _ => x_iconst rfl) ?_
  refine w_isub rfl ?_
  refine Ew_of (pcₚ := 7) (fun _ => x_iload_n rfl rfl) ?_
  refine w_isub rfl ?_
  refine Ew_of (pcₚ := 9) (fun _ => x_istore_n rfl) ?_
  refine Ew_of (pcₚ := 10) (fun _ => x_iload_n rfl (rk_o (rfl) rfl rfl)) ?_
  refine w_iflt (t := 29) rfl rfl (show inr (a1) from h0) (fun b2 => ?_) (fun b2 => ?_)
  · refine Ew_of (pcₚ := 30) (fun _ => x_iconst rfl) ?_
    have r3 : (0 : Int) ≤ F 3 6 ∧ F 3 6 ≤ 16384 := H.frng 3 6
    exact w_ireturn rfl (k (0) σ _ _ H (SF_refl) (SA_refl) (F 3 6) (rfl) (show inr (0) from q_20) (show 0 ≤ (0) by first | exact q_25 | omega) (show (0) = 0 ∨ 4 ≤ (0) ∧ (0) ≤ (u3_5) - 5 - a1 by first | exact q_159 | omega) (show (0) = 0 ∨ (F 3 6) < a1 by first | exact q_158 | omega))
  · refine Ew_of (pcₚ := 14) (fun _ => x_iload_n rfl (rk_o (rfl) rfl rfl)) ?_
    refine Ew_of (pcₚ := 15) (fun _ => x_aload_n rfl (rk_o (rfl) rfl rfl)) ?_
    refine w_gI H (o := 3) (w := u3_5) rfl (H.perm 3 rfl) rfl rfl rfl (fun _ => rfl) (eu3_5) ?_
    refine Ew_of (pcₚ := 20) (fun _ => x_bipush (z := 12) rfl (by decide)) ?_
    refine w_isub rfl ?_
    refine w_icmpgt (t := 29) rfl rfl (show inr (a1) from h0) (show inr ((u3_5 - 12)) from q_160 h2) (fun b4 => ?_) (fun b4 => ?_)
    · refine Ew_of (pcₚ := 30) (fun _ => x_iconst rfl) ?_
      have r5 : (0 : Int) ≤ F 3 6 ∧ F 3 6 ≤ 16384 := H.frng 3 6
      exact w_ireturn rfl (k (0) σ _ _ H (SF_refl) (SA_refl) (F 3 6) (rfl) (show inr (0) from q_20) (show 0 ≤ (0) by first | exact q_25 | omega) (show (0) = 0 ∨ 4 ≤ (0) ∧ (0) ≤ (u3_5) - 5 - a1 by first | exact q_159 | omega) (show (0) = 0 ∨ (F 3 6) < a1 by first | exact q_158 | omega))
    · refine Ew_of (pcₚ := 25) (fun _ => x_iload_n rfl rk_s) ?_
      refine Ew_of (pcₚ := 26) (fun _ => x_iconst rfl) ?_
      refine w_icmpge (t := 31) rfl rfl (show inr (((u3_5 - 5) - a1)) from q_161 b2 b4 h2) (show inr (4) from q_2) (fun b6 => ?_) (fun b6 => ?_)
      · refine Ew_of (pcₚ := 32) (fun _ => x_iconst rfl) ?_
        refine Ew_of (pcₚ := 34) (fun _ => x_istore rfl) ?_
        refine Ew_of (pcₚ := 35) (fun _ => x_iload_n rfl (rk_o (rk_o (rfl) rfl rfl) rfl rfl)) ?_
        refine Ew_of (pcₚ := 36) (fun _ => x_iconst rfl) ?_
        refine w_isub rfl ?_
        refine Ew_of (pcₚ := 39) (fun _ => x_istore rfl) ?_
        have r7 : (0 : Int) ≤ F 3 6 ∧ F 3 6 ≤ 16384 := H.frng 3 6
        suffices hl39 : ∀ (m : Nat), ∀ (ls : rO) (σ : rS) (F_39 : hF) (A_39 : hA) (x39_4 : Int) (x39_5 : Int), rlook ls 0 = some (.ref (D 3)) → rlook ls 1 = some (I (a1)) → rlook ls 2 = some (I (a2)) → rlook ls 3 = some (I (((u3_5 - 5) - a1))) → rlook ls 4 = some (I (x39_4)) → rlook ls 5 = some (I (x39_5)) → HS σ0 σ D N F_39 A_39 → SF [(3, 6)] F F_39 → SA [] A A_39 → ∀ y39_3_6 : Int, F_39 3 6 = y39_3_6 → (inr (x39_4)) → (inr (x39_5)) → ((x39_5) ≤ ((a1 - 1))) → (((a1 - 1)) ≤ (x39_5) ∨ ((-1)) ≤ (x39_5)) → ((x39_4) = 0 ∨ 4 ≤ (x39_4) ∧ (x39_4) ≤ (((u3_5 - 5) - a1))) → ((x39_4) = 0 ∨ (y39_3_6) < (a1)) → ((x39_5) - ((-1))).toNat = m → Ew 361 (d + 1) 39 ls [] σ c s Q from
          hl39 _ _ σ _ _ (0) ((a1 - 1)) (rk_o (rk_o (rk_o (rfl) rfl rfl) rfl rfl) rfl rfl) (rk_o (rk_o (rk_o (rfl) rfl rfl) rfl rfl) rfl rfl) (rk_o (rk_o (rk_o (rfl) rfl rfl) rfl rfl) rfl rfl) (rk_o (rk_o (rk_s) rfl rfl) rfl rfl) (rk_o (rk_s) rfl rfl) (rk_s) H (SF_refl) (SA_refl) (F 3 6) (rfl)  (show inr (0) from q_20) (show inr ((a1 - 1)) from q_164 b2 h3) (show ((a1 - 1)) ≤ ((a1 - 1)) from q_163) (show ((a1 - 1)) ≤ ((a1 - 1)) ∨ ((-1)) ≤ ((a1 - 1)) from q_162) (show (0) = 0 ∨ 4 ≤ (0) ∧ (0) ≤ (((u3_5 - 5) - a1)) from q_159) (show (0) = 0 ∨ (F 3 6) < (a1) from q_158) rfl
        as_aux_lemma =>
        intro m
        induction m using Nat.strongRecOn with
        | _ m ih39 =>
          intro ls σ F_39 A_39 x39_4 x39_5 l39_0 l39_1 l39_2 l39_3 l39_4 l39_5 H hS_39 hA_39 y39_3_6 ey39_3_6  j39_0 j39_1 j39_2 j39_3 j39_4 j39_5 hm39
          have r8 : (0 : Int) ≤ y39_3_6 ∧ y39_3_6 ≤ 16384 := rngE (show (0 : Int) ≤ F_39 3 6 ∧ F_39 3 6 ≤ 16384 from H.frng 3 6) (show F_39 3 6 = y39_3_6 from (ey39_3_6))
          refine Ew_of (pcₚ := 41) (fun _ => x_iload rfl l39_5) ?_
          refine w_iflt (t := 173) rfl rfl (show inr (x39_5) from j39_1) (fun b9 => ?_) (fun b9 => ?_)
          · refine Ew_of (pcₚ := 175) (fun _ => x_iload rfl l39_4) ?_
            exact w_ireturn rfl (k (x39_4) σ _ _ H (SF_trans (SF_refl) hS_39 (any_sub rfl)) (SA_trans (SA_refl) hA_39 (any_subA rfl)) (y39_3_6) ((ey39_3_6)) (show inr (x39_4) from j39_0) (show 0 ≤ (x39_4) from q_165 j39_4 j39_5) (show (x39_4) = 0 ∨ 4 ≤ (x39_4) ∧ (x39_4) ≤ (u3_5) - 5 - a1 from j39_4) (show (x39_4) = 0 ∨ (y39_3_6) < a1 from j39_5))
          · refine Ew_of (pcₚ := 45) (fun _ => x_iload_n rfl l39_1) ?_
            refine Ew_of (pcₚ := 47) (fun _ => x_iload rfl l39_5) ?_
            refine w_isub rfl ?_
            refine Ew_of (pcₚ := 50) (fun _ => x_ldc (z := 65535) rfl (by decide)) ?_
            refine w_icmpgt (t := 173) rfl rfl (show inr ((a1 - x39_5)) from q_167 b9 h3 j39_2) (show inr (65535) from q_166) (fun b10 => ?_) (fun b10 => ?_)
            · refine Ew_of (pcₚ := 175) (fun _ => x_iload rfl l39_4) ?_
              exact w_ireturn rfl (k (x39_4) σ _ _ H (SF_trans (SF_refl) hS_39 (any_sub rfl)) (SA_trans (SA_refl) hA_39 (any_subA rfl)) (y39_3_6) ((ey39_3_6)) (show inr (x39_4) from j39_0) (show 0 ≤ (x39_4) from q_168 b10 b9 h3 j39_0 j39_5) (show (x39_4) = 0 ∨ 4 ≤ (x39_4) ∧ (x39_4) ≤ (u3_5) - 5 - a1 from j39_4) (show (x39_4) = 0 ∨ (y39_3_6) < a1 from j39_5))
            · refine Ew_of (pcₚ := 54) (fun _ => x_aload_n rfl l39_0) ?_
              refine Ew_of (pcₚ := 56) (fun _ => x_iload rfl l39_5) ?_
              refine Ew_of (pcₚ := 57) (fun _ => x_iload_n rfl l39_1) ?_
              refine Ew_of (pcₚ := 58) (fun _ => x_iload_n rfl l39_3) ?_
              refine w_inv H (o := 3) rfl rfl rfl (H.perm 3 rfl) rfl rfl (by rfl) (M360 H (u3_5) (((hS_39 3 5 rfl).trans (eu3_5))) (show inr (x39_5) from j39_1) (show inr (a1) from h0) (show inr (((u3_5 - 5) - a1)) from q_170 b2 b6 h2) (show 0 ≤ (u3_5) ∧ (u3_5) ≤ 16384 from h2) (show 0 ≤ (x39_5) ∧ (x39_5) < (a1) ∧ (((u3_5 - 5) - a1)) + (a1) ≤ 16384 ∧ 0 ≤ (((u3_5 - 5) - a1)) from q_169 b6 b9 h2 j39_2) (fun z15 σ F11 A12 H hS13 hA14 pz15_0 pz15_1 => ⟨rfl, ?_⟩))
              refine Ew_of (pcₚ := 63) (fun _ => x_istore rfl) ?_
              refine Ew_of (pcₚ := 64) (fun _ => x_iload_n rfl (rk_o (l39_2) rfl rfl)) ?_
              refine w_ifne (t := 86) rfl rfl (show inr (a2) from h1) (fun b16 => ?_) (fun b16 => ?_)
              · refine Ew_of (pcₚ := 87) (fun _ => x_iload_n rfl (rk_o (l39_2) rfl rfl)) ?_
                refine Ew_of (pcₚ := 88) (fun _ => x_iconst rfl) ?_
                refine w_icmpne (t := 129) rfl rfl (show inr (a2) from h1) (show inr (1) from q_23) (fun b17 => ?_) (fun b17 => ?_)
                · refine Ew_of (pcₚ := 131) (fun _ => x_iload rfl rk_s) ?_
                  refine Ew_of (pcₚ := 132) (fun _ => x_iconst rfl) ?_
                  refine w_icmplt (t := 146) rfl rfl (show inr (z15) from pz15_0) (show inr (4) from q_2) (fun b18 => ?_) (fun b18 => ?_)
                  · refine Ew_of (pcₚ := 147) (fun _ => x_iconst rfl) ?_
                    refine Ew_of (pcₚ := 149) (fun _ => x_istore rfl) ?_
                    refine Ew_of (pcₚ := 151) (fun _ => x_iload rfl rk_s) ?_
                    refine w_ifne (t := 157) rfl rfl (show inr (0) from q_20) (fun b19 => ?_) (fun b19 => ?_)
                    · refine Ew_of (pcₚ := 159) (fun _ => x_iload rfl (rk_o (rk_s) rfl rfl)) ?_
                      refine Ew_of (pcₚ := 161) (fun _ => x_istore rfl) ?_
                      refine Ew_of (pcₚ := 162) (fun _ => x_aload_n rfl (rk_o (rk_o (rk_o (l39_0) rfl rfl) rfl rfl) rfl rfl)) ?_
                      refine Ew_of (pcₚ := 164) (fun _ => x_iload rfl (rk_o (rk_o (rk_o (l39_5) rfl rfl) rfl rfl) rfl rfl)) ?_
                      refine w_pI H (o := 3) rfl rfl (H.perm 3 rfl) rfl rfl rfl (fun _ => rfl) rfl (show (0 : Int) ≤ x39_5 ∧ x39_5 ≤ 16384 from q_171 b9 h3 j39_2) (fun σ H => ?_)
                      refine Ew_of (pcₚ := 170) (fun _ => x_iinc (len := 3) rfl (rk_o (rk_o (rk_o (l39_5) rfl rfl) rfl rfl) rfl rfl)) ?_
                      refine Ew_of (pcₚ := 39) (fun _ => x_goto rfl rfl) ?_
                      exact ih39 _ (msE hm39 q_176 (q_177 b9)) _ σ _ _ (z15) ((x39_5 + (-1))) (rk_o (rk_o (rk_o (rk_o (l39_0) rfl rfl) rfl rfl) rfl rfl) rfl rfl) (rk_o (rk_o (rk_o (rk_o (l39_1) rfl rfl) rfl rfl) rfl rfl) rfl rfl) (rk_o (rk_o (rk_o (rk_o (l39_2) rfl rfl) rfl rfl) rfl rfl) rfl rfl) (rk_o (rk_o (rk_o (rk_o (l39_3) rfl rfl) rfl rfl) rfl rfl) rfl rfl) (rk_o (rk_s) rfl rfl) (rk_s) H (SF_upd (SF_trans (hS_39) hS13 (any_sub rfl)) rfl) (SA_trans (hA_39) hA14 (any_subA rfl)) (x39_5) (rfl)  (show inr (z15) from pz15_0) (show inr ((x39_5 + (-1))) from q_175 b9 j39_1) (show ((x39_5 + (-1))) ≤ ((a1 - 1)) from q_174 j39_2) (show ((a1 - 1)) ≤ ((x39_5 + (-1))) ∨ ((-1)) ≤ ((x39_5 + (-1))) from q_173 b9) (show (z15) = 0 ∨ 4 ≤ (z15) ∧ (z15) ≤ (((u3_5 - 5) - a1)) by omega) (show (z15) = 0 ∨ (x39_5) < (a1) from q_172 j39_2) rfl
                    · refine Ew_of (pcₚ := 167) (fun _ => x_goto rfl rfl) ?_
                      refine Ew_of (pcₚ := 170) (fun _ => x_iinc (len := 3) rfl (rk_o (rk_o (l39_5) rfl rfl) rfl rfl)) ?_
                      refine Ew_of (pcₚ := 39) (fun _ => x_goto rfl rfl) ?_
                      exact ih39 _ (msE hm39 q_176 (q_177 b9)) _ σ _ _ (x39_4) ((x39_5 + (-1))) (rk_o (rk_o (rk_o (l39_0) rfl rfl) rfl rfl) rfl rfl) (rk_o (rk_o (rk_o (l39_1) rfl rfl) rfl rfl) rfl rfl) (rk_o (rk_o (rk_o (l39_2) rfl rfl) rfl rfl) rfl rfl) (rk_o (rk_o (rk_o (l39_3) rfl rfl) rfl rfl) rfl rfl) (rk_o (rk_o (rk_o (l39_4) rfl rfl) rfl rfl) rfl rfl) (rk_s) H (SF_trans (hS_39) hS13 (any_sub rfl)) (SA_trans (hA_39) hA14 (any_subA rfl)) (y39_3_6) (((hS13 3 6 rfl).trans (ey39_3_6)))  (show inr (x39_4) from j39_0) (show inr ((x39_5 + (-1))) from q_175 b9 j39_1) (show ((x39_5 + (-1))) ≤ ((a1 - 1)) from q_174 j39_2) (show ((a1 - 1)) ≤ ((x39_5 + (-1))) ∨ ((-1)) ≤ ((x39_5 + (-1))) from q_173 b9) (show (x39_4) = 0 ∨ 4 ≤ (x39_4) ∧ (x39_4) ≤ (((u3_5 - 5) - a1)) from j39_4) (show (x39_4) = 0 ∨ (y39_3_6) < (a1) from j39_5) rfl
                  · refine Ew_of (pcₚ := 137) (fun _ => x_iload rfl rk_s) ?_
                    refine Ew_of (pcₚ := 139) (fun _ => x_iload rfl (rk_o (l39_4) rfl rfl)) ?_
                    refine w_icmple (t := 146) rfl rfl (show inr (z15) from pz15_0) (show inr (x39_4) from j39_0) (fun b20 => ?_) (fun b20 => ?_)
                    · refine Ew_of (pcₚ := 147) (fun _ => x_iconst rfl) ?_
                      refine Ew_of (pcₚ := 149) (fun _ => x_istore rfl) ?_
                      refine Ew_of (pcₚ := 151) (fun _ => x_iload rfl rk_s) ?_
                      refine w_ifne (t := 157) rfl rfl (show inr (0) from q_20) (fun b21 => ?_) (fun b21 => ?_)
                      · refine Ew_of (pcₚ := 159) (fun _ => x_iload rfl (rk_o (rk_s) rfl rfl)) ?_
                        refine Ew_of (pcₚ := 161) (fun _ => x_istore rfl) ?_
                        refine Ew_of (pcₚ := 162) (fun _ => x_aload_n rfl (rk_o (rk_o (rk_o (l39_0) rfl rfl) rfl rfl) rfl rfl)) ?_
                        refine Ew_of (pcₚ := 164) (fun _ => x_iload rfl (rk_o (rk_o (rk_o (l39_5) rfl rfl) rfl rfl) rfl rfl)) ?_
                        refine w_pI H (o := 3) rfl rfl (H.perm 3 rfl) rfl rfl rfl (fun _ => rfl) rfl (show (0 : Int) ≤ x39_5 ∧ x39_5 ≤ 16384 from q_171 b9 h3 j39_2) (fun σ H => ?_)
                        refine Ew_of (pcₚ := 170) (fun _ => x_iinc (len := 3) rfl (rk_o (rk_o (rk_o (l39_5) rfl rfl) rfl rfl) rfl rfl)) ?_
                        refine Ew_of (pcₚ := 39) (fun _ => x_goto rfl rfl) ?_
                        exact ih39 _ (msE hm39 q_176 (q_177 b9)) _ σ _ _ (z15) ((x39_5 + (-1))) (rk_o (rk_o (rk_o (rk_o (l39_0) rfl rfl) rfl rfl) rfl rfl) rfl rfl) (rk_o (rk_o (rk_o (rk_o (l39_1) rfl rfl) rfl rfl) rfl rfl) rfl rfl) (rk_o (rk_o (rk_o (rk_o (l39_2) rfl rfl) rfl rfl) rfl rfl) rfl rfl) (rk_o (rk_o (rk_o (rk_o (l39_3) rfl rfl) rfl rfl) rfl rfl) rfl rfl) (rk_o (rk_s) rfl rfl) (rk_s) H (SF_upd (SF_trans (hS_39) hS13 (any_sub rfl)) rfl) (SA_trans (hA_39) hA14 (any_subA rfl)) (x39_5) (rfl)  (show inr (z15) from pz15_0) (show inr ((x39_5 + (-1))) from q_175 b9 j39_1) (show ((x39_5 + (-1))) ≤ ((a1 - 1)) from q_174 j39_2) (show ((a1 - 1)) ≤ ((x39_5 + (-1))) ∨ ((-1)) ≤ ((x39_5 + (-1))) from q_173 b9) (show (z15) = 0 ∨ 4 ≤ (z15) ∧ (z15) ≤ (((u3_5 - 5) - a1)) from q_178 b18 pz15_1) (show (z15) = 0 ∨ (x39_5) < (a1) from q_172 j39_2) rfl
                      · refine Ew_of (pcₚ := 167) (fun _ => x_goto rfl rfl) ?_
                        refine Ew_of (pcₚ := 170) (fun _ => x_iinc (len := 3) rfl (rk_o (rk_o (l39_5) rfl rfl) rfl rfl)) ?_
                        refine Ew_of (pcₚ := 39) (fun _ => x_goto rfl rfl) ?_
                        exact ih39 _ (msE hm39 q_176 (q_177 b9)) _ σ _ _ (x39_4) ((x39_5 + (-1))) (rk_o (rk_o (rk_o (l39_0) rfl rfl) rfl rfl) rfl rfl) (rk_o (rk_o (rk_o (l39_1) rfl rfl) rfl rfl) rfl rfl) (rk_o (rk_o (rk_o (l39_2) rfl rfl) rfl rfl) rfl rfl) (rk_o (rk_o (rk_o (l39_3) rfl rfl) rfl rfl) rfl rfl) (rk_o (rk_o (rk_o (l39_4) rfl rfl) rfl rfl) rfl rfl) (rk_s) H (SF_trans (hS_39) hS13 (any_sub rfl)) (SA_trans (hA_39) hA14 (any_subA rfl)) (y39_3_6) (((hS13 3 6 rfl).trans (ey39_3_6)))  (show inr (x39_4) from j39_0) (show inr ((x39_5 + (-1))) from q_175 b9 j39_1) (show ((x39_5 + (-1))) ≤ ((a1 - 1)) from q_174 j39_2) (show ((a1 - 1)) ≤ ((x39_5 + (-1))) ∨ ((-1)) ≤ ((x39_5 + (-1))) from q_173 b9) (show (x39_4) = 0 ∨ 4 ≤ (x39_4) ∧ (x39_4) ≤ (((u3_5 - 5) - a1)) from j39_4) (show (x39_4) = 0 ∨ (y39_3_6) < (a1) from j39_5) rfl
                    · refine Ew_of (pcₚ := 143) (fun _ => x_iconst rfl) ?_
                      refine Ew_of (pcₚ := 147) (fun _ => x_goto rfl rfl) ?_
                      refine Ew_of (pcₚ := 149) (fun _ => x_istore rfl) ?_
                      refine Ew_of (pcₚ := 151) (fun _ => x_iload rfl rk_s) ?_
                      refine w_ifne (t := 157) rfl rfl (show inr (1) from q_23) (fun b22 => ?_) (fun b22 => ?_)
                      · refine Ew_of (pcₚ := 159) (fun _ => x_iload rfl (rk_o (rk_s) rfl rfl)) ?_
                        refine Ew_of (pcₚ := 161) (fun _ => x_istore rfl) ?_
                        refine Ew_of (pcₚ := 162) (fun _ => x_aload_n rfl (rk_o (rk_o (rk_o (l39_0) rfl rfl) rfl rfl) rfl rfl)) ?_
                        refine Ew_of (pcₚ := 164) (fun _ => x_iload rfl (rk_o (rk_o (rk_o (l39_5) rfl rfl) rfl rfl) rfl rfl)) ?_
                        refine w_pI H (o := 3) rfl rfl (H.perm 3 rfl) rfl rfl rfl (fun _ => rfl) rfl (show (0 : Int) ≤ x39_5 ∧ x39_5 ≤ 16384 from q_171 b9 h3 j39_2) (fun σ H => ?_)
                        refine Ew_of (pcₚ := 170) (fun _ => x_iinc (len := 3) rfl (rk_o (rk_o (rk_o (l39_5) rfl rfl) rfl rfl) rfl rfl)) ?_
                        refine Ew_of (pcₚ := 39) (fun _ => x_goto rfl rfl) ?_
                        exact ih39 _ (msE hm39 q_176 (q_177 b9)) _ σ _ _ (z15) ((x39_5 + (-1))) (rk_o (rk_o (rk_o (rk_o (l39_0) rfl rfl) rfl rfl) rfl rfl) rfl rfl) (rk_o (rk_o (rk_o (rk_o (l39_1) rfl rfl) rfl rfl) rfl rfl) rfl rfl) (rk_o (rk_o (rk_o (rk_o (l39_2) rfl rfl) rfl rfl) rfl rfl) rfl rfl) (rk_o (rk_o (rk_o (rk_o (l39_3) rfl rfl) rfl rfl) rfl rfl) rfl rfl) (rk_o (rk_s) rfl rfl) (rk_s) H (SF_upd (SF_trans (hS_39) hS13 (any_sub rfl)) rfl) (SA_trans (hA_39) hA14 (any_subA rfl)) (x39_5) (rfl)  (show inr (z15) from pz15_0) (show inr ((x39_5 + (-1))) from q_175 b9 j39_1) (show ((x39_5 + (-1))) ≤ ((a1 - 1)) from q_174 j39_2) (show ((a1 - 1)) ≤ ((x39_5 + (-1))) ∨ ((-1)) ≤ ((x39_5 + (-1))) from q_173 b9) (show (z15) = 0 ∨ 4 ≤ (z15) ∧ (z15) ≤ (((u3_5 - 5) - a1)) from q_178 b18 pz15_1) (show (z15) = 0 ∨ (x39_5) < (a1) from q_172 j39_2) rfl
                      · refine Ew_of (pcₚ := 167) (fun _ => x_goto rfl rfl) ?_
                        refine Ew_of (pcₚ := 170) (fun _ => x_iinc (len := 3) rfl (rk_o (rk_o (l39_5) rfl rfl) rfl rfl)) ?_
                        refine Ew_of (pcₚ := 39) (fun _ => x_goto rfl rfl) ?_
                        exact ih39 _ (msE hm39 q_176 (q_177 b9)) _ σ _ _ (x39_4) ((x39_5 + (-1))) (rk_o (rk_o (rk_o (l39_0) rfl rfl) rfl rfl) rfl rfl) (rk_o (rk_o (rk_o (l39_1) rfl rfl) rfl rfl) rfl rfl) (rk_o (rk_o (rk_o (l39_2) rfl rfl) rfl rfl) rfl rfl) (rk_o (rk_o (rk_o (l39_3) rfl rfl) rfl rfl) rfl rfl) (rk_o (rk_o (rk_o (l39_4) rfl rfl) rfl rfl) rfl rfl) (rk_s) H (SF_trans (hS_39) hS13 (any_sub rfl)) (SA_trans (hA_39) hA14 (any_subA rfl)) (y39_3_6) (((hS13 3 6 rfl).trans (ey39_3_6)))  (show inr (x39_4) from j39_0) (show inr ((x39_5 + (-1))) from q_175 b9 j39_1) (show ((x39_5 + (-1))) ≤ ((a1 - 1)) from q_174 j39_2) (show ((a1 - 1)) ≤ ((x39_5 + (-1))) ∨ ((-1)) ≤ ((x39_5 + (-1))) from q_173 b9) (show (x39_4) = 0 ∨ 4 ≤ (x39_4) ∧ (x39_4) ≤ (((u3_5 - 5) - a1)) from j39_4) (show (x39_4) = 0 ∨ (y39_3_6) < (a1) from j39_5) rfl
                · refine Ew_of (pcₚ := 93) (fun _ => x_iload rfl (rk_o (l39_4) rfl rfl)) ?_
                  refine w_ifne (t := 102) rfl rfl (show inr (x39_4) from j39_0) (fun b23 => ?_) (fun b23 => ?_)
                  · refine Ew_of (pcₚ := 104) (fun _ => x_iload rfl (rk_o (l39_4) rfl rfl)) ?_
                    refine w_ifle (t := 125) rfl rfl (show inr (x39_4) from j39_0) (fun b24 => ?_) (fun b24 => ?_)
                    · refine Ew_of (pcₚ := 126) (fun _ => x_iconst rfl) ?_
                      refine Ew_of (pcₚ := 147) (fun _ => x_goto rfl rfl) ?_
                      refine Ew_of (pcₚ := 149) (fun _ => x_istore rfl) ?_
                      refine Ew_of (pcₚ := 151) (fun _ => x_iload rfl rk_s) ?_
                      refine w_ifne (t := 157) rfl rfl (show inr (0) from q_20) (fun b25 => ?_) (fun b25 => ?_)
                      · refine Ew_of (pcₚ := 159) (fun _ => x_iload rfl (rk_o (rk_s) rfl rfl)) ?_
                        refine Ew_of (pcₚ := 161) (fun _ => x_istore rfl) ?_
                        refine Ew_of (pcₚ := 162) (fun _ => x_aload_n rfl (rk_o (rk_o (rk_o (l39_0) rfl rfl) rfl rfl) rfl rfl)) ?_
                        refine Ew_of (pcₚ := 164) (fun _ => x_iload rfl (rk_o (rk_o (rk_o (l39_5) rfl rfl) rfl rfl) rfl rfl)) ?_
                        refine w_pI H (o := 3) rfl rfl (H.perm 3 rfl) rfl rfl rfl (fun _ => rfl) rfl (show (0 : Int) ≤ x39_5 ∧ x39_5 ≤ 16384 from q_171 b9 h3 j39_2) (fun σ H => ?_)
                        refine Ew_of (pcₚ := 170) (fun _ => x_iinc (len := 3) rfl (rk_o (rk_o (rk_o (l39_5) rfl rfl) rfl rfl) rfl rfl)) ?_
                        refine Ew_of (pcₚ := 39) (fun _ => x_goto rfl rfl) ?_
                        exact ih39 _ (msE hm39 q_176 (q_177 b9)) _ σ _ _ (z15) ((x39_5 + (-1))) (rk_o (rk_o (rk_o (rk_o (l39_0) rfl rfl) rfl rfl) rfl rfl) rfl rfl) (rk_o (rk_o (rk_o (rk_o (l39_1) rfl rfl) rfl rfl) rfl rfl) rfl rfl) (rk_o (rk_o (rk_o (rk_o (l39_2) rfl rfl) rfl rfl) rfl rfl) rfl rfl) (rk_o (rk_o (rk_o (rk_o (l39_3) rfl rfl) rfl rfl) rfl rfl) rfl rfl) (rk_o (rk_s) rfl rfl) (rk_s) H (SF_upd (SF_trans (hS_39) hS13 (any_sub rfl)) rfl) (SA_trans (hA_39) hA14 (any_subA rfl)) (x39_5) (rfl)  (show inr (z15) from pz15_0) (show inr ((x39_5 + (-1))) from q_175 b9 j39_1) (show ((x39_5 + (-1))) ≤ ((a1 - 1)) from q_174 j39_2) (show ((a1 - 1)) ≤ ((x39_5 + (-1))) ∨ ((-1)) ≤ ((x39_5 + (-1))) from q_173 b9) (show (z15) = 0 ∨ 4 ≤ (z15) ∧ (z15) ≤ (((u3_5 - 5) - a1)) by omega) (show (z15) = 0 ∨ (x39_5) < (a1) from q_172 j39_2) rfl
                      · refine Ew_of (pcₚ := 167) (fun _ => x_goto rfl rfl) ?_
                        refine Ew_of (pcₚ := 170) (fun _ => x_iinc (len := 3) rfl (rk_o (rk_o (l39_5) rfl rfl) rfl rfl)) ?_
                        refine Ew_of (pcₚ := 39) (fun _ => x_goto rfl rfl) ?_
                        exact ih39 _ (msE hm39 q_176 (q_177 b9)) _ σ _ _ (x39_4) ((x39_5 + (-1))) (rk_o (rk_o (rk_o (l39_0) rfl rfl) rfl rfl) rfl rfl) (rk_o (rk_o (rk_o (l39_1) rfl rfl) rfl rfl) rfl rfl) (rk_o (rk_o (rk_o (l39_2) rfl rfl) rfl rfl) rfl rfl) (rk_o (rk_o (rk_o (l39_3) rfl rfl) rfl rfl) rfl rfl) (rk_o (rk_o (rk_o (l39_4) rfl rfl) rfl rfl) rfl rfl) (rk_s) H (SF_trans (hS_39) hS13 (any_sub rfl)) (SA_trans (hA_39) hA14 (any_subA rfl)) (y39_3_6) (((hS13 3 6 rfl).trans (ey39_3_6)))  (show inr (x39_4) from j39_0) (show inr ((x39_5 + (-1))) from q_175 b9 j39_1) (show ((x39_5 + (-1))) ≤ ((a1 - 1)) from q_174 j39_2) (show ((a1 - 1)) ≤ ((x39_5 + (-1))) ∨ ((-1)) ≤ ((x39_5 + (-1))) from q_173 b9) (show (x39_4) = 0 ∨ 4 ≤ (x39_4) ∧ (x39_4) ≤ (((u3_5 - 5) - a1)) from j39_4) (show (x39_4) = 0 ∨ (y39_3_6) < (a1) from j39_5) rfl
                    · refine Ew_of (pcₚ := 109) (fun _ => x_iload rfl (rk_o (l39_4) rfl rfl)) ?_
                      refine Ew_of (pcₚ := 111) (fun _ => x_bipush (z := 8) rfl (by decide)) ?_
                      refine w_icmpge (t := 125) rfl rfl (show inr (x39_4) from j39_0) (show inr (8) from q_96) (fun b26 => ?_) (fun b26 => ?_)
                      · refine Ew_of (pcₚ := 126) (fun _ => x_iconst rfl) ?_
                        refine Ew_of (pcₚ := 147) (fun _ => x_goto rfl rfl) ?_
                        refine Ew_of (pcₚ := 149) (fun _ => x_istore rfl) ?_
                        refine Ew_of (pcₚ := 151) (fun _ => x_iload rfl rk_s) ?_
                        refine w_ifne (t := 157) rfl rfl (show inr (0) from q_20) (fun b27 => ?_) (fun b27 => ?_)
                        · refine Ew_of (pcₚ := 159) (fun _ => x_iload rfl (rk_o (rk_s) rfl rfl)) ?_
                          refine Ew_of (pcₚ := 161) (fun _ => x_istore rfl) ?_
                          refine Ew_of (pcₚ := 162) (fun _ => x_aload_n rfl (rk_o (rk_o (rk_o (l39_0) rfl rfl) rfl rfl) rfl rfl)) ?_
                          refine Ew_of (pcₚ := 164) (fun _ => x_iload rfl (rk_o (rk_o (rk_o (l39_5) rfl rfl) rfl rfl) rfl rfl)) ?_
                          refine w_pI H (o := 3) rfl rfl (H.perm 3 rfl) rfl rfl rfl (fun _ => rfl) rfl (show (0 : Int) ≤ x39_5 ∧ x39_5 ≤ 16384 from q_171 b9 h3 j39_2) (fun σ H => ?_)
                          refine Ew_of (pcₚ := 170) (fun _ => x_iinc (len := 3) rfl (rk_o (rk_o (rk_o (l39_5) rfl rfl) rfl rfl) rfl rfl)) ?_
                          refine Ew_of (pcₚ := 39) (fun _ => x_goto rfl rfl) ?_
                          exact ih39 _ (msE hm39 q_176 (q_177 b9)) _ σ _ _ (z15) ((x39_5 + (-1))) (rk_o (rk_o (rk_o (rk_o (l39_0) rfl rfl) rfl rfl) rfl rfl) rfl rfl) (rk_o (rk_o (rk_o (rk_o (l39_1) rfl rfl) rfl rfl) rfl rfl) rfl rfl) (rk_o (rk_o (rk_o (rk_o (l39_2) rfl rfl) rfl rfl) rfl rfl) rfl rfl) (rk_o (rk_o (rk_o (rk_o (l39_3) rfl rfl) rfl rfl) rfl rfl) rfl rfl) (rk_o (rk_s) rfl rfl) (rk_s) H (SF_upd (SF_trans (hS_39) hS13 (any_sub rfl)) rfl) (SA_trans (hA_39) hA14 (any_subA rfl)) (x39_5) (rfl)  (show inr (z15) from pz15_0) (show inr ((x39_5 + (-1))) from q_175 b9 j39_1) (show ((x39_5 + (-1))) ≤ ((a1 - 1)) from q_174 j39_2) (show ((a1 - 1)) ≤ ((x39_5 + (-1))) ∨ ((-1)) ≤ ((x39_5 + (-1))) from q_173 b9) (show (z15) = 0 ∨ 4 ≤ (z15) ∧ (z15) ≤ (((u3_5 - 5) - a1)) by omega) (show (z15) = 0 ∨ (x39_5) < (a1) from q_172 j39_2) rfl
                        · refine Ew_of (pcₚ := 167) (fun _ => x_goto rfl rfl) ?_
                          refine Ew_of (pcₚ := 170) (fun _ => x_iinc (len := 3) rfl (rk_o (rk_o (l39_5) rfl rfl) rfl rfl)) ?_
                          refine Ew_of (pcₚ := 39) (fun _ => x_goto rfl rfl) ?_
                          exact ih39 _ (msE hm39 q_176 (q_177 b9)) _ σ _ _ (x39_4) ((x39_5 + (-1))) (rk_o (rk_o (rk_o (l39_0) rfl rfl) rfl rfl) rfl rfl) (rk_o (rk_o (rk_o (l39_1) rfl rfl) rfl rfl) rfl rfl) (rk_o (rk_o (rk_o (l39_2) rfl rfl) rfl rfl) rfl rfl) (rk_o (rk_o (rk_o (l39_3) rfl rfl) rfl rfl) rfl rfl) (rk_o (rk_o (rk_o (l39_4) rfl rfl) rfl rfl) rfl rfl) (rk_s) H (SF_trans (hS_39) hS13 (any_sub rfl)) (SA_trans (hA_39) hA14 (any_subA rfl)) (y39_3_6) (((hS13 3 6 rfl).trans (ey39_3_6)))  (show inr (x39_4) from j39_0) (show inr ((x39_5 + (-1))) from q_175 b9 j39_1) (show ((x39_5 + (-1))) ≤ ((a1 - 1)) from q_174 j39_2) (show ((a1 - 1)) ≤ ((x39_5 + (-1))) ∨ ((-1)) ≤ ((x39_5 + (-1))) from q_173 b9) (show (x39_4) = 0 ∨ 4 ≤ (x39_4) ∧ (x39_4) ≤ (((u3_5 - 5) - a1)) from j39_4) (show (x39_4) = 0 ∨ (y39_3_6) < (a1) from j39_5) rfl
                      · refine Ew_of (pcₚ := 116) (fun _ => x_iload rfl rk_s) ?_
                        refine Ew_of (pcₚ := 118) (fun _ => x_bipush (z := 8) rfl (by decide)) ?_
                        refine w_icmplt (t := 125) rfl rfl (show inr (z15) from pz15_0) (show inr (8) from q_96) (fun b28 => ?_) (fun b28 => ?_)
                        · refine Ew_of (pcₚ := 126) (fun _ => x_iconst rfl) ?_
                          refine Ew_of (pcₚ := 147) (fun _ => x_goto rfl rfl) ?_
                          refine Ew_of (pcₚ := 149) (fun _ => x_istore rfl) ?_
                          refine Ew_of (pcₚ := 151) (fun _ => x_iload rfl rk_s) ?_
                          refine w_ifne (t := 157) rfl rfl (show inr (0) from q_20) (fun b29 => ?_) (fun b29 => ?_)
                          · refine Ew_of (pcₚ := 159) (fun _ => x_iload rfl (rk_o (rk_s) rfl rfl)) ?_
                            refine Ew_of (pcₚ := 161) (fun _ => x_istore rfl) ?_
                            refine Ew_of (pcₚ := 162) (fun _ => x_aload_n rfl (rk_o (rk_o (rk_o (l39_0) rfl rfl) rfl rfl) rfl rfl)) ?_
                            refine Ew_of (pcₚ := 164) (fun _ => x_iload rfl (rk_o (rk_o (rk_o (l39_5) rfl rfl) rfl rfl) rfl rfl)) ?_
                            refine w_pI H (o := 3) rfl rfl (H.perm 3 rfl) rfl rfl rfl (fun _ => rfl) rfl (show (0 : Int) ≤ x39_5 ∧ x39_5 ≤ 16384 from q_171 b9 h3 j39_2) (fun σ H => ?_)
                            refine Ew_of (pcₚ := 170) (fun _ => x_iinc (len := 3) rfl (rk_o (rk_o (rk_o (l39_5) rfl rfl) rfl rfl) rfl rfl)) ?_
                            refine Ew_of (pcₚ := 39) (fun _ => x_goto rfl rfl) ?_
                            exact ih39 _ (msE hm39 q_176 (q_177 b9)) _ σ _ _ (z15) ((x39_5 + (-1))) (rk_o (rk_o (rk_o (rk_o (l39_0) rfl rfl) rfl rfl) rfl rfl) rfl rfl) (rk_o (rk_o (rk_o (rk_o (l39_1) rfl rfl) rfl rfl) rfl rfl) rfl rfl) (rk_o (rk_o (rk_o (rk_o (l39_2) rfl rfl) rfl rfl) rfl rfl) rfl rfl) (rk_o (rk_o (rk_o (rk_o (l39_3) rfl rfl) rfl rfl) rfl rfl) rfl rfl) (rk_o (rk_s) rfl rfl) (rk_s) H (SF_upd (SF_trans (hS_39) hS13 (any_sub rfl)) rfl) (SA_trans (hA_39) hA14 (any_subA rfl)) (x39_5) (rfl)  (show inr (z15) from pz15_0) (show inr ((x39_5 + (-1))) from q_175 b9 j39_1) (show ((x39_5 + (-1))) ≤ ((a1 - 1)) from q_174 j39_2) (show ((a1 - 1)) ≤ ((x39_5 + (-1))) ∨ ((-1)) ≤ ((x39_5 + (-1))) from q_173 b9) (show (z15) = 0 ∨ 4 ≤ (z15) ∧ (z15) ≤ (((u3_5 - 5) - a1)) by omega) (show (z15) = 0 ∨ (x39_5) < (a1) from q_172 j39_2) rfl
                          · refine Ew_of (pcₚ := 167) (fun _ => x_goto rfl rfl) ?_
                            refine Ew_of (pcₚ := 170) (fun _ => x_iinc (len := 3) rfl (rk_o (rk_o (l39_5) rfl rfl) rfl rfl)) ?_
                            refine Ew_of (pcₚ := 39) (fun _ => x_goto rfl rfl) ?_
                            exact ih39 _ (msE hm39 q_176 (q_177 b9)) _ σ _ _ (x39_4) ((x39_5 + (-1))) (rk_o (rk_o (rk_o (l39_0) rfl rfl) rfl rfl) rfl rfl) (rk_o (rk_o (rk_o (l39_1) rfl rfl) rfl rfl) rfl rfl) (rk_o (rk_o (rk_o (l39_2) rfl rfl) rfl rfl) rfl rfl) (rk_o (rk_o (rk_o (l39_3) rfl rfl) rfl rfl) rfl rfl) (rk_o (rk_o (rk_o (l39_4) rfl rfl) rfl rfl) rfl rfl) (rk_s) H (SF_trans (hS_39) hS13 (any_sub rfl)) (SA_trans (hA_39) hA14 (any_subA rfl)) (y39_3_6) (((hS13 3 6 rfl).trans (ey39_3_6)))  (show inr (x39_4) from j39_0) (show inr ((x39_5 + (-1))) from q_175 b9 j39_1) (show ((x39_5 + (-1))) ≤ ((a1 - 1)) from q_174 j39_2) (show ((a1 - 1)) ≤ ((x39_5 + (-1))) ∨ ((-1)) ≤ ((x39_5 + (-1))) from q_173 b9) (show (x39_4) = 0 ∨ 4 ≤ (x39_4) ∧ (x39_4) ≤ (((u3_5 - 5) - a1)) from j39_4) (show (x39_4) = 0 ∨ (y39_3_6) < (a1) from j39_5) rfl
                        · refine Ew_of (pcₚ := 122) (fun _ => x_iconst rfl) ?_
                          refine Ew_of (pcₚ := 147) (fun _ => x_goto rfl rfl) ?_
                          refine Ew_of (pcₚ := 149) (fun _ => x_istore rfl) ?_
                          refine Ew_of (pcₚ := 151) (fun _ => x_iload rfl rk_s) ?_
                          refine w_ifne (t := 157) rfl rfl (show inr (1) from q_23) (fun b30 => ?_) (fun b30 => ?_)
                          · refine Ew_of (pcₚ := 159) (fun _ => x_iload rfl (rk_o (rk_s) rfl rfl)) ?_
                            refine Ew_of (pcₚ := 161) (fun _ => x_istore rfl) ?_
                            refine Ew_of (pcₚ := 162) (fun _ => x_aload_n rfl (rk_o (rk_o (rk_o (l39_0) rfl rfl) rfl rfl) rfl rfl)) ?_
                            refine Ew_of (pcₚ := 164) (fun _ => x_iload rfl (rk_o (rk_o (rk_o (l39_5) rfl rfl) rfl rfl) rfl rfl)) ?_
                            refine w_pI H (o := 3) rfl rfl (H.perm 3 rfl) rfl rfl rfl (fun _ => rfl) rfl (show (0 : Int) ≤ x39_5 ∧ x39_5 ≤ 16384 from q_171 b9 h3 j39_2) (fun σ H => ?_)
                            refine Ew_of (pcₚ := 170) (fun _ => x_iinc (len := 3) rfl (rk_o (rk_o (rk_o (l39_5) rfl rfl) rfl rfl) rfl rfl)) ?_
                            refine Ew_of (pcₚ := 39) (fun _ => x_goto rfl rfl) ?_
                            exact ih39 _ (msE hm39 q_176 (q_177 b9)) _ σ _ _ (z15) ((x39_5 + (-1))) (rk_o (rk_o (rk_o (rk_o (l39_0) rfl rfl) rfl rfl) rfl rfl) rfl rfl) (rk_o (rk_o (rk_o (rk_o (l39_1) rfl rfl) rfl rfl) rfl rfl) rfl rfl) (rk_o (rk_o (rk_o (rk_o (l39_2) rfl rfl) rfl rfl) rfl rfl) rfl rfl) (rk_o (rk_o (rk_o (rk_o (l39_3) rfl rfl) rfl rfl) rfl rfl) rfl rfl) (rk_o (rk_s) rfl rfl) (rk_s) H (SF_upd (SF_trans (hS_39) hS13 (any_sub rfl)) rfl) (SA_trans (hA_39) hA14 (any_subA rfl)) (x39_5) (rfl)  (show inr (z15) from pz15_0) (show inr ((x39_5 + (-1))) from q_175 b9 j39_1) (show ((x39_5 + (-1))) ≤ ((a1 - 1)) from q_174 j39_2) (show ((a1 - 1)) ≤ ((x39_5 + (-1))) ∨ ((-1)) ≤ ((x39_5 + (-1))) from q_173 b9) (show (z15) = 0 ∨ 4 ≤ (z15) ∧ (z15) ≤ (((u3_5 - 5) - a1)) from q_179 b28 pz15_1) (show (z15) = 0 ∨ (x39_5) < (a1) from q_172 j39_2) rfl
                          · refine Ew_of (pcₚ := 167) (fun _ => x_goto rfl rfl) ?_
                            refine Ew_of (pcₚ := 170) (fun _ => x_iinc (len := 3) rfl (rk_o (rk_o (l39_5) rfl rfl) rfl rfl)) ?_
                            refine Ew_of (pcₚ := 39) (fun _ => x_goto rfl rfl) ?_
                            exact ih39 _ (msE hm39 q_176 (q_177 b9)) _ σ _ _ (x39_4) ((x39_5 + (-1))) (rk_o (rk_o (rk_o (l39_0) rfl rfl) rfl rfl) rfl rfl) (rk_o (rk_o (rk_o (l39_1) rfl rfl) rfl rfl) rfl rfl) (rk_o (rk_o (rk_o (l39_2) rfl rfl) rfl rfl) rfl rfl) (rk_o (rk_o (rk_o (l39_3) rfl rfl) rfl rfl) rfl rfl) (rk_o (rk_o (rk_o (l39_4) rfl rfl) rfl rfl) rfl rfl) (rk_s) H (SF_trans (hS_39) hS13 (any_sub rfl)) (SA_trans (hA_39) hA14 (any_subA rfl)) (y39_3_6) (((hS13 3 6 rfl).trans (ey39_3_6)))  (show inr (x39_4) from j39_0) (show inr ((x39_5 + (-1))) from q_175 b9 j39_1) (show ((x39_5 + (-1))) ≤ ((a1 - 1)) from q_174 j39_2) (show ((a1 - 1)) ≤ ((x39_5 + (-1))) ∨ ((-1)) ≤ ((x39_5 + (-1))) from q_173 b9) (show (x39_4) = 0 ∨ 4 ≤ (x39_4) ∧ (x39_4) ≤ (((u3_5 - 5) - a1)) from j39_4) (show (x39_4) = 0 ∨ (y39_3_6) < (a1) from j39_5) rfl
                  · refine Ew_of (pcₚ := 98) (fun _ => x_iload rfl rk_s) ?_
                    refine Ew_of (pcₚ := 99) (fun _ => x_iconst rfl) ?_
                    refine w_icmpge (t := 121) rfl rfl (show inr (z15) from pz15_0) (show inr (4) from q_2) (fun b31 => ?_) (fun b31 => ?_)
                    · refine Ew_of (pcₚ := 122) (fun _ => x_iconst rfl) ?_
                      refine Ew_of (pcₚ := 147) (fun _ => x_goto rfl rfl) ?_
                      refine Ew_of (pcₚ := 149) (fun _ => x_istore rfl) ?_
                      refine Ew_of (pcₚ := 151) (fun _ => x_iload rfl rk_s) ?_
                      refine w_ifne (t := 157) rfl rfl (show inr (1) from q_23) (fun b32 => ?_) (fun b32 => ?_)
                      · refine Ew_of (pcₚ := 159) (fun _ => x_iload rfl (rk_o (rk_s) rfl rfl)) ?_
                        refine Ew_of (pcₚ := 161) (fun _ => x_istore rfl) ?_
                        refine Ew_of (pcₚ := 162) (fun _ => x_aload_n rfl (rk_o (rk_o (rk_o (l39_0) rfl rfl) rfl rfl) rfl rfl)) ?_
                        refine Ew_of (pcₚ := 164) (fun _ => x_iload rfl (rk_o (rk_o (rk_o (l39_5) rfl rfl) rfl rfl) rfl rfl)) ?_
                        refine w_pI H (o := 3) rfl rfl (H.perm 3 rfl) rfl rfl rfl (fun _ => rfl) rfl (show (0 : Int) ≤ x39_5 ∧ x39_5 ≤ 16384 from q_171 b9 h3 j39_2) (fun σ H => ?_)
                        refine Ew_of (pcₚ := 170) (fun _ => x_iinc (len := 3) rfl (rk_o (rk_o (rk_o (l39_5) rfl rfl) rfl rfl) rfl rfl)) ?_
                        refine Ew_of (pcₚ := 39) (fun _ => x_goto rfl rfl) ?_
                        exact ih39 _ (msE hm39 q_176 (q_177 b9)) _ σ _ _ (z15) ((x39_5 + (-1))) (rk_o (rk_o (rk_o (rk_o (l39_0) rfl rfl) rfl rfl) rfl rfl) rfl rfl) (rk_o (rk_o (rk_o (rk_o (l39_1) rfl rfl) rfl rfl) rfl rfl) rfl rfl) (rk_o (rk_o (rk_o (rk_o (l39_2) rfl rfl) rfl rfl) rfl rfl) rfl rfl) (rk_o (rk_o (rk_o (rk_o (l39_3) rfl rfl) rfl rfl) rfl rfl) rfl rfl) (rk_o (rk_s) rfl rfl) (rk_s) H (SF_upd (SF_trans (hS_39) hS13 (any_sub rfl)) rfl) (SA_trans (hA_39) hA14 (any_subA rfl)) (x39_5) (rfl)  (show inr (z15) from pz15_0) (show inr ((x39_5 + (-1))) from q_175 b9 j39_1) (show ((x39_5 + (-1))) ≤ ((a1 - 1)) from q_174 j39_2) (show ((a1 - 1)) ≤ ((x39_5 + (-1))) ∨ ((-1)) ≤ ((x39_5 + (-1))) from q_173 b9) (show (z15) = 0 ∨ 4 ≤ (z15) ∧ (z15) ≤ (((u3_5 - 5) - a1)) from q_178 b31 pz15_1) (show (z15) = 0 ∨ (x39_5) < (a1) from q_172 j39_2) rfl
                      · refine Ew_of (pcₚ := 167) (fun _ => x_goto rfl rfl) ?_
                        refine Ew_of (pcₚ := 170) (fun _ => x_iinc (len := 3) rfl (rk_o (rk_o (l39_5) rfl rfl) rfl rfl)) ?_
                        refine Ew_of (pcₚ := 39) (fun _ => x_goto rfl rfl) ?_
                        exact ih39 _ (msE hm39 q_176 (q_177 b9)) _ σ _ _ (x39_4) ((x39_5 + (-1))) (rk_o (rk_o (rk_o (l39_0) rfl rfl) rfl rfl) rfl rfl) (rk_o (rk_o (rk_o (l39_1) rfl rfl) rfl rfl) rfl rfl) (rk_o (rk_o (rk_o (l39_2) rfl rfl) rfl rfl) rfl rfl) (rk_o (rk_o (rk_o (l39_3) rfl rfl) rfl rfl) rfl rfl) (rk_o (rk_o (rk_o (l39_4) rfl rfl) rfl rfl) rfl rfl) (rk_s) H (SF_trans (hS_39) hS13 (any_sub rfl)) (SA_trans (hA_39) hA14 (any_subA rfl)) (y39_3_6) (((hS13 3 6 rfl).trans (ey39_3_6)))  (show inr (x39_4) from j39_0) (show inr ((x39_5 + (-1))) from q_175 b9 j39_1) (show ((x39_5 + (-1))) ≤ ((a1 - 1)) from q_174 j39_2) (show ((a1 - 1)) ≤ ((x39_5 + (-1))) ∨ ((-1)) ≤ ((x39_5 + (-1))) from q_173 b9) (show (x39_4) = 0 ∨ 4 ≤ (x39_4) ∧ (x39_4) ≤ (((u3_5 - 5) - a1)) from j39_4) (show (x39_4) = 0 ∨ (y39_3_6) < (a1) from j39_5) rfl
                    · refine Ew_of (pcₚ := 104) (fun _ => x_iload rfl (rk_o (l39_4) rfl rfl)) ?_
                      refine w_ifle (t := 125) rfl rfl (show inr (x39_4) from j39_0) (fun b33 => ?_) (fun b33 => ?_)
                      · refine Ew_of (pcₚ := 126) (fun _ => x_iconst rfl) ?_
                        refine Ew_of (pcₚ := 147) (fun _ => x_goto rfl rfl) ?_
                        refine Ew_of (pcₚ := 149) (fun _ => x_istore rfl) ?_
                        refine Ew_of (pcₚ := 151) (fun _ => x_iload rfl rk_s) ?_
                        refine w_ifne (t := 157) rfl rfl (show inr (0) from q_20) (fun b34 => ?_) (fun b34 => ?_)
                        · refine Ew_of (pcₚ := 159) (fun _ => x_iload rfl (rk_o (rk_s) rfl rfl)) ?_
                          refine Ew_of (pcₚ := 161) (fun _ => x_istore rfl) ?_
                          refine Ew_of (pcₚ := 162) (fun _ => x_aload_n rfl (rk_o (rk_o (rk_o (l39_0) rfl rfl) rfl rfl) rfl rfl)) ?_
                          refine Ew_of (pcₚ := 164) (fun _ => x_iload rfl (rk_o (rk_o (rk_o (l39_5) rfl rfl) rfl rfl) rfl rfl)) ?_
                          refine w_pI H (o := 3) rfl rfl (H.perm 3 rfl) rfl rfl rfl (fun _ => rfl) rfl (show (0 : Int) ≤ x39_5 ∧ x39_5 ≤ 16384 from q_171 b9 h3 j39_2) (fun σ H => ?_)
                          refine Ew_of (pcₚ := 170) (fun _ => x_iinc (len := 3) rfl (rk_o (rk_o (rk_o (l39_5) rfl rfl) rfl rfl) rfl rfl)) ?_
                          refine Ew_of (pcₚ := 39) (fun _ => x_goto rfl rfl) ?_
                          exact ih39 _ (msE hm39 q_176 (q_177 b9)) _ σ _ _ (z15) ((x39_5 + (-1))) (rk_o (rk_o (rk_o (rk_o (l39_0) rfl rfl) rfl rfl) rfl rfl) rfl rfl) (rk_o (rk_o (rk_o (rk_o (l39_1) rfl rfl) rfl rfl) rfl rfl) rfl rfl) (rk_o (rk_o (rk_o (rk_o (l39_2) rfl rfl) rfl rfl) rfl rfl) rfl rfl) (rk_o (rk_o (rk_o (rk_o (l39_3) rfl rfl) rfl rfl) rfl rfl) rfl rfl) (rk_o (rk_s) rfl rfl) (rk_s) H (SF_upd (SF_trans (hS_39) hS13 (any_sub rfl)) rfl) (SA_trans (hA_39) hA14 (any_subA rfl)) (x39_5) (rfl)  (show inr (z15) from pz15_0) (show inr ((x39_5 + (-1))) from q_175 b9 j39_1) (show ((x39_5 + (-1))) ≤ ((a1 - 1)) from q_174 j39_2) (show ((a1 - 1)) ≤ ((x39_5 + (-1))) ∨ ((-1)) ≤ ((x39_5 + (-1))) from q_173 b9) (show (z15) = 0 ∨ 4 ≤ (z15) ∧ (z15) ≤ (((u3_5 - 5) - a1)) by omega) (show (z15) = 0 ∨ (x39_5) < (a1) from q_172 j39_2) rfl
                        · refine Ew_of (pcₚ := 167) (fun _ => x_goto rfl rfl) ?_
                          refine Ew_of (pcₚ := 170) (fun _ => x_iinc (len := 3) rfl (rk_o (rk_o (l39_5) rfl rfl) rfl rfl)) ?_
                          refine Ew_of (pcₚ := 39) (fun _ => x_goto rfl rfl) ?_
                          exact ih39 _ (msE hm39 q_176 (q_177 b9)) _ σ _ _ (x39_4) ((x39_5 + (-1))) (rk_o (rk_o (rk_o (l39_0) rfl rfl) rfl rfl) rfl rfl) (rk_o (rk_o (rk_o (l39_1) rfl rfl) rfl rfl) rfl rfl) (rk_o (rk_o (rk_o (l39_2) rfl rfl) rfl rfl) rfl rfl) (rk_o (rk_o (rk_o (l39_3) rfl rfl) rfl rfl) rfl rfl) (rk_o (rk_o (rk_o (l39_4) rfl rfl) rfl rfl) rfl rfl) (rk_s) H (SF_trans (hS_39) hS13 (any_sub rfl)) (SA_trans (hA_39) hA14 (any_subA rfl)) (y39_3_6) (((hS13 3 6 rfl).trans (ey39_3_6)))  (show inr (x39_4) from j39_0) (show inr ((x39_5 + (-1))) from q_175 b9 j39_1) (show ((x39_5 + (-1))) ≤ ((a1 - 1)) from q_174 j39_2) (show ((a1 - 1)) ≤ ((x39_5 + (-1))) ∨ ((-1)) ≤ ((x39_5 + (-1))) from q_173 b9) (show (x39_4) = 0 ∨ 4 ≤ (x39_4) ∧ (x39_4) ≤ (((u3_5 - 5) - a1)) from j39_4) (show (x39_4) = 0 ∨ (y39_3_6) < (a1) from j39_5) rfl
                      · refine Ew_of (pcₚ := 109) (fun _ => x_iload rfl (rk_o (l39_4) rfl rfl)) ?_
                        refine Ew_of (pcₚ := 111) (fun _ => x_bipush (z := 8) rfl (by decide)) ?_
                        refine w_icmpge (t := 125) rfl rfl (show inr (x39_4) from j39_0) (show inr (8) from q_96) (fun b35 => ?_) (fun b35 => ?_)
                        · refine Ew_of (pcₚ := 126) (fun _ => x_iconst rfl) ?_
                          refine Ew_of (pcₚ := 147) (fun _ => x_goto rfl rfl) ?_
                          refine Ew_of (pcₚ := 149) (fun _ => x_istore rfl) ?_
                          refine Ew_of (pcₚ := 151) (fun _ => x_iload rfl rk_s) ?_
                          refine w_ifne (t := 157) rfl rfl (show inr (0) from q_20) (fun b36 => ?_) (fun b36 => ?_)
                          · refine Ew_of (pcₚ := 159) (fun _ => x_iload rfl (rk_o (rk_s) rfl rfl)) ?_
                            refine Ew_of (pcₚ := 161) (fun _ => x_istore rfl) ?_
                            refine Ew_of (pcₚ := 162) (fun _ => x_aload_n rfl (rk_o (rk_o (rk_o (l39_0) rfl rfl) rfl rfl) rfl rfl)) ?_
                            refine Ew_of (pcₚ := 164) (fun _ => x_iload rfl (rk_o (rk_o (rk_o (l39_5) rfl rfl) rfl rfl) rfl rfl)) ?_
                            refine w_pI H (o := 3) rfl rfl (H.perm 3 rfl) rfl rfl rfl (fun _ => rfl) rfl (show (0 : Int) ≤ x39_5 ∧ x39_5 ≤ 16384 from q_171 b9 h3 j39_2) (fun σ H => ?_)
                            refine Ew_of (pcₚ := 170) (fun _ => x_iinc (len := 3) rfl (rk_o (rk_o (rk_o (l39_5) rfl rfl) rfl rfl) rfl rfl)) ?_
                            refine Ew_of (pcₚ := 39) (fun _ => x_goto rfl rfl) ?_
                            exact ih39 _ (msE hm39 q_176 (q_177 b9)) _ σ _ _ (z15) ((x39_5 + (-1))) (rk_o (rk_o (rk_o (rk_o (l39_0) rfl rfl) rfl rfl) rfl rfl) rfl rfl) (rk_o (rk_o (rk_o (rk_o (l39_1) rfl rfl) rfl rfl) rfl rfl) rfl rfl) (rk_o (rk_o (rk_o (rk_o (l39_2) rfl rfl) rfl rfl) rfl rfl) rfl rfl) (rk_o (rk_o (rk_o (rk_o (l39_3) rfl rfl) rfl rfl) rfl rfl) rfl rfl) (rk_o (rk_s) rfl rfl) (rk_s) H (SF_upd (SF_trans (hS_39) hS13 (any_sub rfl)) rfl) (SA_trans (hA_39) hA14 (any_subA rfl)) (x39_5) (rfl)  (show inr (z15) from pz15_0) (show inr ((x39_5 + (-1))) from q_175 b9 j39_1) (show ((x39_5 + (-1))) ≤ ((a1 - 1)) from q_174 j39_2) (show ((a1 - 1)) ≤ ((x39_5 + (-1))) ∨ ((-1)) ≤ ((x39_5 + (-1))) from q_173 b9) (show (z15) = 0 ∨ 4 ≤ (z15) ∧ (z15) ≤ (((u3_5 - 5) - a1)) by omega) (show (z15) = 0 ∨ (x39_5) < (a1) from q_172 j39_2) rfl
                          · refine Ew_of (pcₚ := 167) (fun _ => x_goto rfl rfl) ?_
                            refine Ew_of (pcₚ := 170) (fun _ => x_iinc (len := 3) rfl (rk_o (rk_o (l39_5) rfl rfl) rfl rfl)) ?_
                            refine Ew_of (pcₚ := 39) (fun _ => x_goto rfl rfl) ?_
                            exact ih39 _ (msE hm39 q_176 (q_177 b9)) _ σ _ _ (x39_4) ((x39_5 + (-1))) (rk_o (rk_o (rk_o (l39_0) rfl rfl) rfl rfl) rfl rfl) (rk_o (rk_o (rk_o (l39_1) rfl rfl) rfl rfl) rfl rfl) (rk_o (rk_o (rk_o (l39_2) rfl rfl) rfl rfl) rfl rfl) (rk_o (rk_o (rk_o (l39_3) rfl rfl) rfl rfl) rfl rfl) (rk_o (rk_o (rk_o (l39_4) rfl rfl) rfl rfl) rfl rfl) (rk_s) H (SF_trans (hS_39) hS13 (any_sub rfl)) (SA_trans (hA_39) hA14 (any_subA rfl)) (y39_3_6) (((hS13 3 6 rfl).trans (ey39_3_6)))  (show inr (x39_4) from j39_0) (show inr ((x39_5 + (-1))) from q_175 b9 j39_1) (show ((x39_5 + (-1))) ≤ ((a1 - 1)) from q_174 j39_2) (show ((a1 - 1)) ≤ ((x39_5 + (-1))) ∨ ((-1)) ≤ ((x39_5 + (-1))) from q_173 b9) (show (x39_4) = 0 ∨ 4 ≤ (x39_4) ∧ (x39_4) ≤ (((u3_5 - 5) - a1)) from j39_4) (show (x39_4) = 0 ∨ (y39_3_6) < (a1) from j39_5) rfl
                        · refine Ew_of (pcₚ := 116) (fun _ => x_iload rfl rk_s) ?_
                          refine Ew_of (pcₚ := 118) (fun _ => x_bipush (z := 8) rfl (by decide)) ?_
                          refine w_icmplt (t := 125) rfl rfl (show inr (z15) from pz15_0) (show inr (8) from q_96) (fun b37 => ?_) (fun b37 => ?_)
                          · refine Ew_of (pcₚ := 126) (fun _ => x_iconst rfl) ?_
                            refine Ew_of (pcₚ := 147) (fun _ => x_goto rfl rfl) ?_
                            refine Ew_of (pcₚ := 149) (fun _ => x_istore rfl) ?_
                            refine Ew_of (pcₚ := 151) (fun _ => x_iload rfl rk_s) ?_
                            refine w_ifne (t := 157) rfl rfl (show inr (0) from q_20) (fun b38 => ?_) (fun b38 => ?_)
                            · refine Ew_of (pcₚ := 159) (fun _ => x_iload rfl (rk_o (rk_s) rfl rfl)) ?_
                              refine Ew_of (pcₚ := 161) (fun _ => x_istore rfl) ?_
                              refine Ew_of (pcₚ := 162) (fun _ => x_aload_n rfl (rk_o (rk_o (rk_o (l39_0) rfl rfl) rfl rfl) rfl rfl)) ?_
                              refine Ew_of (pcₚ := 164) (fun _ => x_iload rfl (rk_o (rk_o (rk_o (l39_5) rfl rfl) rfl rfl) rfl rfl)) ?_
                              refine w_pI H (o := 3) rfl rfl (H.perm 3 rfl) rfl rfl rfl (fun _ => rfl) rfl (show (0 : Int) ≤ x39_5 ∧ x39_5 ≤ 16384 from q_171 b9 h3 j39_2) (fun σ H => ?_)
                              refine Ew_of (pcₚ := 170) (fun _ => x_iinc (len := 3) rfl (rk_o (rk_o (rk_o (l39_5) rfl rfl) rfl rfl) rfl rfl)) ?_
                              refine Ew_of (pcₚ := 39) (fun _ => x_goto rfl rfl) ?_
                              exact ih39 _ (msE hm39 q_176 (q_177 b9)) _ σ _ _ (z15) ((x39_5 + (-1))) (rk_o (rk_o (rk_o (rk_o (l39_0) rfl rfl) rfl rfl) rfl rfl) rfl rfl) (rk_o (rk_o (rk_o (rk_o (l39_1) rfl rfl) rfl rfl) rfl rfl) rfl rfl) (rk_o (rk_o (rk_o (rk_o (l39_2) rfl rfl) rfl rfl) rfl rfl) rfl rfl) (rk_o (rk_o (rk_o (rk_o (l39_3) rfl rfl) rfl rfl) rfl rfl) rfl rfl) (rk_o (rk_s) rfl rfl) (rk_s) H (SF_upd (SF_trans (hS_39) hS13 (any_sub rfl)) rfl) (SA_trans (hA_39) hA14 (any_subA rfl)) (x39_5) (rfl)  (show inr (z15) from pz15_0) (show inr ((x39_5 + (-1))) from q_175 b9 j39_1) (show ((x39_5 + (-1))) ≤ ((a1 - 1)) from q_174 j39_2) (show ((a1 - 1)) ≤ ((x39_5 + (-1))) ∨ ((-1)) ≤ ((x39_5 + (-1))) from q_173 b9) (show (z15) = 0 ∨ 4 ≤ (z15) ∧ (z15) ≤ (((u3_5 - 5) - a1)) by omega) (show (z15) = 0 ∨ (x39_5) < (a1) from q_172 j39_2) rfl
                            · refine Ew_of (pcₚ := 167) (fun _ => x_goto rfl rfl) ?_
                              refine Ew_of (pcₚ := 170) (fun _ => x_iinc (len := 3) rfl (rk_o (rk_o (l39_5) rfl rfl) rfl rfl)) ?_
                              refine Ew_of (pcₚ := 39) (fun _ => x_goto rfl rfl) ?_
                              exact ih39 _ (msE hm39 q_176 (q_177 b9)) _ σ _ _ (x39_4) ((x39_5 + (-1))) (rk_o (rk_o (rk_o (l39_0) rfl rfl) rfl rfl) rfl rfl) (rk_o (rk_o (rk_o (l39_1) rfl rfl) rfl rfl) rfl rfl) (rk_o (rk_o (rk_o (l39_2) rfl rfl) rfl rfl) rfl rfl) (rk_o (rk_o (rk_o (l39_3) rfl rfl) rfl rfl) rfl rfl) (rk_o (rk_o (rk_o (l39_4) rfl rfl) rfl rfl) rfl rfl) (rk_s) H (SF_trans (hS_39) hS13 (any_sub rfl)) (SA_trans (hA_39) hA14 (any_subA rfl)) (y39_3_6) (((hS13 3 6 rfl).trans (ey39_3_6)))  (show inr (x39_4) from j39_0) (show inr ((x39_5 + (-1))) from q_175 b9 j39_1) (show ((x39_5 + (-1))) ≤ ((a1 - 1)) from q_174 j39_2) (show ((a1 - 1)) ≤ ((x39_5 + (-1))) ∨ ((-1)) ≤ ((x39_5 + (-1))) from q_173 b9) (show (x39_4) = 0 ∨ 4 ≤ (x39_4) ∧ (x39_4) ≤ (((u3_5 - 5) - a1)) from j39_4) (show (x39_4) = 0 ∨ (y39_3_6) < (a1) from j39_5) rfl
                          · refine Ew_of (pcₚ := 122) (fun _ => x_iconst rfl) ?_
                            refine Ew_of (pcₚ := 147) (fun _ => x_goto rfl rfl) ?_
                            refine Ew_of (pcₚ := 149) (fun _ => x_istore rfl) ?_
                            refine Ew_of (pcₚ := 151) (fun _ => x_iload rfl rk_s) ?_
                            refine w_ifne (t := 157) rfl rfl (show inr (1) from q_23) (fun b39 => ?_) (fun b39 => ?_)
                            · refine Ew_of (pcₚ := 159) (fun _ => x_iload rfl (rk_o (rk_s) rfl rfl)) ?_
                              refine Ew_of (pcₚ := 161) (fun _ => x_istore rfl) ?_
                              refine Ew_of (pcₚ := 162) (fun _ => x_aload_n rfl (rk_o (rk_o (rk_o (l39_0) rfl rfl) rfl rfl) rfl rfl)) ?_
                              refine Ew_of (pcₚ := 164) (fun _ => x_iload rfl (rk_o (rk_o (rk_o (l39_5) rfl rfl) rfl rfl) rfl rfl)) ?_
                              refine w_pI H (o := 3) rfl rfl (H.perm 3 rfl) rfl rfl rfl (fun _ => rfl) rfl (show (0 : Int) ≤ x39_5 ∧ x39_5 ≤ 16384 from q_171 b9 h3 j39_2) (fun σ H => ?_)
                              refine Ew_of (pcₚ := 170) (fun _ => x_iinc (len := 3) rfl (rk_o (rk_o (rk_o (l39_5) rfl rfl) rfl rfl) rfl rfl)) ?_
                              refine Ew_of (pcₚ := 39) (fun _ => x_goto rfl rfl) ?_
                              exact ih39 _ (msE hm39 q_176 (q_177 b9)) _ σ _ _ (z15) ((x39_5 + (-1))) (rk_o (rk_o (rk_o (rk_o (l39_0) rfl rfl) rfl rfl) rfl rfl) rfl rfl) (rk_o (rk_o (rk_o (rk_o (l39_1) rfl rfl) rfl rfl) rfl rfl) rfl rfl) (rk_o (rk_o (rk_o (rk_o (l39_2) rfl rfl) rfl rfl) rfl rfl) rfl rfl) (rk_o (rk_o (rk_o (rk_o (l39_3) rfl rfl) rfl rfl) rfl rfl) rfl rfl) (rk_o (rk_s) rfl rfl) (rk_s) H (SF_upd (SF_trans (hS_39) hS13 (any_sub rfl)) rfl) (SA_trans (hA_39) hA14 (any_subA rfl)) (x39_5) (rfl)  (show inr (z15) from pz15_0) (show inr ((x39_5 + (-1))) from q_175 b9 j39_1) (show ((x39_5 + (-1))) ≤ ((a1 - 1)) from q_174 j39_2) (show ((a1 - 1)) ≤ ((x39_5 + (-1))) ∨ ((-1)) ≤ ((x39_5 + (-1))) from q_182 b31 b37 b4 b9 h2) (show (z15) = 0 ∨ 4 ≤ (z15) ∧ (z15) ≤ (((u3_5 - 5) - a1)) from q_181 b31 b37) (show (z15) = 0 ∨ (x39_5) < (a1) from q_180 b31 b37) rfl
                            · refine Ew_of (pcₚ := 167) (fun _ => x_goto rfl rfl) ?_
                              refine Ew_of (pcₚ := 170) (fun _ => x_iinc (len := 3) rfl (rk_o (rk_o (l39_5) rfl rfl) rfl rfl)) ?_
                              refine Ew_of (pcₚ := 39) (fun _ => x_goto rfl rfl) ?_
                              exact ih39 _ (msE hm39 q_176 (q_177 b9)) _ σ _ _ (x39_4) ((x39_5 + (-1))) (rk_o (rk_o (rk_o (l39_0) rfl rfl) rfl rfl) rfl rfl) (rk_o (rk_o (rk_o (l39_1) rfl rfl) rfl rfl) rfl rfl) (rk_o (rk_o (rk_o (l39_2) rfl rfl) rfl rfl) rfl rfl) (rk_o (rk_o (rk_o (l39_3) rfl rfl) rfl rfl) rfl rfl) (rk_o (rk_o (rk_o (l39_4) rfl rfl) rfl rfl) rfl rfl) (rk_s) H (SF_trans (hS_39) hS13 (any_sub rfl)) (SA_trans (hA_39) hA14 (any_subA rfl)) (y39_3_6) (((hS13 3 6 rfl).trans (ey39_3_6)))  (show inr (x39_4) from j39_0) (show inr ((x39_5 + (-1))) from q_175 b9 j39_1) (show ((x39_5 + (-1))) ≤ ((a1 - 1)) from q_174 j39_2) (show ((a1 - 1)) ≤ ((x39_5 + (-1))) ∨ ((-1)) ≤ ((x39_5 + (-1))) from q_182 b31 b37 b4 b9 h2) (show (x39_4) = 0 ∨ 4 ≤ (x39_4) ∧ (x39_4) ≤ (((u3_5 - 5) - a1)) from j39_4) (show (x39_4) = 0 ∨ (y39_3_6) < (a1) from j39_5) rfl
              · refine Ew_of (pcₚ := 69) (fun _ => x_iload rfl (rk_o (l39_4) rfl rfl)) ?_
                refine w_ifne (t := 82) rfl rfl (show inr (x39_4) from j39_0) (fun b40 => ?_) (fun b40 => ?_)
                · refine Ew_of (pcₚ := 83) (fun _ => x_iconst rfl) ?_
                  refine Ew_of (pcₚ := 147) (fun _ => x_goto rfl rfl) ?_
                  refine Ew_of (pcₚ := 149) (fun _ => x_istore rfl) ?_
                  refine Ew_of (pcₚ := 151) (fun _ => x_iload rfl rk_s) ?_
                  refine w_ifne (t := 157) rfl rfl (show inr (0) from q_20) (fun b41 => ?_) (fun b41 => ?_)
                  · refine Ew_of (pcₚ := 159) (fun _ => x_iload rfl (rk_o (rk_s) rfl rfl)) ?_
                    refine Ew_of (pcₚ := 161) (fun _ => x_istore rfl) ?_
                    refine Ew_of (pcₚ := 162) (fun _ => x_aload_n rfl (rk_o (rk_o (rk_o (l39_0) rfl rfl) rfl rfl) rfl rfl)) ?_
                    refine Ew_of (pcₚ := 164) (fun _ => x_iload rfl (rk_o (rk_o (rk_o (l39_5) rfl rfl) rfl rfl) rfl rfl)) ?_
                    refine w_pI H (o := 3) rfl rfl (H.perm 3 rfl) rfl rfl rfl (fun _ => rfl) rfl (show (0 : Int) ≤ x39_5 ∧ x39_5 ≤ 16384 from q_171 b9 h3 j39_2) (fun σ H => ?_)
                    refine Ew_of (pcₚ := 170) (fun _ => x_iinc (len := 3) rfl (rk_o (rk_o (rk_o (l39_5) rfl rfl) rfl rfl) rfl rfl)) ?_
                    refine Ew_of (pcₚ := 39) (fun _ => x_goto rfl rfl) ?_
                    exact ih39 _ (msE hm39 q_176 (q_177 b9)) _ σ _ _ (z15) ((x39_5 + (-1))) (rk_o (rk_o (rk_o (rk_o (l39_0) rfl rfl) rfl rfl) rfl rfl) rfl rfl) (rk_o (rk_o (rk_o (rk_o (l39_1) rfl rfl) rfl rfl) rfl rfl) rfl rfl) (rk_o (rk_o (rk_o (rk_o (l39_2) rfl rfl) rfl rfl) rfl rfl) rfl rfl) (rk_o (rk_o (rk_o (rk_o (l39_3) rfl rfl) rfl rfl) rfl rfl) rfl rfl) (rk_o (rk_s) rfl rfl) (rk_s) H (SF_upd (SF_trans (hS_39) hS13 (any_sub rfl)) rfl) (SA_trans (hA_39) hA14 (any_subA rfl)) (x39_5) (rfl)  (show inr (z15) from pz15_0) (show inr ((x39_5 + (-1))) from q_175 b9 j39_1) (show ((x39_5 + (-1))) ≤ ((a1 - 1)) from q_174 j39_2) (show ((a1 - 1)) ≤ ((x39_5 + (-1))) ∨ ((-1)) ≤ ((x39_5 + (-1))) from q_173 b9) (show (z15) = 0 ∨ 4 ≤ (z15) ∧ (z15) ≤ (((u3_5 - 5) - a1)) by omega) (show (z15) = 0 ∨ (x39_5) < (a1) from q_172 j39_2) rfl
                  · refine Ew_of (pcₚ := 167) (fun _ => x_goto rfl rfl) ?_
                    refine Ew_of (pcₚ := 170) (fun _ => x_iinc (len := 3) rfl (rk_o (rk_o (l39_5) rfl rfl) rfl rfl)) ?_
                    refine Ew_of (pcₚ := 39) (fun _ => x_goto rfl rfl) ?_
                    exact ih39 _ (msE hm39 q_176 (q_177 b9)) _ σ _ _ (x39_4) ((x39_5 + (-1))) (rk_o (rk_o (rk_o (l39_0) rfl rfl) rfl rfl) rfl rfl) (rk_o (rk_o (rk_o (l39_1) rfl rfl) rfl rfl) rfl rfl) (rk_o (rk_o (rk_o (l39_2) rfl rfl) rfl rfl) rfl rfl) (rk_o (rk_o (rk_o (l39_3) rfl rfl) rfl rfl) rfl rfl) (rk_o (rk_o (rk_o (l39_4) rfl rfl) rfl rfl) rfl rfl) (rk_s) H (SF_trans (hS_39) hS13 (any_sub rfl)) (SA_trans (hA_39) hA14 (any_subA rfl)) (y39_3_6) (((hS13 3 6 rfl).trans (ey39_3_6)))  (show inr (x39_4) from j39_0) (show inr ((x39_5 + (-1))) from q_175 b9 j39_1) (show ((x39_5 + (-1))) ≤ ((a1 - 1)) from q_174 j39_2) (show ((a1 - 1)) ≤ ((x39_5 + (-1))) ∨ ((-1)) ≤ ((x39_5 + (-1))) from q_173 b9) (show (x39_4) = 0 ∨ 4 ≤ (x39_4) ∧ (x39_4) ≤ (((u3_5 - 5) - a1)) from j39_4) (show (x39_4) = 0 ∨ (y39_3_6) < (a1) from j39_5) rfl
                · refine Ew_of (pcₚ := 74) (fun _ => x_iload rfl rk_s) ?_
                  refine Ew_of (pcₚ := 75) (fun _ => x_iconst rfl) ?_
                  refine w_icmplt (t := 82) rfl rfl (show inr (z15) from pz15_0) (show inr (4) from q_2) (fun b42 => ?_) (fun b42 => ?_)
                  · refine Ew_of (pcₚ := 83) (fun _ => x_iconst rfl) ?_
                    refine Ew_of (pcₚ := 147) (fun _ => x_goto rfl rfl) ?_
                    refine Ew_of (pcₚ := 149) (fun _ => x_istore rfl) ?_
                    refine Ew_of (pcₚ := 151) (fun _ => x_iload rfl rk_s) ?_
                    refine w_ifne (t := 157) rfl rfl (show inr (0) from q_20) (fun b43 => ?_) (fun b43 => ?_)
                    · refine Ew_of (pcₚ := 159) (fun _ => x_iload rfl (rk_o (rk_s) rfl rfl)) ?_
                      refine Ew_of (pcₚ := 161) (fun _ => x_istore rfl) ?_
                      refine Ew_of (pcₚ := 162) (fun _ => x_aload_n rfl (rk_o (rk_o (rk_o (l39_0) rfl rfl) rfl rfl) rfl rfl)) ?_
                      refine Ew_of (pcₚ := 164) (fun _ => x_iload rfl (rk_o (rk_o (rk_o (l39_5) rfl rfl) rfl rfl) rfl rfl)) ?_
                      refine w_pI H (o := 3) rfl rfl (H.perm 3 rfl) rfl rfl rfl (fun _ => rfl) rfl (show (0 : Int) ≤ x39_5 ∧ x39_5 ≤ 16384 from q_171 b9 h3 j39_2) (fun σ H => ?_)
                      refine Ew_of (pcₚ := 170) (fun _ => x_iinc (len := 3) rfl (rk_o (rk_o (rk_o (l39_5) rfl rfl) rfl rfl) rfl rfl)) ?_
                      refine Ew_of (pcₚ := 39) (fun _ => x_goto rfl rfl) ?_
                      exact ih39 _ (msE hm39 q_176 (q_177 b9)) _ σ _ _ (z15) ((x39_5 + (-1))) (rk_o (rk_o (rk_o (rk_o (l39_0) rfl rfl) rfl rfl) rfl rfl) rfl rfl) (rk_o (rk_o (rk_o (rk_o (l39_1) rfl rfl) rfl rfl) rfl rfl) rfl rfl) (rk_o (rk_o (rk_o (rk_o (l39_2) rfl rfl) rfl rfl) rfl rfl) rfl rfl) (rk_o (rk_o (rk_o (rk_o (l39_3) rfl rfl) rfl rfl) rfl rfl) rfl rfl) (rk_o (rk_s) rfl rfl) (rk_s) H (SF_upd (SF_trans (hS_39) hS13 (any_sub rfl)) rfl) (SA_trans (hA_39) hA14 (any_subA rfl)) (x39_5) (rfl)  (show inr (z15) from pz15_0) (show inr ((x39_5 + (-1))) from q_175 b9 j39_1) (show ((x39_5 + (-1))) ≤ ((a1 - 1)) from q_174 j39_2) (show ((a1 - 1)) ≤ ((x39_5 + (-1))) ∨ ((-1)) ≤ ((x39_5 + (-1))) from q_173 b9) (show (z15) = 0 ∨ 4 ≤ (z15) ∧ (z15) ≤ (((u3_5 - 5) - a1)) by omega) (show (z15) = 0 ∨ (x39_5) < (a1) from q_172 j39_2) rfl
                    · refine Ew_of (pcₚ := 167) (fun _ => x_goto rfl rfl) ?_
                      refine Ew_of (pcₚ := 170) (fun _ => x_iinc (len := 3) rfl (rk_o (rk_o (l39_5) rfl rfl) rfl rfl)) ?_
                      refine Ew_of (pcₚ := 39) (fun _ => x_goto rfl rfl) ?_
                      exact ih39 _ (msE hm39 q_176 (q_177 b9)) _ σ _ _ (x39_4) ((x39_5 + (-1))) (rk_o (rk_o (rk_o (l39_0) rfl rfl) rfl rfl) rfl rfl) (rk_o (rk_o (rk_o (l39_1) rfl rfl) rfl rfl) rfl rfl) (rk_o (rk_o (rk_o (l39_2) rfl rfl) rfl rfl) rfl rfl) (rk_o (rk_o (rk_o (l39_3) rfl rfl) rfl rfl) rfl rfl) (rk_o (rk_o (rk_o (l39_4) rfl rfl) rfl rfl) rfl rfl) (rk_s) H (SF_trans (hS_39) hS13 (any_sub rfl)) (SA_trans (hA_39) hA14 (any_subA rfl)) (y39_3_6) (((hS13 3 6 rfl).trans (ey39_3_6)))  (show inr (x39_4) from j39_0) (show inr ((x39_5 + (-1))) from q_175 b9 j39_1) (show ((x39_5 + (-1))) ≤ ((a1 - 1)) from q_174 j39_2) (show ((a1 - 1)) ≤ ((x39_5 + (-1))) ∨ ((-1)) ≤ ((x39_5 + (-1))) from q_173 b9) (show (x39_4) = 0 ∨ 4 ≤ (x39_4) ∧ (x39_4) ≤ (((u3_5 - 5) - a1)) from j39_4) (show (x39_4) = 0 ∨ (y39_3_6) < (a1) from j39_5) rfl
                  · refine Ew_of (pcₚ := 79) (fun _ => x_iconst rfl) ?_
                    refine Ew_of (pcₚ := 147) (fun _ => x_goto rfl rfl) ?_
                    refine Ew_of (pcₚ := 149) (fun _ => x_istore rfl) ?_
                    refine Ew_of (pcₚ := 151) (fun _ => x_iload rfl rk_s) ?_
                    refine w_ifne (t := 157) rfl rfl (show inr (1) from q_23) (fun b44 => ?_) (fun b44 => ?_)
                    · refine Ew_of (pcₚ := 159) (fun _ => x_iload rfl (rk_o (rk_s) rfl rfl)) ?_
                      refine Ew_of (pcₚ := 161) (fun _ => x_istore rfl) ?_
                      refine Ew_of (pcₚ := 162) (fun _ => x_aload_n rfl (rk_o (rk_o (rk_o (l39_0) rfl rfl) rfl rfl) rfl rfl)) ?_
                      refine Ew_of (pcₚ := 164) (fun _ => x_iload rfl (rk_o (rk_o (rk_o (l39_5) rfl rfl) rfl rfl) rfl rfl)) ?_
                      refine w_pI H (o := 3) rfl rfl (H.perm 3 rfl) rfl rfl rfl (fun _ => rfl) rfl (show (0 : Int) ≤ x39_5 ∧ x39_5 ≤ 16384 from q_171 b9 h3 j39_2) (fun σ H => ?_)
                      refine Ew_of (pcₚ := 170) (fun _ => x_iinc (len := 3) rfl (rk_o (rk_o (rk_o (l39_5) rfl rfl) rfl rfl) rfl rfl)) ?_
                      refine Ew_of (pcₚ := 39) (fun _ => x_goto rfl rfl) ?_
                      exact ih39 _ (msE hm39 q_176 (q_177 b9)) _ σ _ _ (z15) ((x39_5 + (-1))) (rk_o (rk_o (rk_o (rk_o (l39_0) rfl rfl) rfl rfl) rfl rfl) rfl rfl) (rk_o (rk_o (rk_o (rk_o (l39_1) rfl rfl) rfl rfl) rfl rfl) rfl rfl) (rk_o (rk_o (rk_o (rk_o (l39_2) rfl rfl) rfl rfl) rfl rfl) rfl rfl) (rk_o (rk_o (rk_o (rk_o (l39_3) rfl rfl) rfl rfl) rfl rfl) rfl rfl) (rk_o (rk_s) rfl rfl) (rk_s) H (SF_upd (SF_trans (hS_39) hS13 (any_sub rfl)) rfl) (SA_trans (hA_39) hA14 (any_subA rfl)) (x39_5) (rfl)  (show inr (z15) from pz15_0) (show inr ((x39_5 + (-1))) from q_175 b9 j39_1) (show ((x39_5 + (-1))) ≤ ((a1 - 1)) from q_174 j39_2) (show ((a1 - 1)) ≤ ((x39_5 + (-1))) ∨ ((-1)) ≤ ((x39_5 + (-1))) from q_173 b9) (show (z15) = 0 ∨ 4 ≤ (z15) ∧ (z15) ≤ (((u3_5 - 5) - a1)) from q_178 b42 pz15_1) (show (z15) = 0 ∨ (x39_5) < (a1) from q_172 j39_2) rfl
                    · refine Ew_of (pcₚ := 167) (fun _ => x_goto rfl rfl) ?_
                      refine Ew_of (pcₚ := 170) (fun _ => x_iinc (len := 3) rfl (rk_o (rk_o (l39_5) rfl rfl) rfl rfl)) ?_
                      refine Ew_of (pcₚ := 39) (fun _ => x_goto rfl rfl) ?_
                      exact ih39 _ (msE hm39 q_176 (q_177 b9)) _ σ _ _ (x39_4) ((x39_5 + (-1))) (rk_o (rk_o (rk_o (l39_0) rfl rfl) rfl rfl) rfl rfl) (rk_o (rk_o (rk_o (l39_1) rfl rfl) rfl rfl) rfl rfl) (rk_o (rk_o (rk_o (l39_2) rfl rfl) rfl rfl) rfl rfl) (rk_o (rk_o (rk_o (l39_3) rfl rfl) rfl rfl) rfl rfl) (rk_o (rk_o (rk_o (l39_4) rfl rfl) rfl rfl) rfl rfl) (rk_s) H (SF_trans (hS_39) hS13 (any_sub rfl)) (SA_trans (hA_39) hA14 (any_subA rfl)) (y39_3_6) (((hS13 3 6 rfl).trans (ey39_3_6)))  (show inr (x39_4) from j39_0) (show inr ((x39_5 + (-1))) from q_175 b9 j39_1) (show ((x39_5 + (-1))) ≤ ((a1 - 1)) from q_174 j39_2) (show ((a1 - 1)) ≤ ((x39_5 + (-1))) ∨ ((-1)) ≤ ((x39_5 + (-1))) from q_173 b9) (show (x39_4) = 0 ∨ 4 ≤ (x39_4) ∧ (x39_4) ≤ (((u3_5 - 5) - a1)) from j39_4) (show (x39_4) = 0 ∨ (y39_3_6) < (a1) from j39_5) rfl
      · refine Ew_of (pcₚ := 30) (fun _ => x_iconst rfl) ?_
        have r45 : (0 : Int) ≤ F 3 6 ∧ F 3 6 ≤ 16384 := H.frng 3 6
        exact w_ireturn rfl (k (0) σ _ _ H (SF_refl) (SA_refl) (F 3 6) (rfl) (show inr (0) from q_20) (show 0 ≤ (0) by first | exact q_25 | omega) (show (0) = 0 ∨ 4 ≤ (0) ∧ (0) ≤ (u3_5) - 5 - a1 by first | exact q_159 | omega) (show (0) = 0 ∨ (F 3 6) < a1 by first | exact q_158 | omega))
/-- Tokens.taken -/
theorem M362 {σ0 σ : rS} {D N : Nat → Nat} {F : hF} {A : hA} {d c s : Nat} {Q : wQ} (H : HS σ0 σ D N F A) {a1 a2 : Int} (u3_5 : Int) (eu3_5 : F 3 5 = u3_5) (h0 : inr (a1)) (h1 : inr (a2)) (h2 : 0 ≤ (u3_5) ∧ (u3_5) ≤ 16384) (h3 : 0 ≤ (a1) ∧ (a1) < 16384) (k : ∀ (z : Int) σ Fₚ Aₚ, HS σ0 σ D N Fₚ Aₚ → SF [(3, 6)] F Fₚ → SA [] A Aₚ → ∀ y3_6 : Int, Fₚ 3 6 = y3_6 → (inr (z)) → (0 ≤ (z)) → ((z) = 0 ∨ 4 ≤ (z) ∧ (z) ≤ (u3_5) - 5 - (a1)) → ((z) = 0 ∨ (y3_6) < (a1)) → Q (some (I z)) σ c s) : Ew 362 (d + 2) 0 (rargs 0 [.ref (D 3), I a1, I a2]) [] σ c s Q := by
  have r1 : (-2147483648 : Int) ≤ u3_5 ∧ u3_5 ≤ 2147483647 := rngE (show (-2147483648 : Int) ≤ F 3 5 ∧ F 3 5 ≤ 2147483647 from H.frng 3 5) (show F 3 5 = u3_5 from (eu3_5))
  refine Ew_of (pcₚ := 1) (fun _ => x_iload_n rfl rfl) ?_
  refine Ew_of (pcₚ := 2) (fun _ => x_iconst rfl) ?_
  refine w_icmpge (t := 12) rfl rfl (show inr (a2) from h1) (show inr (3) from q_66) (fun b2 => ?_) (fun b2 => ?_)
  · refine Ew_of (pcₚ := 13) (fun _ => x_iload_n rfl rfl) ?_
    refine Ew_of (pcₚ := 14) (fun _ => x_iconst rfl) ?_
    refine w_iadd rfl ?_
    refine Ew_of (pcₚ := 16) (fun _ => x_aload_n rfl rfl) ?_
    refine w_gI H (o := 3) (w := u3_5) rfl (H.perm 3 rfl) rfl rfl rfl (fun _ => rfl) (eu3_5) ?_
    refine Ew_of (pcₚ := 21) (fun _ => x_bipush (z := 12) rfl (by decide)) ?_
    refine w_isub rfl ?_
    refine w_icmpgt (t := 36) rfl rfl (show inr ((a1 + 1)) from q_183 h3) (show inr ((u3_5 - 12)) from q_160 h2) (fun b3 => ?_) (fun b3 => ?_)
    · refine Ew_of (pcₚ := 37) (fun _ => x_iconst rfl) ?_
      refine Ew_of (pcₚ := 38) (fun _ => x_istore_n rfl) ?_
      refine Ew_of (pcₚ := 39) (fun _ => x_aload_n rfl (rk_o (rfl) rfl rfl)) ?_
      refine Ew_of (pcₚ := 40) (fun _ => x_iload_n rfl (rk_o (rfl) rfl rfl)) ?_
      refine Ew_of (pcₚ := 41) (fun _ => x_iconst rfl) ?_
      refine w_inv H (o := 3) rfl rfl rfl (H.perm 3 rfl) rfl rfl (by rfl) (M361 H (u3_5) ((eu3_5)) (show inr (a1) from h0) (show inr (2) from q_55) (show 0 ≤ (u3_5) ∧ (u3_5) ≤ 16384 from h2) (show 0 ≤ (a1) ∧ (a1) ≤ 16384 from q_184 h3) (fun z8 σ F4 A5 H hS6 hA7 y9 ey10 pz8_0 pz8_1 pz8_2 pz8_3 => ⟨rfl, ?_⟩))
      have r11 : (0 : Int) ≤ y9 ∧ y9 ≤ 16384 := rngE (show (0 : Int) ≤ F4 3 6 ∧ F4 3 6 ≤ 16384 from H.frng 3 6) (show F4 3 6 = y9 from (ey10))
      refine Ew_of (pcₚ := 46) (fun _ => x_istore rfl) ?_
      refine Ew_of (pcₚ := 47) (fun _ => x_iload_n rfl (rk_o (rk_s) rfl rfl)) ?_
      refine Ew_of (pcₚ := 49) (fun _ => x_iload rfl rk_s) ?_
      refine w_icmple (t := 56) rfl rfl (show inr (0) from q_20) (show inr (z8) from pz8_0) (fun b12 => ?_) (fun b12 => ?_)
      · refine Ew_of (pcₚ := 58) (fun _ => x_iload rfl rk_s) ?_
        exact w_ireturn rfl (k (z8) σ _ _ H (SF_trans (SF_refl) hS6 (any_sub rfl)) (SA_trans (SA_refl) hA7 (any_subA rfl)) (y9) ((ey10)) (show inr (z8) from pz8_0) (show 0 ≤ (z8) from b12) (show (z8) = 0 ∨ 4 ≤ (z8) ∧ (z8) ≤ (u3_5) - 5 - a1 from pz8_2) (show (z8) = 0 ∨ (y9) < a1 from pz8_3))
      · refine Ew_of (pcₚ := 53) (fun _ => x_iconst rfl) ?_
        refine Ew_of (pcₚ := 58) (fun _ => x_goto rfl rfl) ?_
        exact w_ireturn rfl (k (0) σ _ _ H (SF_trans (SF_refl) hS6 (any_sub rfl)) (SA_trans (SA_refl) hA7 (any_subA rfl)) (y9) ((ey10)) (show inr (0) from q_20) (show 0 ≤ (0) by first | exact q_25 | omega) (show (0) = 0 ∨ 4 ≤ (0) ∧ (0) ≤ (u3_5) - 5 - a1 by first | exact q_159 | omega) (show (0) = 0 ∨ (y9) < a1 by first | exact q_158 | omega))
    · refine Ew_of (pcₚ := 26) (fun _ => x_aload_n rfl rfl) ?_
      refine Ew_of (pcₚ := 27) (fun _ => x_iload_n rfl rfl) ?_
      refine Ew_of (pcₚ := 28) (fun _ => x_iconst rfl) ?_
      refine w_iadd rfl ?_
      refine Ew_of (pcₚ := 30) (fun _ => x_iconst rfl) ?_
      refine w_inv H (o := 3) rfl rfl rfl (H.perm 3 rfl) rfl rfl (by rfl) (M361 H (u3_5) ((eu3_5)) (show inr ((a1 + 1)) from q_183 h3) (show inr (2) from q_55) (show 0 ≤ (u3_5) ∧ (u3_5) ≤ 16384 from h2) (show 0 ≤ ((a1 + 1)) ∧ ((a1 + 1)) ≤ 16384 from q_185 h3) (fun z17 σ F13 A14 H hS15 hA16 y18 ey19 pz17_0 pz17_1 pz17_2 pz17_3 => ⟨rfl, ?_⟩))
      have r20 : (0 : Int) ≤ y18 ∧ y18 ≤ 16384 := rngE (show (0 : Int) ≤ F13 3 6 ∧ F13 3 6 ≤ 16384 from H.frng 3 6) (show F13 3 6 = y18 from (ey19))
      refine Ew_of (pcₚ := 37) (fun _ => x_goto rfl rfl) ?_
      refine Ew_of (pcₚ := 38) (fun _ => x_istore_n rfl) ?_
      refine Ew_of (pcₚ := 39) (fun _ => x_aload_n rfl (rk_o (rfl) rfl rfl)) ?_
      refine Ew_of (pcₚ := 40) (fun _ => x_iload_n rfl (rk_o (rfl) rfl rfl)) ?_
      refine Ew_of (pcₚ := 41) (fun _ => x_iconst rfl) ?_
      refine w_inv H (o := 3) rfl rfl rfl (H.perm 3 rfl) rfl rfl (by rfl) (M361 H (u3_5) (((hS15 3 5 rfl).trans (eu3_5))) (show inr (a1) from h0) (show inr (2) from q_55) (show 0 ≤ (u3_5) ∧ (u3_5) ≤ 16384 from h2) (show 0 ≤ (a1) ∧ (a1) ≤ 16384 from q_184 h3) (fun z25 σ F21 A22 H hS23 hA24 y26 ey27 pz25_0 pz25_1 pz25_2 pz25_3 => ⟨rfl, ?_⟩))
      have r28 : (0 : Int) ≤ y26 ∧ y26 ≤ 16384 := rngE (show (0 : Int) ≤ F21 3 6 ∧ F21 3 6 ≤ 16384 from H.frng 3 6) (show F21 3 6 = y26 from (ey27))
      refine Ew_of (pcₚ := 46) (fun _ => x_istore rfl) ?_
      refine Ew_of (pcₚ := 47) (fun _ => x_iload_n rfl (rk_o (rk_s) rfl rfl)) ?_
      refine Ew_of (pcₚ := 49) (fun _ => x_iload rfl rk_s) ?_
      refine w_icmple (t := 56) rfl rfl (show inr (z17) from pz17_0) (show inr (z25) from pz25_0) (fun b29 => ?_) (fun b29 => ?_)
      · refine Ew_of (pcₚ := 58) (fun _ => x_iload rfl rk_s) ?_
        exact w_ireturn rfl (k (z25) σ _ _ H (SF_trans (SF_trans (SF_refl) hS15 (any_sub rfl)) hS23 (any_sub rfl)) (SA_trans (SA_trans (SA_refl) hA16 (any_subA rfl)) hA24 (any_subA rfl)) (y26) ((ey27)) (show inr (z25) from pz25_0) (show 0 ≤ (z25) from pz25_1) (show (z25) = 0 ∨ 4 ≤ (z25) ∧ (z25) ≤ (u3_5) - 5 - a1 from pz25_2) (show (z25) = 0 ∨ (y26) < a1 from pz25_3))
      · refine Ew_of (pcₚ := 53) (fun _ => x_iconst rfl) ?_
        refine Ew_of (pcₚ := 58) (fun _ => x_goto rfl rfl) ?_
        exact w_ireturn rfl (k (0) σ _ _ H (SF_trans (SF_trans (SF_refl) hS15 (any_sub rfl)) hS23 (any_sub rfl)) (SA_trans (SA_trans (SA_refl) hA16 (any_subA rfl)) hA24 (any_subA rfl)) (y26) ((ey27)) (show inr (0) from q_20) (show 0 ≤ (0) by first | exact q_25 | omega) (show (0) = 0 ∨ 4 ≤ (0) ∧ (0) ≤ (u3_5) - 5 - a1 by first | exact q_159 | omega) (show (0) = 0 ∨ (y26) < a1 by first | exact q_158 | omega))
  · refine Ew_of (pcₚ := 6) (fun _ => x_aload_n rfl rfl) ?_
    refine Ew_of (pcₚ := 7) (fun _ => x_iload_n rfl rfl) ?_
    refine Ew_of (pcₚ := 8) (fun _ => x_iload_n rfl rfl) ?_
    refine w_inv H (o := 3) rfl rfl rfl (H.perm 3 rfl) rfl rfl (by rfl) (M361 H (u3_5) ((eu3_5)) (show inr (a1) from h0) (show inr (a2) from h1) (show 0 ≤ (u3_5) ∧ (u3_5) ≤ 16384 from h2) (show 0 ≤ (a1) ∧ (a1) ≤ 16384 from q_184 h3) (fun z34 σ F30 A31 H hS32 hA33 y35 ey36 pz34_0 pz34_1 pz34_2 pz34_3 => ⟨rfl, ?_⟩))
    have r37 : (0 : Int) ≤ y35 ∧ y35 ≤ 16384 := rngE (show (0 : Int) ≤ F30 3 6 ∧ F30 3 6 ≤ 16384 from H.frng 3 6) (show F30 3 6 = y35 from (ey36))
    exact w_ireturn rfl (k (z34) σ _ _ H (SF_trans (SF_refl) hS32 (any_sub rfl)) (SA_trans (SA_refl) hA33 (any_subA rfl)) (y35) ((ey36)) (show inr (z34) from pz34_0) (show 0 ≤ (z34) from pz34_1) (show (z34) = 0 ∨ 4 ≤ (z34) ∧ (z34) ≤ (u3_5) - 5 - a1 from pz34_2) (show (z34) = 0 ∨ (y35) < a1 from pz34_3))
/-- Tokens.make -/
theorem M376 {σ0 σ : rS} {D N : Nat → Nat} {F : hF} {A : hA} {d c s : Nat} {Q : wQ} (H : HS σ0 σ D N F A) {a1 : Int} (u3_8 : Int) (eu3_8 : F 3 8 = u3_8) (h0 : inr (a1)) (h1 : 0 ≤ (a1) ∧ (a1) ≤ 255) (h2 : 0 ≤ (u3_8) ∧ (u3_8) ≤ 100000000) (k : ∀ σ Fₚ Aₚ, HS σ0 σ D N Fₚ Aₚ → SF [(3, 8)] F Fₚ → SA [19] A Aₚ → ∀ y3_8 : Int, Fₚ 3 8 = y3_8 → ((y3_8) = (u3_8) + 1) → Q none σ c s) : Ew 376 (d + 0) 0 (rargs 0 [.ref (D 3), I a1]) [] σ c s Q := by
  have r1 : (-2147483648 : Int) ≤ u3_8 ∧ u3_8 ≤ 2147483647 := rngE (show (-2147483648 : Int) ≤ F 3 8 ∧ F 3 8 ≤ 2147483647 from H.frng 3 8) (show F 3 8 = u3_8 from (eu3_8))
  refine Ew_of (pcₚ := 1) (fun _ => x_aload_n rfl rfl) ?_
  refine w_gI H (o := 3) (w := u3_8) rfl (H.perm 3 rfl) rfl rfl rfl (fun _ => rfl) (eu3_8) ?_
  refine Ew_of (pcₚ := 6) (fun _ => x_ldc (z := 70000) rfl (by decide)) ?_
  refine w_icmpge (t := 19) rfl rfl (show inr (u3_8) from q_46 h2 r1) (show inr (70000) from q_45) (fun b2 => ?_) (fun b2 => ?_)
  · refine Ew_of (pcₚ := 20) (fun _ => x_aload_n rfl rfl) ?_
    refine Ew_of (pcₚ := 21) (fun _ => x_dup rfl rfl) ?_
    refine w_gI H (o := 3) (w := u3_8) rfl (H.perm 3 rfl) rfl rfl rfl (fun _ => rfl) (eu3_8) ?_
    refine Ew_of (pcₚ := 25) (fun _ => x_iconst rfl) ?_
    refine w_iadd rfl ?_
    refine w_pI H (o := 3) rfl rfl (H.perm 3 rfl) rfl rfl rfl (fun _ => rfl) rfl (show (-2147483648 : Int) ≤ (u3_8 + 1) ∧ (u3_8 + 1) ≤ 2147483647 by omega) (fun σ H => ?_)
    exact w_ret rfl (k σ _ _ H (SF_upd (SF_refl) rfl) (SA_refl) ((u3_8 + 1)) (rfl) (show ((u3_8 + 1)) = (u3_8) + 1 from q_47))
  · refine Ew_of (pcₚ := 10) (fun _ => x_aload_n rfl rfl) ?_
    refine w_gT H (o := 3) (t := 19) rfl (H.perm 3 rfl) rfl rfl rfl rfl rfl rfl ?_
    refine Ew_of (pcₚ := 14) (fun _ => x_aload_n rfl rfl) ?_
    refine w_gI H (o := 3) (w := u3_8) rfl (H.perm 3 rfl) rfl rfl rfl (fun _ => rfl) (eu3_8) ?_
    refine Ew_of (pcₚ := 18) (fun _ => x_iload_n rfl rfl) ?_
    refine w_sI H (o := 19) (n := 70000) rfl (H.perm 19 rfl) rfl rfl (H.fix 19 rfl rfl) (show 0 ≤ u3_8 ∧ u3_8 < ((70000 : Nat) : Int) from q_48 b2 h2) (by decide) (show (0 : Int) ≤ a1 ∧ a1 ≤ 255 from h1) (fun σ H => ?_)
    refine Ew_of (pcₚ := 20) (fun _ => x_aload_n rfl rfl) ?_
    refine Ew_of (pcₚ := 21) (fun _ => x_dup rfl rfl) ?_
    refine w_gI H (o := 3) (w := u3_8) rfl (H.perm 3 rfl) rfl rfl rfl (fun _ => rfl) (eu3_8) ?_
    refine Ew_of (pcₚ := 25) (fun _ => x_iconst rfl) ?_
    refine w_iadd rfl ?_
    refine w_pI H (o := 3) rfl rfl (H.perm 3 rfl) rfl rfl rfl (fun _ => rfl) rfl (show (-2147483648 : Int) ≤ (u3_8 + 1) ∧ (u3_8 + 1) ≤ 2147483647 from q_49 b2 h2) (fun σ H => ?_)
    exact w_ret rfl (k σ _ _ H (SF_upd (SF_refl) rfl) (SA_upd (SA_refl) rfl) ((u3_8 + 1)) (rfl) (show ((u3_8 + 1)) = (u3_8) + 1 from q_47))
/-- Tokens.numberAt -/
theorem M380 {σ0 σ : rS} {D N : Nat → Nat} {F : hF} {A : hA} {d c s : Nat} {Q : wQ} (H : HS σ0 σ D N F A) {a1 a2 : Int} (h0 : inr (a1)) (h1 : inr (a2)) (h2 : 0 ≤ (a1) ∧ 0 ≤ (a2) ∧ (a2) ≤ 8 ∧ (a1) + (a2) ≤ 65536) (k : ∀ (z : Int) σ Fₚ Aₚ, HS σ0 σ D N Fₚ Aₚ → SF [] F Fₚ → SA [] A Aₚ → (inrJ (z)) → (¬((a2) ≤ 4) ∨ 0 ≤ (z) ∧ (z) ≤ 4294967295) → (¬((a2) = 3) ∨ (z) ≤ 16777215) → (¬((a2) = 2) ∨ (z) ≤ 65535) → (¬((a2) = 1) ∨ (z) ≤ 255) → (¬((a2) = 0) ∨ (z) = 0) → Q (some (J z)) σ c s) : Ew 380 (d + 0) 0 (rargs 0 [.ref (D 3), I a1, I a2]) [] σ c s Q := by
  refine Ew_of (pcₚ := 1) (fun _ => x_lconst (z := 0) rfl (by decide)) ?_
  refine Ew_of (pcₚ := 2) (fun _ => x_lstore_n rfl) ?_
  refine Ew_of (pcₚ := 3) (fun _ => x_iload_n rfl (rk2_o (rfl) rfl rfl)) ?_
  refine Ew_of (pcₚ := 4) (fun _ => x_iconst rfl) ?_
  refine w_isub rfl ?_
  refine Ew_of (pcₚ := 7) (fun _ => x_istore rfl) ?_
  suffices hl7 : ∀ (m : Nat), ∀ (ls : rO) (σ : rS) (F_7 : hF) (A_7 : hA) (x7_3 : Int) (x7_5 : Int), rlook ls 0 = some (.ref (D 3)) → rlook ls 1 = some (I (a1)) → rlook ls 3 = some (J (x7_3)) → rlook ls 5 = some (I (x7_5)) → HS σ0 σ D N F_7 A_7 → SF [] F F_7 → SA [] A A_7 → (inrJ (x7_3)) → (inr (x7_5)) → ((x7_5) ≤ ((a2 - 1))) → (((a2 - 1)) ≤ (x7_5) ∨ ((-1)) ≤ (x7_5)) → (¬((a2) ≤ 4) ∨ 0 ≤ (x7_3)) → (¬((a2) ≤ 4 ∧ (x7_5) = (a2) - 1) ∨ (x7_3) = 0) → (¬((a2) ≤ 4 ∧ (x7_5) = (a2) - 2) ∨ (x7_3) ≤ 255) → (¬((a2) ≤ 4 ∧ (x7_5) = (a2) - 3) ∨ (x7_3) ≤ 65535) → (¬((a2) ≤ 4 ∧ (x7_5) = (a2) - 4) ∨ (x7_3) ≤ 16777215) → (¬((a2) ≤ 4 ∧ (x7_5) = (a2) - 5) ∨ (x7_3) ≤ 4294967295) → ((x7_5) - ((-1))).toNat = m → Ew 380 (d + 0) 7 ls [] σ c s Q from
    hl7 _ _ σ _ _ (0) ((a2 - 1)) (rk_o (rk2_o (rfl) rfl rfl) rfl rfl) (rk_o (rk2_o (rfl) rfl rfl) rfl rfl) (rk_o (rk2_s) rfl rfl) (rk_s) H (SF_refl) (SA_refl)   (show inrJ (0) from q_81) (show inr ((a2 - 1)) from q_192 h2) (show ((a2 - 1)) ≤ ((a2 - 1)) from q_163) (show ((a2 - 1)) ≤ ((a2 - 1)) ∨ ((-1)) ≤ ((a2 - 1)) from q_162) (show ¬((a2) ≤ 4) ∨ 0 ≤ (0) from q_191) (show ¬((a2) ≤ 4 ∧ ((a2 - 1)) = (a2) - 1) ∨ (0) = 0 from q_190) (show ¬((a2) ≤ 4 ∧ ((a2 - 1)) = (a2) - 2) ∨ (0) ≤ 255 from q_189) (show ¬((a2) ≤ 4 ∧ ((a2 - 1)) = (a2) - 3) ∨ (0) ≤ 65535 from q_188) (show ¬((a2) ≤ 4 ∧ ((a2 - 1)) = (a2) - 4) ∨ (0) ≤ 16777215 from q_187) (show ¬((a2) ≤ 4 ∧ ((a2 - 1)) = (a2) - 5) ∨ (0) ≤ 4294967295 from q_186) rfl
  as_aux_lemma =>
  intro m
  induction m using Nat.strongRecOn with
  | _ m ih7 =>
    intro ls σ F_7 A_7 x7_3 x7_5 l7_0 l7_1 l7_3 l7_5 H hS_7 hA_7   j7_0 j7_1 j7_2 j7_3 j7_4 j7_5 j7_6 j7_7 j7_8 j7_9 hm7
    refine Ew_of (pcₚ := 9) (fun _ => x_iload rfl l7_5) ?_
    refine w_iflt (t := 37) rfl rfl (show inr (x7_5) from j7_1) (fun b1 => ?_) (fun b1 => ?_)
    · refine Ew_of (pcₚ := 38) (fun _ => x_lload_n rfl l7_3) ?_
      exact w_lreturn rfl (k (x7_3) σ _ _ H (SF_trans (SF_refl) hS_7 (any_sub rfl)) (SA_trans (SA_refl) hA_7 (any_subA rfl)) (show inrJ (x7_3) from j7_0) (show ¬(a2 ≤ 4) ∨ 0 ≤ (x7_3) ∧ (x7_3) ≤ 4294967295 by omega) (show ¬(a2 = 3) ∨ (x7_3) ≤ 16777215 by omega) (show ¬(a2 = 2) ∨ (x7_3) ≤ 65535 by omega) (show ¬(a2 = 1) ∨ (x7_3) ≤ 255 by omega) (show ¬(a2 = 0) ∨ (x7_3) = 0 by omega))
    · refine Ew_of (pcₚ := 13) (fun _ => x_lload_n rfl l7_3) ?_
      refine Ew_of (pcₚ := 15) (fun _ => x_bipush (z := 8) rfl (by decide)) ?_
      refine w_lshlK 8 256 (by decide) (by decide) rfl (fun z2 gz2 dz2 => ?_)
      refine Ew_of (pcₚ := 17) (fun _ => x_aload_n rfl l7_0) ?_
      refine w_gT H (o := 3) (t := 1) rfl (H.perm 3 rfl) rfl rfl rfl rfl rfl rfl ?_
      refine w_gT H (o := 1) (t := 14) rfl (H.perm 1 rfl) rfl rfl rfl rfl rfl rfl ?_
      refine Ew_of (pcₚ := 24) (fun _ => x_iload_n rfl l7_1) ?_
      refine Ew_of (pcₚ := 26) (fun _ => x_iload rfl l7_5) ?_
      refine w_iadd rfl ?_
      refine w_lI H (o := 14) (n := 65536) rfl (H.perm 14 rfl) rfl rfl (H.fix 14 rfl rfl) (show 0 ≤ (a1 + x7_5) ∧ (a1 + x7_5) < ((65536 : Nat) : Int) from q_193 b1 h2 j7_2) (by decide) (fun v3 ev3 qv3 => ?_)
      have qv3 : (0 : Int) ≤ v3 ∧ v3 ≤ 255 := qv3
      have ev3 : (A 14) ((a1 + x7_5)) = v3 := (congrFun (funext (hA_7 14 rfl)) ((a1 + x7_5))).symm.trans ev3
      refine w_i2l rfl (show inr (v3) from q_38 qv3) ?_
      refine w_lorN rfl (show inrJ (z2) by omega) (show inrJ (v3) from q_194 qv3) (fun z4 gz4 dz4 => ?_)
      refine Ew_of (pcₚ := 31) (fun _ => x_lstore_n rfl) ?_
      refine Ew_of (pcₚ := 34) (fun _ => x_iinc (len := 3) rfl (rk2_o (l7_5) rfl rfl)) ?_
      refine Ew_of (pcₚ := 7) (fun _ => x_goto rfl rfl) ?_
      exact ih7 _ (msE hm7 q_176 (q_177 b1)) _ σ _ _ (z4) ((x7_5 + (-1))) (rk_o (rk2_o (l7_0) rfl rfl) rfl rfl) (rk_o (rk2_o (l7_1) rfl rfl) rfl rfl) (rk_o (rk2_s) rfl rfl) (rk_s) H (hS_7) (hA_7)   (show inrJ (z4) by omega) (show inr ((x7_5 + (-1))) from q_175 b1 j7_1) (show ((x7_5 + (-1))) ≤ ((a2 - 1)) from q_174 j7_2) (show ((a2 - 1)) ≤ ((x7_5 + (-1))) ∨ ((-1)) ≤ ((x7_5 + (-1))) from q_173 b1) (show ¬((a2) ≤ 4) ∨ 0 ≤ (z4) by omega) (show ¬((a2) ≤ 4 ∧ ((x7_5 + (-1))) = (a2) - 1) ∨ (z4) = 0 from q_195 j7_2) (show ¬((a2) ≤ 4 ∧ ((x7_5 + (-1))) = (a2) - 2) ∨ (z4) ≤ 255 by omega) (show ¬((a2) ≤ 4 ∧ ((x7_5 + (-1))) = (a2) - 3) ∨ (z4) ≤ 65535 by omega) (show ¬((a2) ≤ 4 ∧ ((x7_5 + (-1))) = (a2) - 4) ∨ (z4) ≤ 16777215 by omega) (show ¬((a2) ≤ 4 ∧ ((x7_5 + (-1))) = (a2) - 5) ∨ (z4) ≤ 4294967295 by omega) rfl
