abbrev V159 : vV := [(0, 7, [(4, 0), (0, 0), (1, 0), (0, 0), (0, 0)]), (1, 0, [])]
/-- Row.add: this, this.bytes -/
theorem C159 {σE : rS} {D N : Nat → Nat} {F : hF} {A : hA} {d c s : Nat} {Q : wQ} (H : HW V159 σE D N F A) {a1 : Int} (pf1 : F 0 0 = (D 1 : Int)) (n1 : Int) (en1 : (N 1 : Int) = n1) (u0_1 : Int) (eu0_1 : F 0 1 = u0_1) (h0 : inr (a1)) (h1 : 0 ≤ (u0_1) ∧ (u0_1) ≤ (n1) ∧ (n1) ≤ 65536) (k : ∀ (σ : rS) (Dₚ Nₚ : Nat → Nat) (Fₚ : hF) (Aₚ : hA) (cₚ sₚ : Nat), HW V159 σ Dₚ Nₚ Fₚ Aₚ → OUT (V159).length D N σE c s Dₚ Nₚ σ cₚ sₚ → SD [1] D Dₚ → SD [1] N Nₚ → SF [(0, 0), (0, 1), (0, 2)] F Fₚ → SA [1] A Aₚ → Fₚ 0 0 = (Dₚ 1 : Int) → ∀ m1 : Int, (Nₚ 1 : Int) = m1 → ∀ y0_1 : Int, Fₚ 0 1 = y0_1 → (0 ≤ (y0_1) ∧ (y0_1) ≤ (m1) ∧ (m1) ≤ 65536) → ((y0_1) = (u0_1) + 1 ∧ 0 ≤ 1 ∨ (y0_1) = (u0_1) ∧ (1 < 0 ∨ 65536 < (u0_1) + 1)) → ((n1) ≤ (m1)) → Q none σ cₚ sₚ) : Ew 159 (d + 2) 0 (rargs 0 [.ref (D 0), I a1]) [] σE c s Q := by
  have O := OUT_refl (n := (V159).length) (D := D) (N := N) (σ := σE) (c := c) (s := s)
  have HE := H
  have r1 : (-2147483648 : Int) ≤ u0_1 ∧ u0_1 ≤ 2147483647 := by have h1 : (-2147483648 : Int) ≤ F 0 1 ∧ F 0 1 ≤ 2147483647 := H.krg 0 1 (by decide); rw [show F 0 1 = u0_1 from (eu0_1)] at h1; exact h1
  have r2 : (0 : Int) ≤ n1 ∧ n1 ≤ 1000000 := by have h1 := H.nle 1 (by decide); have h2 : (N 1 : Int) = n1 := en1; omega
  refine Ew_of (pcₚ := 1) (fun _ => x_aload_n rfl rfl) ?_
  refine v_g H (o := 0) (v := I (u0_1)) rfl rfl rfl rfl rfl (congrArg (fun z : Int => I z) ((eu0_1) : F 0 1 = u0_1)) ?_
  refine Ew_of (pcₚ := 5) (fun _ => x_aload_n rfl rfl) ?_
  refine v_g H (o := 0) (v := .ref (D 1)) rfl rfl rfl rfl rfl (vrf (pf1)) ?_
  refine v_len H (o := 1) rfl rfl rfl rfl (n := n1) (en1) ?_
  refine w_icmplt (t := 20) rfl rfl (show inr (u0_1) by omega) (show inr (n1) by omega) (fun b3 => ?_) (fun b3 => ?_)
  · refine Ew_of (pcₚ := 21) (fun _ => x_aload_n rfl rfl) ?_
    refine v_g H (o := 0) (v := .ref (D 1)) rfl rfl rfl rfl rfl (vrf (pf1)) ?_
    refine Ew_of (pcₚ := 25) (fun _ => x_aload_n rfl rfl) ?_
    refine Ew_of (pcₚ := 26) (fun _ => x_dup rfl rfl) ?_
    refine v_g H (o := 0) (v := I (u0_1)) rfl rfl rfl rfl rfl (congrArg (fun z : Int => I z) ((eu0_1) : F 0 1 = u0_1)) ?_
    refine Ew_of (pcₚ := 30) (fun _ => x_dup_x1 rfl rfl) ?_
    refine Ew_of (pcₚ := 31) (fun _ => x_iconst rfl) ?_
    refine w_iadd rfl ?_
    refine v_p H (o := 0) (z := (u0_1 + 1)) (v := I ((u0_1 + 1))) rfl rfl rfl rfl rfl rfl rfl rfl (show (-2147483648 : Int) ≤ (u0_1 + 1) ∧ (u0_1 + 1) ≤ 2147483647 by omega) (fun σ H Oₚ => ?_)
    have O := OUT_trans O Oₚ
    refine Ew_of (pcₚ := 36) (fun _ => x_iload_n rfl rfl) ?_
    refine v_i2b rfl (fun z4 gz4 => ?_)
    refine v_sB H (o := 1) rfl rfl rfl rfl (n := n1) (en1) (show 0 ≤ u0_1 ∧ u0_1 < n1 by omega) (fun z5 σ qz5 H Oₚ => ?_)
    have O := OUT_trans O Oₚ
    refine Ew_of (pcₚ := 46) (fun _ => x_goto rfl rfl) ?_
    exact w_ret rfl (k _ _ _ _ _ _ _ H O (SD_refl) (SD_refl) (SF_upd (SF_refl) rfl) (SA_upd (SA_refl) rfl) (pf1) (n1) (en1) ((u0_1 + 1)) (rfl) (show 0 ≤ ((u0_1 + 1)) ∧ ((u0_1 + 1)) ≤ (n1) ∧ (n1) ≤ 65536 by omega) (show ((u0_1 + 1)) = (u0_1) + 1 ∧ 0 ≤ 1 ∨ ((u0_1 + 1)) = (u0_1) ∧ (1 < 0 ∨ 65536 < (u0_1) + 1) by omega) (show (n1) ≤ (n1) by omega))
  · refine Ew_of (pcₚ := 13) (fun _ => x_aload_n rfl rfl) ?_
    refine Ew_of (pcₚ := 14) (fun _ => x_iconst rfl) ?_
    refine v_inv H (o := 0) rfl rfl rfl rfl rfl rfl (by rfl) (C157 (D := pul [0, 1] D) (N := pul [0, 1] N) (HW_sub H (VS_of (show vsub V159 V157 [0, 1] = true by decide +kernel))) (pf1) (n1) (en1) (u0_1) ((eu0_1)) (A 1) (rfl) (show inr (1) by omega) (show 0 ≤ (u0_1) ∧ (u0_1) ≤ (n1) ∧ (n1) ≤ 65536 by omega) (fun z6 σ6 D6ₚ N6ₚ F6ₚ A6ₚ c6 s6 Hₚ Oₚ hD6 hN6 hS6 hA6 pm6_1 m6_1 em6_1 w6_1 ew6_1 pz6_0 pz6_1 pz6_2 pz6_3 pz6_4 => ⟨rretB rfl pz6_0, ?_⟩))
    refine v_backM (c := c) (s := s) H (show vsub V159 V157 [0, 1] = true by decide +kernel) Hₚ Oₚ hD6 (show vmov V159 [0, 1] [1] = true by decide +kernel) (fun D6 N6 F6 A6 H Oₚ eD6 eN6 eF6 eA6 => ?_)
    have O := OUT_trans O Oₚ
    -- Row.reserve
    have pf6_0_0 : F6 0 0 = (D6 1 : Int) := (eF6 0 0).trans (pm6_1.trans (congrArg (fun q : Nat => (q : Int)) (eD6 1).symm))
    have r7 : (0 : Int) ≤ m6_1 ∧ m6_1 ≤ 1000000 := by have h1 := H.nle 1 (by decide); have h2 : (N6 1 : Int) = m6_1 := (congrArg (fun q : Nat => (q : Int)) (eN6 1)).trans em6_1; omega
    refine w_ifeq (t := 41) rfl rfl (show inr (z6) by omega) (fun b8 => ?_) (fun b8 => ?_)
    · refine Ew_of (pcₚ := 42) (fun _ => x_aload_n rfl rfl) ?_
      refine Ew_of (pcₚ := 43) (fun _ => x_iconst rfl) ?_
      refine Ew_stk (show ([I (1), .ref (D 0)] : List Value) = [I (1), .ref (D6 0)] by rw [show D6 0 = D 0 from ((show D6 0 = D 0 from (eD6 0).trans (hD6 0 rfl)))]) ?_
      refine v_p H (o := 0) (z := 1) (v := I (1)) rfl rfl rfl rfl rfl rfl rfl (rfit_b (by omega)) (show (0 : Int) ≤ 1 ∧ 1 ≤ 1 by omega) (fun σ H Oₚ => ?_)
      have O := OUT_trans O Oₚ
      exact w_ret rfl (k _ _ _ _ _ _ _ H O (SD_trans (SD_refl) (SD_glu (ι := [0, 1]) hD6 eD6 (by decide +kernel)) (any_subA (lₚ := [1]) rfl)) (SD_trans (SD_refl) (SD_glu (ι := [0, 1]) hN6 eN6 (by decide +kernel)) (any_subA (lₚ := [1]) rfl)) (SF_upd (SF_trans (SF_refl) (SF_glu (ι := [0, 1]) hS6 eF6 (by decide +kernel)) (any_sub (lₚ := [(0, 0)]) rfl)) rfl) (SA_trans (SA_refl) (SA_glu (ι := [0, 1]) hA6 eA6 (by decide +kernel)) (any_subA (lₚ := [1]) rfl)) (pf6_0_0) (m6_1) ((congrArg (fun q : Nat => (q : Int)) (eN6 1)).trans em6_1) (u0_1) ((((show F6 0 1 = F 0 1 from (eF6 0 1).trans (hS6 0 1 rfl))).trans (eu0_1))) (show 0 ≤ (u0_1) ∧ (u0_1) ≤ (m6_1) ∧ (m6_1) ≤ 65536 by omega) (show (u0_1) = (u0_1) + 1 ∧ 0 ≤ 1 ∨ (u0_1) = (u0_1) ∧ (1 < 0 ∨ 65536 < (u0_1) + 1) by omega) (show (n1) ≤ (m6_1) by omega))
    · refine Ew_of (pcₚ := 21) (fun _ => x_aload_n rfl rfl) ?_
      refine Ew_stk (show ([.ref (D 0)] : List Value) = [.ref (D6 0)] by rw [show D6 0 = D 0 from ((show D6 0 = D 0 from (eD6 0).trans (hD6 0 rfl)))]) ?_
      refine v_g H (o := 0) (v := .ref (D6 1)) rfl rfl rfl rfl rfl (vrf (pf6_0_0)) ?_
      refine Ew_of (pcₚ := 25) (fun _ => x_aload_n rfl rfl) ?_
      refine Ew_of (pcₚ := 26) (fun _ => x_dup rfl rfl) ?_
      refine Ew_stk (show ([.ref (D 0), .ref (D 0), .ref (D6 1)] : List Value) = [.ref (D6 0), .ref (D6 0), .ref (D6 1)] by rw [show D6 0 = D 0 from ((show D6 0 = D 0 from (eD6 0).trans (hD6 0 rfl)))]) ?_
      refine v_g H (o := 0) (v := I (u0_1)) rfl rfl rfl rfl rfl (congrArg (fun z : Int => I z) ((((show F6 0 1 = F 0 1 from (eF6 0 1).trans (hS6 0 1 rfl))).trans (eu0_1)) : F6 0 1 = u0_1)) ?_
      refine Ew_of (pcₚ := 30) (fun _ => x_dup_x1 rfl rfl) ?_
      refine Ew_of (pcₚ := 31) (fun _ => x_iconst rfl) ?_
      refine w_iadd rfl ?_
      refine v_p H (o := 0) (z := (u0_1 + 1)) (v := I ((u0_1 + 1))) rfl rfl rfl rfl rfl rfl rfl rfl (show (-2147483648 : Int) ≤ (u0_1 + 1) ∧ (u0_1 + 1) ≤ 2147483647 by omega) (fun σ H Oₚ => ?_)
      have O := OUT_trans O Oₚ
      refine Ew_of (pcₚ := 36) (fun _ => x_iload_n rfl rfl) ?_
      refine v_i2b rfl (fun z9 gz9 => ?_)
      refine v_sB H (o := 1) rfl rfl rfl rfl (n := m6_1) ((congrArg (fun q : Nat => (q : Int)) (eN6 1)).trans em6_1) (show 0 ≤ u0_1 ∧ u0_1 < m6_1 by omega) (fun z10 σ qz10 H Oₚ => ?_)
      have O := OUT_trans O Oₚ
      refine Ew_of (pcₚ := 46) (fun _ => x_goto rfl rfl) ?_
      exact w_ret rfl (k _ _ _ _ _ _ _ H O (SD_trans (SD_refl) (SD_glu (ι := [0, 1]) hD6 eD6 (by decide +kernel)) (any_subA (lₚ := [1]) rfl)) (SD_trans (SD_refl) (SD_glu (ι := [0, 1]) hN6 eN6 (by decide +kernel)) (any_subA (lₚ := [1]) rfl)) (SF_upd (SF_trans (SF_refl) (SF_glu (ι := [0, 1]) hS6 eF6 (by decide +kernel)) (any_sub (lₚ := [(0, 0)]) rfl)) rfl) (SA_upd (SA_trans (SA_refl) (SA_glu (ι := [0, 1]) hA6 eA6 (by decide +kernel)) (any_subA (lₚ := [1]) rfl)) rfl) (pf6_0_0) (m6_1) ((congrArg (fun q : Nat => (q : Int)) (eN6 1)).trans em6_1) ((u0_1 + 1)) (rfl) (show 0 ≤ ((u0_1 + 1)) ∧ ((u0_1 + 1)) ≤ (m6_1) ∧ (m6_1) ≤ 65536 by omega) (show ((u0_1 + 1)) = (u0_1) + 1 ∧ 0 ≤ 1 ∨ ((u0_1 + 1)) = (u0_1) ∧ (1 < 0 ∨ 65536 < (u0_1) + 1) by omega) (show (n1) ≤ (m6_1) by omega))
abbrev V160 : vV := [(0, 7, [(4, 0), (0, 0), (1, 0), (0, 0), (0, 0)]), (1, 0, [])]
/-- Row.addNumber: this, this.bytes -/
theorem C160 {σE : rS} {D N : Nat → Nat} {F : hF} {A : hA} {d c s : Nat} {Q : wQ} (H : HW V160 σE D N F A) {a1 a2 : Int} (pf1 : F 0 0 = (D 1 : Int)) (n1 : Int) (en1 : (N 1 : Int) = n1) (u0_1 : Int) (eu0_1 : F 0 1 = u0_1) (h0 : inrJ (a1)) (h1 : inr (a2)) (h2 : 0 ≤ (u0_1) ∧ (u0_1) ≤ (n1) ∧ (n1) ≤ 65536) (k : ∀ (σ : rS) (Dₚ Nₚ : Nat → Nat) (Fₚ : hF) (Aₚ : hA) (cₚ sₚ : Nat), HW V160 σ Dₚ Nₚ Fₚ Aₚ → OUT (V160).length D N σE c s Dₚ Nₚ σ cₚ sₚ → SD [1] D Dₚ → SD [1] N Nₚ → SF [(0, 0), (0, 1), (0, 2)] F Fₚ → SA [1] A Aₚ → Fₚ 0 0 = (Dₚ 1 : Int) → ∀ m1 : Int, (Nₚ 1 : Int) = m1 → ∀ y0_1 : Int, Fₚ 0 1 = y0_1 → (0 ≤ (y0_1) ∧ (y0_1) ≤ (m1) ∧ (m1) ≤ 65536) → ((y0_1) = (u0_1) + (a2) ∧ 0 ≤ (a2) ∨ (y0_1) = (u0_1) ∧ ((a2) < 0 ∨ 65536 < (u0_1) + (a2))) → Q none σ cₚ sₚ) : Ew 160 (d + 2) 0 (rargs 0 [.ref (D 0), J a1, I a2]) [] σE c s Q := by
  have O := OUT_refl (n := (V160).length) (D := D) (N := N) (σ := σE) (c := c) (s := s)
  have HE := H
  have r1 : (-2147483648 : Int) ≤ u0_1 ∧ u0_1 ≤ 2147483647 := by have h1 : (-2147483648 : Int) ≤ F 0 1 ∧ F 0 1 ≤ 2147483647 := H.krg 0 1 (by decide); rw [show F 0 1 = u0_1 from (eu0_1)] at h1; exact h1
  have r2 : (0 : Int) ≤ n1 ∧ n1 ≤ 1000000 := by have h1 := H.nle 1 (by decide); have h2 : (N 1 : Int) = n1 := en1; omega
  refine Ew_of (pcₚ := 1) (fun _ => x_aload_n rfl rfl) ?_
  refine Ew_of (pcₚ := 2) (fun _ => x_iload_n rfl rfl) ?_
  refine v_inv H (o := 0) rfl rfl rfl rfl rfl rfl (by rfl) (C157 (D := pul [0, 1] D) (N := pul [0, 1] N) (HW_sub H (VS_of (show vsub V160 V157 [0, 1] = true by decide +kernel))) (pf1) (n1) (en1) (u0_1) ((eu0_1)) (A 1) (rfl) (show inr (a2) by omega) (show 0 ≤ (u0_1) ∧ (u0_1) ≤ (n1) ∧ (n1) ≤ 65536 by omega) (fun z3 σ3 D3ₚ N3ₚ F3ₚ A3ₚ c3 s3 Hₚ Oₚ hD3 hN3 hS3 hA3 pm3_1 m3_1 em3_1 w3_1 ew3_1 pz3_0 pz3_1 pz3_2 pz3_3 pz3_4 => ⟨rretB rfl pz3_0, ?_⟩))
  refine v_backM (c := c) (s := s) H (show vsub V160 V157 [0, 1] = true by decide +kernel) Hₚ Oₚ hD3 (show vmov V160 [0, 1] [1] = true by decide +kernel) (fun D3 N3 F3 A3 H Oₚ eD3 eN3 eF3 eA3 => ?_)
  have O := OUT_trans O Oₚ
  -- Row.reserve
  have pf3_0_0 : F3 0 0 = (D3 1 : Int) := (eF3 0 0).trans (pm3_1.trans (congrArg (fun q : Nat => (q : Int)) (eD3 1).symm))
  have r4 : (0 : Int) ≤ m3_1 ∧ m3_1 ≤ 1000000 := by have h1 := H.nle 1 (by decide); have h2 : (N3 1 : Int) = m3_1 := (congrArg (fun q : Nat => (q : Int)) (eN3 1)).trans em3_1; omega
  refine w_ifne (t := 14) rfl rfl (show inr (z3) by omega) (fun b5 => ?_) (fun b5 => ?_)
  · refine Ew_of (pcₚ := 15) (fun _ => x_iconst rfl) ?_
    refine Ew_of (pcₚ := 17) (fun _ => x_istore rfl) ?_
    suffices hl17 : ∀ (m : Nat), ∀ (ls : rO) (σ : rS) (F_17 : hF) (A_17 : hA) (x17_4 : Int), rlook ls 0 = some (.ref (D3 0)) → rlook ls 1 = some (J (a1)) → rlook ls 3 = some (I (a2)) → rlook ls 4 = some (I (x17_4)) → HW V160 σ D3 N3 F_17 A_17 → OUT (V160).length D N σE c s D3 N3 σ (c + c3) (s + s3) → SF [(0, 1)] F3 F_17 → SA [1] A3 A_17 → ∀ y17_0_1 : Int, F_17 0 1 = y17_0_1 → (inr (x17_4)) → ((0) ≤ (x17_4)) → ((x17_4) ≤ (0) ∨ (x17_4) ≤ ((a2))) → ((y17_0_1) = (u0_1) + (x17_4)) → ((u0_1) + (a2) ≤ (m3_1) ∧ (m3_1) ≤ 65536) → (((a2)) - (x17_4)).toNat = m → Ew 160 (d + 2) 17 ls [] σ (c + c3) (s + s3) Q from
      hl17 _ _ _ _ _ (0) ((rk_o (rfl) rfl rfl).trans (congrArg (fun q : Nat => some (Value.ref q)) (((show D3 0 = D 0 from (eD3 0).trans (hD3 0 rfl)))).symm)) (rk_o (rfl) rfl rfl) (rk_o (rfl) rfl rfl) (rk_s) H O (SF_refl) (SA_refl)   (u0_1) ((((show F3 0 1 = F 0 1 from (eF3 0 1).trans (hS3 0 1 rfl))).trans (eu0_1)))  (show inr (0) by omega) (show (0) ≤ (0) by omega) (show (0) ≤ (0) ∨ (0) ≤ ((a2)) by omega) (show (u0_1) = (u0_1) + (0) by omega) (show (u0_1) + (a2) ≤ (m3_1) ∧ (m3_1) ≤ 65536 by omega) rfl
    as_aux_lemma =>
    intro m
    induction m using Nat.strongRecOn with
    | _ m ih17 =>
      intro ls σ F_17 A_17 x17_4 l17_0 l17_1 l17_3 l17_4 H O hS_17 hA_17   y17_0_1 ey17_0_1  j17_0 j17_1 j17_2 j17_3 j17_4 hm17
      have r6 : (-2147483648 : Int) ≤ y17_0_1 ∧ y17_0_1 ≤ 2147483647 := by have h1 : (-2147483648 : Int) ≤ F_17 0 1 ∧ F_17 0 1 ≤ 2147483647 := H.krg 0 1 (by decide); rw [show F_17 0 1 = y17_0_1 from (ey17_0_1)] at h1; exact h1
      refine Ew_of (pcₚ := 19) (fun _ => x_iload rfl l17_4) ?_
      refine Ew_of (pcₚ := 20) (fun _ => x_iload_n rfl l17_3) ?_
      refine w_icmpge (t := 54) rfl rfl (show inr (x17_4) by omega) (show inr (a2) by omega) (fun b7 => ?_) (fun b7 => ?_)
      · exact w_ret rfl (k _ _ _ _ _ _ _ H O (SD_trans (SD_refl) (SD_glu (ι := [0, 1]) hD3 eD3 (by decide +kernel)) (any_subA (lₚ := [1]) rfl)) (SD_trans (SD_refl) (SD_glu (ι := [0, 1]) hN3 eN3 (by decide +kernel)) (any_subA (lₚ := [1]) rfl)) (SF_trans (SF_trans (SF_refl) (SF_glu (ι := [0, 1]) hS3 eF3 (by decide +kernel)) (any_sub (lₚ := [(0, 0)]) rfl)) hS_17 (any_sub rfl)) (SA_trans (SA_trans (SA_refl) (SA_glu (ι := [0, 1]) hA3 eA3 (by decide +kernel)) (any_subA (lₚ := [1]) rfl)) hA_17 (any_subA rfl)) (((hS_17 0 0 rfl)).trans (pf3_0_0)) (m3_1) ((congrArg (fun q : Nat => (q : Int)) (eN3 1)).trans em3_1) (y17_0_1) ((ey17_0_1)) (show 0 ≤ (y17_0_1) ∧ (y17_0_1) ≤ (m3_1) ∧ (m3_1) ≤ 65536 by omega) (show (y17_0_1) = (u0_1) + a2 ∧ 0 ≤ a2 ∨ (y17_0_1) = (u0_1) ∧ (a2 < 0 ∨ 65536 < (u0_1) + a2) by omega))
      · refine Ew_of (pcₚ := 24) (fun _ => x_aload_n rfl l17_0) ?_
        refine v_g H (o := 0) (v := .ref (D3 1)) rfl rfl rfl rfl rfl (vrf (((hS_17 0 0 rfl)).trans (pf3_0_0))) ?_
        refine Ew_of (pcₚ := 28) (fun _ => x_aload_n rfl l17_0) ?_
        refine Ew_of (pcₚ := 29) (fun _ => x_dup rfl rfl) ?_
        refine v_g H (o := 0) (v := I (y17_0_1)) rfl rfl rfl rfl rfl (congrArg (fun z : Int => I z) ((ey17_0_1) : F_17 0 1 = y17_0_1)) ?_
        refine Ew_of (pcₚ := 33) (fun _ => x_dup_x1 rfl rfl) ?_
        refine Ew_of (pcₚ := 34) (fun _ => x_iconst rfl) ?_
        refine w_iadd rfl ?_
        refine v_p H (o := 0) (z := (y17_0_1 + 1)) (v := I ((y17_0_1 + 1))) rfl rfl rfl rfl rfl rfl rfl rfl (show (-2147483648 : Int) ≤ (y17_0_1 + 1) ∧ (y17_0_1 + 1) ≤ 2147483647 by omega) (fun σ H Oₚ => ?_)
        have O := OUT_trans O Oₚ
        refine Ew_of (pcₚ := 39) (fun _ => x_lload_n rfl l17_1) ?_
        refine Ew_of (pcₚ := 41) (fun _ => x_bipush (z := 8) rfl (by decide)) ?_
        refine Ew_of (pcₚ := 43) (fun _ => x_iload rfl l17_4) ?_
        refine w_imul rfl ?_
        refine w_lushrA rfl (fun z8 gz8 => ?_)
        refine w_l2iA rfl (fun z9 gz9 => ?_)
        refine v_i2b rfl (fun z10 gz10 => ?_)
        refine v_sB H (o := 1) rfl rfl rfl rfl (n := m3_1) ((congrArg (fun q : Nat => (q : Int)) (eN3 1)).trans em3_1) (show 0 ≤ y17_0_1 ∧ y17_0_1 < m3_1 by omega) (fun z11 σ qz11 H Oₚ => ?_)
        have O := OUT_trans O Oₚ
        refine Ew_of (pcₚ := 51) (fun _ => x_iinc (len := 3) rfl (l17_4)) ?_
        refine Ew_of (pcₚ := 17) (fun _ => x_goto rfl rfl) ?_
        exact ih17 _ (by omega) _ _ _ _ ((x17_4 + 1)) (rk_o (l17_0) rfl rfl) (rk_o (l17_1) rfl rfl) (rk_o (l17_3) rfl rfl) (rk_s) H O (SF_upd (hS_17) rfl) (SA_upd (hA_17) rfl)   ((y17_0_1 + 1)) (rfl)  (show inr ((x17_4 + 1)) by omega) (show (0) ≤ ((x17_4 + 1)) by omega) (show ((x17_4 + 1)) ≤ (0) ∨ ((x17_4 + 1)) ≤ ((a2)) by omega) (show ((y17_0_1 + 1)) = (u0_1) + ((x17_4 + 1)) by omega) (show (u0_1) + (a2) ≤ (m3_1) ∧ (m3_1) ≤ 65536 by omega) rfl
  · refine Ew_of (pcₚ := 9) (fun _ => x_aload_n rfl rfl) ?_
    refine Ew_of (pcₚ := 10) (fun _ => x_iconst rfl) ?_
    refine Ew_stk (show ([I (1), .ref (D 0)] : List Value) = [I (1), .ref (D3 0)] by rw [show D3 0 = D 0 from ((show D3 0 = D 0 from (eD3 0).trans (hD3 0 rfl)))]) ?_
    refine v_p H (o := 0) (z := 1) (v := I (1)) rfl rfl rfl rfl rfl rfl rfl (rfit_b (by omega)) (show (0 : Int) ≤ 1 ∧ 1 ≤ 1 by omega) (fun σ H Oₚ => ?_)
    have O := OUT_trans O Oₚ
    exact w_ret rfl (k _ _ _ _ _ _ _ H O (SD_trans (SD_refl) (SD_glu (ι := [0, 1]) hD3 eD3 (by decide +kernel)) (any_subA (lₚ := [1]) rfl)) (SD_trans (SD_refl) (SD_glu (ι := [0, 1]) hN3 eN3 (by decide +kernel)) (any_subA (lₚ := [1]) rfl)) (SF_upd (SF_trans (SF_refl) (SF_glu (ι := [0, 1]) hS3 eF3 (by decide +kernel)) (any_sub (lₚ := [(0, 0)]) rfl)) rfl) (SA_trans (SA_refl) (SA_glu (ι := [0, 1]) hA3 eA3 (by decide +kernel)) (any_subA (lₚ := [1]) rfl)) (pf3_0_0) (m3_1) ((congrArg (fun q : Nat => (q : Int)) (eN3 1)).trans em3_1) (u0_1) ((((show F3 0 1 = F 0 1 from (eF3 0 1).trans (hS3 0 1 rfl))).trans (eu0_1))) (show 0 ≤ (u0_1) ∧ (u0_1) ≤ (m3_1) ∧ (m3_1) ≤ 65536 by omega) (show (u0_1) = (u0_1) + a2 ∧ 0 ≤ a2 ∨ (u0_1) = (u0_1) ∧ (a2 < 0 ∨ 65536 < (u0_1) + a2) by omega))
abbrev V161_Br : vV := [(0, 7, [(4, 0), (0, 0), (1, 0), (0, 0), (0, 0)]), (1, 0, []), (1, 0, [])]
/-- Row.addPart: this, #1, this.bytes -/
theorem C161_Br {σE : rS} {D N : Nat → Nat} {F : hF} {A : hA} {d c s : Nat} {Q : wQ} (H : HW V161_Br σE D N F A) {a2 a3 : Int} (pf2 : F 0 0 = (D 2 : Int)) (n1 : Int) (en1 : (N 1 : Int) = n1) (n2 : Int) (en2 : (N 2 : Int) = n2) (u0_1 : Int) (eu0_1 : F 0 1 = u0_1) (w2 : Int → Int) (ew2 : A 2 = w2) (h0 : inr (a2)) (h1 : inr (a3)) (h2 : 0 ≤ (u0_1) ∧ (u0_1) ≤ (n2) ∧ (n2) ≤ 65536) (h3 : (a3) < 0 ∨ 0 ≤ (a2) ∧ (a2) + (a3) ≤ (n1)) (k : ∀ (σ : rS) (Dₚ Nₚ : Nat → Nat) (Fₚ : hF) (Aₚ : hA) (cₚ sₚ : Nat), HW V161_Br σ Dₚ Nₚ Fₚ Aₚ → OUT (V161_Br).length D N σE c s Dₚ Nₚ σ cₚ sₚ → SD [2] D Dₚ → SD [2] N Nₚ → SF [(0, 0), (0, 1), (0, 2)] F Fₚ → SA [2] A Aₚ → Fₚ 0 0 = (Dₚ 2 : Int) → ∀ m2 : Int, (Nₚ 2 : Int) = m2 → ∀ y0_1 : Int, Fₚ 0 1 = y0_1 → ∀ v2 : Int → Int, Aₚ 2 = v2 → (0 ≤ (y0_1) ∧ (y0_1) ≤ (m2) ∧ (m2) ≤ 65536) → ((y0_1) = (u0_1) + (a3) ∧ 0 ≤ (a3) ∨ (y0_1) = (u0_1) ∧ ((a3) < 0 ∨ 65536 < (u0_1) + (a3))) → (∀ i, (0 : Int) ≤ i → i < (u0_1) → ((v2)) i = ((w2)) i) → Q none σ cₚ sₚ) : Ew 161 (d + 2) 0 (rargs 0 [.ref (D 0), .ref (D 1), I a2, I a3]) [] σE c s Q := by
  have O := OUT_refl (n := (V161_Br).length) (D := D) (N := N) (σ := σE) (c := c) (s := s)
  have HE := H
  have r1 : (-2147483648 : Int) ≤ u0_1 ∧ u0_1 ≤ 2147483647 := by have h1 : (-2147483648 : Int) ≤ F 0 1 ∧ F 0 1 ≤ 2147483647 := H.krg 0 1 (by decide); rw [show F 0 1 = u0_1 from (eu0_1)] at h1; exact h1
  have r2 : (0 : Int) ≤ n1 ∧ n1 ≤ 1000000 := by have h1 := H.nle 1 (by decide); have h2 : (N 1 : Int) = n1 := en1; omega
  have r3 : (0 : Int) ≤ n2 ∧ n2 ≤ 1000000 := by have h1 := H.nle 2 (by decide); have h2 : (N 2 : Int) = n2 := en2; omega
  refine Ew_of (pcₚ := 1) (fun _ => x_aload_n rfl rfl) ?_
  refine Ew_of (pcₚ := 2) (fun _ => x_iload_n rfl rfl) ?_
  refine v_inv H (o := 0) rfl rfl rfl rfl rfl rfl (by rfl) (C157 (D := pul [0, 2] D) (N := pul [0, 2] N) (HW_sub H (VS_of (show vsub V161_Br V157 [0, 2] = true by decide +kernel))) (pf2) (n2) (en2) (u0_1) ((eu0_1)) (w2) (ew2) (show inr (a3) by omega) (show 0 ≤ (u0_1) ∧ (u0_1) ≤ (n2) ∧ (n2) ≤ 65536 by omega) (fun z4 σ4 D4ₚ N4ₚ F4ₚ A4ₚ c4 s4 Hₚ Oₚ hD4 hN4 hS4 hA4 pm4_1 m4_1 em4_1 w4_1 ew4_1 pz4_0 pz4_1 pz4_2 pz4_3 pz4_4 => ⟨rretB rfl pz4_0, ?_⟩))
  refine v_backM (c := c) (s := s) H (show vsub V161_Br V157 [0, 2] = true by decide +kernel) Hₚ Oₚ hD4 (show vmov V161_Br [0, 2] [1] = true by decide +kernel) (fun D4 N4 F4 A4 H Oₚ eD4 eN4 eF4 eA4 => ?_)
  have O := OUT_trans O Oₚ
  -- Row.reserve
  have pf4_0_0 : F4 0 0 = (D4 2 : Int) := (eF4 0 0).trans (pm4_1.trans (congrArg (fun q : Nat => (q : Int)) (eD4 2).symm))
  have r5 : (0 : Int) ≤ m4_1 ∧ m4_1 ≤ 1000000 := by have h1 := H.nle 2 (by decide); have h2 : (N4 2 : Int) = m4_1 := (congrArg (fun q : Nat => (q : Int)) (eN4 2)).trans em4_1; omega
  have hsr := pz4_4
  refine w_ifne (t := 14) rfl rfl (show inr (z4) by omega) (fun b6 => ?_) (fun b6 => ?_)
  · refine Ew_of (pcₚ := 15) (fun _ => x_aload_n rfl rfl) ?_
    refine Ew_of (pcₚ := 16) (fun _ => x_iload_n rfl rfl) ?_
    refine Ew_of (pcₚ := 17) (fun _ => x_aload_n rfl rfl) ?_
    refine Ew_stk (show ([.ref (D 0), I (a2), .ref (D 1)] : List Value) = [.ref (D4 0), I (a2), .ref (D4 1)] by rw [show D4 0 = D 0 from ((show D4 0 = D 0 from (eD4 0).trans (hD4 0 rfl))), show D4 1 = D 1 from ((show D4 1 = D 1 from (eD4 1)))]) ?_
    refine v_g H (o := 0) (v := .ref (D4 2)) rfl rfl rfl rfl rfl (vrf (pf4_0_0)) ?_
    refine Ew_of (pcₚ := 21) (fun _ => x_aload_n rfl rfl) ?_
    refine Ew_stk (show ([.ref (D 0), .ref (D4 2), I (a2), .ref (D4 1)] : List Value) = [.ref (D4 0), .ref (D4 2), I (a2), .ref (D4 1)] by rw [show D4 0 = D 0 from ((show D4 0 = D 0 from (eD4 0).trans (hD4 0 rfl)))]) ?_
    refine v_g H (o := 0) (v := I (u0_1)) rfl rfl rfl rfl rfl (congrArg (fun z : Int => I z) ((((show F4 0 1 = F 0 1 from (eF4 0 1).trans (hS4 0 1 rfl))).trans (eu0_1)) : F4 0 1 = u0_1)) ?_
    refine Ew_of (pcₚ := 25) (fun _ => x_iload_n rfl rfl) ?_
    refine v_cpy H (t := 2) (t0 := 1) rfl rfl rfl rfl rfl rfl rfl rfl (n := m4_1) ((congrArg (fun q : Nat => (q : Int)) (eN4 2)).trans em4_1) (n0 := n1) ((congrArg (fun q : Nat => (q : Int)) (show N4 1 = N 1 from (eN4 1))).trans (en1)) (show 0 ≤ a3 ∧ 0 ≤ u0_1 ∧ 0 ≤ a2 ∧ a2 + a3 ≤ n1 ∧ u0_1 + a3 ≤ m4_1 by omega) (fun σ A7 H Oₚ hA7 ga7 gb7 => ?_)
    have gb7 : ∀ i, i < u0_1 ∨ u0_1 + a3 ≤ i → A7 2 i = (w4_1) i := fun i a => (gb7 i a).trans (congrFun ((eA4 2).trans ew4_1) i)
    have ga7 : ∀ i, u0_1 ≤ i → i < u0_1 + a3 → A7 2 i = (A 1) (a2 + (i - u0_1)) := fun i a b => (ga7 i a b).trans (congrFun ((show A4 1 = A 1 from (eA4 1))) _)
    have O := OUT_trans O Oₚ
    have : ∀ i, (0 : Int) ≤ i → i < (u0_1) → ((A7 2)) i = ((w2)) i := fun i a b => (gb7 i (by omega)).trans (hsr i a b)
    refine Ew_of (pcₚ := 29) (fun _ => x_aload_n rfl rfl) ?_
    refine Ew_of (pcₚ := 30) (fun _ => x_dup rfl rfl) ?_
    refine Ew_stk (show ([.ref (D 0), .ref (D 0)] : List Value) = [.ref (D4 0), .ref (D4 0)] by rw [show D4 0 = D 0 from ((show D4 0 = D 0 from (eD4 0).trans (hD4 0 rfl)))]) ?_
    refine v_g H (o := 0) (v := I (u0_1)) rfl rfl rfl rfl rfl (congrArg (fun z : Int => I z) ((((show F4 0 1 = F 0 1 from (eF4 0 1).trans (hS4 0 1 rfl))).trans (eu0_1)) : F4 0 1 = u0_1)) ?_
    refine Ew_of (pcₚ := 34) (fun _ => x_iload_n rfl rfl) ?_
    refine w_iadd rfl ?_
    refine v_p H (o := 0) (z := (u0_1 + a3)) (v := I ((u0_1 + a3))) rfl rfl rfl rfl rfl rfl rfl rfl (show (-2147483648 : Int) ≤ (u0_1 + a3) ∧ (u0_1 + a3) ≤ 2147483647 by omega) (fun σ H Oₚ => ?_)
    have O := OUT_trans O Oₚ
    exact w_ret rfl (k _ _ _ _ _ _ _ H O (SD_trans (SD_refl) (SD_glu (ι := [0, 2]) hD4 eD4 (by decide +kernel)) (any_subA (lₚ := [2]) rfl)) (SD_trans (SD_refl) (SD_glu (ι := [0, 2]) hN4 eN4 (by decide +kernel)) (any_subA (lₚ := [2]) rfl)) (SF_upd (SF_trans (SF_refl) (SF_glu (ι := [0, 2]) hS4 eF4 (by decide +kernel)) (any_sub (lₚ := [(0, 0)]) rfl)) rfl) (SA_trans (SA_trans (SA_refl) (SA_glu (ι := [0, 2]) hA4 eA4 (by decide +kernel)) (any_subA (lₚ := [2]) rfl)) hA7 (any_subA rfl)) (pf4_0_0) (m4_1) ((congrArg (fun q : Nat => (q : Int)) (eN4 2)).trans em4_1) ((u0_1 + a3)) (rfl) (A7 2) (rfl) (show 0 ≤ ((u0_1 + a3)) ∧ ((u0_1 + a3)) ≤ (m4_1) ∧ (m4_1) ≤ 65536 by omega) (show ((u0_1 + a3)) = (u0_1) + a3 ∧ 0 ≤ a3 ∨ ((u0_1 + a3)) = (u0_1) ∧ (a3 < 0 ∨ 65536 < (u0_1) + a3) by omega) (show ∀ i, (0 : Int) ≤ i → i < (u0_1) → ((A7 2)) i = ((w2)) i by assumption))
  · refine Ew_of (pcₚ := 9) (fun _ => x_aload_n rfl rfl) ?_
    refine Ew_of (pcₚ := 10) (fun _ => x_iconst rfl) ?_
    refine Ew_stk (show ([I (1), .ref (D 0)] : List Value) = [I (1), .ref (D4 0)] by rw [show D4 0 = D 0 from ((show D4 0 = D 0 from (eD4 0).trans (hD4 0 rfl)))]) ?_
    refine v_p H (o := 0) (z := 1) (v := I (1)) rfl rfl rfl rfl rfl rfl rfl (rfit_b (by omega)) (show (0 : Int) ≤ 1 ∧ 1 ≤ 1 by omega) (fun σ H Oₚ => ?_)
    have O := OUT_trans O Oₚ
    exact w_ret rfl (k _ _ _ _ _ _ _ H O (SD_trans (SD_refl) (SD_glu (ι := [0, 2]) hD4 eD4 (by decide +kernel)) (any_subA (lₚ := [2]) rfl)) (SD_trans (SD_refl) (SD_glu (ι := [0, 2]) hN4 eN4 (by decide +kernel)) (any_subA (lₚ := [2]) rfl)) (SF_upd (SF_trans (SF_refl) (SF_glu (ι := [0, 2]) hS4 eF4 (by decide +kernel)) (any_sub (lₚ := [(0, 0)]) rfl)) rfl) (SA_trans (SA_refl) (SA_glu (ι := [0, 2]) hA4 eA4 (by decide +kernel)) (any_subA (lₚ := [2]) rfl)) (pf4_0_0) (m4_1) ((congrArg (fun q : Nat => (q : Int)) (eN4 2)).trans em4_1) (u0_1) ((((show F4 0 1 = F 0 1 from (eF4 0 1).trans (hS4 0 1 rfl))).trans (eu0_1))) (w4_1) ((eA4 2).trans ew4_1) (show 0 ≤ (u0_1) ∧ (u0_1) ≤ (m4_1) ∧ (m4_1) ≤ 65536 by omega) (show (u0_1) = (u0_1) + a3 ∧ 0 ≤ a3 ∨ (u0_1) = (u0_1) ∧ (a3 < 0 ∨ 65536 < (u0_1) + a3) by omega) (show ∀ i, (0 : Int) ≤ i → i < (u0_1) → ((w4_1)) i = ((w2)) i by assumption))
abbrev V460 : vV := []
/-- java/util/Arrays.rangeCheck:  -/
theorem C460 {σE : rS} {D N : Nat → Nat} {F : hF} {A : hA} {d c s : Nat} {Q : wQ} (H : HW V460 σE D N F A) {a1 a2 a3 : Int} (h0 : inr (a1)) (h1 : inr (a2)) (h2 : inr (a3)) (h3 : 0 ≤ (a2) ∧ (a2) ≤ (a3) ∧ (a3) ≤ (a1)) (k : ∀ (σ : rS) (Fₚ : hF) (Aₚ : hA), HW V460 σ D N Fₚ Aₚ → OUT (V460).length D N σE c s D N σ c s → SF [] F Fₚ → SA [] A Aₚ → Q none σ c s) : Ew 460 (d + 0) 0 (rargs 0 [I a1, I a2, I a3]) [] σE c s Q := by
  have O := OUT_refl (n := (V460).length) (D := D) (N := N) (σ := σE) (c := c) (s := s)
  have HE := H
  refine Ew_of (pcₚ := 1) (fun _ => x_iload_n rfl rfl) ?_
  refine Ew_of (pcₚ := 2) (fun _ => x_iload_n rfl rfl) ?_
  refine w_icmple (t := 46) rfl rfl (show inr (a2) by omega) (show inr (a3) by omega) (fun b1 => ?_) (fun b1 => ?_)
  · refine Ew_of (pcₚ := 47) (fun _ => x_iload_n rfl rfl) ?_
    refine w_ifge (t := 59) rfl rfl (show inr (a2) by omega) (fun b2 => ?_) (fun b2 => ?_)
    · refine Ew_of (pcₚ := 60) (fun _ => x_iload_n rfl rfl) ?_
      refine Ew_of (pcₚ := 61) (fun _ => x_iload_n rfl rfl) ?_
      refine w_icmple (t := 73) rfl rfl (show inr (a3) by omega) (show inr (a1) by omega) (fun b3 => ?_) (fun b3 => ?_)
      · exact w_ret rfl (k _ _ _ H O (SF_refl) (SA_refl))
      · exfalso
        omega
    · exfalso
      omega
  · exfalso
    omega
abbrev V458_Br : vV := [(1, 0, [])]
/-- java/util/Arrays.fill: #1 -/
theorem C458_Br {σE : rS} {D N : Nat → Nat} {F : hF} {A : hA} {d c s : Nat} {Q : wQ} (H : HW V458_Br σE D N F A) {a2 a3 a4 : Int} (n0 : Int) (en0 : (N 0 : Int) = n0) (h0 : inr (a2)) (h1 : inr (a3)) (h2 : inr (a4)) (h3 : 0 ≤ (a2) ∧ (a2) ≤ (a3) ∧ (a3) ≤ (n0)) (k : ∀ (σ : rS) (Fₚ : hF) (Aₚ : hA), HW V458_Br σ D N Fₚ Aₚ → OUT (V458_Br).length D N σE c s D N σ c s → SF [] F Fₚ → SA [0] A Aₚ → Q none σ c s) : Ew 458 (d + 1) 0 (rargs 0 [.ref (D 0), I a2, I a3, I a4]) [] σE c s Q := by
  have O := OUT_refl (n := (V458_Br).length) (D := D) (N := N) (σ := σE) (c := c) (s := s)
  have HE := H
  have r1 : (0 : Int) ≤ n0 ∧ n0 ≤ 1000000 := by have h1 := H.nle 0 (by decide); have h2 : (N 0 : Int) = n0 := en0; omega
  refine Ew_of (pcₚ := 1) (fun _ => x_aload_n rfl rfl) ?_
  refine v_len H (o := 0) rfl rfl rfl rfl (n := n0) (en0) ?_
  refine Ew_of (pcₚ := 3) (fun _ => x_iload_n rfl rfl) ?_
  refine Ew_of (pcₚ := 4) (fun _ => x_iload_n rfl rfl) ?_
  refine w_stat24 rfl rfl (by rfl) (C460 (D := pul [] D) (N := pul [] N) (HW_sub H (VS_of (show vsub V458_Br V460 [] = true by decide +kernel))) (show inr (n0) by omega) (show inr (a2) by omega) (show inr (a3) by omega) (show 0 ≤ (a2) ∧ (a2) ≤ (a3) ∧ (a3) ≤ (n0) by omega) (fun σ2 F2ₚ A2ₚ Hₚ Oₚ hS2 hA2 => ⟨rfl, ?_⟩))
  refine v_back (c := c) (s := s) H (show vsub V458_Br V460 [] = true by decide +kernel) Hₚ Oₚ (fun F2 A2 H Oₚ eF2 eA2 => ?_)
  have O := OUT_trans O Oₚ
  -- java/util/Arrays.rangeCheck
  refine Ew_of (pcₚ := 8) (fun _ => x_iload_n rfl rfl) ?_
  refine Ew_of (pcₚ := 10) (fun _ => x_istore rfl) ?_
  suffices hl10 : ∀ (m : Nat), ∀ (ls : rO) (σ : rS) (F_10 : hF) (A_10 : hA) (x10_4 : Int), rlook ls 0 = some (.ref (D 0)) → rlook ls 2 = some (I (a3)) → rlook ls 3 = some (I (a4)) → rlook ls 4 = some (I (x10_4)) → HW V458_Br σ D N F_10 A_10 → OUT (V458_Br).length D N σE c s D N σ c s → SF [] F2 F_10 → SA [0] A2 A_10 → (inr (x10_4)) → ((a2) ≤ (x10_4)) → ((x10_4) ≤ (a2) ∨ (x10_4) ≤ ((a3))) → (((a3)) - (x10_4)).toNat = m → Ew 458 (d + 1) 10 ls [] σ c s Q from
    hl10 _ _ _ _ _ (a2) (rk_o (rfl) rfl rfl) (rk_o (rfl) rfl rfl) (rk_o (rfl) rfl rfl) (rk_s) H O (SF_refl) (SA_refl)     (show inr (a2) by omega) (show (a2) ≤ (a2) by omega) (show (a2) ≤ (a2) ∨ (a2) ≤ ((a3)) by omega) rfl
  as_aux_lemma =>
  intro m
  induction m using Nat.strongRecOn with
  | _ m ih10 =>
    intro ls σ F_10 A_10 x10_4 l10_0 l10_2 l10_3 l10_4 H O hS_10 hA_10     j10_0 j10_1 j10_2 hm10
    refine Ew_of (pcₚ := 12) (fun _ => x_iload rfl l10_4) ?_
    refine Ew_of (pcₚ := 13) (fun _ => x_iload_n rfl l10_2) ?_
    refine w_icmpge (t := 27) rfl rfl (show inr (x10_4) by omega) (show inr (a3) by omega) (fun b3 => ?_) (fun b3 => ?_)
    · exact w_ret rfl (k _ _ _ H O (SF_trans (SF_trans (SF_refl) (SF_glu (ι := []) hS2 eF2 (by decide +kernel)) (any_sub (lₚ := []) rfl)) hS_10 (any_sub rfl)) (SA_trans (SA_trans (SA_refl) (SA_glu (ι := []) hA2 eA2 (by decide +kernel)) (any_subA (lₚ := []) rfl)) hA_10 (any_subA rfl)))
    · refine Ew_of (pcₚ := 17) (fun _ => x_aload_n rfl l10_0) ?_
      refine Ew_of (pcₚ := 19) (fun _ => x_iload rfl l10_4) ?_
      refine Ew_of (pcₚ := 20) (fun _ => x_iload_n rfl l10_3) ?_
      refine v_sB H (o := 0) rfl rfl rfl rfl (n := n0) (en0) (show 0 ≤ x10_4 ∧ x10_4 < n0 by omega) (fun z4 σ qz4 H Oₚ => ?_)
      have O := OUT_trans O Oₚ
      refine Ew_of (pcₚ := 24) (fun _ => x_iinc (len := 3) rfl (l10_4)) ?_
      refine Ew_of (pcₚ := 10) (fun _ => x_goto rfl rfl) ?_
      exact ih10 _ (by omega) _ _ _ _ ((x10_4 + 1)) (rk_o (l10_0) rfl rfl) (rk_o (l10_2) rfl rfl) (rk_o (l10_3) rfl rfl) (rk_s) H O (hS_10) (SA_upd (hA_10) rfl)     (show inr ((x10_4 + 1)) by omega) (show (a2) ≤ ((x10_4 + 1)) by omega) (show ((x10_4 + 1)) ≤ (a2) ∨ ((x10_4 + 1)) ≤ ((a3)) by omega) rfl
abbrev V459_Ir : vV := [(1, 1, [])]
/-- java/util/Arrays.fill: #1 -/
theorem C459_Ir {σE : rS} {D N : Nat → Nat} {F : hF} {A : hA} {d c s : Nat} {Q : wQ} (H : HW V459_Ir σE D N F A) {a2 a3 a4 : Int} (n0 : Int) (en0 : (N 0 : Int) = n0) (h0 : inr (a2)) (h1 : inr (a3)) (h2 : inr (a4)) (h3 : 0 ≤ (a2) ∧ (a2) ≤ (a3) ∧ (a3) ≤ (n0)) (k : ∀ (σ : rS) (Fₚ : hF) (Aₚ : hA), HW V459_Ir σ D N Fₚ Aₚ → OUT (V459_Ir).length D N σE c s D N σ c s → SF [] F Fₚ → SA [0] A Aₚ → Q none σ c s) : Ew 459 (d + 1) 0 (rargs 0 [.ref (D 0), I a2, I a3, I a4]) [] σE c s Q := by
  have O := OUT_refl (n := (V459_Ir).length) (D := D) (N := N) (σ := σE) (c := c) (s := s)
  have HE := H
  have r1 : (0 : Int) ≤ n0 ∧ n0 ≤ 1000000 := by have h1 := H.nle 0 (by decide); have h2 : (N 0 : Int) = n0 := en0; omega
  refine Ew_of (pcₚ := 1) (fun _ => x_aload_n rfl rfl) ?_
  refine v_len H (o := 0) rfl rfl rfl rfl (n := n0) (en0) ?_
  refine Ew_of (pcₚ := 3) (fun _ => x_iload_n rfl rfl) ?_
  refine Ew_of (pcₚ := 4) (fun _ => x_iload_n rfl rfl) ?_
  refine w_stat24 rfl rfl (by rfl) (C460 (D := pul [] D) (N := pul [] N) (HW_sub H (VS_of (show vsub V459_Ir V460 [] = true by decide +kernel))) (show inr (n0) by omega) (show inr (a2) by omega) (show inr (a3) by omega) (show 0 ≤ (a2) ∧ (a2) ≤ (a3) ∧ (a3) ≤ (n0) by omega) (fun σ2 F2ₚ A2ₚ Hₚ Oₚ hS2 hA2 => ⟨rfl, ?_⟩))
  refine v_back (c := c) (s := s) H (show vsub V459_Ir V460 [] = true by decide +kernel) Hₚ Oₚ (fun F2 A2 H Oₚ eF2 eA2 => ?_)
  have O := OUT_trans O Oₚ
  -- java/util/Arrays.rangeCheck
  refine Ew_of (pcₚ := 8) (fun _ => x_iload_n rfl rfl) ?_
  refine Ew_of (pcₚ := 10) (fun _ => x_istore rfl) ?_
  suffices hl10 : ∀ (m : Nat), ∀ (ls : rO) (σ : rS) (F_10 : hF) (A_10 : hA) (x10_4 : Int), rlook ls 0 = some (.ref (D 0)) → rlook ls 2 = some (I (a3)) → rlook ls 3 = some (I (a4)) → rlook ls 4 = some (I (x10_4)) → HW V459_Ir σ D N F_10 A_10 → OUT (V459_Ir).length D N σE c s D N σ c s → SF [] F2 F_10 → SA [0] A2 A_10 → (inr (x10_4)) → ((a2) ≤ (x10_4)) → ((x10_4) ≤ (a2) ∨ (x10_4) ≤ ((a3))) → (((a3)) - (x10_4)).toNat = m → Ew 459 (d + 1) 10 ls [] σ c s Q from
    hl10 _ _ _ _ _ (a2) (rk_o (rfl) rfl rfl) (rk_o (rfl) rfl rfl) (rk_o (rfl) rfl rfl) (rk_s) H O (SF_refl) (SA_refl)     (show inr (a2) by omega) (show (a2) ≤ (a2) by omega) (show (a2) ≤ (a2) ∨ (a2) ≤ ((a3)) by omega) rfl
  as_aux_lemma =>
  intro m
  induction m using Nat.strongRecOn with
  | _ m ih10 =>
    intro ls σ F_10 A_10 x10_4 l10_0 l10_2 l10_3 l10_4 H O hS_10 hA_10     j10_0 j10_1 j10_2 hm10
    refine Ew_of (pcₚ := 12) (fun _ => x_iload rfl l10_4) ?_
    refine Ew_of (pcₚ := 13) (fun _ => x_iload_n rfl l10_2) ?_
    refine w_icmpge (t := 27) rfl rfl (show inr (x10_4) by omega) (show inr (a3) by omega) (fun b3 => ?_) (fun b3 => ?_)
    · exact w_ret rfl (k _ _ _ H O (SF_trans (SF_trans (SF_refl) (SF_glu (ι := []) hS2 eF2 (by decide +kernel)) (any_sub (lₚ := []) rfl)) hS_10 (any_sub rfl)) (SA_trans (SA_trans (SA_refl) (SA_glu (ι := []) hA2 eA2 (by decide +kernel)) (any_subA (lₚ := []) rfl)) hA_10 (any_subA rfl)))
    · refine Ew_of (pcₚ := 17) (fun _ => x_aload_n rfl l10_0) ?_
      refine Ew_of (pcₚ := 19) (fun _ => x_iload rfl l10_4) ?_
      refine Ew_of (pcₚ := 20) (fun _ => x_iload_n rfl l10_3) ?_
      refine v_sI H (o := 0) (z := a4) rfl rfl rfl rfl (n := n0) (en0) (show 0 ≤ x10_4 ∧ x10_4 < n0 by omega) (show inr (a4) by omega) (fun σ H Oₚ => ?_)
      have O := OUT_trans O Oₚ
      refine Ew_of (pcₚ := 24) (fun _ => x_iinc (len := 3) rfl (l10_4)) ?_
      refine Ew_of (pcₚ := 10) (fun _ => x_goto rfl rfl) ?_
      exact ih10 _ (by omega) _ _ _ _ ((x10_4 + 1)) (rk_o (l10_0) rfl rfl) (rk_o (l10_2) rfl rfl) (rk_o (l10_3) rfl rfl) (rk_s) H O (hS_10) (SA_upd (hA_10) rfl)     (show inr ((x10_4 + 1)) by omega) (show (a2) ≤ ((x10_4 + 1)) by omega) (show ((x10_4 + 1)) ≤ (a2) ∨ ((x10_4 + 1)) ≤ ((a3)) by omega) rfl
abbrev V162 : vV := [(0, 7, [(4, 0), (0, 0), (1, 0), (0, 0), (0, 0)]), (1, 0, [])]
/-- Row.addSame: this, this.bytes -/
theorem C162 {σE : rS} {D N : Nat → Nat} {F : hF} {A : hA} {d c s : Nat} {Q : wQ} (H : HW V162 σE D N F A) {a1 a2 : Int} (pf1 : F 0 0 = (D 1 : Int)) (n1 : Int) (en1 : (N 1 : Int) = n1) (u0_1 : Int) (eu0_1 : F 0 1 = u0_1) (h0 : inr (a1)) (h1 : inr (a2)) (h2 : 0 ≤ (u0_1) ∧ (u0_1) ≤ (n1) ∧ (n1) ≤ 65536) (k : ∀ (σ : rS) (Dₚ Nₚ : Nat → Nat) (Fₚ : hF) (Aₚ : hA) (cₚ sₚ : Nat), HW V162 σ Dₚ Nₚ Fₚ Aₚ → OUT (V162).length D N σE c s Dₚ Nₚ σ cₚ sₚ → SD [1] D Dₚ → SD [1] N Nₚ → SF [(0, 0), (0, 1), (0, 2)] F Fₚ → SA [1] A Aₚ → Fₚ 0 0 = (Dₚ 1 : Int) → ∀ m1 : Int, (Nₚ 1 : Int) = m1 → ∀ y0_1 : Int, Fₚ 0 1 = y0_1 → (0 ≤ (y0_1) ∧ (y0_1) ≤ (m1) ∧ (m1) ≤ 65536) → ((y0_1) = (u0_1) + (a2) ∧ 0 ≤ (a2) ∨ (y0_1) = (u0_1) ∧ ((a2) < 0 ∨ 65536 < (u0_1) + (a2))) → Q none σ cₚ sₚ) : Ew 162 (d + 2) 0 (rargs 0 [.ref (D 0), I a1, I a2]) [] σE c s Q := by
  have O := OUT_refl (n := (V162).length) (D := D) (N := N) (σ := σE) (c := c) (s := s)
  have HE := H
  have r1 : (-2147483648 : Int) ≤ u0_1 ∧ u0_1 ≤ 2147483647 := by have h1 : (-2147483648 : Int) ≤ F 0 1 ∧ F 0 1 ≤ 2147483647 := H.krg 0 1 (by decide); rw [show F 0 1 = u0_1 from (eu0_1)] at h1; exact h1
  have r2 : (0 : Int) ≤ n1 ∧ n1 ≤ 1000000 := by have h1 := H.nle 1 (by decide); have h2 : (N 1 : Int) = n1 := en1; omega
  refine Ew_of (pcₚ := 1) (fun _ => x_aload_n rfl rfl) ?_
  refine Ew_of (pcₚ := 2) (fun _ => x_iload_n rfl rfl) ?_
  refine v_inv H (o := 0) rfl rfl rfl rfl rfl rfl (by rfl) (C157 (D := pul [0, 1] D) (N := pul [0, 1] N) (HW_sub H (VS_of (show vsub V162 V157 [0, 1] = true by decide +kernel))) (pf1) (n1) (en1) (u0_1) ((eu0_1)) (A 1) (rfl) (show inr (a2) by omega) (show 0 ≤ (u0_1) ∧ (u0_1) ≤ (n1) ∧ (n1) ≤ 65536 by omega) (fun z3 σ3 D3ₚ N3ₚ F3ₚ A3ₚ c3 s3 Hₚ Oₚ hD3 hN3 hS3 hA3 pm3_1 m3_1 em3_1 w3_1 ew3_1 pz3_0 pz3_1 pz3_2 pz3_3 pz3_4 => ⟨rretB rfl pz3_0, ?_⟩))
  refine v_backM (c := c) (s := s) H (show vsub V162 V157 [0, 1] = true by decide +kernel) Hₚ Oₚ hD3 (show vmov V162 [0, 1] [1] = true by decide +kernel) (fun D3 N3 F3 A3 H Oₚ eD3 eN3 eF3 eA3 => ?_)
  have O := OUT_trans O Oₚ
  -- Row.reserve
  have pf3_0_0 : F3 0 0 = (D3 1 : Int) := (eF3 0 0).trans (pm3_1.trans (congrArg (fun q : Nat => (q : Int)) (eD3 1).symm))
  have r4 : (0 : Int) ≤ m3_1 ∧ m3_1 ≤ 1000000 := by have h1 := H.nle 1 (by decide); have h2 : (N3 1 : Int) = m3_1 := (congrArg (fun q : Nat => (q : Int)) (eN3 1)).trans em3_1; omega
  refine w_ifne (t := 14) rfl rfl (show inr (z3) by omega) (fun b5 => ?_) (fun b5 => ?_)
  · refine Ew_of (pcₚ := 15) (fun _ => x_aload_n rfl rfl) ?_
    refine Ew_stk (show ([.ref (D 0)] : List Value) = [.ref (D3 0)] by rw [show D3 0 = D 0 from ((show D3 0 = D 0 from (eD3 0).trans (hD3 0 rfl)))]) ?_
    refine v_g H (o := 0) (v := .ref (D3 1)) rfl rfl rfl rfl rfl (vrf (pf3_0_0)) ?_
    refine Ew_of (pcₚ := 19) (fun _ => x_aload_n rfl rfl) ?_
    refine Ew_stk (show ([.ref (D 0), .ref (D3 1)] : List Value) = [.ref (D3 0), .ref (D3 1)] by rw [show D3 0 = D 0 from ((show D3 0 = D 0 from (eD3 0).trans (hD3 0 rfl)))]) ?_
    refine v_g H (o := 0) (v := I (u0_1)) rfl rfl rfl rfl rfl (congrArg (fun z : Int => I z) ((((show F3 0 1 = F 0 1 from (eF3 0 1).trans (hS3 0 1 rfl))).trans (eu0_1)) : F3 0 1 = u0_1)) ?_
    refine Ew_of (pcₚ := 23) (fun _ => x_aload_n rfl rfl) ?_
    refine Ew_stk (show ([.ref (D 0), I (u0_1), .ref (D3 1)] : List Value) = [.ref (D3 0), I (u0_1), .ref (D3 1)] by rw [show D3 0 = D 0 from ((show D3 0 = D 0 from (eD3 0).trans (hD3 0 rfl)))]) ?_
    refine v_g H (o := 0) (v := I (u0_1)) rfl rfl rfl rfl rfl (congrArg (fun z : Int => I z) ((((show F3 0 1 = F 0 1 from (eF3 0 1).trans (hS3 0 1 rfl))).trans (eu0_1)) : F3 0 1 = u0_1)) ?_
    refine Ew_of (pcₚ := 27) (fun _ => x_iload_n rfl rfl) ?_
    refine w_iadd rfl ?_
    refine Ew_of (pcₚ := 29) (fun _ => x_iload_n rfl rfl) ?_
    refine v_i2b rfl (fun z6 gz6 => ?_)
    refine w_stat24 rfl rfl (by rfl) (C458_Br (D := pul [1] D3) (N := pul [1] N3) (HW_sub H (VS_of (show vsub V162 V458_Br [1] = true by decide +kernel))) (m3_1) ((congrArg (fun q : Nat => (q : Int)) (eN3 1)).trans em3_1) (show inr (u0_1) by omega) (show inr ((u0_1 + a2)) by omega) (show inr (z6) by omega) (show 0 ≤ (u0_1) ∧ (u0_1) ≤ ((u0_1 + a2)) ∧ ((u0_1 + a2)) ≤ (m3_1) by omega) (fun σ7 F7ₚ A7ₚ Hₚ Oₚ hS7 hA7 => ⟨rfl, ?_⟩))
    refine v_back (c := (c + c3)) (s := (s + s3)) H (show vsub V162 V458_Br [1] = true by decide +kernel) Hₚ Oₚ (fun F7 A7 H Oₚ eF7 eA7 => ?_)
    have O := OUT_trans O Oₚ
    -- java/util/Arrays.fill
    refine Ew_of (pcₚ := 34) (fun _ => x_aload_n rfl rfl) ?_
    refine Ew_of (pcₚ := 35) (fun _ => x_dup rfl rfl) ?_
    refine Ew_stk (show ([.ref (D 0), .ref (D 0)] : List Value) = [.ref (D3 0), .ref (D3 0)] by rw [show D3 0 = D 0 from ((show D3 0 = D 0 from (eD3 0).trans (hD3 0 rfl)))]) ?_
    refine v_g H (o := 0) (v := I (u0_1)) rfl rfl rfl rfl rfl (congrArg (fun z : Int => I z) (((((show F7 0 1 = F3 0 1 from (eF7 0 1))).trans ((show F3 0 1 = F 0 1 from (eF3 0 1).trans (hS3 0 1 rfl)))).trans (eu0_1)) : F7 0 1 = u0_1)) ?_
    refine Ew_of (pcₚ := 39) (fun _ => x_iload_n rfl rfl) ?_
    refine w_iadd rfl ?_
    refine v_p H (o := 0) (z := (u0_1 + a2)) (v := I ((u0_1 + a2))) rfl rfl rfl rfl rfl rfl rfl rfl (show (-2147483648 : Int) ≤ (u0_1 + a2) ∧ (u0_1 + a2) ≤ 2147483647 by omega) (fun σ H Oₚ => ?_)
    have O := OUT_trans O Oₚ
    exact w_ret rfl (k _ _ _ _ _ _ _ H O (SD_trans (SD_refl) (SD_glu (ι := [0, 1]) hD3 eD3 (by decide +kernel)) (any_subA (lₚ := [1]) rfl)) (SD_trans (SD_refl) (SD_glu (ι := [0, 1]) hN3 eN3 (by decide +kernel)) (any_subA (lₚ := [1]) rfl)) (SF_upd (SF_trans (SF_trans (SF_refl) (SF_glu (ι := [0, 1]) hS3 eF3 (by decide +kernel)) (any_sub (lₚ := [(0, 0)]) rfl)) (SF_glu (ι := [1]) hS7 eF7 (by decide +kernel)) (any_sub (lₚ := []) rfl)) rfl) (SA_trans (SA_trans (SA_refl) (SA_glu (ι := [0, 1]) hA3 eA3 (by decide +kernel)) (any_subA (lₚ := [1]) rfl)) (SA_glu (ι := [1]) hA7 eA7 (by decide +kernel)) (any_subA (lₚ := [1]) rfl)) ((((show F7 0 0 = F3 0 0 from (eF7 0 0)))).trans (pf3_0_0)) (m3_1) ((congrArg (fun q : Nat => (q : Int)) (eN3 1)).trans em3_1) ((u0_1 + a2)) (rfl) (show 0 ≤ ((u0_1 + a2)) ∧ ((u0_1 + a2)) ≤ (m3_1) ∧ (m3_1) ≤ 65536 by omega) (show ((u0_1 + a2)) = (u0_1) + a2 ∧ 0 ≤ a2 ∨ ((u0_1 + a2)) = (u0_1) ∧ (a2 < 0 ∨ 65536 < (u0_1) + a2) by omega))
  · refine Ew_of (pcₚ := 9) (fun _ => x_aload_n rfl rfl) ?_
    refine Ew_of (pcₚ := 10) (fun _ => x_iconst rfl) ?_
    refine Ew_stk (show ([I (1), .ref (D 0)] : List Value) = [I (1), .ref (D3 0)] by rw [show D3 0 = D 0 from ((show D3 0 = D 0 from (eD3 0).trans (hD3 0 rfl)))]) ?_
    refine v_p H (o := 0) (z := 1) (v := I (1)) rfl rfl rfl rfl rfl rfl rfl (rfit_b (by omega)) (show (0 : Int) ≤ 1 ∧ 1 ≤ 1 by omega) (fun σ H Oₚ => ?_)
    have O := OUT_trans O Oₚ
    exact w_ret rfl (k _ _ _ _ _ _ _ H O (SD_trans (SD_refl) (SD_glu (ι := [0, 1]) hD3 eD3 (by decide +kernel)) (any_subA (lₚ := [1]) rfl)) (SD_trans (SD_refl) (SD_glu (ι := [0, 1]) hN3 eN3 (by decide +kernel)) (any_subA (lₚ := [1]) rfl)) (SF_upd (SF_trans (SF_refl) (SF_glu (ι := [0, 1]) hS3 eF3 (by decide +kernel)) (any_sub (lₚ := [(0, 0)]) rfl)) rfl) (SA_trans (SA_refl) (SA_glu (ι := [0, 1]) hA3 eA3 (by decide +kernel)) (any_subA (lₚ := [1]) rfl)) (pf3_0_0) (m3_1) ((congrArg (fun q : Nat => (q : Int)) (eN3 1)).trans em3_1) (u0_1) ((((show F3 0 1 = F 0 1 from (eF3 0 1).trans (hS3 0 1 rfl))).trans (eu0_1))) (show 0 ≤ (u0_1) ∧ (u0_1) ≤ (m3_1) ∧ (m3_1) ≤ 65536 by omega) (show (u0_1) = (u0_1) + a2 ∧ 0 ≤ a2 ∨ (u0_1) = (u0_1) ∧ (a2 < 0 ∨ 65536 < (u0_1) + a2) by omega))
abbrev V164 : vV := [(0, 7, [(4, 0), (0, 0), (1, 0), (0, 0), (0, 0)]), (1, 0, [])]
/-- Row.addBits: this, this.bytes -/
theorem C164 {σE : rS} {D N : Nat → Nat} {F : hF} {A : hA} {d c s : Nat} {Q : wQ} (H : HW V164 σE D N F A) {a1 a2 : Int} (pf1 : F 0 0 = (D 1 : Int)) (n1 : Int) (en1 : (N 1 : Int) = n1) (u0_1 : Int) (eu0_1 : F 0 1 = u0_1) (u0_4 : Int) (eu0_4 : F 0 4 = u0_4) (h0 : inr (a1)) (h1 : inr (a2)) (h2 : 0 ≤ (u0_1) ∧ (u0_1) ≤ (n1) ∧ (n1) ≤ 65536) (h3 : 0 ≤ (a2) ∧ (a2) ≤ 31) (h4 : 0 ≤ (u0_4) ∧ (u0_4) ≤ 7) (k : ∀ (σ : rS) (Fₚ : hF) (Aₚ : hA), HW V164 σ D N Fₚ Aₚ → OUT (V164).length D N σE c s D N σ c s → SF [(0, 1), (0, 2), (0, 3), (0, 4)] F Fₚ → SA [1] A Aₚ → ∀ y0_1 : Int, Fₚ 0 1 = y0_1 → ∀ y0_4 : Int, Fₚ 0 4 = y0_4 → (0 ≤ (y0_1) ∧ (y0_1) ≤ (n1) ∧ (n1) ≤ 65536) → ((u0_1) ≤ (y0_1)) → (0 ≤ (y0_4) ∧ (y0_4) ≤ 7) → Q none σ c s) : Ew 164 (d + 0) 0 (rargs 0 [.ref (D 0), I a1, I a2]) [] σE c s Q := by
  have O := OUT_refl (n := (V164).length) (D := D) (N := N) (σ := σE) (c := c) (s := s)
  have HE := H
  have r1 : (-2147483648 : Int) ≤ u0_1 ∧ u0_1 ≤ 2147483647 := by have h1 : (-2147483648 : Int) ≤ F 0 1 ∧ F 0 1 ≤ 2147483647 := H.krg 0 1 (by decide); rw [show F 0 1 = u0_1 from (eu0_1)] at h1; exact h1
  have r2 : (-2147483648 : Int) ≤ u0_4 ∧ u0_4 ≤ 2147483647 := by have h1 : (-2147483648 : Int) ≤ F 0 4 ∧ F 0 4 ≤ 2147483647 := H.krg 0 4 (by decide); rw [show F 0 4 = u0_4 from (eu0_4)] at h1; exact h1
  have r3 : (0 : Int) ≤ n1 ∧ n1 ≤ 1000000 := by have h1 := H.nle 1 (by decide); have h2 : (N 1 : Int) = n1 := en1; omega
  refine Ew_of (pcₚ := 1) (fun _ => x_aload_n rfl rfl) ?_
  refine Ew_of (pcₚ := 2) (fun _ => x_dup rfl rfl) ?_
  have r4 : (-2147483648 : Int) ≤ F 0 3 ∧ F 0 3 ≤ 2147483647 := by have h1 : (-2147483648 : Int) ≤ F 0 3 ∧ F 0 3 ≤ 2147483647 := H.krg 0 3 (by decide); rw [show F 0 3 = F 0 3 from rfl] at h1; exact h1
  refine v_g H (o := 0) (v := I (F 0 3)) rfl rfl rfl rfl rfl (congrArg (fun z : Int => I z) (rfl : F 0 3 = F 0 3)) ?_
  refine Ew_of (pcₚ := 6) (fun _ => x_iload_n rfl rfl) ?_
  refine Ew_of (pcₚ := 7) (fun _ => x_iconst rfl) ?_
  refine Ew_of (pcₚ := 8) (fun _ => x_iload_n rfl rfl) ?_
  refine w_ishlA rfl (fun z5 gz5 => ?_)
  refine Ew_of (pcₚ := 10) (fun _ => x_iconst rfl) ?_
  refine w_isubA rfl (fun z6 gz6 => ?_)
  refine w_iand rfl (show inr (a1) by omega) (show inr (z6) by omega) (fun z7 gz7 gaz7 gbz7 => ?_)
  refine Ew_of (pcₚ := 13) (fun _ => x_aload_n rfl rfl) ?_
  refine v_g H (o := 0) (v := I (u0_4)) rfl rfl rfl rfl rfl (congrArg (fun z : Int => I z) ((eu0_4) : F 0 4 = u0_4)) ?_
  refine w_ishlA rfl (fun z8 gz8 => ?_)
  refine w_ior rfl (fun z9 gz9 => ?_)
  refine v_p H (o := 0) (z := z9) (v := I (z9)) rfl rfl rfl rfl rfl rfl rfl rfl (show (-2147483648 : Int) ≤ z9 ∧ z9 ≤ 2147483647 by omega) (fun σ H Oₚ => ?_)
  have O := OUT_trans O Oₚ
  refine Ew_of (pcₚ := 22) (fun _ => x_aload_n rfl rfl) ?_
  refine Ew_of (pcₚ := 23) (fun _ => x_dup rfl rfl) ?_
  refine v_g H (o := 0) (v := I (u0_4)) rfl rfl rfl rfl rfl (congrArg (fun z : Int => I z) ((eu0_4) : (updF F 0 3 (z9)) 0 4 = u0_4)) ?_
  refine Ew_of (pcₚ := 27) (fun _ => x_iload_n rfl rfl) ?_
  refine w_iadd rfl ?_
  refine v_p H (o := 0) (z := (u0_4 + a2)) (v := I ((u0_4 + a2))) rfl rfl rfl rfl rfl rfl rfl rfl (show (-2147483648 : Int) ≤ (u0_4 + a2) ∧ (u0_4 + a2) ≤ 2147483647 by omega) (fun σ H Oₚ => ?_)
  have O := OUT_trans O Oₚ
  suffices hl31 : ∀ (m : Nat), ∀ (ls : rO) (σ : rS) (F_31 : hF) (A_31 : hA) , rlook ls 0 = some (.ref (D 0)) → HW V164 σ D N F_31 A_31 → OUT (V164).length D N σE c s D N σ c s → SF [(0, 1), (0, 2), (0, 3), (0, 4)] (updF (updF F 0 3 (z9)) 0 4 ((u0_4 + a2))) F_31 → SA [1] A A_31 → ∀ y31_0_1 : Int, F_31 0 1 = y31_0_1 → ∀ y31_0_4 : Int, F_31 0 4 = y31_0_4 → (0 ≤ (y31_0_1) ∧ (y31_0_1) ≤ (n1) ∧ (n1) ≤ 65536) → ((u0_1) ≤ (y31_0_1)) → (0 ≤ (y31_0_4) ∧ (y31_0_4) ≤ 40) → ((y31_0_4)).toNat = m → Ew 164 (d + 0) 31 ls [] σ c s Q from
    hl31 _ _ _ _ _  (rfl) H O (SF_refl) (SA_refl)   (u0_1) ((eu0_1)) ((u0_4 + a2)) (rfl)  (show 0 ≤ (u0_1) ∧ (u0_1) ≤ (n1) ∧ (n1) ≤ 65536 by omega) (show (u0_1) ≤ (u0_1) by omega) (show 0 ≤ ((u0_4 + a2)) ∧ ((u0_4 + a2)) ≤ 40 by omega) rfl
  as_aux_lemma =>
  intro m
  induction m using Nat.strongRecOn with
  | _ m ih31 =>
    intro ls σ F_31 A_31  l31_0 H O hS_31 hA_31   y31_0_1 ey31_0_1 y31_0_4 ey31_0_4  j31_0 j31_1 j31_2 hm31
    have r10 : (-2147483648 : Int) ≤ y31_0_1 ∧ y31_0_1 ≤ 2147483647 := by have h1 : (-2147483648 : Int) ≤ F_31 0 1 ∧ F_31 0 1 ≤ 2147483647 := H.krg 0 1 (by decide); rw [show F_31 0 1 = y31_0_1 from (ey31_0_1)] at h1; exact h1
    have r11 : (-2147483648 : Int) ≤ y31_0_4 ∧ y31_0_4 ≤ 2147483647 := by have h1 : (-2147483648 : Int) ≤ F_31 0 4 ∧ F_31 0 4 ≤ 2147483647 := H.krg 0 4 (by decide); rw [show F_31 0 4 = y31_0_4 from (ey31_0_4)] at h1; exact h1
    refine Ew_of (pcₚ := 32) (fun _ => x_aload_n rfl l31_0) ?_
    refine v_g H (o := 0) (v := I (y31_0_4)) rfl rfl rfl rfl rfl (congrArg (fun z : Int => I z) ((ey31_0_4) : F_31 0 4 = y31_0_4)) ?_
    refine Ew_of (pcₚ := 37) (fun _ => x_bipush (z := 8) rfl (by decide)) ?_
    refine w_icmplt (t := 106) rfl rfl (show inr (y31_0_4) by omega) (show inr (8) by omega) (fun b12 => ?_) (fun b12 => ?_)
    · exact w_ret rfl (k _ _ _ H O (SF_trans (SF_upd (SF_upd (SF_refl) rfl) rfl) hS_31 (any_sub rfl)) (SA_trans (SA_refl) hA_31 (any_subA rfl)) (y31_0_1) ((ey31_0_1)) (y31_0_4) ((ey31_0_4)) (show 0 ≤ (y31_0_1) ∧ (y31_0_1) ≤ (n1) ∧ (n1) ≤ 65536 by omega) (show (u0_1) ≤ (y31_0_1) by omega) (show 0 ≤ (y31_0_4) ∧ (y31_0_4) ≤ 7 by omega))
    · refine Ew_of (pcₚ := 41) (fun _ => x_aload_n rfl l31_0) ?_
      refine v_g H (o := 0) (v := I (y31_0_1)) rfl rfl rfl rfl rfl (congrArg (fun z : Int => I z) ((ey31_0_1) : F_31 0 1 = y31_0_1)) ?_
      refine Ew_of (pcₚ := 45) (fun _ => x_aload_n rfl l31_0) ?_
      refine v_g H (o := 0) (v := .ref (D 1)) rfl rfl rfl rfl rfl (vrf (((hS_31 0 0 rfl)).trans (pf1))) ?_
      refine v_len H (o := 1) rfl rfl rfl rfl (n := n1) (en1) ?_
      refine w_icmpge (t := 76) rfl rfl (show inr (y31_0_1) by omega) (show inr (n1) by omega) (fun b13 => ?_) (fun b13 => ?_)
      · refine Ew_of (pcₚ := 77) (fun _ => x_aload_n rfl l31_0) ?_
        refine Ew_of (pcₚ := 78) (fun _ => x_iconst rfl) ?_
        refine v_p H (o := 0) (z := 1) (v := I (1)) rfl rfl rfl rfl rfl rfl rfl (rfit_b (by omega)) (show (0 : Int) ≤ 1 ∧ 1 ≤ 1 by omega) (fun σ H Oₚ => ?_)
        have O := OUT_trans O Oₚ
        refine Ew_of (pcₚ := 82) (fun _ => x_aload_n rfl l31_0) ?_
        refine Ew_of (pcₚ := 83) (fun _ => x_dup rfl rfl) ?_
        have r14 : (-2147483648 : Int) ≤ F_31 0 3 ∧ F_31 0 3 ≤ 2147483647 := by have h1 : (-2147483648 : Int) ≤ (updF F_31 0 2 (1)) 0 3 ∧ (updF F_31 0 2 (1)) 0 3 ≤ 2147483647 := H.krg 0 3 (by decide); rw [show (updF F_31 0 2 (1)) 0 3 = F_31 0 3 from rfl] at h1; exact h1
        refine v_g H (o := 0) (v := I (F_31 0 3)) rfl rfl rfl rfl rfl (congrArg (fun z : Int => I z) (rfl : (updF F_31 0 2 (1)) 0 3 = F_31 0 3)) ?_
        refine Ew_of (pcₚ := 88) (fun _ => x_bipush (z := 8) rfl (by decide)) ?_
        refine w_iushrA rfl (fun z15 gz15 => ?_)
        refine v_p H (o := 0) (z := z15) (v := I (z15)) rfl rfl rfl rfl rfl rfl rfl rfl (show (-2147483648 : Int) ≤ z15 ∧ z15 ≤ 2147483647 by omega) (fun σ H Oₚ => ?_)
        have O := OUT_trans O Oₚ
        refine Ew_of (pcₚ := 93) (fun _ => x_aload_n rfl l31_0) ?_
        refine Ew_of (pcₚ := 94) (fun _ => x_dup rfl rfl) ?_
        refine v_g H (o := 0) (v := I (y31_0_4)) rfl rfl rfl rfl rfl (congrArg (fun z : Int => I z) ((ey31_0_4) : (updF (updF F_31 0 2 (1)) 0 3 (z15)) 0 4 = y31_0_4)) ?_
        refine Ew_of (pcₚ := 99) (fun _ => x_bipush (z := 8) rfl (by decide)) ?_
        refine w_isub rfl ?_
        refine v_p H (o := 0) (z := (y31_0_4 - 8)) (v := I ((y31_0_4 - 8))) rfl rfl rfl rfl rfl rfl rfl rfl (show (-2147483648 : Int) ≤ (y31_0_4 - 8) ∧ (y31_0_4 - 8) ≤ 2147483647 by omega) (fun σ H Oₚ => ?_)
        have O := OUT_trans O Oₚ
        refine Ew_of (pcₚ := 31) (fun _ => x_goto rfl rfl) ?_
        exact ih31 _ (by omega) _ _ _ _  (l31_0) H O (SF_upd (SF_upd (SF_upd (hS_31) rfl) rfl) rfl) (hA_31)   (y31_0_1) ((ey31_0_1)) ((y31_0_4 - 8)) (rfl)  (show 0 ≤ (y31_0_1) ∧ (y31_0_1) ≤ (n1) ∧ (n1) ≤ 65536 by omega) (show (u0_1) ≤ (y31_0_1) by omega) (show 0 ≤ ((y31_0_4 - 8)) ∧ ((y31_0_4 - 8)) ≤ 40 by omega) rfl
      · refine Ew_of (pcₚ := 53) (fun _ => x_aload_n rfl l31_0) ?_
        refine v_g H (o := 0) (v := .ref (D 1)) rfl rfl rfl rfl rfl (vrf (((hS_31 0 0 rfl)).trans (pf1))) ?_
        refine Ew_of (pcₚ := 57) (fun _ => x_aload_n rfl l31_0) ?_
        refine Ew_of (pcₚ := 58) (fun _ => x_dup rfl rfl) ?_
        refine v_g H (o := 0) (v := I (y31_0_1)) rfl rfl rfl rfl rfl (congrArg (fun z : Int => I z) ((ey31_0_1) : F_31 0 1 = y31_0_1)) ?_
        refine Ew_of (pcₚ := 62) (fun _ => x_dup_x1 rfl rfl) ?_
        refine Ew_of (pcₚ := 63) (fun _ => x_iconst rfl) ?_
        refine w_iadd rfl ?_
        refine v_p H (o := 0) (z := (y31_0_1 + 1)) (v := I ((y31_0_1 + 1))) rfl rfl rfl rfl rfl rfl rfl rfl (show (-2147483648 : Int) ≤ (y31_0_1 + 1) ∧ (y31_0_1 + 1) ≤ 2147483647 by omega) (fun σ H Oₚ => ?_)
        have O := OUT_trans O Oₚ
        refine Ew_of (pcₚ := 68) (fun _ => x_aload_n rfl l31_0) ?_
        have r16 : (-2147483648 : Int) ≤ F_31 0 3 ∧ F_31 0 3 ≤ 2147483647 := by have h1 : (-2147483648 : Int) ≤ (updF F_31 0 1 ((y31_0_1 + 1))) 0 3 ∧ (updF F_31 0 1 ((y31_0_1 + 1))) 0 3 ≤ 2147483647 := H.krg 0 3 (by decide); rw [show (updF F_31 0 1 ((y31_0_1 + 1))) 0 3 = F_31 0 3 from rfl] at h1; exact h1
        refine v_g H (o := 0) (v := I (F_31 0 3)) rfl rfl rfl rfl rfl (congrArg (fun z : Int => I z) (rfl : (updF F_31 0 1 ((y31_0_1 + 1))) 0 3 = F_31 0 3)) ?_
        refine v_i2b rfl (fun z17 gz17 => ?_)
        refine v_sB H (o := 1) rfl rfl rfl rfl (n := n1) (en1) (show 0 ≤ y31_0_1 ∧ y31_0_1 < n1 by omega) (fun z18 σ qz18 H Oₚ => ?_)
        have O := OUT_trans O Oₚ
        refine Ew_of (pcₚ := 81) (fun _ => x_goto rfl rfl) ?_
        refine Ew_of (pcₚ := 82) (fun _ => x_aload_n rfl l31_0) ?_
        refine Ew_of (pcₚ := 83) (fun _ => x_dup rfl rfl) ?_
        refine v_g H (o := 0) (v := I (F_31 0 3)) rfl rfl rfl rfl rfl (congrArg (fun z : Int => I z) (rfl : (updF F_31 0 1 ((y31_0_1 + 1))) 0 3 = F_31 0 3)) ?_
        refine Ew_of (pcₚ := 88) (fun _ => x_bipush (z := 8) rfl (by decide)) ?_
        refine w_iushrA rfl (fun z19 gz19 => ?_)
        refine v_p H (o := 0) (z := z19) (v := I (z19)) rfl rfl rfl rfl rfl rfl rfl rfl (show (-2147483648 : Int) ≤ z19 ∧ z19 ≤ 2147483647 by omega) (fun σ H Oₚ => ?_)
        have O := OUT_trans O Oₚ
        refine Ew_of (pcₚ := 93) (fun _ => x_aload_n rfl l31_0) ?_
        refine Ew_of (pcₚ := 94) (fun _ => x_dup rfl rfl) ?_
        refine v_g H (o := 0) (v := I (y31_0_4)) rfl rfl rfl rfl rfl (congrArg (fun z : Int => I z) ((ey31_0_4) : (updF (updF F_31 0 1 ((y31_0_1 + 1))) 0 3 (z19)) 0 4 = y31_0_4)) ?_
        refine Ew_of (pcₚ := 99) (fun _ => x_bipush (z := 8) rfl (by decide)) ?_
        refine w_isub rfl ?_
        refine v_p H (o := 0) (z := (y31_0_4 - 8)) (v := I ((y31_0_4 - 8))) rfl rfl rfl rfl rfl rfl rfl rfl (show (-2147483648 : Int) ≤ (y31_0_4 - 8) ∧ (y31_0_4 - 8) ≤ 2147483647 by omega) (fun σ H Oₚ => ?_)
        have O := OUT_trans O Oₚ
        refine Ew_of (pcₚ := 31) (fun _ => x_goto rfl rfl) ?_
        exact ih31 _ (by omega) _ _ _ _  (l31_0) H O (SF_upd (SF_upd (SF_upd (hS_31) rfl) rfl) rfl) (SA_upd (hA_31) rfl)   ((y31_0_1 + 1)) (rfl) ((y31_0_4 - 8)) (rfl)  (show 0 ≤ ((y31_0_1 + 1)) ∧ ((y31_0_1 + 1)) ≤ (n1) ∧ (n1) ≤ 65536 by omega) (show (u0_1) ≤ ((y31_0_1 + 1)) by omega) (show 0 ≤ ((y31_0_4 - 8)) ∧ ((y31_0_4 - 8)) ≤ 40 by omega) rfl
abbrev V163_Row : vV := [(0, 7, [(4, 0), (0, 0), (1, 0), (0, 0), (0, 0)]), (0, 7, [(4, 0), (0, 0), (1, 0), (0, 0), (0, 0)]), (1, 0, []), (1, 0, [])]
/-- Row.copyBack: this, #1, this.bytes, #1.bytes -/
theorem C163_Row {σE : rS} {D N : Nat → Nat} {F : hF} {A : hA} {d c s : Nat} {Q : wQ} (H : HW V163_Row σE D N F A) {a1 a2 a3 : Int} (pf2 : F 0 0 = (D 2 : Int)) (pf3 : F 1 0 = (D 3 : Int)) (n2 : Int) (en2 : (N 2 : Int) = n2) (n3 : Int) (en3 : (N 3 : Int) = n3) (u0_1 : Int) (eu0_1 : F 0 1 = u0_1) (u1_1 : Int) (eu1_1 : F 1 1 = u1_1) (h0 : inr (a1)) (h1 : inr (a2)) (h2 : inr (a3)) (h3 : 0 ≤ (u0_1) ∧ (u0_1) ≤ (n2) ∧ (n2) ≤ 65536) (h4 : 0 ≤ (u1_1) ∧ (u1_1) ≤ (n3) ∧ (n3) ≤ 65536) (h5 : 0 ≤ (a3) ∧ (a3) ≤ (u0_1)) (h6 : (a2) < 0 ∨ 1 ≤ (a1) ∧ ((a1) ≤ (u0_1) - (a3) ∨ (a1) - ((u0_1) - (a3)) ≤ (u1_1))) (k : ∀ (σ : rS) (Dₚ Nₚ : Nat → Nat) (Fₚ : hF) (Aₚ : hA) (cₚ sₚ : Nat), HW V163_Row σ Dₚ Nₚ Fₚ Aₚ → OUT (V163_Row).length D N σE c s Dₚ Nₚ σ cₚ sₚ → SD [2] D Dₚ → SD [2] N Nₚ → SF [(0, 0), (0, 1), (0, 2)] F Fₚ → SA [2] A Aₚ → Fₚ 0 0 = (Dₚ 2 : Int) → ∀ m2 : Int, (Nₚ 2 : Int) = m2 → ∀ y0_1 : Int, Fₚ 0 1 = y0_1 → (0 ≤ (y0_1) ∧ (y0_1) ≤ (m2) ∧ (m2) ≤ 65536) → ((y0_1) = (u0_1) + (a2) ∧ 0 ≤ (a2) ∨ (y0_1) = (u0_1) ∧ ((a2) < 0 ∨ 65536 < (u0_1) + (a2))) → Q none σ cₚ sₚ) : Ew 163 (d + 2) 0 (rargs 0 [.ref (D 0), I a1, I a2, I a3, .ref (D 1)]) [] σE c s Q := by
  have O := OUT_refl (n := (V163_Row).length) (D := D) (N := N) (σ := σE) (c := c) (s := s)
  have HE := H
  have r1 : (-2147483648 : Int) ≤ u0_1 ∧ u0_1 ≤ 2147483647 := by have h1 : (-2147483648 : Int) ≤ F 0 1 ∧ F 0 1 ≤ 2147483647 := H.krg 0 1 (by decide); rw [show F 0 1 = u0_1 from (eu0_1)] at h1; exact h1
  have r2 : (-2147483648 : Int) ≤ u1_1 ∧ u1_1 ≤ 2147483647 := by have h1 : (-2147483648 : Int) ≤ F 1 1 ∧ F 1 1 ≤ 2147483647 := H.krg 1 1 (by decide); rw [show F 1 1 = u1_1 from (eu1_1)] at h1; exact h1
  have r3 : (0 : Int) ≤ n2 ∧ n2 ≤ 1000000 := by have h1 := H.nle 2 (by decide); have h2 : (N 2 : Int) = n2 := en2; omega
  have r4 : (0 : Int) ≤ n3 ∧ n3 ≤ 1000000 := by have h1 := H.nle 3 (by decide); have h2 : (N 3 : Int) = n3 := en3; omega
  refine Ew_of (pcₚ := 1) (fun _ => x_aload_n rfl rfl) ?_
  refine Ew_of (pcₚ := 2) (fun _ => x_iload_n rfl rfl) ?_
  refine v_inv H (o := 0) rfl rfl rfl rfl rfl rfl (by rfl) (C157 (D := pul [0, 2] D) (N := pul [0, 2] N) (HW_sub H (VS_of (show vsub V163_Row V157 [0, 2] = true by decide +kernel))) (pf2) (n2) (en2) (u0_1) ((eu0_1)) (A 2) (rfl) (show inr (a2) by omega) (show 0 ≤ (u0_1) ∧ (u0_1) ≤ (n2) ∧ (n2) ≤ 65536 by omega) (fun z5 σ5 D5ₚ N5ₚ F5ₚ A5ₚ c5 s5 Hₚ Oₚ hD5 hN5 hS5 hA5 pm5_1 m5_1 em5_1 w5_1 ew5_1 pz5_0 pz5_1 pz5_2 pz5_3 pz5_4 => ⟨rretB rfl pz5_0, ?_⟩))
  refine v_backM (c := c) (s := s) H (show vsub V163_Row V157 [0, 2] = true by decide +kernel) Hₚ Oₚ hD5 (show vmov V163_Row [0, 2] [1] = true by decide +kernel) (fun D5 N5 F5 A5 H Oₚ eD5 eN5 eF5 eA5 => ?_)
  have O := OUT_trans O Oₚ
  -- Row.reserve
  have pf5_0_0 : F5 0 0 = (D5 2 : Int) := (eF5 0 0).trans (pm5_1.trans (congrArg (fun q : Nat => (q : Int)) (eD5 2).symm))
  have pf5_1_0 : F5 1 0 = (D5 3 : Int) := ((show F5 1 0 = F 1 0 from (eF5 1 0))).trans ((pf3).trans (congrArg (fun q : Nat => (q : Int)) ((show D5 3 = D 3 from (eD5 3))).symm))
  have r6 : (0 : Int) ≤ m5_1 ∧ m5_1 ≤ 1000000 := by have h1 := H.nle 2 (by decide); have h2 : (N5 2 : Int) = m5_1 := (congrArg (fun q : Nat => (q : Int)) (eN5 2)).trans em5_1; omega
  refine w_ifne (t := 14) rfl rfl (show inr (z5) by omega) (fun b7 => ?_) (fun b7 => ?_)
  · refine Ew_of (pcₚ := 15) (fun _ => x_iconst rfl) ?_
    refine Ew_of (pcₚ := 17) (fun _ => x_istore rfl) ?_
    suffices hl17 : ∀ (m : Nat), ∀ (ls : rO) (σ : rS) (F_17 : hF) (A_17 : hA) (x17_5 : Int), rlook ls 0 = some (.ref (D5 0)) → rlook ls 1 = some (I (a1)) → rlook ls 2 = some (I (a2)) → rlook ls 3 = some (I (a3)) → rlook ls 4 = some (.ref (D5 1)) → rlook ls 5 = some (I (x17_5)) → HW V163_Row σ D5 N5 F_17 A_17 → OUT (V163_Row).length D N σE c s D5 N5 σ (c + c5) (s + s5) → SF [(0, 1)] F5 F_17 → SA [2] A5 A_17 → ∀ y17_0_1 : Int, F_17 0 1 = y17_0_1 → (inr (x17_5)) → ((0) ≤ (x17_5)) → ((x17_5) ≤ (0) ∨ (x17_5) ≤ ((a2))) → ((y17_0_1) = (u0_1) + (x17_5)) → ((u0_1) + (a2) ≤ (m5_1) ∧ (m5_1) ≤ 65536) → (((a2)) - (x17_5)).toNat = m → Ew 163 (d + 2) 17 ls [] σ (c + c5) (s + s5) Q from
      hl17 _ _ _ _ _ (0) ((rk_o (rfl) rfl rfl).trans (congrArg (fun q : Nat => some (Value.ref q)) (((show D5 0 = D 0 from (eD5 0).trans (hD5 0 rfl)))).symm)) (rk_o (rfl) rfl rfl) (rk_o (rfl) rfl rfl) (rk_o (rfl) rfl rfl) ((rk_o (rfl) rfl rfl).trans (congrArg (fun q : Nat => some (Value.ref q)) (((show D5 1 = D 1 from (eD5 1)))).symm)) (rk_s) H O (SF_refl) (SA_refl)   (u0_1) ((((show F5 0 1 = F 0 1 from (eF5 0 1).trans (hS5 0 1 rfl))).trans (eu0_1)))  (show inr (0) by omega) (show (0) ≤ (0) by omega) (show (0) ≤ (0) ∨ (0) ≤ ((a2)) by omega) (show (u0_1) = (u0_1) + (0) by omega) (show (u0_1) + (a2) ≤ (m5_1) ∧ (m5_1) ≤ 65536 by omega) rfl
    as_aux_lemma =>
    intro m
    induction m using Nat.strongRecOn with
    | _ m ih17 =>
      intro ls σ F_17 A_17 x17_5 l17_0 l17_1 l17_2 l17_3 l17_4 l17_5 H O hS_17 hA_17   y17_0_1 ey17_0_1  j17_0 j17_1 j17_2 j17_3 j17_4 hm17
      have r8 : (-2147483648 : Int) ≤ y17_0_1 ∧ y17_0_1 ≤ 2147483647 := by have h1 : (-2147483648 : Int) ≤ F_17 0 1 ∧ F_17 0 1 ≤ 2147483647 := H.krg 0 1 (by decide); rw [show F_17 0 1 = y17_0_1 from (ey17_0_1)] at h1; exact h1
      refine Ew_of (pcₚ := 19) (fun _ => x_iload rfl l17_5) ?_
      refine Ew_of (pcₚ := 20) (fun _ => x_iload_n rfl l17_2) ?_
      refine w_icmpge (t := 85) rfl rfl (show inr (x17_5) by omega) (show inr (a2) by omega) (fun b9 => ?_) (fun b9 => ?_)
      · exact w_ret rfl (k _ _ _ _ _ _ _ H O (SD_trans (SD_refl) (SD_glu (ι := [0, 2]) hD5 eD5 (by decide +kernel)) (any_subA (lₚ := [2]) rfl)) (SD_trans (SD_refl) (SD_glu (ι := [0, 2]) hN5 eN5 (by decide +kernel)) (any_subA (lₚ := [2]) rfl)) (SF_trans (SF_trans (SF_refl) (SF_glu (ι := [0, 2]) hS5 eF5 (by decide +kernel)) (any_sub (lₚ := [(0, 0)]) rfl)) hS_17 (any_sub rfl)) (SA_trans (SA_trans (SA_refl) (SA_glu (ι := [0, 2]) hA5 eA5 (by decide +kernel)) (any_subA (lₚ := [2]) rfl)) hA_17 (any_subA rfl)) (((hS_17 0 0 rfl)).trans (pf5_0_0)) (m5_1) ((congrArg (fun q : Nat => (q : Int)) (eN5 2)).trans em5_1) (y17_0_1) ((ey17_0_1)) (show 0 ≤ (y17_0_1) ∧ (y17_0_1) ≤ (m5_1) ∧ (m5_1) ≤ 65536 by omega) (show (y17_0_1) = (u0_1) + a2 ∧ 0 ≤ a2 ∨ (y17_0_1) = (u0_1) ∧ (a2 < 0 ∨ 65536 < (u0_1) + a2) by omega))
      · refine Ew_of (pcₚ := 24) (fun _ => x_aload_n rfl l17_0) ?_
        refine v_g H (o := 0) (v := I (y17_0_1)) rfl rfl rfl rfl rfl (congrArg (fun z : Int => I z) ((ey17_0_1) : F_17 0 1 = y17_0_1)) ?_
        refine Ew_of (pcₚ := 28) (fun _ => x_iload_n rfl l17_1) ?_
        refine w_isub rfl ?_
        refine Ew_of (pcₚ := 31) (fun _ => x_istore rfl) ?_
        refine Ew_of (pcₚ := 32) (fun _ => x_aload_n rfl (rk_o (l17_0) rfl rfl)) ?_
        refine v_g H (o := 0) (v := .ref (D5 2)) rfl rfl rfl rfl rfl (vrf (((hS_17 0 0 rfl)).trans (pf5_0_0))) ?_
        refine Ew_of (pcₚ := 36) (fun _ => x_aload_n rfl (rk_o (l17_0) rfl rfl)) ?_
        refine Ew_of (pcₚ := 37) (fun _ => x_dup rfl rfl) ?_
        refine v_g H (o := 0) (v := I (y17_0_1)) rfl rfl rfl rfl rfl (congrArg (fun z : Int => I z) ((ey17_0_1) : F_17 0 1 = y17_0_1)) ?_
        refine Ew_of (pcₚ := 41) (fun _ => x_dup_x1 rfl rfl) ?_
        refine Ew_of (pcₚ := 42) (fun _ => x_iconst rfl) ?_
        refine w_iadd rfl ?_
        refine v_p H (o := 0) (z := (y17_0_1 + 1)) (v := I ((y17_0_1 + 1))) rfl rfl rfl rfl rfl rfl rfl rfl (show (-2147483648 : Int) ≤ (y17_0_1 + 1) ∧ (y17_0_1 + 1) ≤ 2147483647 by omega) (fun σ H Oₚ => ?_)
        have O := OUT_trans O Oₚ
        refine Ew_of (pcₚ := 48) (fun _ => x_iload rfl rk_s) ?_
        refine Ew_of (pcₚ := 49) (fun _ => x_iload_n rfl (rk_o (l17_3) rfl rfl)) ?_
        refine w_icmplt (t := 62) rfl rfl (show inr ((y17_0_1 - a1)) by omega) (show inr (a3) by omega) (fun b10 => ?_) (fun b10 => ?_)
        · refine Ew_of (pcₚ := 64) (fun _ => x_aload rfl (rk_o (l17_4) rfl rfl)) ?_
          refine v_g H (o := 1) (v := .ref (D5 3)) rfl rfl rfl rfl rfl (vrf (((hS_17 1 0 rfl)).trans (pf5_1_0))) ?_
          refine Ew_of (pcₚ := 69) (fun _ => x_aload rfl (rk_o (l17_4) rfl rfl)) ?_
          refine v_g H (o := 1) (v := I (u1_1)) rfl rfl rfl rfl rfl (congrArg (fun z : Int => I z) ((((hS_17 1 1 rfl).trans ((show F5 1 1 = F 1 1 from (eF5 1 1)))).trans (eu1_1)) : (updF F_17 0 1 ((y17_0_1 + 1))) 1 1 = u1_1)) ?_
          refine Ew_of (pcₚ := 74) (fun _ => x_iload rfl rk_s) ?_
          refine w_iadd rfl ?_
          refine Ew_of (pcₚ := 76) (fun _ => x_iload_n rfl (rk_o (l17_3) rfl rfl)) ?_
          refine w_isub rfl ?_
          refine v_lB H (o := 3) rfl rfl rfl rfl (n := n3) ((congrArg (fun q : Nat => (q : Int)) (show N5 3 = N 3 from (eN5 3))).trans (en3)) (show 0 ≤ ((u1_1 + (y17_0_1 - a1)) - a3) ∧ ((u1_1 + (y17_0_1 - a1)) - a3) < n3 by omega) (fun v11 ev11 qv11 => ?_)
          have ev11 : (A 3) (((u1_1 + (y17_0_1 - a1)) - a3)) = v11 := (congrFun ((funext (hA_17 3 rfl)).trans ((show A5 3 = A 3 from (eA5 3)))) (((u1_1 + (y17_0_1 - a1)) - a3))).symm.trans ev11
          refine v_sB H (o := 2) rfl rfl rfl rfl (n := m5_1) ((congrArg (fun q : Nat => (q : Int)) (eN5 2)).trans em5_1) (show 0 ≤ y17_0_1 ∧ y17_0_1 < m5_1 by omega) (fun z12 σ qz12 H Oₚ => ?_)
          have O := OUT_trans O Oₚ
          refine Ew_of (pcₚ := 82) (fun _ => x_iinc (len := 3) rfl (rk_o (l17_5) rfl rfl)) ?_
          refine Ew_of (pcₚ := 17) (fun _ => x_goto rfl rfl) ?_
          exact ih17 _ (by omega) _ _ _ _ ((x17_5 + 1)) (rk_o (rk_o (l17_0) rfl rfl) rfl rfl) (rk_o (rk_o (l17_1) rfl rfl) rfl rfl) (rk_o (rk_o (l17_2) rfl rfl) rfl rfl) (rk_o (rk_o (l17_3) rfl rfl) rfl rfl) (rk_o (rk_o (l17_4) rfl rfl) rfl rfl) (rk_s) H O (SF_upd (hS_17) rfl) (SA_upd (hA_17) rfl)   ((y17_0_1 + 1)) (rfl)  (show inr ((x17_5 + 1)) by omega) (show (0) ≤ ((x17_5 + 1)) by omega) (show ((x17_5 + 1)) ≤ (0) ∨ ((x17_5 + 1)) ≤ ((a2)) by omega) (show ((y17_0_1 + 1)) = (u0_1) + ((x17_5 + 1)) by omega) (show (u0_1) + (a2) ≤ (m5_1) ∧ (m5_1) ≤ 65536 by omega) rfl
        · refine Ew_of (pcₚ := 53) (fun _ => x_aload_n rfl (rk_o (l17_0) rfl rfl)) ?_
          refine v_g H (o := 0) (v := .ref (D5 2)) rfl rfl rfl rfl rfl (vrf (((hS_17 0 0 rfl)).trans (pf5_0_0))) ?_
          refine Ew_of (pcₚ := 58) (fun _ => x_iload rfl rk_s) ?_
          refine v_lB H (o := 2) rfl rfl rfl rfl (n := m5_1) ((congrArg (fun q : Nat => (q : Int)) (eN5 2)).trans em5_1) (show 0 ≤ (y17_0_1 - a1) ∧ (y17_0_1 - a1) < m5_1 by omega) (fun v13 ev13 qv13 => ?_)
          have ev13 : (A_17 2) ((y17_0_1 - a1)) = v13 := (congrFun (rfl : A_17 2 = A_17 2) ((y17_0_1 - a1))).symm.trans ev13
          refine Ew_of (pcₚ := 78) (fun _ => x_goto rfl rfl) ?_
          refine v_sB H (o := 2) rfl rfl rfl rfl (n := m5_1) ((congrArg (fun q : Nat => (q : Int)) (eN5 2)).trans em5_1) (show 0 ≤ y17_0_1 ∧ y17_0_1 < m5_1 by omega) (fun z14 σ qz14 H Oₚ => ?_)
          have O := OUT_trans O Oₚ
          refine Ew_of (pcₚ := 82) (fun _ => x_iinc (len := 3) rfl (rk_o (l17_5) rfl rfl)) ?_
          refine Ew_of (pcₚ := 17) (fun _ => x_goto rfl rfl) ?_
          exact ih17 _ (by omega) _ _ _ _ ((x17_5 + 1)) (rk_o (rk_o (l17_0) rfl rfl) rfl rfl) (rk_o (rk_o (l17_1) rfl rfl) rfl rfl) (rk_o (rk_o (l17_2) rfl rfl) rfl rfl) (rk_o (rk_o (l17_3) rfl rfl) rfl rfl) (rk_o (rk_o (l17_4) rfl rfl) rfl rfl) (rk_s) H O (SF_upd (hS_17) rfl) (SA_upd (hA_17) rfl)   ((y17_0_1 + 1)) (rfl)  (show inr ((x17_5 + 1)) by omega) (show (0) ≤ ((x17_5 + 1)) by omega) (show ((x17_5 + 1)) ≤ (0) ∨ ((x17_5 + 1)) ≤ ((a2)) by omega) (show ((y17_0_1 + 1)) = (u0_1) + ((x17_5 + 1)) by omega) (show (u0_1) + (a2) ≤ (m5_1) ∧ (m5_1) ≤ 65536 by omega) rfl
  · refine Ew_of (pcₚ := 9) (fun _ => x_aload_n rfl rfl) ?_
    refine Ew_of (pcₚ := 10) (fun _ => x_iconst rfl) ?_
    refine Ew_stk (show ([I (1), .ref (D 0)] : List Value) = [I (1), .ref (D5 0)] by rw [show D5 0 = D 0 from ((show D5 0 = D 0 from (eD5 0).trans (hD5 0 rfl)))]) ?_
    refine v_p H (o := 0) (z := 1) (v := I (1)) rfl rfl rfl rfl rfl rfl rfl (rfit_b (by omega)) (show (0 : Int) ≤ 1 ∧ 1 ≤ 1 by omega) (fun σ H Oₚ => ?_)
    have O := OUT_trans O Oₚ
    exact w_ret rfl (k _ _ _ _ _ _ _ H O (SD_trans (SD_refl) (SD_glu (ι := [0, 2]) hD5 eD5 (by decide +kernel)) (any_subA (lₚ := [2]) rfl)) (SD_trans (SD_refl) (SD_glu (ι := [0, 2]) hN5 eN5 (by decide +kernel)) (any_subA (lₚ := [2]) rfl)) (SF_upd (SF_trans (SF_refl) (SF_glu (ι := [0, 2]) hS5 eF5 (by decide +kernel)) (any_sub (lₚ := [(0, 0)]) rfl)) rfl) (SA_trans (SA_refl) (SA_glu (ι := [0, 2]) hA5 eA5 (by decide +kernel)) (any_subA (lₚ := [2]) rfl)) (pf5_0_0) (m5_1) ((congrArg (fun q : Nat => (q : Int)) (eN5 2)).trans em5_1) (u0_1) ((((show F5 0 1 = F 0 1 from (eF5 0 1).trans (hS5 0 1 rfl))).trans (eu0_1))) (show 0 ≤ (u0_1) ∧ (u0_1) ≤ (m5_1) ∧ (m5_1) ≤ 65536 by omega) (show (u0_1) = (u0_1) + a2 ∧ 0 ≤ a2 ∨ (u0_1) = (u0_1) ∧ (a2 < 0 ∨ 65536 < (u0_1) + a2) by omega))
abbrev V158_Row : vV := [(0, 7, [(4, 0), (0, 0), (1, 0), (0, 0), (0, 0)]), (0, 7, [(4, 0), (0, 0), (1, 0), (0, 0), (0, 0)]), (1, 0, []), (1, 0, [])]
/-- Row.become: this, #1, this.bytes, #1.bytes -/
theorem C158_Row {σE : rS} {D N : Nat → Nat} {F : hF} {A : hA} {d c s : Nat} {Q : wQ} (H : HW V158_Row σE D N F A)  (pf2 : F 0 0 = (D 2 : Int)) (pf3 : F 1 0 = (D 3 : Int)) (n2 : Int) (en2 : (N 2 : Int) = n2) (n3 : Int) (en3 : (N 3 : Int) = n3) (u0_1 : Int) (eu0_1 : F 0 1 = u0_1) (u1_1 : Int) (eu1_1 : F 1 1 = u1_1) (h0 : 0 ≤ (u0_1) ∧ (u0_1) ≤ (n2) ∧ (n2) ≤ 65536) (h1 : 0 ≤ (u1_1) ∧ (u1_1) ≤ (n3) ∧ (n3) ≤ 65536) (k : ∀ (σ : rS) (Dₚ Nₚ : Nat → Nat) (Fₚ : hF) (Aₚ : hA) (cₚ sₚ : Nat), HW V158_Row σ Dₚ Nₚ Fₚ Aₚ → OUT (V158_Row).length D N σE c s Dₚ Nₚ σ cₚ sₚ → SD [2] D Dₚ → SD [2] N Nₚ → SF [(0, 0), (0, 1), (0, 2), (0, 3), (0, 4)] F Fₚ → SA [2] A Aₚ → Fₚ 0 0 = (Dₚ 2 : Int) → ∀ m2 : Int, (Nₚ 2 : Int) = m2 → ∀ y0_1 : Int, Fₚ 0 1 = y0_1 → (0 ≤ (y0_1) ∧ (y0_1) ≤ (m2) ∧ (m2) ≤ 65536) → ((y0_1) = (u1_1)) → Q none σ cₚ sₚ) : Ew 158 (d + 3) 0 (rargs 0 [.ref (D 0), .ref (D 1)]) [] σE c s Q := by
  have O := OUT_refl (n := (V158_Row).length) (D := D) (N := N) (σ := σE) (c := c) (s := s)
  have HE := H
  have r1 : (-2147483648 : Int) ≤ u0_1 ∧ u0_1 ≤ 2147483647 := by have h1 : (-2147483648 : Int) ≤ F 0 1 ∧ F 0 1 ≤ 2147483647 := H.krg 0 1 (by decide); rw [show F 0 1 = u0_1 from (eu0_1)] at h1; exact h1
  have r2 : (-2147483648 : Int) ≤ u1_1 ∧ u1_1 ≤ 2147483647 := by have h1 : (-2147483648 : Int) ≤ F 1 1 ∧ F 1 1 ≤ 2147483647 := H.krg 1 1 (by decide); rw [show F 1 1 = u1_1 from (eu1_1)] at h1; exact h1
  have r3 : (0 : Int) ≤ n2 ∧ n2 ≤ 1000000 := by have h1 := H.nle 2 (by decide); have h2 : (N 2 : Int) = n2 := en2; omega
  have r4 : (0 : Int) ≤ n3 ∧ n3 ≤ 1000000 := by have h1 := H.nle 3 (by decide); have h2 : (N 3 : Int) = n3 := en3; omega
  refine Ew_of (pcₚ := 1) (fun _ => x_aload_n rfl rfl) ?_
  refine v_inv H (o := 0) rfl rfl rfl rfl rfl rfl (by rfl) (C156 (D := pul [0] D) (N := pul [0] N) (HW_sub H (VS_of (show vsub V158_Row V156 [0] = true by decide +kernel))) (u0_1) ((eu0_1))  (fun σ5 F5ₚ A5ₚ Hₚ Oₚ hS5 hA5 y5_0_1 ey5_0_1 pz5_0 => ⟨rfl, ?_⟩))
  refine v_back (c := c) (s := s) H (show vsub V158_Row V156 [0] = true by decide +kernel) Hₚ Oₚ (fun F5 A5 H Oₚ eF5 eA5 => ?_)
  have O := OUT_trans O Oₚ
  -- Row.clear
  have r6 : (-2147483648 : Int) ≤ y5_0_1 ∧ y5_0_1 ≤ 2147483647 := by have h1 : (-2147483648 : Int) ≤ F5 0 1 ∧ F5 0 1 ≤ 2147483647 := H.krg 0 1 (by decide); rw [show F5 0 1 = y5_0_1 from ((eF5 0 1).trans ey5_0_1)] at h1; exact h1
  refine Ew_of (pcₚ := 5) (fun _ => x_aload_n rfl rfl) ?_
  refine Ew_of (pcₚ := 6) (fun _ => x_aload_n rfl rfl) ?_
  refine v_g H (o := 1) (v := .ref (D 3)) rfl rfl rfl rfl rfl (vrf ((((show F5 1 0 = F 1 0 from (eF5 1 0)))).trans (pf3))) ?_
  refine Ew_of (pcₚ := 10) (fun _ => x_iconst rfl) ?_
  refine Ew_of (pcₚ := 11) (fun _ => x_aload_n rfl rfl) ?_
  refine v_g H (o := 1) (v := I (u1_1)) rfl rfl rfl rfl rfl (congrArg (fun z : Int => I z) ((((show F5 1 1 = F 1 1 from (eF5 1 1))).trans (eu1_1)) : F5 1 1 = u1_1)) ?_
  refine v_inv H (o := 0) rfl rfl rfl rfl rfl rfl (by rfl) (C161_Br (D := pul [0, 3, 2] D) (N := pul [0, 3, 2] N) (HW_sub H (VS_of (show vsub V158_Row V161_Br [0, 3, 2] = true by decide +kernel))) ((((show F5 0 0 = F 0 0 from (eF5 0 0).trans (hS5 0 0 rfl)))).trans (pf2)) (n3) (en3) (n2) (en2) (y5_0_1) (((eF5 0 1).trans ey5_0_1)) (A 2) ((show A5 2 = A 2 from (eA5 2))) (show inr (0) by omega) (show inr (u1_1) by omega) (show 0 ≤ (y5_0_1) ∧ (y5_0_1) ≤ (n2) ∧ (n2) ≤ 65536 by omega) (show (u1_1) < 0 ∨ 0 ≤ (0) ∧ (0) + (u1_1) ≤ (n3) by omega) (fun σ7 D7ₚ N7ₚ F7ₚ A7ₚ c7 s7 Hₚ Oₚ hD7 hN7 hS7 hA7 pm7_2 m7_2 em7_2 y7_0_1 ey7_0_1 w7_2 ew7_2 pz7_0 pz7_1 pz7_2 => ⟨rfl, ?_⟩))
  refine v_backM (c := c) (s := s) H (show vsub V158_Row V161_Br [0, 3, 2] = true by decide +kernel) Hₚ Oₚ hD7 (show vmov V158_Row [0, 3, 2] [2] = true by decide +kernel) (fun D7 N7 F7 A7 H Oₚ eD7 eN7 eF7 eA7 => ?_)
  have O := OUT_trans O Oₚ
  -- Row.addPart
  have pf7_0_0 : F7 0 0 = (D7 2 : Int) := (eF7 0 0).trans (pm7_2.trans (congrArg (fun q : Nat => (q : Int)) (eD7 2).symm))
  have pf7_1_0 : F7 1 0 = (D7 3 : Int) := ((show F7 1 0 = F5 1 0 from (eF7 1 0))).trans (((((show F5 1 0 = F 1 0 from (eF5 1 0)))).trans (pf3)).trans (congrArg (fun q : Nat => (q : Int)) ((show D7 3 = D 3 from (eD7 3).trans (hD7 1 rfl))).symm))
  have r8 : (0 : Int) ≤ m7_2 ∧ m7_2 ≤ 1000000 := by have h1 := H.nle 2 (by decide); have h2 : (N7 2 : Int) = m7_2 := (congrArg (fun q : Nat => (q : Int)) (eN7 2)).trans em7_2; omega
  have r9 : (-2147483648 : Int) ≤ y7_0_1 ∧ y7_0_1 ≤ 2147483647 := by have h1 : (-2147483648 : Int) ≤ F7 0 1 ∧ F7 0 1 ≤ 2147483647 := H.krg 0 1 (by decide); rw [show F7 0 1 = y7_0_1 from ((eF7 0 1).trans ey7_0_1)] at h1; exact h1
  exact w_ret rfl (k _ _ _ _ _ _ _ H O (SD_trans (SD_refl) (SD_glu (ι := [0, 3, 2]) hD7 eD7 (by decide +kernel)) (any_subA (lₚ := [2]) rfl)) (SD_trans (SD_refl) (SD_glu (ι := [0, 3, 2]) hN7 eN7 (by decide +kernel)) (any_subA (lₚ := [2]) rfl)) (SF_trans (SF_trans (SF_refl) (SF_glu (ι := [0]) hS5 eF5 (by decide +kernel)) (any_sub (lₚ := [(0, 1), (0, 2), (0, 3), (0, 4)]) rfl)) (SF_glu (ι := [0, 3, 2]) hS7 eF7 (by decide +kernel)) (any_sub (lₚ := [(0, 0), (0, 1), (0, 2)]) rfl)) (SA_trans (SA_trans (SA_refl) (SA_glu (ι := [0]) hA5 eA5 (by decide +kernel)) (any_subA (lₚ := []) rfl)) (SA_glu (ι := [0, 3, 2]) hA7 eA7 (by decide +kernel)) (any_subA (lₚ := [2]) rfl)) (pf7_0_0) (m7_2) ((congrArg (fun q : Nat => (q : Int)) (eN7 2)).trans em7_2) (y7_0_1) (((eF7 0 1).trans ey7_0_1)) (show 0 ≤ (y7_0_1) ∧ (y7_0_1) ≤ (m7_2) ∧ (m7_2) ≤ 65536 by omega) (show (y7_0_1) = (u1_1) by omega))
