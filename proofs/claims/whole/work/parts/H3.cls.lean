abbrev V254 : vV := [(0, 12, [(4, 0), (4, 0), (4, 0), (4, 0), (4, 0), (4, 0), (4, 0), (4, 0), (0, 0), (0, 0), (4, 0), (0, 0), (4, 0), (4, 0), (0, 0), (2, 0), (0, 0), (0, 0), (0, 0), (0, 0), (0, 0), (0, 0)]), (0, 7, [(4, 0), (0, 0), (1, 0), (0, 0), (0, 0)]), (1, 0, [])]
/-- Unpacker.faultOfLength: this, this.result, this.result.bytes -/
theorem C254 {σE : rS} {D N : Nat → Nat} {F : hF} {A : hA} {d c s : Nat} {Q : wQ} (H : HW V254 σE D N F A) {a1 a2 : Int} (pf1 : F 0 10 = (D 1 : Int)) (pf2 : F 1 0 = (D 2 : Int)) (n2 : Int) (en2 : (N 2 : Int) = n2) (u0_11 : Int) (eu0_11 : F 0 11 = u0_11) (u0_15 : Int) (eu0_15 : F 0 15 = u0_15) (u1_1 : Int) (eu1_1 : F 1 1 = u1_1) (h0 : inr (a1)) (h1 : inr (a2)) (h2 : 0 ≤ (u0_15)) (h3 : 0 ≤ (u1_1) ∧ (u1_1) ≤ (n2) ∧ (n2) ≤ 65536) (h4 : 0 ≤ (u0_11) ∧ (u0_11) ≤ 65536 ∧ (u1_1) ≤ (u0_11)) (h5 : 0 ≤ (a1) ∧ (a1) ≤ 1000000) (h6 : 0 ≤ (a2) ∧ (a2) ≤ (u1_1)) (k : ∀ (z : Int) (σ : rS) (F' : hF) (A' : hA), HW V254 σ D N F' A' → OUT (V254).length D N σE c s D N σ c s → SF [] F F' → SA [] A A' → (inr (z)) → (0 ≤ (z) ∧ (z) ≤ 20) → ((z) ≠ 0 ∨ (u1_1) + (a1) ≤ (u0_11)) → (FLq ((u1_1)) ((a2)) ((a1)) (moF ((u0_15))) ((u0_11)) ((z))) → Q (some (I z)) σ c s) : Ew 254 (d + 1) 0 (rargs 0 [.ref (D 0), I a1, I a2]) [] σE c s Q := by
  have O := OUT_refl (n := (V254).length) (D := D) (N := N) (σ := σE) (c := c) (s := s)
  have HE := H
  have r1 : (-2147483648 : Int) ≤ u0_11 ∧ u0_11 ≤ 2147483647 := by have h1 : (-2147483648 : Int) ≤ F 0 11 ∧ F 0 11 ≤ 2147483647 := H.krg 0 11 (by decide); rw [show F 0 11 = u0_11 from (eu0_11)] at h1; exact h1
  have r2 : (-9223372036854775808 : Int) ≤ u0_15 ∧ u0_15 ≤ 9223372036854775807 := by have h1 : (-9223372036854775808 : Int) ≤ F 0 15 ∧ F 0 15 ≤ 9223372036854775807 := H.krg 0 15 (by decide); rw [show F 0 15 = u0_15 from (eu0_15)] at h1; exact h1
  have r3 : (-2147483648 : Int) ≤ u1_1 ∧ u1_1 ≤ 2147483647 := by have h1 : (-2147483648 : Int) ≤ F 1 1 ∧ F 1 1 ≤ 2147483647 := H.krg 1 1 (by decide); rw [show F 1 1 = u1_1 from (eu1_1)] at h1; exact h1
  replace pf1 := HIDm pf1
  replace pf2 := HIDm pf2
  replace en2 := HIDm en2
  replace eu0_11 := HIDm eu0_11
  replace eu0_15 := HIDm eu0_15
  replace eu1_1 := HIDm eu1_1
  have r4 : (0 : Int) ≤ n2 ∧ n2 ≤ 1000000 := by have h1 := H.nle 2 (by decide); have h2 : (N 2 : Int) = n2 := en2; omega
  refine Ew_of (pc' := 1) (fun _ => x_aload_n rfl rfl) ?_
  refine v_g H (o := 0) (v := .ref (D 1)) rfl rfl rfl rfl rfl (vrf (pf1)) ?_
  refine v_g H (o := 1) (v := I (u1_1)) rfl rfl rfl rfl rfl (congrArg (fun z : Int => I z) ((eu1_1) : F 1 1 = u1_1)) ?_
  refine Ew_of (pc' := 8) (fun _ => x_iload_n rfl rfl) ?_
  refine w_isub rfl ?_
  refine Ew_of (pc' := 10) (fun _ => x_iload_n rfl rfl) ?_
  refine w_iadd rfl ?_
  refine Ew_of (pc' := 12) (fun _ => x_aload_n rfl rfl) ?_
  refine v_inv H (o := 0) rfl rfl rfl rfl rfl rfl (by rfl) (C234 (D := pul [0] D) (N := pul [0] N) (HW_sub H (VS_of (show vsub V254 V234 [0] = true by decide +kernel))) (u0_15) ((eu0_15)) (show 0 ≤ (u0_15) by omega) (fun z5 σ5 F5' A5' H' O' hS5 hA5 pz5_0 pz5_1 pz5_2 => ⟨rfl, ?_⟩))
  refine v_back (c := c) (s := s) H (show vsub V254 V234 [0] = true by decide +kernel) H' O' (fun F5 A5 H O' eF5 eA5 => ?_)
  have O := OUT_trans O O'
  -- Unpacker.blockMost
  have hmo := pz5_2
  refine w_icmple (t := 21) rfl rfl (show inr (((u1_1 - a2) + a1)) by omega) (show inr (z5) by omega) (fun b6 => ?_) (fun b6 => ?_)
  · refine Ew_of (pc' := 22) (fun _ => x_iload_n rfl rfl) ?_
    refine Ew_of (pc' := 23) (fun _ => x_aload_n rfl rfl) ?_
    refine v_g H (o := 0) (v := I (u0_11)) rfl rfl rfl rfl rfl (congrArg (fun z : Int => I z) ((((show F5 0 11 = F 0 11 from (eF5 0 11).trans (hS5 0 11 rfl))).trans (eu0_11)) : F5 0 11 = u0_11)) ?_
    refine Ew_of (pc' := 27) (fun _ => x_aload_n rfl rfl) ?_
    refine v_g H (o := 0) (v := .ref (D 1)) rfl rfl rfl rfl rfl (vrf ((((show F5 0 10 = F 0 10 from (eF5 0 10).trans (hS5 0 10 rfl)))).trans (pf1))) ?_
    refine v_g H (o := 1) (v := I (u1_1)) rfl rfl rfl rfl rfl (congrArg (fun z : Int => I z) ((((show F5 1 1 = F 1 1 from (eF5 1 1))).trans (eu1_1)) : F5 1 1 = u1_1)) ?_
    refine w_isub rfl ?_
    refine w_icmple (t := 42) rfl rfl (show inr (a1) by omega) (show inr ((u0_11 - u1_1)) by omega) (fun b7 => ?_) (fun b7 => ?_)
    · refine Ew_of (pc' := 43) (fun _ => x_iconst rfl) ?_
      have : FLq ((u1_1)) ((a2)) ((a1)) (moF ((u0_15))) ((u0_11)) ((0)) := by unfold FLq; omega
      exact w_ireturn rfl (k (0) _ _ _ H O (SF_trans (SF_refl) (SF_glu (ι := [0]) hS5 eF5 (by decide +kernel)) (any_sub (l' := []) rfl)) (SA_trans (SA_refl) (SA_glu (ι := [0]) hA5 eA5 (by decide +kernel)) (any_subA (l' := []) rfl)) (show inr (0) by omega) (show 0 ≤ (0) ∧ (0) ≤ 20 by omega) (show (0) ≠ 0 ∨ (u1_1) + a1 ≤ (u0_11) by omega) (show FLq ((u1_1)) (a2) (a1) (moF ((u0_15))) ((u0_11)) ((0)) by assumption))
    · refine Ew_of (pc' := 39) (fun _ => x_bipush (z := 7) rfl (by decide)) ?_
      refine Ew_of (pc' := 43) (fun _ => x_goto rfl rfl) ?_
      have : FLq ((u1_1)) ((a2)) ((a1)) (moF ((u0_15))) ((u0_11)) ((7)) := by unfold FLq; omega
      exact w_ireturn rfl (k (7) _ _ _ H O (SF_trans (SF_refl) (SF_glu (ι := [0]) hS5 eF5 (by decide +kernel)) (any_sub (l' := []) rfl)) (SA_trans (SA_refl) (SA_glu (ι := [0]) hA5 eA5 (by decide +kernel)) (any_subA (l' := []) rfl)) (show inr (7) by omega) (show 0 ≤ (7) ∧ (7) ≤ 20 by omega) (show (7) ≠ 0 ∨ (u1_1) + a1 ≤ (u0_11) by omega) (show FLq ((u1_1)) (a2) (a1) (moF ((u0_15))) ((u0_11)) ((7)) by assumption))
  · refine Ew_of (pc' := 20) (fun _ => x_bipush (z := 20) rfl (by decide)) ?_
    have : FLq ((u1_1)) ((a2)) ((a1)) (moF ((u0_15))) ((u0_11)) ((20)) := by unfold FLq; omega
    exact w_ireturn rfl (k (20) _ _ _ H O (SF_trans (SF_refl) (SF_glu (ι := [0]) hS5 eF5 (by decide +kernel)) (any_sub (l' := []) rfl)) (SA_trans (SA_refl) (SA_glu (ι := [0]) hA5 eA5 (by decide +kernel)) (any_subA (l' := []) rfl)) (show inr (20) by omega) (show 0 ≤ (20) ∧ (20) ≤ 20 by omega) (show (20) ≠ 0 ∨ (u1_1) + a1 ≤ (u0_11) by omega) (show FLq ((u1_1)) (a2) (a1) (moF ((u0_15))) ((u0_11)) ((20)) by assumption))
abbrev V253 : vV := [(0, 12, [(4, 0), (4, 0), (4, 0), (4, 0), (4, 0), (4, 0), (4, 0), (4, 0), (0, 0), (0, 0), (4, 0), (0, 0), (4, 0), (4, 0), (0, 0), (2, 0), (0, 0), (0, 0), (0, 0), (0, 0), (0, 0), (0, 0)]), (0, 7, [(4, 0), (0, 0), (1, 0), (0, 0), (0, 0)]), (1, 0, []), (0, 4, [(4, 0), (4, 0), (0, 0), (4, 0), (4, 0)]), (0, 7, [(4, 0), (0, 0), (1, 0), (0, 0), (0, 0)]), (1, 0, [])]
/-- Unpacker.faultOf: this, this.result, this.result.bytes, this.dictionary, this.dictionary.content, this.dictionary.content.bytes -/
theorem C253 {σE : rS} {D N : Nat → Nat} {F : hF} {A : hA} {d c s : Nat} {Q : wQ} (H : HW V253 σE D N F A) {a1 a2 a3 a4 : Int} (pf1 : F 0 10 = (D 1 : Int)) (pf2 : F 1 0 = (D 2 : Int)) (pf3 : F 0 12 = (D 3 : Int)) (pf4 : F 3 0 = (D 4 : Int)) (pf5 : F 4 0 = (D 5 : Int)) (n2 : Int) (en2 : (N 2 : Int) = n2) (n5 : Int) (en5 : (N 5 : Int) = n5) (u0_11 : Int) (eu0_11 : F 0 11 = u0_11) (u0_15 : Int) (eu0_15 : F 0 15 = u0_15) (u0_17 : Int) (eu0_17 : F 0 17 = u0_17) (u0_19 : Int) (eu0_19 : F 0 19 = u0_19) (u0_20 : Int) (eu0_20 : F 0 20 = u0_20) (u1_1 : Int) (eu1_1 : F 1 1 = u1_1) (u4_1 : Int) (eu4_1 : F 4 1 = u4_1) (h0 : inr (a1)) (h1 : inr (a2)) (h2 : inrJ (a3)) (h3 : inr (a4)) (h4 : 0 ≤ (u0_15)) (h5 : 0 ≤ (u1_1) ∧ (u1_1) ≤ (n2) ∧ (n2) ≤ 65536) (h6 : 0 ≤ (u4_1) ∧ (u4_1) ≤ (n5) ∧ (n5) ≤ 65536) (h7 : 0 ≤ (u0_11) ∧ (u0_11) ≤ 65536 ∧ (u1_1) ≤ (u0_11)) (h8 : 0 ≤ (u0_17) ∧ (u0_17) ≤ (u1_1)) (h9 : 0 ≤ (a1) ∧ (a1) ≤ 300000) (h10 : 0 ≤ (a2) ∧ (a2) ≤ 300000) (h11 : 0 ≤ (a4) ∧ (a4) ≤ (u1_1)) (h12 : 0 ≤ (u0_20) ∧ (u0_20) ≤ 200000 ∧ 0 ≤ (u0_19) ∧ (u0_19) ≤ 200000) (k : ∀ (z : Int) (σ : rS) (F' : hF) (A' : hA), HW V253 σ D N F' A' → OUT (V253).length D N σE c s D N σ c s → SF [] F F' → SA [] A A' → (inr (z)) → (0 ≤ (z) ∧ (z) ≤ 20) → ((z) ≠ 0 ∨ (u1_1) + (a1) + (a2) ≤ (u0_11) ∧ (u0_20) + (a1) ≤ (u0_19) ∧ 1 ≤ (a3) ∧ (a3) ≤ (u1_1) - (u0_17) + (a1) + (u4_1)) → (IMP ((0 : Int) ≤ (a3)) (FOq ((u0_19)) ((u0_20)) ((a1)) ((a2)) ((a3)) ((u0_17)) ((u4_1)) ((u0_15)) ((u1_1)) ((a4)) (moF ((u0_15))) ((u0_11)) ((z)))) → Q (some (I z)) σ c s) : Ew 253 (d + 2) 0 (rargs 0 [.ref (D 0), I a1, I a2, J a3, I a4]) [] σE c s Q := by
  have O := OUT_refl (n := (V253).length) (D := D) (N := N) (σ := σE) (c := c) (s := s)
  have HE := H
  have r1 : (-2147483648 : Int) ≤ u0_11 ∧ u0_11 ≤ 2147483647 := by have h1 : (-2147483648 : Int) ≤ F 0 11 ∧ F 0 11 ≤ 2147483647 := H.krg 0 11 (by decide); rw [show F 0 11 = u0_11 from (eu0_11)] at h1; exact h1
  have r2 : (-9223372036854775808 : Int) ≤ u0_15 ∧ u0_15 ≤ 9223372036854775807 := by have h1 : (-9223372036854775808 : Int) ≤ F 0 15 ∧ F 0 15 ≤ 9223372036854775807 := H.krg 0 15 (by decide); rw [show F 0 15 = u0_15 from (eu0_15)] at h1; exact h1
  have r3 : (-2147483648 : Int) ≤ u0_17 ∧ u0_17 ≤ 2147483647 := by have h1 : (-2147483648 : Int) ≤ F 0 17 ∧ F 0 17 ≤ 2147483647 := H.krg 0 17 (by decide); rw [show F 0 17 = u0_17 from (eu0_17)] at h1; exact h1
  have r4 : (-2147483648 : Int) ≤ u0_19 ∧ u0_19 ≤ 2147483647 := by have h1 : (-2147483648 : Int) ≤ F 0 19 ∧ F 0 19 ≤ 2147483647 := H.krg 0 19 (by decide); rw [show F 0 19 = u0_19 from (eu0_19)] at h1; exact h1
  have r5 : (-2147483648 : Int) ≤ u0_20 ∧ u0_20 ≤ 2147483647 := by have h1 : (-2147483648 : Int) ≤ F 0 20 ∧ F 0 20 ≤ 2147483647 := H.krg 0 20 (by decide); rw [show F 0 20 = u0_20 from (eu0_20)] at h1; exact h1
  have r6 : (-2147483648 : Int) ≤ u1_1 ∧ u1_1 ≤ 2147483647 := by have h1 : (-2147483648 : Int) ≤ F 1 1 ∧ F 1 1 ≤ 2147483647 := H.krg 1 1 (by decide); rw [show F 1 1 = u1_1 from (eu1_1)] at h1; exact h1
  have r7 : (-2147483648 : Int) ≤ u4_1 ∧ u4_1 ≤ 2147483647 := by have h1 : (-2147483648 : Int) ≤ F 4 1 ∧ F 4 1 ≤ 2147483647 := H.krg 4 1 (by decide); rw [show F 4 1 = u4_1 from (eu4_1)] at h1; exact h1
  replace pf1 := HIDm pf1
  replace pf2 := HIDm pf2
  replace pf3 := HIDm pf3
  replace pf4 := HIDm pf4
  replace pf5 := HIDm pf5
  replace en2 := HIDm en2
  replace en5 := HIDm en5
  replace eu0_11 := HIDm eu0_11
  replace eu0_15 := HIDm eu0_15
  replace eu0_17 := HIDm eu0_17
  replace eu0_19 := HIDm eu0_19
  replace eu0_20 := HIDm eu0_20
  replace eu1_1 := HIDm eu1_1
  replace eu4_1 := HIDm eu4_1
  have r8 : (0 : Int) ≤ n2 ∧ n2 ≤ 1000000 := by have h1 := H.nle 2 (by decide); have h2 : (N 2 : Int) = n2 := en2; omega
  have r9 : (0 : Int) ≤ n5 ∧ n5 ≤ 1000000 := by have h1 := H.nle 5 (by decide); have h2 : (N 5 : Int) = n5 := en5; omega
  refine Ew_of (pc' := 1) (fun _ => x_iload_n rfl rfl) ?_
  refine Ew_of (pc' := 2) (fun _ => x_aload_n rfl rfl) ?_
  refine v_g H (o := 0) (v := I (u0_19)) rfl rfl rfl rfl rfl (congrArg (fun z : Int => I z) ((eu0_19) : F 0 19 = u0_19)) ?_
  refine Ew_of (pc' := 6) (fun _ => x_aload_n rfl rfl) ?_
  refine v_g H (o := 0) (v := I (u0_20)) rfl rfl rfl rfl rfl (congrArg (fun z : Int => I z) ((eu0_20) : F 0 20 = u0_20)) ?_
  refine w_isub rfl ?_
  refine w_icmple (t := 16) rfl rfl (show inr (a1) by omega) (show inr ((u0_19 - u0_20)) by omega) (fun b10 => ?_) (fun b10 => ?_)
  · refine Ew_of (pc' := 17) (fun _ => x_aload_n rfl rfl) ?_
    refine v_g H (o := 0) (v := .ref (D 1)) rfl rfl rfl rfl rfl (vrf (pf1)) ?_
    refine v_g H (o := 1) (v := I (u1_1)) rfl rfl rfl rfl rfl (congrArg (fun z : Int => I z) ((eu1_1) : F 1 1 = u1_1)) ?_
    refine Ew_of (pc' := 24) (fun _ => x_aload_n rfl rfl) ?_
    refine v_g H (o := 0) (v := I (u0_17)) rfl rfl rfl rfl rfl (congrArg (fun z : Int => I z) ((eu0_17) : F 0 17 = u0_17)) ?_
    refine w_isub rfl ?_
    refine Ew_of (pc' := 29) (fun _ => x_iload_n rfl rfl) ?_
    refine w_iadd rfl ?_
    refine w_i2l rfl (show inr (((u1_1 - u0_17) + a1)) by omega) ?_
    refine Ew_of (pc' := 33) (fun _ => x_lstore rfl) ?_
    refine Ew_of (pc' := 34) (fun _ => x_lload_n rfl (rk2_o (rfl) rfl rfl)) ?_
    refine Ew_of (pc' := 36) (fun _ => x_lload rfl rk2_s) ?_
    refine w_lcmp rfl (show inrJ (a3) by omega) (show inrJ (((u1_1 - u0_17) + a1)) by omega) (fun z11 gz11 gaz11 gbz11 => ?_)
    have hc97 : ∀ (tc97_0 : Int), ∀ (ls : rO) (σ : rS) (F_c97 : hF) (A_c97 : hA) , rlook ls 0 = some (.ref (D 0)) → rlook ls 1 = some (I (a1)) → rlook ls 2 = some (I (a2)) → rlook ls 5 = some (I (a4)) → HW V253 σ D N F_c97 A_c97 → OUT (V253).length D N σE c s D N σ c s → SF [] F F_c97 → SA [] A A_c97 → (inr (tc97_0)) → (((z11) > (0) ∧ (a3) > ((((u1_1 - u0_17) + a1) + u4_1)) ∧ (tc97_0) = (1)) ∨ ((z11) > (0) ∧ (a3) ≤ ((((u1_1 - u0_17) + a1) + u4_1)) ∧ (((u1_1 - u0_17) + a1)) ≤ (u0_15) ∧ (tc97_0) = (0)) ∨ ((z11) > (0) ∧ (a3) ≤ ((((u1_1 - u0_17) + a1) + u4_1)) ∧ (((u1_1 - u0_17) + a1)) > (u0_15) ∧ (tc97_0) = (1)) ∨ ((z11) ≤ (0) ∧ (a3) ≤ (0) ∧ (tc97_0) = (1)) ∨ ((z11) ≤ (0) ∧ (a3) > (0) ∧ (a3) ≤ (u0_15) ∧ (tc97_0) = (0)) ∨ ((z11) ≤ (0) ∧ (a3) > (0) ∧ (a3) > (u0_15) ∧ (tc97_0) = (1))) → Ew 253 (d + 2) 97 ls [I (tc97_0)] σ c s Q := by
     as_aux_lemma =>
      intro tc97_0 ls σ F_c97 A_c97  lc97_0 lc97_1 lc97_2 lc97_5 H O hS_c97 hA_c97     jc97_0 jc97_1
      refine Ew_of (pc' := 99) (fun _ => x_istore rfl) ?_
      have htf : IMP ((0 : Int) ≤ (a3)) (((tc97_0) ≠ 0 ∧ tfF ((a3)) ((u1_1) - (u0_17) + (a1)) ((u4_1)) ((u0_15))) ∨ ((tc97_0) = 0 ∧ ¬ tfF ((a3)) ((u1_1) - (u0_17) + (a1)) ((u4_1)) ((u0_15)))) := fun z => by unfold tfF; omega
      refine Ew_of (pc' := 101) (fun _ => x_iload rfl rk_s) ?_
      refine w_ifeq (t := 107) rfl rfl (show inr (tc97_0) by omega) (fun b12 => ?_) (fun b12 => ?_)
      · have hnt : IMP ((0 : Int) ≤ (a3)) (¬ tfF ((a3)) ((u1_1) - (u0_17) + (a1)) ((u4_1)) ((u0_15))) := fun z => by rcases htf z with ⟨a, _⟩ | ⟨_, b⟩; (omega); (exact b)
        refine Ew_of (pc' := 108) (fun _ => x_aload_n rfl (rk_o (lc97_0) rfl rfl)) ?_
        refine Ew_of (pc' := 109) (fun _ => x_iload_n rfl (rk_o (lc97_1) rfl rfl)) ?_
        refine Ew_of (pc' := 110) (fun _ => x_iload_n rfl (rk_o (lc97_2) rfl rfl)) ?_
        refine w_iadd rfl ?_
        refine Ew_of (pc' := 113) (fun _ => x_iload rfl (rk_o (lc97_5) rfl rfl)) ?_
        refine v_inv H (o := 0) rfl rfl rfl rfl rfl rfl (by rfl) (C254 (D := pul [0, 1, 2] D) (N := pul [0, 1, 2] N) (HW_sub H (VS_of (show vsub V253 V254 [0, 1, 2] = true by decide +kernel))) (((hS_c97 0 10 rfl)).trans (pf1)) (((hS_c97 1 0 rfl)).trans (pf2)) (n2) (en2) (u0_11) (((hS_c97 0 11 rfl).trans (eu0_11))) (u0_15) (((hS_c97 0 15 rfl).trans (eu0_15))) (u1_1) (((hS_c97 1 1 rfl).trans (eu1_1))) (show inr ((a1 + a2)) by omega) (show inr (a4) by omega) (show 0 ≤ (u0_15) by omega) (show 0 ≤ (u1_1) ∧ (u1_1) ≤ (n2) ∧ (n2) ≤ 65536 by omega) (show 0 ≤ (u0_11) ∧ (u0_11) ≤ 65536 ∧ (u1_1) ≤ (u0_11) by omega) (show 0 ≤ ((a1 + a2)) ∧ ((a1 + a2)) ≤ 1000000 by omega) (show 0 ≤ (a4) ∧ (a4) ≤ (u1_1) by omega) (fun z13 σ13 F13' A13' H' O' hS13 hA13 pz13_0 pz13_1 pz13_2 pz13_3 => ⟨rfl, ?_⟩))
        refine v_back (c := c) (s := s) H (show vsub V253 V254 [0, 1, 2] = true by decide +kernel) H' O' (fun F13 A13 H O' eF13 eA13 => ?_)
        have O := OUT_trans O O'
        -- Unpacker.faultOfLength
        have : IMP ((0 : Int) ≤ (a3)) (FOq ((u0_19)) ((u0_20)) ((a1)) ((a2)) ((a3)) ((u0_17)) ((u4_1)) ((u0_15)) ((u1_1)) ((a4)) (moF ((u0_15))) ((u0_11)) ((z13))) := fun z => .inr (.inr ⟨by omega, hnt z, pz13_3⟩)
        exact w_ireturn rfl (k (z13) _ _ _ H O (SF_trans (SF_trans (SF_refl) hS_c97 (any_sub rfl)) (SF_glu (ι := [0, 1, 2]) hS13 eF13 (by decide +kernel)) (any_sub (l' := []) rfl)) (SA_trans (SA_trans (SA_refl) hA_c97 (any_subA rfl)) (SA_glu (ι := [0, 1, 2]) hA13 eA13 (by decide +kernel)) (any_subA (l' := []) rfl)) (show inr (z13) by omega) (show 0 ≤ (z13) ∧ (z13) ≤ 20 by omega) (show (z13) ≠ 0 ∨ (u1_1) + a1 + a2 ≤ (u0_11) ∧ (u0_20) + a1 ≤ (u0_19) ∧ 1 ≤ a3 ∧ a3 ≤ (u1_1) - (u0_17) + a1 + (u4_1) by omega) (show IMP ((0 : Int) ≤ a3) (FOq ((u0_19)) ((u0_20)) (a1) (a2) (a3) ((u0_17)) ((u4_1)) ((u0_15)) ((u1_1)) (a4) (moF ((u0_15))) ((u0_11)) ((z13))) by assumption))
      · refine Ew_of (pc' := 106) (fun _ => x_bipush (z := 18) rfl (by decide)) ?_
        have : IMP ((0 : Int) ≤ (a3)) (FOq ((u0_19)) ((u0_20)) ((a1)) ((a2)) ((a3)) ((u0_17)) ((u4_1)) ((u0_15)) ((u1_1)) ((a4)) (moF ((u0_15))) ((u0_11)) ((18))) := fun z => .inr (.inl ⟨by omega, by rcases htf z with ⟨_, b⟩ | ⟨a, _⟩; (exact b); (omega), by omega⟩)
        exact w_ireturn rfl (k (18) _ _ _ H O (SF_trans (SF_refl) hS_c97 (any_sub rfl)) (SA_trans (SA_refl) hA_c97 (any_subA rfl)) (show inr (18) by omega) (show 0 ≤ (18) ∧ (18) ≤ 20 by omega) (show (18) ≠ 0 ∨ (u1_1) + a1 + a2 ≤ (u0_11) ∧ (u0_20) + a1 ≤ (u0_19) ∧ 1 ≤ a3 ∧ a3 ≤ (u1_1) - (u0_17) + a1 + (u4_1) by omega) (show IMP ((0 : Int) ≤ a3) (FOq ((u0_19)) ((u0_20)) (a1) (a2) (a3) ((u0_17)) ((u4_1)) ((u0_15)) ((u1_1)) (a4) (moF ((u0_15))) ((u0_11)) ((18))) by assumption))
    refine w_ifgt (t := 63) rfl rfl (show inr (z11) by omega) (fun b14 => ?_) (fun b14 => ?_)
    · refine Ew_of (pc' := 64) (fun _ => x_lload_n rfl (rk2_o (rfl) rfl rfl)) ?_
      refine Ew_of (pc' := 66) (fun _ => x_lload rfl rk2_s) ?_
      refine Ew_of (pc' := 67) (fun _ => x_aload_n rfl (rk2_o (rfl) rfl rfl)) ?_
      refine v_g H (o := 0) (v := .ref (D 3)) rfl rfl rfl rfl rfl (vrf (pf3)) ?_
      refine v_g H (o := 3) (v := .ref (D 4)) rfl rfl rfl rfl rfl (vrf (pf4)) ?_
      refine v_g H (o := 4) (v := I (u4_1)) rfl rfl rfl rfl rfl (congrArg (fun z : Int => I z) ((eu4_1) : F 4 1 = u4_1)) ?_
      refine w_i2l rfl (show inr (u4_1) by omega) ?_
      refine w_ladd rfl ?_
      refine w_lcmp rfl (show inrJ (a3) by omega) (show inrJ ((((u1_1 - u0_17) + a1) + u4_1)) by omega) (fun z15 gz15 gaz15 gbz15 => ?_)
      refine w_ifgt (t := 92) rfl rfl (show inr (z15) by omega) (fun b16 => ?_) (fun b16 => ?_)
      · refine Ew_of (pc' := 93) (fun _ => x_iconst rfl) ?_
        refine Ew_of (pc' := 97) (fun _ => x_goto rfl rfl) ?_
        exact hc97 (1) _ _ _ _  (rk2_o (rfl) rfl rfl) (rk2_o (rfl) rfl rfl) (rk2_o (rfl) rfl rfl) (rk2_o (rfl) rfl rfl) H O (SF_refl) (SA_refl)     (show inr (1) by omega) (show ((z11) > (0) ∧ (a3) > ((((u1_1 - u0_17) + a1) + u4_1)) ∧ (1) = (1)) ∨ ((z11) > (0) ∧ (a3) ≤ ((((u1_1 - u0_17) + a1) + u4_1)) ∧ (((u1_1 - u0_17) + a1)) ≤ (u0_15) ∧ (1) = (0)) ∨ ((z11) > (0) ∧ (a3) ≤ ((((u1_1 - u0_17) + a1) + u4_1)) ∧ (((u1_1 - u0_17) + a1)) > (u0_15) ∧ (1) = (1)) ∨ ((z11) ≤ (0) ∧ (a3) ≤ (0) ∧ (1) = (1)) ∨ ((z11) ≤ (0) ∧ (a3) > (0) ∧ (a3) ≤ (u0_15) ∧ (1) = (0)) ∨ ((z11) ≤ (0) ∧ (a3) > (0) ∧ (a3) > (u0_15) ∧ (1) = (1)) by omega)
      · refine Ew_of (pc' := 84) (fun _ => x_lload rfl rk2_s) ?_
        refine Ew_of (pc' := 85) (fun _ => x_aload_n rfl (rk2_o (rfl) rfl rfl)) ?_
        refine v_g H (o := 0) (v := J (u0_15)) rfl rfl rfl rfl rfl (congrArg (fun z : Int => J z) ((eu0_15) : F 0 15 = u0_15)) ?_
        refine w_lcmp rfl (show inrJ (((u1_1 - u0_17) + a1)) by omega) (show inrJ (u0_15) by omega) (fun z17 gz17 gaz17 gbz17 => ?_)
        refine w_ifle (t := 96) rfl rfl (show inr (z17) by omega) (fun b18 => ?_) (fun b18 => ?_)
        · refine Ew_of (pc' := 97) (fun _ => x_iconst rfl) ?_
          exact hc97 (0) _ _ _ _  (rk2_o (rfl) rfl rfl) (rk2_o (rfl) rfl rfl) (rk2_o (rfl) rfl rfl) (rk2_o (rfl) rfl rfl) H O (SF_refl) (SA_refl)     (show inr (0) by omega) (show ((z11) > (0) ∧ (a3) > ((((u1_1 - u0_17) + a1) + u4_1)) ∧ (0) = (1)) ∨ ((z11) > (0) ∧ (a3) ≤ ((((u1_1 - u0_17) + a1) + u4_1)) ∧ (((u1_1 - u0_17) + a1)) ≤ (u0_15) ∧ (0) = (0)) ∨ ((z11) > (0) ∧ (a3) ≤ ((((u1_1 - u0_17) + a1) + u4_1)) ∧ (((u1_1 - u0_17) + a1)) > (u0_15) ∧ (0) = (1)) ∨ ((z11) ≤ (0) ∧ (a3) ≤ (0) ∧ (0) = (1)) ∨ ((z11) ≤ (0) ∧ (a3) > (0) ∧ (a3) ≤ (u0_15) ∧ (0) = (0)) ∨ ((z11) ≤ (0) ∧ (a3) > (0) ∧ (a3) > (u0_15) ∧ (0) = (1)) by omega)
        · refine Ew_of (pc' := 93) (fun _ => x_iconst rfl) ?_
          refine Ew_of (pc' := 97) (fun _ => x_goto rfl rfl) ?_
          exact hc97 (1) _ _ _ _  (rk2_o (rfl) rfl rfl) (rk2_o (rfl) rfl rfl) (rk2_o (rfl) rfl rfl) (rk2_o (rfl) rfl rfl) H O (SF_refl) (SA_refl)     (show inr (1) by omega) (show ((z11) > (0) ∧ (a3) > ((((u1_1 - u0_17) + a1) + u4_1)) ∧ (1) = (1)) ∨ ((z11) > (0) ∧ (a3) ≤ ((((u1_1 - u0_17) + a1) + u4_1)) ∧ (((u1_1 - u0_17) + a1)) ≤ (u0_15) ∧ (1) = (0)) ∨ ((z11) > (0) ∧ (a3) ≤ ((((u1_1 - u0_17) + a1) + u4_1)) ∧ (((u1_1 - u0_17) + a1)) > (u0_15) ∧ (1) = (1)) ∨ ((z11) ≤ (0) ∧ (a3) ≤ (0) ∧ (1) = (1)) ∨ ((z11) ≤ (0) ∧ (a3) > (0) ∧ (a3) ≤ (u0_15) ∧ (1) = (0)) ∨ ((z11) ≤ (0) ∧ (a3) > (0) ∧ (a3) > (u0_15) ∧ (1) = (1)) by omega)
    · refine Ew_of (pc' := 41) (fun _ => x_lload_n rfl (rk2_o (rfl) rfl rfl)) ?_
      refine Ew_of (pc' := 42) (fun _ => x_lconst (z := 0) rfl (by decide)) ?_
      refine w_lcmp rfl (show inrJ (a3) by omega) (show inrJ (0) by omega) (fun z19 gz19 gaz19 gbz19 => ?_)
      refine w_ifle (t := 55) rfl rfl (show inr (z19) by omega) (fun b20 => ?_) (fun b20 => ?_)
      · refine Ew_of (pc' := 56) (fun _ => x_iconst rfl) ?_
        refine Ew_of (pc' := 97) (fun _ => x_goto rfl rfl) ?_
        exact hc97 (1) _ _ _ _  (rk2_o (rfl) rfl rfl) (rk2_o (rfl) rfl rfl) (rk2_o (rfl) rfl rfl) (rk2_o (rfl) rfl rfl) H O (SF_refl) (SA_refl)     (show inr (1) by omega) (show ((z11) > (0) ∧ (a3) > ((((u1_1 - u0_17) + a1) + u4_1)) ∧ (1) = (1)) ∨ ((z11) > (0) ∧ (a3) ≤ ((((u1_1 - u0_17) + a1) + u4_1)) ∧ (((u1_1 - u0_17) + a1)) ≤ (u0_15) ∧ (1) = (0)) ∨ ((z11) > (0) ∧ (a3) ≤ ((((u1_1 - u0_17) + a1) + u4_1)) ∧ (((u1_1 - u0_17) + a1)) > (u0_15) ∧ (1) = (1)) ∨ ((z11) ≤ (0) ∧ (a3) ≤ (0) ∧ (1) = (1)) ∨ ((z11) ≤ (0) ∧ (a3) > (0) ∧ (a3) ≤ (u0_15) ∧ (1) = (0)) ∨ ((z11) ≤ (0) ∧ (a3) > (0) ∧ (a3) > (u0_15) ∧ (1) = (1)) by omega)
      · refine Ew_of (pc' := 47) (fun _ => x_lload_n rfl (rk2_o (rfl) rfl rfl)) ?_
        refine Ew_of (pc' := 48) (fun _ => x_aload_n rfl (rk2_o (rfl) rfl rfl)) ?_
        refine v_g H (o := 0) (v := J (u0_15)) rfl rfl rfl rfl rfl (congrArg (fun z : Int => J z) ((eu0_15) : F 0 15 = u0_15)) ?_
        refine w_lcmp rfl (show inrJ (a3) by omega) (show inrJ (u0_15) by omega) (fun z21 gz21 gaz21 gbz21 => ?_)
        refine w_ifle (t := 59) rfl rfl (show inr (z21) by omega) (fun b22 => ?_) (fun b22 => ?_)
        · refine Ew_of (pc' := 60) (fun _ => x_iconst rfl) ?_
          refine Ew_of (pc' := 97) (fun _ => x_goto rfl rfl) ?_
          exact hc97 (0) _ _ _ _  (rk2_o (rfl) rfl rfl) (rk2_o (rfl) rfl rfl) (rk2_o (rfl) rfl rfl) (rk2_o (rfl) rfl rfl) H O (SF_refl) (SA_refl)     (show inr (0) by omega) (show ((z11) > (0) ∧ (a3) > ((((u1_1 - u0_17) + a1) + u4_1)) ∧ (0) = (1)) ∨ ((z11) > (0) ∧ (a3) ≤ ((((u1_1 - u0_17) + a1) + u4_1)) ∧ (((u1_1 - u0_17) + a1)) ≤ (u0_15) ∧ (0) = (0)) ∨ ((z11) > (0) ∧ (a3) ≤ ((((u1_1 - u0_17) + a1) + u4_1)) ∧ (((u1_1 - u0_17) + a1)) > (u0_15) ∧ (0) = (1)) ∨ ((z11) ≤ (0) ∧ (a3) ≤ (0) ∧ (0) = (1)) ∨ ((z11) ≤ (0) ∧ (a3) > (0) ∧ (a3) ≤ (u0_15) ∧ (0) = (0)) ∨ ((z11) ≤ (0) ∧ (a3) > (0) ∧ (a3) > (u0_15) ∧ (0) = (1)) by omega)
        · refine Ew_of (pc' := 56) (fun _ => x_iconst rfl) ?_
          refine Ew_of (pc' := 97) (fun _ => x_goto rfl rfl) ?_
          exact hc97 (1) _ _ _ _  (rk2_o (rfl) rfl rfl) (rk2_o (rfl) rfl rfl) (rk2_o (rfl) rfl rfl) (rk2_o (rfl) rfl rfl) H O (SF_refl) (SA_refl)     (show inr (1) by omega) (show ((z11) > (0) ∧ (a3) > ((((u1_1 - u0_17) + a1) + u4_1)) ∧ (1) = (1)) ∨ ((z11) > (0) ∧ (a3) ≤ ((((u1_1 - u0_17) + a1) + u4_1)) ∧ (((u1_1 - u0_17) + a1)) ≤ (u0_15) ∧ (1) = (0)) ∨ ((z11) > (0) ∧ (a3) ≤ ((((u1_1 - u0_17) + a1) + u4_1)) ∧ (((u1_1 - u0_17) + a1)) > (u0_15) ∧ (1) = (1)) ∨ ((z11) ≤ (0) ∧ (a3) ≤ (0) ∧ (1) = (1)) ∨ ((z11) ≤ (0) ∧ (a3) > (0) ∧ (a3) ≤ (u0_15) ∧ (1) = (0)) ∨ ((z11) ≤ (0) ∧ (a3) > (0) ∧ (a3) > (u0_15) ∧ (1) = (1)) by omega)
  · refine Ew_of (pc' := 15) (fun _ => x_bipush (z := 19) rfl (by decide)) ?_
    have : IMP ((0 : Int) ≤ (a3)) (FOq ((u0_19)) ((u0_20)) ((a1)) ((a2)) ((a3)) ((u0_17)) ((u4_1)) ((u0_15)) ((u1_1)) ((a4)) (moF ((u0_15))) ((u0_11)) ((19))) := fun _ => .inl ⟨by omega, by omega⟩
    exact w_ireturn rfl (k (19) _ _ _ H O (SF_refl) (SA_refl) (show inr (19) by omega) (show 0 ≤ (19) ∧ (19) ≤ 20 by omega) (show (19) ≠ 0 ∨ (u1_1) + a1 + a2 ≤ (u0_11) ∧ (u0_20) + a1 ≤ (u0_19) ∧ 1 ≤ a3 ∧ a3 ≤ (u1_1) - (u0_17) + a1 + (u4_1) by omega) (show IMP ((0 : Int) ≤ a3) (FOq ((u0_19)) ((u0_20)) (a1) (a2) (a3) ((u0_17)) ((u4_1)) ((u0_15)) ((u1_1)) (a4) (moF ((u0_15))) ((u0_11)) ((19))) by assumption))
abbrev V252_c10 : vV := [(0, 12, [(4, 0), (4, 0), (4, 0), (4, 0), (4, 0), (4, 0), (4, 0), (4, 0), (0, 0), (0, 0), (4, 0), (0, 0), (4, 0), (4, 0), (0, 0), (2, 0), (0, 0), (0, 0), (0, 0), (0, 0), (0, 0), (0, 0)]), (0, 9, [(4, 0), (4, 0), (4, 0)]), (1, 5, []), (0, 8, [(0, 0), (0, 0), (4, 0), (4, 0), (4, 0), (4, 0), (4, 0), (4, 0), (4, 0), (4, 0), (4, 0), (0, 0), (0, 0)]), (1, 1, []), (1, 1, []), (1, 1, []), (1, 1, []), (1, 1, []), (1, 1, []), (1, 1, []), (1, 1, []), (1, 1, []), (0, 2, [(4, 0), (0, 0), (0, 0)]), (1, 0, [])]
/-- Unpacker.moveState: this, this.now, this.now.tables, this.now.tables.0, this.now.tables.0.points, this.now.tables.0.masses, this.now.tables.0.mostBits, this.now.tables.0.starts, this.now.tables.0.symbolAt, this.now.tables.0.numberAt, this.now.tables.0.placeOf, this.now.tables.0.used, this.states, this.source, this.in -/
theorem C252_c10 {σE : rS} {D N : Nat → Nat} {F : hF} {A : hA} {d c s : Nat} {Q : wQ} (H : HW V252_c10 σE D N F A)  (pf1 : F 0 3 = (D 1 : Int)) (pf2 : F 1 1 = (D 2 : Int)) (pf3 : A 2 0 = (D 3 : Int)) (pf4 : F 3 2 = (D 4 : Int)) (pf5 : F 3 3 = (D 5 : Int)) (pf6 : F 3 4 = (D 6 : Int)) (pf7 : F 3 5 = (D 7 : Int)) (pf8 : F 3 7 = (D 8 : Int)) (pf9 : F 3 8 = (D 9 : Int)) (pf10 : F 3 9 = (D 10 : Int)) (pf11 : F 3 6 = (D 11 : Int)) (pf12 : F 0 6 = (D 12 : Int)) (pf13 : F 0 5 = (D 13 : Int)) (pf14 : F 0 7 = (D 14 : Int)) (pk0 : F 13 0 = (D 14 : Int)) (n2 : Int) (en2 : (N 2 : Int) = n2) (n4 : Int) (en4 : (N 4 : Int) = n4) (n5 : Int) (en5 : (N 5 : Int) = n5) (n6 : Int) (en6 : (N 6 : Int) = n6) (n7 : Int) (en7 : (N 7 : Int) = n7) (n8 : Int) (en8 : (N 8 : Int) = n8) (n9 : Int) (en9 : (N 9 : Int) = n9) (n10 : Int) (en10 : (N 10 : Int) = n10) (n11 : Int) (en11 : (N 11 : Int) = n11) (n12 : Int) (en12 : (N 12 : Int) = n12) (n14 : Int) (en14 : (N 14 : Int) = n14) (u3_0 : Int) (eu3_0 : F 3 0 = u3_0) (u3_1 : Int) (eu3_1 : F 3 1 = u3_1) (u13_1 : Int) (eu13_1 : F 13 1 = u13_1) (u13_2 : Int) (eu13_2 : F 13 2 = u13_2) (w4 : Int → Int) (ew4 : A 4 = w4) (w5 : Int → Int) (ew5 : A 5 = w5) (w6 : Int → Int) (ew6 : A 6 = w6) (w7 : Int → Int) (ew7 : A 7 = w7) (w8 : Int → Int) (ew8 : A 8 = w8) (w9 : Int → Int) (ew9 : A 9 = w9) (w10 : Int → Int) (ew10 : A 10 = w10) (w12 : Int → Int) (ew12 : A 12 = w12) (w14 : Int → Int) (ew14 : A 14 = w14) (XX : Tb) (h0 : inr (0)) (h1 : SL ((w4)) ((u3_1)) ((u3_0)) ((w5)) ((w6)) ((w7)) ((w8)) ((w9)) ((w10))) (h2 : SZD ((n4)) ((n5)) ((n6)) ((n7)) ((n11)) ((n8)) ((n9)) ((n10)) ((u3_1)) ((u3_0))) (h3 : 0 ≤ ((w12)) 0 ∧ ((w12)) 0 < p2 ((u3_0))) (h4 : (n12) = 3 ∧ (n2) = 3) (h5 : 0 ≤ (u13_1) ∧ (u13_1) ≤ 65536 ∧ 0 ≤ (u13_2) ∧ (u13_2) ≤ 8 * ((n14) - (u13_1)) ∧ (n14) ≤ 65536) (h6 : ∀ b, BB ((w4)) ((u3_0)) ((w8)) (((w12)) 0) b → b ≤ (u13_2)) (h7 : SHX (XX) ((u3_0)) ((u3_1)) ((w4))) (k : ∀ (σ : rS) (F' : hF) (A' : hA), HW V252_c10 σ D N F' A' → OUT (V252_c10).length D N σE c s D N σ c s → SF [(13, 2)] F F' → SA [12] A A' → ∀ y13_2 : Int, F' 13 2 = y13_2 → ∀ v12 : Int → Int, A' 12 = v12 → (0 ≤ ((v12)) 0 ∧ ((v12)) 0 < p2 ((u3_0))) → (0 = 0 ∨ ((v12)) 0 = ((w12)) 0) → (0 = 1 ∨ ((v12)) 1 = ((w12)) 1) → (0 = 2 ∨ ((v12)) 2 = ((w12)) 2) → (0 ≤ (y13_2) ∧ (y13_2) ≤ (u13_2)) → (∀ b, BB ((w4)) ((u3_0)) ((w8)) (((w12)) 0) b → (y13_2) = (u13_2) - b) → (∀ s b z, tsF XX (((w12)) 0) = (s, b, z) → ((v12)) 0 = z + bvA (ub8 ((w14))) (8 * (u13_1)) ((u13_2)) b ∧ (y13_2) = (u13_2) - b) → Q none σ c s) : Ew 252 (d + 2) 0 (rargs 0 [.ref (D 0), I 0]) [] σE c s Q := by
  have O := OUT_refl (n := (V252_c10).length) (D := D) (N := N) (σ := σE) (c := c) (s := s)
  have HE := H
  have r1 : (-2147483648 : Int) ≤ u3_0 ∧ u3_0 ≤ 2147483647 := by have h1 : (-2147483648 : Int) ≤ F 3 0 ∧ F 3 0 ≤ 2147483647 := H.krg 3 0 (by decide); rw [show F 3 0 = u3_0 from (eu3_0)] at h1; exact h1
  have r2 : (-2147483648 : Int) ≤ u3_1 ∧ u3_1 ≤ 2147483647 := by have h1 : (-2147483648 : Int) ≤ F 3 1 ∧ F 3 1 ≤ 2147483647 := H.krg 3 1 (by decide); rw [show F 3 1 = u3_1 from (eu3_1)] at h1; exact h1
  have r3 : (-2147483648 : Int) ≤ u13_1 ∧ u13_1 ≤ 2147483647 := by have h1 : (-2147483648 : Int) ≤ F 13 1 ∧ F 13 1 ≤ 2147483647 := H.krg 13 1 (by decide); rw [show F 13 1 = u13_1 from (eu13_1)] at h1; exact h1
  have r4 : (-2147483648 : Int) ≤ u13_2 ∧ u13_2 ≤ 2147483647 := by have h1 : (-2147483648 : Int) ≤ F 13 2 ∧ F 13 2 ≤ 2147483647 := H.krg 13 2 (by decide); rw [show F 13 2 = u13_2 from (eu13_2)] at h1; exact h1
  replace pf1 := HIDm pf1
  replace pf2 := HIDm pf2
  replace pf3 := HIDm pf3
  replace pf4 := HIDm pf4
  replace pf5 := HIDm pf5
  replace pf6 := HIDm pf6
  replace pf7 := HIDm pf7
  replace pf8 := HIDm pf8
  replace pf9 := HIDm pf9
  replace pf10 := HIDm pf10
  replace pf11 := HIDm pf11
  replace pf12 := HIDm pf12
  replace pf13 := HIDm pf13
  replace pf14 := HIDm pf14
  replace pk0 := HIDm pk0
  replace en2 := HIDm en2
  replace en4 := HIDm en4
  replace en5 := HIDm en5
  replace en6 := HIDm en6
  replace en7 := HIDm en7
  replace en8 := HIDm en8
  replace en9 := HIDm en9
  replace en10 := HIDm en10
  replace en11 := HIDm en11
  replace en12 := HIDm en12
  replace en14 := HIDm en14
  replace eu3_0 := HIDm eu3_0
  replace eu3_1 := HIDm eu3_1
  replace eu13_1 := HIDm eu13_1
  replace eu13_2 := HIDm eu13_2
  have r5 : (0 : Int) ≤ n2 ∧ n2 ≤ 1000000 := by have h1 := H.nle 2 (by decide); have h2 : (N 2 : Int) = n2 := en2; omega
  have r6 : (0 : Int) ≤ n4 ∧ n4 ≤ 1000000 := by have h1 := H.nle 4 (by decide); have h2 : (N 4 : Int) = n4 := en4; omega
  have r7 : (0 : Int) ≤ n5 ∧ n5 ≤ 1000000 := by have h1 := H.nle 5 (by decide); have h2 : (N 5 : Int) = n5 := en5; omega
  have r8 : (0 : Int) ≤ n6 ∧ n6 ≤ 1000000 := by have h1 := H.nle 6 (by decide); have h2 : (N 6 : Int) = n6 := en6; omega
  have r9 : (0 : Int) ≤ n7 ∧ n7 ≤ 1000000 := by have h1 := H.nle 7 (by decide); have h2 : (N 7 : Int) = n7 := en7; omega
  have r10 : (0 : Int) ≤ n8 ∧ n8 ≤ 1000000 := by have h1 := H.nle 8 (by decide); have h2 : (N 8 : Int) = n8 := en8; omega
  have r11 : (0 : Int) ≤ n9 ∧ n9 ≤ 1000000 := by have h1 := H.nle 9 (by decide); have h2 : (N 9 : Int) = n9 := en9; omega
  have r12 : (0 : Int) ≤ n10 ∧ n10 ≤ 1000000 := by have h1 := H.nle 10 (by decide); have h2 : (N 10 : Int) = n10 := en10; omega
  have r13 : (0 : Int) ≤ n11 ∧ n11 ≤ 1000000 := by have h1 := H.nle 11 (by decide); have h2 : (N 11 : Int) = n11 := en11; omega
  have r14 : (0 : Int) ≤ n12 ∧ n12 ≤ 1000000 := by have h1 := H.nle 12 (by decide); have h2 : (N 12 : Int) = n12 := en12; omega
  have r15 : (0 : Int) ≤ n14 ∧ n14 ≤ 1000000 := by have h1 := H.nle 14 (by decide); have h2 : (N 14 : Int) = n14 := en14; omega
  have hle : ∀ b, BB ((w4)) ((u3_0)) ((w8)) (((w12)) 0) b → b ≤ (u13_2) := by assumption
  have hsl : SL ((w4)) ((u3_1)) ((u3_0)) ((w5)) ((w6)) ((w7)) ((w8)) ((w9)) ((w10)) := by assumption
  have hsf := SHD_f hsl.1
  have hSX : SHX (XX) ((u3_0)) ((u3_1)) ((w4)) := by assumption
  refine Ew_of (pc' := 1) (fun _ => x_aload_n rfl rfl) ?_
  refine v_g H (o := 0) (v := .ref (D 1)) rfl rfl rfl rfl rfl (vrf (pf1)) ?_
  refine v_g H (o := 1) (v := .ref (D 2)) rfl rfl rfl rfl rfl (vrf (pf2)) ?_
  refine Ew_of (pc' := 8) (fun _ => x_iload_n rfl rfl) ?_
  refine v_lR H (o := 2) rfl rfl rfl rfl rfl (n := n2) (en2) (show 0 ≤ 0 ∧ 0 < n2 by omega) (z := ((D 3 : Nat) : Int)) (v := .ref (D 3)) (pf3) (vrf rfl) ?_
  refine Ew_of (pc' := 10) (fun _ => x_astore_n rfl) ?_
  refine Ew_of (pc' := 11) (fun _ => x_aload_n rfl (rk_o (rfl) rfl rfl)) ?_
  refine v_g H (o := 0) (v := .ref (D 12)) rfl rfl rfl rfl rfl (vrf (pf12)) ?_
  refine Ew_of (pc' := 15) (fun _ => x_iload_n rfl (rk_o (rfl) rfl rfl)) ?_
  refine Ew_of (pc' := 16) (fun _ => x_aload_n rfl rk_s) ?_
  refine Ew_of (pc' := 17) (fun _ => x_aload_n rfl (rk_o (rfl) rfl rfl)) ?_
  refine v_g H (o := 0) (v := .ref (D 12)) rfl rfl rfl rfl rfl (vrf (pf12)) ?_
  refine Ew_of (pc' := 21) (fun _ => x_iload_n rfl (rk_o (rfl) rfl rfl)) ?_
  refine v_lI H (o := 12) rfl rfl rfl rfl (n := n12) (en12) (show 0 ≤ 0 ∧ 0 < n12 by omega) (fun v16 ev16 qv16 => ?_)
  have ev16 : (w12) (0) = v16 := (congrFun (ew12) (0)).symm.trans ev16
  have hva := ev16
  refine v_inv H (o := 3) rfl rfl rfl rfl rfl rfl (by rfl) (C173o (D := pul [3, 4, 5, 6, 7, 8, 9, 10, 11] D) (N := pul [3, 4, 5, 6, 7, 8, 9, 10, 11] N) (HW_sub H (VS_of (show vsub V252_c10 V173 [3, 4, 5, 6, 7, 8, 9, 10, 11] = true by decide +kernel))) (pf4) (pf5) (pf6) (pf7) (pf8) (pf9) (pf10) (pf11) (n4) (en4) (n5) (en5) (n6) (en6) (n7) (en7) (n8) (en8) (n9) (en9) (n10) (en10) (n11) (en11) (u3_0) ((eu3_0)) (u3_1) ((eu3_1)) (w4) (ew4) (w5) (ew5) (w6) (ew6) (w7) (ew7) (w8) (ew8) (w9) (ew9) (w10) (ew10) (show inr (v16) by omega) (show SL ((w4)) ((u3_1)) ((u3_0)) ((w5)) ((w6)) ((w7)) ((w8)) ((w9)) ((w10)) by assumption) (show SZD ((n4)) ((n5)) ((n6)) ((n7)) ((n11)) ((n8)) ((n9)) ((n10)) ((u3_1)) ((u3_0)) by assumption) (show 0 ≤ (v16) ∧ (v16) < p2 ((u3_0)) by omega) (fun z17 σ17 F17' A17' H' O' hS17 hA17 pz17_0 pz17_1 pz17_2 => ⟨rfl, ?_⟩))
  refine v_back (c := c) (s := s) H (show vsub V252_c10 V173 [3, 4, 5, 6, 7, 8, 9, 10, 11] = true by decide +kernel) H' O' (fun F17 A17 H O' eF17 eA17 => ?_)
  have O := OUT_trans O O'
  -- Share.baseBehind
  have hbas : BAS ((w4)) ((u3_0)) ((w8)) (((w12)) 0) (z17) := by rw [hva]; exact pz17_1
  refine Ew_of (pc' := 26) (fun _ => x_aload_n rfl (rk_o (rfl) rfl rfl)) ?_
  refine v_g H (o := 0) (v := .ref (D 13)) rfl rfl rfl rfl rfl (vrf ((((show F17 0 5 = F 0 5 from (eF17 0 5)))).trans (pf13))) ?_
  refine Ew_of (pc' := 30) (fun _ => x_aload_n rfl rk_s) ?_
  refine Ew_of (pc' := 31) (fun _ => x_aload_n rfl (rk_o (rfl) rfl rfl)) ?_
  refine v_g H (o := 0) (v := .ref (D 12)) rfl rfl rfl rfl rfl (vrf ((((show F17 0 6 = F 0 6 from (eF17 0 6)))).trans (pf12))) ?_
  refine Ew_of (pc' := 35) (fun _ => x_iload_n rfl (rk_o (rfl) rfl rfl)) ?_
  refine v_lI H (o := 12) rfl rfl rfl rfl (n := n12) (en12) (show 0 ≤ 0 ∧ 0 < n12 by omega) (fun v18 ev18 qv18 => ?_)
  have ev18 : (w12) (0) = v18 := (congrFun (((show A17 12 = A 12 from (eA17 12))).trans (ew12)) (0)).symm.trans ev18
  have hvb := ev18
  refine v_inv H (o := 3) rfl rfl rfl rfl rfl rfl (by rfl) (C172o (D := pul [3, 4, 5, 6, 7, 8, 9, 10, 11] D) (N := pul [3, 4, 5, 6, 7, 8, 9, 10, 11] N) (HW_sub H (VS_of (show vsub V252_c10 V172 [3, 4, 5, 6, 7, 8, 9, 10, 11] = true by decide +kernel))) ((((show F17 3 2 = F 3 2 from (eF17 3 2).trans (hS17 0 2 rfl)))).trans (pf4)) ((((show F17 3 3 = F 3 3 from (eF17 3 3).trans (hS17 0 3 rfl)))).trans (pf5)) ((((show F17 3 4 = F 3 4 from (eF17 3 4).trans (hS17 0 4 rfl)))).trans (pf6)) ((((show F17 3 5 = F 3 5 from (eF17 3 5).trans (hS17 0 5 rfl)))).trans (pf7)) ((((show F17 3 7 = F 3 7 from (eF17 3 7).trans (hS17 0 7 rfl)))).trans (pf8)) ((((show F17 3 8 = F 3 8 from (eF17 3 8).trans (hS17 0 8 rfl)))).trans (pf9)) ((((show F17 3 9 = F 3 9 from (eF17 3 9).trans (hS17 0 9 rfl)))).trans (pf10)) ((((show F17 3 6 = F 3 6 from (eF17 3 6).trans (hS17 0 6 rfl)))).trans (pf11)) (n4) (en4) (n5) (en5) (n6) (en6) (n7) (en7) (n8) (en8) (n9) (en9) (n10) (en10) (n11) (en11) (u3_0) ((((show F17 3 0 = F 3 0 from (eF17 3 0).trans (hS17 0 0 rfl))).trans (eu3_0))) (u3_1) ((((show F17 3 1 = F 3 1 from (eF17 3 1).trans (hS17 0 1 rfl))).trans (eu3_1))) (w4) (((show A17 4 = A 4 from (eA17 4).trans (funext (hA17 1 rfl)))).trans (ew4)) (w5) (((show A17 5 = A 5 from (eA17 5).trans (funext (hA17 2 rfl)))).trans (ew5)) (w6) (((show A17 6 = A 6 from (eA17 6).trans (funext (hA17 3 rfl)))).trans (ew6)) (w7) (((show A17 7 = A 7 from (eA17 7).trans (funext (hA17 4 rfl)))).trans (ew7)) (w8) (((show A17 8 = A 8 from (eA17 8).trans (funext (hA17 5 rfl)))).trans (ew8)) (w9) (((show A17 9 = A 9 from (eA17 9).trans (funext (hA17 6 rfl)))).trans (ew9)) (w10) (((show A17 10 = A 10 from (eA17 10).trans (funext (hA17 7 rfl)))).trans (ew10)) (show inr (v18) by omega) (show SL ((w4)) ((u3_1)) ((u3_0)) ((w5)) ((w6)) ((w7)) ((w8)) ((w9)) ((w10)) by assumption) (show SZD ((n4)) ((n5)) ((n6)) ((n7)) ((n11)) ((n8)) ((n9)) ((n10)) ((u3_1)) ((u3_0)) by assumption) (show 0 ≤ (v18) ∧ (v18) < p2 ((u3_0)) by omega) (fun z19 σ19 F19' A19' H' O' hS19 hA19 pz19_0 pz19_1 pz19_2 => ⟨rfl, ?_⟩))
  refine v_back (c := c) (s := s) H (show vsub V252_c10 V172 [3, 4, 5, 6, 7, 8, 9, 10, 11] = true by decide +kernel) H' O' (fun F19 A19 H O' eF19 eA19 => ?_)
  have O := OUT_trans O O'
  -- Share.bitsBehind
  have hbb : BB ((w4)) ((u3_0)) ((w8)) (((w12)) 0) (z19) := by rw [hvb]; exact pz19_1
  have hbl := hle _ hbb
  have hbx := hbas _ hbb
  have hts := SHX_ts hSX hsl (by omega) (by omega) hbb hbas rfl
  refine v_inv H (o := 13) rfl rfl rfl rfl rfl rfl (by rfl) (C95 (D := pul [13, 14] D) (N := pul [13, 14] N) (HW_sub H (VS_of (show vsub V252_c10 V95 [13, 14] = true by decide +kernel))) (((((show F19 13 0 = F17 13 0 from (eF19 13 0))).trans ((show F17 13 0 = F 13 0 from (eF17 13 0))))).trans (pk0)) (n14) (en14) (u13_1) (((((show F19 13 1 = F17 13 1 from (eF19 13 1))).trans ((show F17 13 1 = F 13 1 from (eF17 13 1)))).trans (eu13_1))) (u13_2) (((((show F19 13 2 = F17 13 2 from (eF19 13 2))).trans ((show F17 13 2 = F 13 2 from (eF17 13 2)))).trans (eu13_2))) (w14) (((show A19 14 = A17 14 from (eA19 14))).trans (((show A17 14 = A 14 from (eA17 14))).trans (ew14))) (show inr (z19) by omega) (show 0 ≤ (z19) ∧ (z19) ≤ 31 by omega) (show 0 ≤ (u13_1) ∧ (u13_1) ≤ 65536 ∧ (u13_2) ≤ 8 * ((n14) - (u13_1)) ∧ (n14) ≤ 65536 by omega) (show -100 ≤ (u13_2) by omega) (fun z20 σ20 F20' A20' H' O' hS20 hA20 y20_0_2 ey20_0_2 pz20_0 pz20_1 pz20_2 pz20_3 => ⟨rfl, ?_⟩))
  replace ey20_0_2 := HIDm ey20_0_2
  refine v_back (c := c) (s := s) H (show vsub V252_c10 V95 [13, 14] = true by decide +kernel) H' O' (fun F20 A20 H O' eF20 eA20 => ?_)
  have O := OUT_trans O O'
  -- BitSource.take
  have r21 : (-2147483648 : Int) ≤ y20_0_2 ∧ y20_0_2 ≤ 2147483647 := by have h1 : (-2147483648 : Int) ≤ F20 13 2 ∧ F20 13 2 ≤ 2147483647 := H.krg 13 2 (by decide); rw [show F20 13 2 = y20_0_2 from ((eF20 13 2).trans ey20_0_2)] at h1; exact h1
  have hlf : ∀ b, BB ((w4)) ((u3_0)) ((w8)) (((w12)) 0) b → (y20_0_2) = (u13_2) - b := fun b hb => by have := BB_uniq hbb hb; omega
  have htk : z20 = bvA (ub8 ((w14))) (8 * (u13_1)) ((u13_2)) (z19) := pk_A pz20_3 rfl (by omega) rfl rfl
  refine w_l2i rfl ?_
  refine w_iadd rfl ?_
  have hs_ := upd1_s (a := ((w12))) (j := 0) (z := ((z17 + z20)))
  have hu0_ : (0 : Int) = 0 ∨ upd1 ((w12)) 0 (((z17 + z20))) 0 = ((w12)) 0 := by by_cases w : (0 : Int) = 0; exact .inl (by omega); exact .inr (upd1_o w)
  have hu1_ : (0 : Int) = 1 ∨ upd1 ((w12)) 0 (((z17 + z20))) 1 = ((w12)) 1 := by by_cases w : (1 : Int) = 0; exact .inl (by omega); exact .inr (upd1_o w)
  have hu2_ : (0 : Int) = 2 ∨ upd1 ((w12)) 0 (((z17 + z20))) 2 = ((w12)) 2 := by by_cases w : (2 : Int) = 0; exact .inl (by omega); exact .inr (upd1_o w)
  refine v_sI H (o := 12) (z := (z17 + z20)) rfl rfl rfl rfl (n := n12) (en12) (show 0 ≤ 0 ∧ 0 < n12 by omega) (show inr ((z17 + z20)) by omega) (fun σ H O' => ?_)
  have O := OUT_trans O O'
  have : ∀ s b z, tsF XX (((w12)) 0) = (s, b, z) → ((upd1 (w12) (0) ((z17 + z20)))) 0 = z + bvA (ub8 ((w14))) (8 * (u13_1)) ((u13_2)) b ∧ (y20_0_2) = (u13_2) - b := fun s b z h => by have h0 := hts.symm.trans h; have h1 : z19 = b := congrArg (fun q => q.2.1) h0; have h2 : z17 = z := congrArg (fun q => q.2.2) h0; subst h1 h2; exact ⟨by rw [upd1_s, ← htk]; omega, by omega⟩
  exact w_ret rfl (k _ _ _ H O (SF_trans (SF_trans (SF_trans (SF_refl) (SF_glu (ι := [3, 4, 5, 6, 7, 8, 9, 10, 11]) hS17 eF17 (by decide +kernel)) (any_sub (l' := []) rfl)) (SF_glu (ι := [3, 4, 5, 6, 7, 8, 9, 10, 11]) hS19 eF19 (by decide +kernel)) (any_sub (l' := []) rfl)) (SF_glu (ι := [13, 14]) hS20 eF20 (by decide +kernel)) (any_sub (l' := [(13, 2)]) rfl)) (SA_upd (SA_trans (SA_trans (SA_trans (SA_refl) (SA_glu (ι := [3, 4, 5, 6, 7, 8, 9, 10, 11]) hA17 eA17 (by decide +kernel)) (any_subA (l' := []) rfl)) (SA_glu (ι := [3, 4, 5, 6, 7, 8, 9, 10, 11]) hA19 eA19 (by decide +kernel)) (any_subA (l' := []) rfl)) (SA_glu (ι := [13, 14]) hA20 eA20 (by decide +kernel)) (any_subA (l' := []) rfl)) rfl) (y20_0_2) (((eF20 13 2).trans ey20_0_2)) (upd1 (w12) (0) ((z17 + z20))) (congrArg (fun q => upd1 q (0) ((z17 + z20))) (((show A20 12 = A19 12 from (eA20 12))).trans (((show A19 12 = A17 12 from (eA19 12))).trans (((show A17 12 = A 12 from (eA17 12))).trans (ew12))))) (show 0 ≤ ((upd1 (w12) (0) ((z17 + z20)))) 0 ∧ ((upd1 (w12) (0) ((z17 + z20)))) 0 < p2 ((u3_0)) by omega) (show 0 = 0 ∨ ((upd1 (w12) (0) ((z17 + z20)))) 0 = ((w12)) 0 by omega) (show 0 = 1 ∨ ((upd1 (w12) (0) ((z17 + z20)))) 1 = ((w12)) 1 by omega) (show 0 = 2 ∨ ((upd1 (w12) (0) ((z17 + z20)))) 2 = ((w12)) 2 by omega) (show 0 ≤ (y20_0_2) ∧ (y20_0_2) ≤ (u13_2) by omega) (show ∀ b, BB ((w4)) ((u3_0)) ((w8)) (((w12)) 0) b → (y20_0_2) = (u13_2) - b by assumption) (show ∀ s b z, tsF XX (((w12)) 0) = (s, b, z) → ((upd1 (w12) (0) ((z17 + z20)))) 0 = z + bvA (ub8 ((w14))) (8 * (u13_1)) ((u13_2)) b ∧ (y20_0_2) = (u13_2) - b by assumption))
abbrev V252_c11 : vV := [(0, 12, [(4, 0), (4, 0), (4, 0), (4, 0), (4, 0), (4, 0), (4, 0), (4, 0), (0, 0), (0, 0), (4, 0), (0, 0), (4, 0), (4, 0), (0, 0), (2, 0), (0, 0), (0, 0), (0, 0), (0, 0), (0, 0), (0, 0)]), (0, 9, [(4, 0), (4, 0), (4, 0)]), (1, 5, []), (0, 8, [(0, 0), (0, 0), (4, 0), (4, 0), (4, 0), (4, 0), (4, 0), (4, 0), (4, 0), (4, 0), (4, 0), (0, 0), (0, 0)]), (1, 1, []), (1, 1, []), (1, 1, []), (1, 1, []), (1, 1, []), (1, 1, []), (1, 1, []), (1, 1, []), (1, 1, []), (0, 2, [(4, 0), (0, 0), (0, 0)]), (1, 0, [])]
/-- Unpacker.moveState: this, this.now, this.now.tables, this.now.tables.1, this.now.tables.1.points, this.now.tables.1.masses, this.now.tables.1.mostBits, this.now.tables.1.starts, this.now.tables.1.symbolAt, this.now.tables.1.numberAt, this.now.tables.1.placeOf, this.now.tables.1.used, this.states, this.source, this.in -/
theorem C252_c11 {σE : rS} {D N : Nat → Nat} {F : hF} {A : hA} {d c s : Nat} {Q : wQ} (H : HW V252_c11 σE D N F A)  (pf1 : F 0 3 = (D 1 : Int)) (pf2 : F 1 1 = (D 2 : Int)) (pf3 : A 2 1 = (D 3 : Int)) (pf4 : F 3 2 = (D 4 : Int)) (pf5 : F 3 3 = (D 5 : Int)) (pf6 : F 3 4 = (D 6 : Int)) (pf7 : F 3 5 = (D 7 : Int)) (pf8 : F 3 7 = (D 8 : Int)) (pf9 : F 3 8 = (D 9 : Int)) (pf10 : F 3 9 = (D 10 : Int)) (pf11 : F 3 6 = (D 11 : Int)) (pf12 : F 0 6 = (D 12 : Int)) (pf13 : F 0 5 = (D 13 : Int)) (pf14 : F 0 7 = (D 14 : Int)) (pk0 : F 13 0 = (D 14 : Int)) (n2 : Int) (en2 : (N 2 : Int) = n2) (n4 : Int) (en4 : (N 4 : Int) = n4) (n5 : Int) (en5 : (N 5 : Int) = n5) (n6 : Int) (en6 : (N 6 : Int) = n6) (n7 : Int) (en7 : (N 7 : Int) = n7) (n8 : Int) (en8 : (N 8 : Int) = n8) (n9 : Int) (en9 : (N 9 : Int) = n9) (n10 : Int) (en10 : (N 10 : Int) = n10) (n11 : Int) (en11 : (N 11 : Int) = n11) (n12 : Int) (en12 : (N 12 : Int) = n12) (n14 : Int) (en14 : (N 14 : Int) = n14) (u3_0 : Int) (eu3_0 : F 3 0 = u3_0) (u3_1 : Int) (eu3_1 : F 3 1 = u3_1) (u13_1 : Int) (eu13_1 : F 13 1 = u13_1) (u13_2 : Int) (eu13_2 : F 13 2 = u13_2) (w4 : Int → Int) (ew4 : A 4 = w4) (w5 : Int → Int) (ew5 : A 5 = w5) (w6 : Int → Int) (ew6 : A 6 = w6) (w7 : Int → Int) (ew7 : A 7 = w7) (w8 : Int → Int) (ew8 : A 8 = w8) (w9 : Int → Int) (ew9 : A 9 = w9) (w10 : Int → Int) (ew10 : A 10 = w10) (w12 : Int → Int) (ew12 : A 12 = w12) (w14 : Int → Int) (ew14 : A 14 = w14) (XX : Tb) (h0 : inr (1)) (h1 : SL ((w4)) ((u3_1)) ((u3_0)) ((w5)) ((w6)) ((w7)) ((w8)) ((w9)) ((w10))) (h2 : SZD ((n4)) ((n5)) ((n6)) ((n7)) ((n11)) ((n8)) ((n9)) ((n10)) ((u3_1)) ((u3_0))) (h3 : 0 ≤ ((w12)) 1 ∧ ((w12)) 1 < p2 ((u3_0))) (h4 : (n12) = 3 ∧ (n2) = 3) (h5 : 0 ≤ (u13_1) ∧ (u13_1) ≤ 65536 ∧ 0 ≤ (u13_2) ∧ (u13_2) ≤ 8 * ((n14) - (u13_1)) ∧ (n14) ≤ 65536) (h6 : ∀ b, BB ((w4)) ((u3_0)) ((w8)) (((w12)) 1) b → b ≤ (u13_2)) (h7 : SHX (XX) ((u3_0)) ((u3_1)) ((w4))) (k : ∀ (σ : rS) (F' : hF) (A' : hA), HW V252_c11 σ D N F' A' → OUT (V252_c11).length D N σE c s D N σ c s → SF [(13, 2)] F F' → SA [12] A A' → ∀ y13_2 : Int, F' 13 2 = y13_2 → ∀ v12 : Int → Int, A' 12 = v12 → (0 ≤ ((v12)) 1 ∧ ((v12)) 1 < p2 ((u3_0))) → (1 = 0 ∨ ((v12)) 0 = ((w12)) 0) → (1 = 1 ∨ ((v12)) 1 = ((w12)) 1) → (1 = 2 ∨ ((v12)) 2 = ((w12)) 2) → (0 ≤ (y13_2) ∧ (y13_2) ≤ (u13_2)) → (∀ b, BB ((w4)) ((u3_0)) ((w8)) (((w12)) 1) b → (y13_2) = (u13_2) - b) → (∀ s b z, tsF XX (((w12)) 1) = (s, b, z) → ((v12)) 1 = z + bvA (ub8 ((w14))) (8 * (u13_1)) ((u13_2)) b ∧ (y13_2) = (u13_2) - b) → Q none σ c s) : Ew 252 (d + 2) 0 (rargs 0 [.ref (D 0), I 1]) [] σE c s Q := by
  have O := OUT_refl (n := (V252_c11).length) (D := D) (N := N) (σ := σE) (c := c) (s := s)
  have HE := H
  have r1 : (-2147483648 : Int) ≤ u3_0 ∧ u3_0 ≤ 2147483647 := by have h1 : (-2147483648 : Int) ≤ F 3 0 ∧ F 3 0 ≤ 2147483647 := H.krg 3 0 (by decide); rw [show F 3 0 = u3_0 from (eu3_0)] at h1; exact h1
  have r2 : (-2147483648 : Int) ≤ u3_1 ∧ u3_1 ≤ 2147483647 := by have h1 : (-2147483648 : Int) ≤ F 3 1 ∧ F 3 1 ≤ 2147483647 := H.krg 3 1 (by decide); rw [show F 3 1 = u3_1 from (eu3_1)] at h1; exact h1
  have r3 : (-2147483648 : Int) ≤ u13_1 ∧ u13_1 ≤ 2147483647 := by have h1 : (-2147483648 : Int) ≤ F 13 1 ∧ F 13 1 ≤ 2147483647 := H.krg 13 1 (by decide); rw [show F 13 1 = u13_1 from (eu13_1)] at h1; exact h1
  have r4 : (-2147483648 : Int) ≤ u13_2 ∧ u13_2 ≤ 2147483647 := by have h1 : (-2147483648 : Int) ≤ F 13 2 ∧ F 13 2 ≤ 2147483647 := H.krg 13 2 (by decide); rw [show F 13 2 = u13_2 from (eu13_2)] at h1; exact h1
  replace pf1 := HIDm pf1
  replace pf2 := HIDm pf2
  replace pf3 := HIDm pf3
  replace pf4 := HIDm pf4
  replace pf5 := HIDm pf5
  replace pf6 := HIDm pf6
  replace pf7 := HIDm pf7
  replace pf8 := HIDm pf8
  replace pf9 := HIDm pf9
  replace pf10 := HIDm pf10
  replace pf11 := HIDm pf11
  replace pf12 := HIDm pf12
  replace pf13 := HIDm pf13
  replace pf14 := HIDm pf14
  replace pk0 := HIDm pk0
  replace en2 := HIDm en2
  replace en4 := HIDm en4
  replace en5 := HIDm en5
  replace en6 := HIDm en6
  replace en7 := HIDm en7
  replace en8 := HIDm en8
  replace en9 := HIDm en9
  replace en10 := HIDm en10
  replace en11 := HIDm en11
  replace en12 := HIDm en12
  replace en14 := HIDm en14
  replace eu3_0 := HIDm eu3_0
  replace eu3_1 := HIDm eu3_1
  replace eu13_1 := HIDm eu13_1
  replace eu13_2 := HIDm eu13_2
  have r5 : (0 : Int) ≤ n2 ∧ n2 ≤ 1000000 := by have h1 := H.nle 2 (by decide); have h2 : (N 2 : Int) = n2 := en2; omega
  have r6 : (0 : Int) ≤ n4 ∧ n4 ≤ 1000000 := by have h1 := H.nle 4 (by decide); have h2 : (N 4 : Int) = n4 := en4; omega
  have r7 : (0 : Int) ≤ n5 ∧ n5 ≤ 1000000 := by have h1 := H.nle 5 (by decide); have h2 : (N 5 : Int) = n5 := en5; omega
  have r8 : (0 : Int) ≤ n6 ∧ n6 ≤ 1000000 := by have h1 := H.nle 6 (by decide); have h2 : (N 6 : Int) = n6 := en6; omega
  have r9 : (0 : Int) ≤ n7 ∧ n7 ≤ 1000000 := by have h1 := H.nle 7 (by decide); have h2 : (N 7 : Int) = n7 := en7; omega
  have r10 : (0 : Int) ≤ n8 ∧ n8 ≤ 1000000 := by have h1 := H.nle 8 (by decide); have h2 : (N 8 : Int) = n8 := en8; omega
  have r11 : (0 : Int) ≤ n9 ∧ n9 ≤ 1000000 := by have h1 := H.nle 9 (by decide); have h2 : (N 9 : Int) = n9 := en9; omega
  have r12 : (0 : Int) ≤ n10 ∧ n10 ≤ 1000000 := by have h1 := H.nle 10 (by decide); have h2 : (N 10 : Int) = n10 := en10; omega
  have r13 : (0 : Int) ≤ n11 ∧ n11 ≤ 1000000 := by have h1 := H.nle 11 (by decide); have h2 : (N 11 : Int) = n11 := en11; omega
  have r14 : (0 : Int) ≤ n12 ∧ n12 ≤ 1000000 := by have h1 := H.nle 12 (by decide); have h2 : (N 12 : Int) = n12 := en12; omega
  have r15 : (0 : Int) ≤ n14 ∧ n14 ≤ 1000000 := by have h1 := H.nle 14 (by decide); have h2 : (N 14 : Int) = n14 := en14; omega
  have hle : ∀ b, BB ((w4)) ((u3_0)) ((w8)) (((w12)) 1) b → b ≤ (u13_2) := by assumption
  have hsl : SL ((w4)) ((u3_1)) ((u3_0)) ((w5)) ((w6)) ((w7)) ((w8)) ((w9)) ((w10)) := by assumption
  have hsf := SHD_f hsl.1
  have hSX : SHX (XX) ((u3_0)) ((u3_1)) ((w4)) := by assumption
  refine Ew_of (pc' := 1) (fun _ => x_aload_n rfl rfl) ?_
  refine v_g H (o := 0) (v := .ref (D 1)) rfl rfl rfl rfl rfl (vrf (pf1)) ?_
  refine v_g H (o := 1) (v := .ref (D 2)) rfl rfl rfl rfl rfl (vrf (pf2)) ?_
  refine Ew_of (pc' := 8) (fun _ => x_iload_n rfl rfl) ?_
  refine v_lR H (o := 2) rfl rfl rfl rfl rfl (n := n2) (en2) (show 0 ≤ 1 ∧ 1 < n2 by omega) (z := ((D 3 : Nat) : Int)) (v := .ref (D 3)) (pf3) (vrf rfl) ?_
  refine Ew_of (pc' := 10) (fun _ => x_astore_n rfl) ?_
  refine Ew_of (pc' := 11) (fun _ => x_aload_n rfl (rk_o (rfl) rfl rfl)) ?_
  refine v_g H (o := 0) (v := .ref (D 12)) rfl rfl rfl rfl rfl (vrf (pf12)) ?_
  refine Ew_of (pc' := 15) (fun _ => x_iload_n rfl (rk_o (rfl) rfl rfl)) ?_
  refine Ew_of (pc' := 16) (fun _ => x_aload_n rfl rk_s) ?_
  refine Ew_of (pc' := 17) (fun _ => x_aload_n rfl (rk_o (rfl) rfl rfl)) ?_
  refine v_g H (o := 0) (v := .ref (D 12)) rfl rfl rfl rfl rfl (vrf (pf12)) ?_
  refine Ew_of (pc' := 21) (fun _ => x_iload_n rfl (rk_o (rfl) rfl rfl)) ?_
  refine v_lI H (o := 12) rfl rfl rfl rfl (n := n12) (en12) (show 0 ≤ 1 ∧ 1 < n12 by omega) (fun v16 ev16 qv16 => ?_)
  have ev16 : (w12) (1) = v16 := (congrFun (ew12) (1)).symm.trans ev16
  have hva := ev16
  refine v_inv H (o := 3) rfl rfl rfl rfl rfl rfl (by rfl) (C173o (D := pul [3, 4, 5, 6, 7, 8, 9, 10, 11] D) (N := pul [3, 4, 5, 6, 7, 8, 9, 10, 11] N) (HW_sub H (VS_of (show vsub V252_c11 V173 [3, 4, 5, 6, 7, 8, 9, 10, 11] = true by decide +kernel))) (pf4) (pf5) (pf6) (pf7) (pf8) (pf9) (pf10) (pf11) (n4) (en4) (n5) (en5) (n6) (en6) (n7) (en7) (n8) (en8) (n9) (en9) (n10) (en10) (n11) (en11) (u3_0) ((eu3_0)) (u3_1) ((eu3_1)) (w4) (ew4) (w5) (ew5) (w6) (ew6) (w7) (ew7) (w8) (ew8) (w9) (ew9) (w10) (ew10) (show inr (v16) by omega) (show SL ((w4)) ((u3_1)) ((u3_0)) ((w5)) ((w6)) ((w7)) ((w8)) ((w9)) ((w10)) by assumption) (show SZD ((n4)) ((n5)) ((n6)) ((n7)) ((n11)) ((n8)) ((n9)) ((n10)) ((u3_1)) ((u3_0)) by assumption) (show 0 ≤ (v16) ∧ (v16) < p2 ((u3_0)) by omega) (fun z17 σ17 F17' A17' H' O' hS17 hA17 pz17_0 pz17_1 pz17_2 => ⟨rfl, ?_⟩))
  refine v_back (c := c) (s := s) H (show vsub V252_c11 V173 [3, 4, 5, 6, 7, 8, 9, 10, 11] = true by decide +kernel) H' O' (fun F17 A17 H O' eF17 eA17 => ?_)
  have O := OUT_trans O O'
  -- Share.baseBehind
  have hbas : BAS ((w4)) ((u3_0)) ((w8)) (((w12)) 1) (z17) := by rw [hva]; exact pz17_1
  refine Ew_of (pc' := 26) (fun _ => x_aload_n rfl (rk_o (rfl) rfl rfl)) ?_
  refine v_g H (o := 0) (v := .ref (D 13)) rfl rfl rfl rfl rfl (vrf ((((show F17 0 5 = F 0 5 from (eF17 0 5)))).trans (pf13))) ?_
  refine Ew_of (pc' := 30) (fun _ => x_aload_n rfl rk_s) ?_
  refine Ew_of (pc' := 31) (fun _ => x_aload_n rfl (rk_o (rfl) rfl rfl)) ?_
  refine v_g H (o := 0) (v := .ref (D 12)) rfl rfl rfl rfl rfl (vrf ((((show F17 0 6 = F 0 6 from (eF17 0 6)))).trans (pf12))) ?_
  refine Ew_of (pc' := 35) (fun _ => x_iload_n rfl (rk_o (rfl) rfl rfl)) ?_
  refine v_lI H (o := 12) rfl rfl rfl rfl (n := n12) (en12) (show 0 ≤ 1 ∧ 1 < n12 by omega) (fun v18 ev18 qv18 => ?_)
  have ev18 : (w12) (1) = v18 := (congrFun (((show A17 12 = A 12 from (eA17 12))).trans (ew12)) (1)).symm.trans ev18
  have hvb := ev18
  refine v_inv H (o := 3) rfl rfl rfl rfl rfl rfl (by rfl) (C172o (D := pul [3, 4, 5, 6, 7, 8, 9, 10, 11] D) (N := pul [3, 4, 5, 6, 7, 8, 9, 10, 11] N) (HW_sub H (VS_of (show vsub V252_c11 V172 [3, 4, 5, 6, 7, 8, 9, 10, 11] = true by decide +kernel))) ((((show F17 3 2 = F 3 2 from (eF17 3 2).trans (hS17 0 2 rfl)))).trans (pf4)) ((((show F17 3 3 = F 3 3 from (eF17 3 3).trans (hS17 0 3 rfl)))).trans (pf5)) ((((show F17 3 4 = F 3 4 from (eF17 3 4).trans (hS17 0 4 rfl)))).trans (pf6)) ((((show F17 3 5 = F 3 5 from (eF17 3 5).trans (hS17 0 5 rfl)))).trans (pf7)) ((((show F17 3 7 = F 3 7 from (eF17 3 7).trans (hS17 0 7 rfl)))).trans (pf8)) ((((show F17 3 8 = F 3 8 from (eF17 3 8).trans (hS17 0 8 rfl)))).trans (pf9)) ((((show F17 3 9 = F 3 9 from (eF17 3 9).trans (hS17 0 9 rfl)))).trans (pf10)) ((((show F17 3 6 = F 3 6 from (eF17 3 6).trans (hS17 0 6 rfl)))).trans (pf11)) (n4) (en4) (n5) (en5) (n6) (en6) (n7) (en7) (n8) (en8) (n9) (en9) (n10) (en10) (n11) (en11) (u3_0) ((((show F17 3 0 = F 3 0 from (eF17 3 0).trans (hS17 0 0 rfl))).trans (eu3_0))) (u3_1) ((((show F17 3 1 = F 3 1 from (eF17 3 1).trans (hS17 0 1 rfl))).trans (eu3_1))) (w4) (((show A17 4 = A 4 from (eA17 4).trans (funext (hA17 1 rfl)))).trans (ew4)) (w5) (((show A17 5 = A 5 from (eA17 5).trans (funext (hA17 2 rfl)))).trans (ew5)) (w6) (((show A17 6 = A 6 from (eA17 6).trans (funext (hA17 3 rfl)))).trans (ew6)) (w7) (((show A17 7 = A 7 from (eA17 7).trans (funext (hA17 4 rfl)))).trans (ew7)) (w8) (((show A17 8 = A 8 from (eA17 8).trans (funext (hA17 5 rfl)))).trans (ew8)) (w9) (((show A17 9 = A 9 from (eA17 9).trans (funext (hA17 6 rfl)))).trans (ew9)) (w10) (((show A17 10 = A 10 from (eA17 10).trans (funext (hA17 7 rfl)))).trans (ew10)) (show inr (v18) by omega) (show SL ((w4)) ((u3_1)) ((u3_0)) ((w5)) ((w6)) ((w7)) ((w8)) ((w9)) ((w10)) by assumption) (show SZD ((n4)) ((n5)) ((n6)) ((n7)) ((n11)) ((n8)) ((n9)) ((n10)) ((u3_1)) ((u3_0)) by assumption) (show 0 ≤ (v18) ∧ (v18) < p2 ((u3_0)) by omega) (fun z19 σ19 F19' A19' H' O' hS19 hA19 pz19_0 pz19_1 pz19_2 => ⟨rfl, ?_⟩))
  refine v_back (c := c) (s := s) H (show vsub V252_c11 V172 [3, 4, 5, 6, 7, 8, 9, 10, 11] = true by decide +kernel) H' O' (fun F19 A19 H O' eF19 eA19 => ?_)
  have O := OUT_trans O O'
  -- Share.bitsBehind
  have hbb : BB ((w4)) ((u3_0)) ((w8)) (((w12)) 1) (z19) := by rw [hvb]; exact pz19_1
  have hbl := hle _ hbb
  have hbx := hbas _ hbb
  have hts := SHX_ts hSX hsl (by omega) (by omega) hbb hbas rfl
  refine v_inv H (o := 13) rfl rfl rfl rfl rfl rfl (by rfl) (C95 (D := pul [13, 14] D) (N := pul [13, 14] N) (HW_sub H (VS_of (show vsub V252_c11 V95 [13, 14] = true by decide +kernel))) (((((show F19 13 0 = F17 13 0 from (eF19 13 0))).trans ((show F17 13 0 = F 13 0 from (eF17 13 0))))).trans (pk0)) (n14) (en14) (u13_1) (((((show F19 13 1 = F17 13 1 from (eF19 13 1))).trans ((show F17 13 1 = F 13 1 from (eF17 13 1)))).trans (eu13_1))) (u13_2) (((((show F19 13 2 = F17 13 2 from (eF19 13 2))).trans ((show F17 13 2 = F 13 2 from (eF17 13 2)))).trans (eu13_2))) (w14) (((show A19 14 = A17 14 from (eA19 14))).trans (((show A17 14 = A 14 from (eA17 14))).trans (ew14))) (show inr (z19) by omega) (show 0 ≤ (z19) ∧ (z19) ≤ 31 by omega) (show 0 ≤ (u13_1) ∧ (u13_1) ≤ 65536 ∧ (u13_2) ≤ 8 * ((n14) - (u13_1)) ∧ (n14) ≤ 65536 by omega) (show -100 ≤ (u13_2) by omega) (fun z20 σ20 F20' A20' H' O' hS20 hA20 y20_0_2 ey20_0_2 pz20_0 pz20_1 pz20_2 pz20_3 => ⟨rfl, ?_⟩))
  replace ey20_0_2 := HIDm ey20_0_2
  refine v_back (c := c) (s := s) H (show vsub V252_c11 V95 [13, 14] = true by decide +kernel) H' O' (fun F20 A20 H O' eF20 eA20 => ?_)
  have O := OUT_trans O O'
  -- BitSource.take
  have r21 : (-2147483648 : Int) ≤ y20_0_2 ∧ y20_0_2 ≤ 2147483647 := by have h1 : (-2147483648 : Int) ≤ F20 13 2 ∧ F20 13 2 ≤ 2147483647 := H.krg 13 2 (by decide); rw [show F20 13 2 = y20_0_2 from ((eF20 13 2).trans ey20_0_2)] at h1; exact h1
  have hlf : ∀ b, BB ((w4)) ((u3_0)) ((w8)) (((w12)) 1) b → (y20_0_2) = (u13_2) - b := fun b hb => by have := BB_uniq hbb hb; omega
  have htk : z20 = bvA (ub8 ((w14))) (8 * (u13_1)) ((u13_2)) (z19) := pk_A pz20_3 rfl (by omega) rfl rfl
  refine w_l2i rfl ?_
  refine w_iadd rfl ?_
  have hs_ := upd1_s (a := ((w12))) (j := 1) (z := ((z17 + z20)))
  have hu0_ : (1 : Int) = 0 ∨ upd1 ((w12)) 1 (((z17 + z20))) 0 = ((w12)) 0 := by by_cases w : (0 : Int) = 1; exact .inl (by omega); exact .inr (upd1_o w)
  have hu1_ : (1 : Int) = 1 ∨ upd1 ((w12)) 1 (((z17 + z20))) 1 = ((w12)) 1 := by by_cases w : (1 : Int) = 1; exact .inl (by omega); exact .inr (upd1_o w)
  have hu2_ : (1 : Int) = 2 ∨ upd1 ((w12)) 1 (((z17 + z20))) 2 = ((w12)) 2 := by by_cases w : (2 : Int) = 1; exact .inl (by omega); exact .inr (upd1_o w)
  refine v_sI H (o := 12) (z := (z17 + z20)) rfl rfl rfl rfl (n := n12) (en12) (show 0 ≤ 1 ∧ 1 < n12 by omega) (show inr ((z17 + z20)) by omega) (fun σ H O' => ?_)
  have O := OUT_trans O O'
  have : ∀ s b z, tsF XX (((w12)) 1) = (s, b, z) → ((upd1 (w12) (1) ((z17 + z20)))) 1 = z + bvA (ub8 ((w14))) (8 * (u13_1)) ((u13_2)) b ∧ (y20_0_2) = (u13_2) - b := fun s b z h => by have h0 := hts.symm.trans h; have h1 : z19 = b := congrArg (fun q => q.2.1) h0; have h2 : z17 = z := congrArg (fun q => q.2.2) h0; subst h1 h2; exact ⟨by rw [upd1_s, ← htk]; omega, by omega⟩
  exact w_ret rfl (k _ _ _ H O (SF_trans (SF_trans (SF_trans (SF_refl) (SF_glu (ι := [3, 4, 5, 6, 7, 8, 9, 10, 11]) hS17 eF17 (by decide +kernel)) (any_sub (l' := []) rfl)) (SF_glu (ι := [3, 4, 5, 6, 7, 8, 9, 10, 11]) hS19 eF19 (by decide +kernel)) (any_sub (l' := []) rfl)) (SF_glu (ι := [13, 14]) hS20 eF20 (by decide +kernel)) (any_sub (l' := [(13, 2)]) rfl)) (SA_upd (SA_trans (SA_trans (SA_trans (SA_refl) (SA_glu (ι := [3, 4, 5, 6, 7, 8, 9, 10, 11]) hA17 eA17 (by decide +kernel)) (any_subA (l' := []) rfl)) (SA_glu (ι := [3, 4, 5, 6, 7, 8, 9, 10, 11]) hA19 eA19 (by decide +kernel)) (any_subA (l' := []) rfl)) (SA_glu (ι := [13, 14]) hA20 eA20 (by decide +kernel)) (any_subA (l' := []) rfl)) rfl) (y20_0_2) (((eF20 13 2).trans ey20_0_2)) (upd1 (w12) (1) ((z17 + z20))) (congrArg (fun q => upd1 q (1) ((z17 + z20))) (((show A20 12 = A19 12 from (eA20 12))).trans (((show A19 12 = A17 12 from (eA19 12))).trans (((show A17 12 = A 12 from (eA17 12))).trans (ew12))))) (show 0 ≤ ((upd1 (w12) (1) ((z17 + z20)))) 1 ∧ ((upd1 (w12) (1) ((z17 + z20)))) 1 < p2 ((u3_0)) by omega) (show 1 = 0 ∨ ((upd1 (w12) (1) ((z17 + z20)))) 0 = ((w12)) 0 by omega) (show 1 = 1 ∨ ((upd1 (w12) (1) ((z17 + z20)))) 1 = ((w12)) 1 by omega) (show 1 = 2 ∨ ((upd1 (w12) (1) ((z17 + z20)))) 2 = ((w12)) 2 by omega) (show 0 ≤ (y20_0_2) ∧ (y20_0_2) ≤ (u13_2) by omega) (show ∀ b, BB ((w4)) ((u3_0)) ((w8)) (((w12)) 1) b → (y20_0_2) = (u13_2) - b by assumption) (show ∀ s b z, tsF XX (((w12)) 1) = (s, b, z) → ((upd1 (w12) (1) ((z17 + z20)))) 1 = z + bvA (ub8 ((w14))) (8 * (u13_1)) ((u13_2)) b ∧ (y20_0_2) = (u13_2) - b by assumption))
abbrev V252_c12 : vV := [(0, 12, [(4, 0), (4, 0), (4, 0), (4, 0), (4, 0), (4, 0), (4, 0), (4, 0), (0, 0), (0, 0), (4, 0), (0, 0), (4, 0), (4, 0), (0, 0), (2, 0), (0, 0), (0, 0), (0, 0), (0, 0), (0, 0), (0, 0)]), (0, 9, [(4, 0), (4, 0), (4, 0)]), (1, 5, []), (0, 8, [(0, 0), (0, 0), (4, 0), (4, 0), (4, 0), (4, 0), (4, 0), (4, 0), (4, 0), (4, 0), (4, 0), (0, 0), (0, 0)]), (1, 1, []), (1, 1, []), (1, 1, []), (1, 1, []), (1, 1, []), (1, 1, []), (1, 1, []), (1, 1, []), (1, 1, []), (0, 2, [(4, 0), (0, 0), (0, 0)]), (1, 0, [])]
/-- Unpacker.moveState: this, this.now, this.now.tables, this.now.tables.2, this.now.tables.2.points, this.now.tables.2.masses, this.now.tables.2.mostBits, this.now.tables.2.starts, this.now.tables.2.symbolAt, this.now.tables.2.numberAt, this.now.tables.2.placeOf, this.now.tables.2.used, this.states, this.source, this.in -/
theorem C252_c12 {σE : rS} {D N : Nat → Nat} {F : hF} {A : hA} {d c s : Nat} {Q : wQ} (H : HW V252_c12 σE D N F A)  (pf1 : F 0 3 = (D 1 : Int)) (pf2 : F 1 1 = (D 2 : Int)) (pf3 : A 2 2 = (D 3 : Int)) (pf4 : F 3 2 = (D 4 : Int)) (pf5 : F 3 3 = (D 5 : Int)) (pf6 : F 3 4 = (D 6 : Int)) (pf7 : F 3 5 = (D 7 : Int)) (pf8 : F 3 7 = (D 8 : Int)) (pf9 : F 3 8 = (D 9 : Int)) (pf10 : F 3 9 = (D 10 : Int)) (pf11 : F 3 6 = (D 11 : Int)) (pf12 : F 0 6 = (D 12 : Int)) (pf13 : F 0 5 = (D 13 : Int)) (pf14 : F 0 7 = (D 14 : Int)) (pk0 : F 13 0 = (D 14 : Int)) (n2 : Int) (en2 : (N 2 : Int) = n2) (n4 : Int) (en4 : (N 4 : Int) = n4) (n5 : Int) (en5 : (N 5 : Int) = n5) (n6 : Int) (en6 : (N 6 : Int) = n6) (n7 : Int) (en7 : (N 7 : Int) = n7) (n8 : Int) (en8 : (N 8 : Int) = n8) (n9 : Int) (en9 : (N 9 : Int) = n9) (n10 : Int) (en10 : (N 10 : Int) = n10) (n11 : Int) (en11 : (N 11 : Int) = n11) (n12 : Int) (en12 : (N 12 : Int) = n12) (n14 : Int) (en14 : (N 14 : Int) = n14) (u3_0 : Int) (eu3_0 : F 3 0 = u3_0) (u3_1 : Int) (eu3_1 : F 3 1 = u3_1) (u13_1 : Int) (eu13_1 : F 13 1 = u13_1) (u13_2 : Int) (eu13_2 : F 13 2 = u13_2) (w4 : Int → Int) (ew4 : A 4 = w4) (w5 : Int → Int) (ew5 : A 5 = w5) (w6 : Int → Int) (ew6 : A 6 = w6) (w7 : Int → Int) (ew7 : A 7 = w7) (w8 : Int → Int) (ew8 : A 8 = w8) (w9 : Int → Int) (ew9 : A 9 = w9) (w10 : Int → Int) (ew10 : A 10 = w10) (w12 : Int → Int) (ew12 : A 12 = w12) (w14 : Int → Int) (ew14 : A 14 = w14) (XX : Tb) (h0 : inr (2)) (h1 : SL ((w4)) ((u3_1)) ((u3_0)) ((w5)) ((w6)) ((w7)) ((w8)) ((w9)) ((w10))) (h2 : SZD ((n4)) ((n5)) ((n6)) ((n7)) ((n11)) ((n8)) ((n9)) ((n10)) ((u3_1)) ((u3_0))) (h3 : 0 ≤ ((w12)) 2 ∧ ((w12)) 2 < p2 ((u3_0))) (h4 : (n12) = 3 ∧ (n2) = 3) (h5 : 0 ≤ (u13_1) ∧ (u13_1) ≤ 65536 ∧ 0 ≤ (u13_2) ∧ (u13_2) ≤ 8 * ((n14) - (u13_1)) ∧ (n14) ≤ 65536) (h6 : ∀ b, BB ((w4)) ((u3_0)) ((w8)) (((w12)) 2) b → b ≤ (u13_2)) (h7 : SHX (XX) ((u3_0)) ((u3_1)) ((w4))) (k : ∀ (σ : rS) (F' : hF) (A' : hA), HW V252_c12 σ D N F' A' → OUT (V252_c12).length D N σE c s D N σ c s → SF [(13, 2)] F F' → SA [12] A A' → ∀ y13_2 : Int, F' 13 2 = y13_2 → ∀ v12 : Int → Int, A' 12 = v12 → (0 ≤ ((v12)) 2 ∧ ((v12)) 2 < p2 ((u3_0))) → (2 = 0 ∨ ((v12)) 0 = ((w12)) 0) → (2 = 1 ∨ ((v12)) 1 = ((w12)) 1) → (2 = 2 ∨ ((v12)) 2 = ((w12)) 2) → (0 ≤ (y13_2) ∧ (y13_2) ≤ (u13_2)) → (∀ b, BB ((w4)) ((u3_0)) ((w8)) (((w12)) 2) b → (y13_2) = (u13_2) - b) → (∀ s b z, tsF XX (((w12)) 2) = (s, b, z) → ((v12)) 2 = z + bvA (ub8 ((w14))) (8 * (u13_1)) ((u13_2)) b ∧ (y13_2) = (u13_2) - b) → Q none σ c s) : Ew 252 (d + 2) 0 (rargs 0 [.ref (D 0), I 2]) [] σE c s Q := by
  have O := OUT_refl (n := (V252_c12).length) (D := D) (N := N) (σ := σE) (c := c) (s := s)
  have HE := H
  have r1 : (-2147483648 : Int) ≤ u3_0 ∧ u3_0 ≤ 2147483647 := by have h1 : (-2147483648 : Int) ≤ F 3 0 ∧ F 3 0 ≤ 2147483647 := H.krg 3 0 (by decide); rw [show F 3 0 = u3_0 from (eu3_0)] at h1; exact h1
  have r2 : (-2147483648 : Int) ≤ u3_1 ∧ u3_1 ≤ 2147483647 := by have h1 : (-2147483648 : Int) ≤ F 3 1 ∧ F 3 1 ≤ 2147483647 := H.krg 3 1 (by decide); rw [show F 3 1 = u3_1 from (eu3_1)] at h1; exact h1
  have r3 : (-2147483648 : Int) ≤ u13_1 ∧ u13_1 ≤ 2147483647 := by have h1 : (-2147483648 : Int) ≤ F 13 1 ∧ F 13 1 ≤ 2147483647 := H.krg 13 1 (by decide); rw [show F 13 1 = u13_1 from (eu13_1)] at h1; exact h1
  have r4 : (-2147483648 : Int) ≤ u13_2 ∧ u13_2 ≤ 2147483647 := by have h1 : (-2147483648 : Int) ≤ F 13 2 ∧ F 13 2 ≤ 2147483647 := H.krg 13 2 (by decide); rw [show F 13 2 = u13_2 from (eu13_2)] at h1; exact h1
  replace pf1 := HIDm pf1
  replace pf2 := HIDm pf2
  replace pf3 := HIDm pf3
  replace pf4 := HIDm pf4
  replace pf5 := HIDm pf5
  replace pf6 := HIDm pf6
  replace pf7 := HIDm pf7
  replace pf8 := HIDm pf8
  replace pf9 := HIDm pf9
  replace pf10 := HIDm pf10
  replace pf11 := HIDm pf11
  replace pf12 := HIDm pf12
  replace pf13 := HIDm pf13
  replace pf14 := HIDm pf14
  replace pk0 := HIDm pk0
  replace en2 := HIDm en2
  replace en4 := HIDm en4
  replace en5 := HIDm en5
  replace en6 := HIDm en6
  replace en7 := HIDm en7
  replace en8 := HIDm en8
  replace en9 := HIDm en9
  replace en10 := HIDm en10
  replace en11 := HIDm en11
  replace en12 := HIDm en12
  replace en14 := HIDm en14
  replace eu3_0 := HIDm eu3_0
  replace eu3_1 := HIDm eu3_1
  replace eu13_1 := HIDm eu13_1
  replace eu13_2 := HIDm eu13_2
  have r5 : (0 : Int) ≤ n2 ∧ n2 ≤ 1000000 := by have h1 := H.nle 2 (by decide); have h2 : (N 2 : Int) = n2 := en2; omega
  have r6 : (0 : Int) ≤ n4 ∧ n4 ≤ 1000000 := by have h1 := H.nle 4 (by decide); have h2 : (N 4 : Int) = n4 := en4; omega
  have r7 : (0 : Int) ≤ n5 ∧ n5 ≤ 1000000 := by have h1 := H.nle 5 (by decide); have h2 : (N 5 : Int) = n5 := en5; omega
  have r8 : (0 : Int) ≤ n6 ∧ n6 ≤ 1000000 := by have h1 := H.nle 6 (by decide); have h2 : (N 6 : Int) = n6 := en6; omega
  have r9 : (0 : Int) ≤ n7 ∧ n7 ≤ 1000000 := by have h1 := H.nle 7 (by decide); have h2 : (N 7 : Int) = n7 := en7; omega
  have r10 : (0 : Int) ≤ n8 ∧ n8 ≤ 1000000 := by have h1 := H.nle 8 (by decide); have h2 : (N 8 : Int) = n8 := en8; omega
  have r11 : (0 : Int) ≤ n9 ∧ n9 ≤ 1000000 := by have h1 := H.nle 9 (by decide); have h2 : (N 9 : Int) = n9 := en9; omega
  have r12 : (0 : Int) ≤ n10 ∧ n10 ≤ 1000000 := by have h1 := H.nle 10 (by decide); have h2 : (N 10 : Int) = n10 := en10; omega
  have r13 : (0 : Int) ≤ n11 ∧ n11 ≤ 1000000 := by have h1 := H.nle 11 (by decide); have h2 : (N 11 : Int) = n11 := en11; omega
  have r14 : (0 : Int) ≤ n12 ∧ n12 ≤ 1000000 := by have h1 := H.nle 12 (by decide); have h2 : (N 12 : Int) = n12 := en12; omega
  have r15 : (0 : Int) ≤ n14 ∧ n14 ≤ 1000000 := by have h1 := H.nle 14 (by decide); have h2 : (N 14 : Int) = n14 := en14; omega
  have hle : ∀ b, BB ((w4)) ((u3_0)) ((w8)) (((w12)) 2) b → b ≤ (u13_2) := by assumption
  have hsl : SL ((w4)) ((u3_1)) ((u3_0)) ((w5)) ((w6)) ((w7)) ((w8)) ((w9)) ((w10)) := by assumption
  have hsf := SHD_f hsl.1
  have hSX : SHX (XX) ((u3_0)) ((u3_1)) ((w4)) := by assumption
  refine Ew_of (pc' := 1) (fun _ => x_aload_n rfl rfl) ?_
  refine v_g H (o := 0) (v := .ref (D 1)) rfl rfl rfl rfl rfl (vrf (pf1)) ?_
  refine v_g H (o := 1) (v := .ref (D 2)) rfl rfl rfl rfl rfl (vrf (pf2)) ?_
  refine Ew_of (pc' := 8) (fun _ => x_iload_n rfl rfl) ?_
  refine v_lR H (o := 2) rfl rfl rfl rfl rfl (n := n2) (en2) (show 0 ≤ 2 ∧ 2 < n2 by omega) (z := ((D 3 : Nat) : Int)) (v := .ref (D 3)) (pf3) (vrf rfl) ?_
  refine Ew_of (pc' := 10) (fun _ => x_astore_n rfl) ?_
  refine Ew_of (pc' := 11) (fun _ => x_aload_n rfl (rk_o (rfl) rfl rfl)) ?_
  refine v_g H (o := 0) (v := .ref (D 12)) rfl rfl rfl rfl rfl (vrf (pf12)) ?_
  refine Ew_of (pc' := 15) (fun _ => x_iload_n rfl (rk_o (rfl) rfl rfl)) ?_
  refine Ew_of (pc' := 16) (fun _ => x_aload_n rfl rk_s) ?_
  refine Ew_of (pc' := 17) (fun _ => x_aload_n rfl (rk_o (rfl) rfl rfl)) ?_
  refine v_g H (o := 0) (v := .ref (D 12)) rfl rfl rfl rfl rfl (vrf (pf12)) ?_
  refine Ew_of (pc' := 21) (fun _ => x_iload_n rfl (rk_o (rfl) rfl rfl)) ?_
  refine v_lI H (o := 12) rfl rfl rfl rfl (n := n12) (en12) (show 0 ≤ 2 ∧ 2 < n12 by omega) (fun v16 ev16 qv16 => ?_)
  have ev16 : (w12) (2) = v16 := (congrFun (ew12) (2)).symm.trans ev16
  have hva := ev16
  refine v_inv H (o := 3) rfl rfl rfl rfl rfl rfl (by rfl) (C173o (D := pul [3, 4, 5, 6, 7, 8, 9, 10, 11] D) (N := pul [3, 4, 5, 6, 7, 8, 9, 10, 11] N) (HW_sub H (VS_of (show vsub V252_c12 V173 [3, 4, 5, 6, 7, 8, 9, 10, 11] = true by decide +kernel))) (pf4) (pf5) (pf6) (pf7) (pf8) (pf9) (pf10) (pf11) (n4) (en4) (n5) (en5) (n6) (en6) (n7) (en7) (n8) (en8) (n9) (en9) (n10) (en10) (n11) (en11) (u3_0) ((eu3_0)) (u3_1) ((eu3_1)) (w4) (ew4) (w5) (ew5) (w6) (ew6) (w7) (ew7) (w8) (ew8) (w9) (ew9) (w10) (ew10) (show inr (v16) by omega) (show SL ((w4)) ((u3_1)) ((u3_0)) ((w5)) ((w6)) ((w7)) ((w8)) ((w9)) ((w10)) by assumption) (show SZD ((n4)) ((n5)) ((n6)) ((n7)) ((n11)) ((n8)) ((n9)) ((n10)) ((u3_1)) ((u3_0)) by assumption) (show 0 ≤ (v16) ∧ (v16) < p2 ((u3_0)) by omega) (fun z17 σ17 F17' A17' H' O' hS17 hA17 pz17_0 pz17_1 pz17_2 => ⟨rfl, ?_⟩))
  refine v_back (c := c) (s := s) H (show vsub V252_c12 V173 [3, 4, 5, 6, 7, 8, 9, 10, 11] = true by decide +kernel) H' O' (fun F17 A17 H O' eF17 eA17 => ?_)
  have O := OUT_trans O O'
  -- Share.baseBehind
  have hbas : BAS ((w4)) ((u3_0)) ((w8)) (((w12)) 2) (z17) := by rw [hva]; exact pz17_1
  refine Ew_of (pc' := 26) (fun _ => x_aload_n rfl (rk_o (rfl) rfl rfl)) ?_
  refine v_g H (o := 0) (v := .ref (D 13)) rfl rfl rfl rfl rfl (vrf ((((show F17 0 5 = F 0 5 from (eF17 0 5)))).trans (pf13))) ?_
  refine Ew_of (pc' := 30) (fun _ => x_aload_n rfl rk_s) ?_
  refine Ew_of (pc' := 31) (fun _ => x_aload_n rfl (rk_o (rfl) rfl rfl)) ?_
  refine v_g H (o := 0) (v := .ref (D 12)) rfl rfl rfl rfl rfl (vrf ((((show F17 0 6 = F 0 6 from (eF17 0 6)))).trans (pf12))) ?_
  refine Ew_of (pc' := 35) (fun _ => x_iload_n rfl (rk_o (rfl) rfl rfl)) ?_
  refine v_lI H (o := 12) rfl rfl rfl rfl (n := n12) (en12) (show 0 ≤ 2 ∧ 2 < n12 by omega) (fun v18 ev18 qv18 => ?_)
  have ev18 : (w12) (2) = v18 := (congrFun (((show A17 12 = A 12 from (eA17 12))).trans (ew12)) (2)).symm.trans ev18
  have hvb := ev18
  refine v_inv H (o := 3) rfl rfl rfl rfl rfl rfl (by rfl) (C172o (D := pul [3, 4, 5, 6, 7, 8, 9, 10, 11] D) (N := pul [3, 4, 5, 6, 7, 8, 9, 10, 11] N) (HW_sub H (VS_of (show vsub V252_c12 V172 [3, 4, 5, 6, 7, 8, 9, 10, 11] = true by decide +kernel))) ((((show F17 3 2 = F 3 2 from (eF17 3 2).trans (hS17 0 2 rfl)))).trans (pf4)) ((((show F17 3 3 = F 3 3 from (eF17 3 3).trans (hS17 0 3 rfl)))).trans (pf5)) ((((show F17 3 4 = F 3 4 from (eF17 3 4).trans (hS17 0 4 rfl)))).trans (pf6)) ((((show F17 3 5 = F 3 5 from (eF17 3 5).trans (hS17 0 5 rfl)))).trans (pf7)) ((((show F17 3 7 = F 3 7 from (eF17 3 7).trans (hS17 0 7 rfl)))).trans (pf8)) ((((show F17 3 8 = F 3 8 from (eF17 3 8).trans (hS17 0 8 rfl)))).trans (pf9)) ((((show F17 3 9 = F 3 9 from (eF17 3 9).trans (hS17 0 9 rfl)))).trans (pf10)) ((((show F17 3 6 = F 3 6 from (eF17 3 6).trans (hS17 0 6 rfl)))).trans (pf11)) (n4) (en4) (n5) (en5) (n6) (en6) (n7) (en7) (n8) (en8) (n9) (en9) (n10) (en10) (n11) (en11) (u3_0) ((((show F17 3 0 = F 3 0 from (eF17 3 0).trans (hS17 0 0 rfl))).trans (eu3_0))) (u3_1) ((((show F17 3 1 = F 3 1 from (eF17 3 1).trans (hS17 0 1 rfl))).trans (eu3_1))) (w4) (((show A17 4 = A 4 from (eA17 4).trans (funext (hA17 1 rfl)))).trans (ew4)) (w5) (((show A17 5 = A 5 from (eA17 5).trans (funext (hA17 2 rfl)))).trans (ew5)) (w6) (((show A17 6 = A 6 from (eA17 6).trans (funext (hA17 3 rfl)))).trans (ew6)) (w7) (((show A17 7 = A 7 from (eA17 7).trans (funext (hA17 4 rfl)))).trans (ew7)) (w8) (((show A17 8 = A 8 from (eA17 8).trans (funext (hA17 5 rfl)))).trans (ew8)) (w9) (((show A17 9 = A 9 from (eA17 9).trans (funext (hA17 6 rfl)))).trans (ew9)) (w10) (((show A17 10 = A 10 from (eA17 10).trans (funext (hA17 7 rfl)))).trans (ew10)) (show inr (v18) by omega) (show SL ((w4)) ((u3_1)) ((u3_0)) ((w5)) ((w6)) ((w7)) ((w8)) ((w9)) ((w10)) by assumption) (show SZD ((n4)) ((n5)) ((n6)) ((n7)) ((n11)) ((n8)) ((n9)) ((n10)) ((u3_1)) ((u3_0)) by assumption) (show 0 ≤ (v18) ∧ (v18) < p2 ((u3_0)) by omega) (fun z19 σ19 F19' A19' H' O' hS19 hA19 pz19_0 pz19_1 pz19_2 => ⟨rfl, ?_⟩))
  refine v_back (c := c) (s := s) H (show vsub V252_c12 V172 [3, 4, 5, 6, 7, 8, 9, 10, 11] = true by decide +kernel) H' O' (fun F19 A19 H O' eF19 eA19 => ?_)
  have O := OUT_trans O O'
  -- Share.bitsBehind
  have hbb : BB ((w4)) ((u3_0)) ((w8)) (((w12)) 2) (z19) := by rw [hvb]; exact pz19_1
  have hbl := hle _ hbb
  have hbx := hbas _ hbb
  have hts := SHX_ts hSX hsl (by omega) (by omega) hbb hbas rfl
  refine v_inv H (o := 13) rfl rfl rfl rfl rfl rfl (by rfl) (C95 (D := pul [13, 14] D) (N := pul [13, 14] N) (HW_sub H (VS_of (show vsub V252_c12 V95 [13, 14] = true by decide +kernel))) (((((show F19 13 0 = F17 13 0 from (eF19 13 0))).trans ((show F17 13 0 = F 13 0 from (eF17 13 0))))).trans (pk0)) (n14) (en14) (u13_1) (((((show F19 13 1 = F17 13 1 from (eF19 13 1))).trans ((show F17 13 1 = F 13 1 from (eF17 13 1)))).trans (eu13_1))) (u13_2) (((((show F19 13 2 = F17 13 2 from (eF19 13 2))).trans ((show F17 13 2 = F 13 2 from (eF17 13 2)))).trans (eu13_2))) (w14) (((show A19 14 = A17 14 from (eA19 14))).trans (((show A17 14 = A 14 from (eA17 14))).trans (ew14))) (show inr (z19) by omega) (show 0 ≤ (z19) ∧ (z19) ≤ 31 by omega) (show 0 ≤ (u13_1) ∧ (u13_1) ≤ 65536 ∧ (u13_2) ≤ 8 * ((n14) - (u13_1)) ∧ (n14) ≤ 65536 by omega) (show -100 ≤ (u13_2) by omega) (fun z20 σ20 F20' A20' H' O' hS20 hA20 y20_0_2 ey20_0_2 pz20_0 pz20_1 pz20_2 pz20_3 => ⟨rfl, ?_⟩))
  replace ey20_0_2 := HIDm ey20_0_2
  refine v_back (c := c) (s := s) H (show vsub V252_c12 V95 [13, 14] = true by decide +kernel) H' O' (fun F20 A20 H O' eF20 eA20 => ?_)
  have O := OUT_trans O O'
  -- BitSource.take
  have r21 : (-2147483648 : Int) ≤ y20_0_2 ∧ y20_0_2 ≤ 2147483647 := by have h1 : (-2147483648 : Int) ≤ F20 13 2 ∧ F20 13 2 ≤ 2147483647 := H.krg 13 2 (by decide); rw [show F20 13 2 = y20_0_2 from ((eF20 13 2).trans ey20_0_2)] at h1; exact h1
  have hlf : ∀ b, BB ((w4)) ((u3_0)) ((w8)) (((w12)) 2) b → (y20_0_2) = (u13_2) - b := fun b hb => by have := BB_uniq hbb hb; omega
  have htk : z20 = bvA (ub8 ((w14))) (8 * (u13_1)) ((u13_2)) (z19) := pk_A pz20_3 rfl (by omega) rfl rfl
  refine w_l2i rfl ?_
  refine w_iadd rfl ?_
  have hs_ := upd1_s (a := ((w12))) (j := 2) (z := ((z17 + z20)))
  have hu0_ : (2 : Int) = 0 ∨ upd1 ((w12)) 2 (((z17 + z20))) 0 = ((w12)) 0 := by by_cases w : (0 : Int) = 2; exact .inl (by omega); exact .inr (upd1_o w)
  have hu1_ : (2 : Int) = 1 ∨ upd1 ((w12)) 2 (((z17 + z20))) 1 = ((w12)) 1 := by by_cases w : (1 : Int) = 2; exact .inl (by omega); exact .inr (upd1_o w)
  have hu2_ : (2 : Int) = 2 ∨ upd1 ((w12)) 2 (((z17 + z20))) 2 = ((w12)) 2 := by by_cases w : (2 : Int) = 2; exact .inl (by omega); exact .inr (upd1_o w)
  refine v_sI H (o := 12) (z := (z17 + z20)) rfl rfl rfl rfl (n := n12) (en12) (show 0 ≤ 2 ∧ 2 < n12 by omega) (show inr ((z17 + z20)) by omega) (fun σ H O' => ?_)
  have O := OUT_trans O O'
  have : ∀ s b z, tsF XX (((w12)) 2) = (s, b, z) → ((upd1 (w12) (2) ((z17 + z20)))) 2 = z + bvA (ub8 ((w14))) (8 * (u13_1)) ((u13_2)) b ∧ (y20_0_2) = (u13_2) - b := fun s b z h => by have h0 := hts.symm.trans h; have h1 : z19 = b := congrArg (fun q => q.2.1) h0; have h2 : z17 = z := congrArg (fun q => q.2.2) h0; subst h1 h2; exact ⟨by rw [upd1_s, ← htk]; omega, by omega⟩
  exact w_ret rfl (k _ _ _ H O (SF_trans (SF_trans (SF_trans (SF_refl) (SF_glu (ι := [3, 4, 5, 6, 7, 8, 9, 10, 11]) hS17 eF17 (by decide +kernel)) (any_sub (l' := []) rfl)) (SF_glu (ι := [3, 4, 5, 6, 7, 8, 9, 10, 11]) hS19 eF19 (by decide +kernel)) (any_sub (l' := []) rfl)) (SF_glu (ι := [13, 14]) hS20 eF20 (by decide +kernel)) (any_sub (l' := [(13, 2)]) rfl)) (SA_upd (SA_trans (SA_trans (SA_trans (SA_refl) (SA_glu (ι := [3, 4, 5, 6, 7, 8, 9, 10, 11]) hA17 eA17 (by decide +kernel)) (any_subA (l' := []) rfl)) (SA_glu (ι := [3, 4, 5, 6, 7, 8, 9, 10, 11]) hA19 eA19 (by decide +kernel)) (any_subA (l' := []) rfl)) (SA_glu (ι := [13, 14]) hA20 eA20 (by decide +kernel)) (any_subA (l' := []) rfl)) rfl) (y20_0_2) (((eF20 13 2).trans ey20_0_2)) (upd1 (w12) (2) ((z17 + z20))) (congrArg (fun q => upd1 q (2) ((z17 + z20))) (((show A20 12 = A19 12 from (eA20 12))).trans (((show A19 12 = A17 12 from (eA19 12))).trans (((show A17 12 = A 12 from (eA17 12))).trans (ew12))))) (show 0 ≤ ((upd1 (w12) (2) ((z17 + z20)))) 2 ∧ ((upd1 (w12) (2) ((z17 + z20)))) 2 < p2 ((u3_0)) by omega) (show 2 = 0 ∨ ((upd1 (w12) (2) ((z17 + z20)))) 0 = ((w12)) 0 by omega) (show 2 = 1 ∨ ((upd1 (w12) (2) ((z17 + z20)))) 1 = ((w12)) 1 by omega) (show 2 = 2 ∨ ((upd1 (w12) (2) ((z17 + z20)))) 2 = ((w12)) 2 by omega) (show 0 ≤ (y20_0_2) ∧ (y20_0_2) ≤ (u13_2) by omega) (show ∀ b, BB ((w4)) ((u3_0)) ((w8)) (((w12)) 2) b → (y20_0_2) = (u13_2) - b by assumption) (show ∀ s b z, tsF XX (((w12)) 2) = (s, b, z) → ((upd1 (w12) (2) ((z17 + z20)))) 2 = z + bvA (ub8 ((w14))) (8 * (u13_1)) ((u13_2)) b ∧ (y20_0_2) = (u13_2) - b by assumption))
abbrev V251 : vV := [(0, 12, [(4, 0), (4, 0), (4, 0), (4, 0), (4, 0), (4, 0), (4, 0), (4, 0), (0, 0), (0, 0), (4, 0), (0, 0), (4, 0), (4, 0), (0, 0), (2, 0), (0, 0), (0, 0), (0, 0), (0, 0), (0, 0), (0, 0)]), (0, 9, [(4, 0), (4, 0), (4, 0)]), (1, 5, []), (0, 8, [(0, 0), (0, 0), (4, 0), (4, 0), (4, 0), (4, 0), (4, 0), (4, 0), (4, 0), (4, 0), (4, 0), (0, 0), (0, 0)]), (1, 1, []), (1, 1, []), (1, 1, []), (1, 1, []), (1, 1, []), (1, 1, []), (1, 1, []), (1, 1, []), (1, 1, []), (0, 8, [(0, 0), (0, 0), (4, 0), (4, 0), (4, 0), (4, 0), (4, 0), (4, 0), (4, 0), (4, 0), (4, 0), (0, 0), (0, 0)]), (1, 1, []), (1, 1, []), (1, 1, []), (1, 1, []), (1, 1, []), (1, 1, []), (1, 1, []), (1, 1, []), (0, 8, [(0, 0), (0, 0), (4, 0), (4, 0), (4, 0), (4, 0), (4, 0), (4, 0), (4, 0), (4, 0), (4, 0), (0, 0), (0, 0)]), (1, 1, []), (1, 1, []), (1, 1, []), (1, 1, []), (1, 1, []), (1, 1, []), (1, 1, []), (1, 1, [])]
/-- Unpacker.bitsBehind: this, this.now, this.now.tables, this.now.tables.0, this.now.tables.0.points, this.now.tables.0.masses, this.now.tables.0.mostBits, this.now.tables.0.starts, this.now.tables.0.symbolAt, this.now.tables.0.numberAt, this.now.tables.0.placeOf, this.now.tables.0.used, this.states, this.now.tables.1, this.now.tables.1.points, this.now.tables.1.masses, this.now.tables.1.mostBits, this.now.tables.1.starts, this.now.tables.1.symbolAt, this.now.tables.1.numberAt, this.now.tables.1.placeOf, this.now.tables.1.used, this.now.tables.2, this.now.tables.2.points, this.now.tables.2.masses, this.now.tables.2.mostBits, this.now.tables.2.starts, this.now.tables.2.symbolAt, this.now.tables.2.numberAt, this.now.tables.2.placeOf, this.now.tables.2.used -/
theorem C251 {σE : rS} {D N : Nat → Nat} {F : hF} {A : hA} {d c s : Nat} {Q : wQ} (H : HW V251 σE D N F A)  (pf1 : F 0 3 = (D 1 : Int)) (pf2 : F 1 1 = (D 2 : Int)) (pf3 : A 2 0 = (D 3 : Int)) (pf4 : F 3 2 = (D 4 : Int)) (pf5 : F 3 3 = (D 5 : Int)) (pf6 : F 3 4 = (D 6 : Int)) (pf7 : F 3 5 = (D 7 : Int)) (pf8 : F 3 7 = (D 8 : Int)) (pf9 : F 3 8 = (D 9 : Int)) (pf10 : F 3 9 = (D 10 : Int)) (pf11 : F 3 6 = (D 11 : Int)) (pf12 : F 0 6 = (D 12 : Int)) (pf13 : A 2 1 = (D 13 : Int)) (pf14 : F 13 2 = (D 14 : Int)) (pf15 : F 13 3 = (D 15 : Int)) (pf16 : F 13 4 = (D 16 : Int)) (pf17 : F 13 5 = (D 17 : Int)) (pf18 : F 13 7 = (D 18 : Int)) (pf19 : F 13 8 = (D 19 : Int)) (pf20 : F 13 9 = (D 20 : Int)) (pf21 : F 13 6 = (D 21 : Int)) (pf22 : A 2 2 = (D 22 : Int)) (pf23 : F 22 2 = (D 23 : Int)) (pf24 : F 22 3 = (D 24 : Int)) (pf25 : F 22 4 = (D 25 : Int)) (pf26 : F 22 5 = (D 26 : Int)) (pf27 : F 22 7 = (D 27 : Int)) (pf28 : F 22 8 = (D 28 : Int)) (pf29 : F 22 9 = (D 29 : Int)) (pf30 : F 22 6 = (D 30 : Int)) (n2 : Int) (en2 : (N 2 : Int) = n2) (n4 : Int) (en4 : (N 4 : Int) = n4) (n5 : Int) (en5 : (N 5 : Int) = n5) (n6 : Int) (en6 : (N 6 : Int) = n6) (n7 : Int) (en7 : (N 7 : Int) = n7) (n8 : Int) (en8 : (N 8 : Int) = n8) (n9 : Int) (en9 : (N 9 : Int) = n9) (n10 : Int) (en10 : (N 10 : Int) = n10) (n11 : Int) (en11 : (N 11 : Int) = n11) (n12 : Int) (en12 : (N 12 : Int) = n12) (n14 : Int) (en14 : (N 14 : Int) = n14) (n15 : Int) (en15 : (N 15 : Int) = n15) (n16 : Int) (en16 : (N 16 : Int) = n16) (n17 : Int) (en17 : (N 17 : Int) = n17) (n18 : Int) (en18 : (N 18 : Int) = n18) (n19 : Int) (en19 : (N 19 : Int) = n19) (n20 : Int) (en20 : (N 20 : Int) = n20) (n21 : Int) (en21 : (N 21 : Int) = n21) (n23 : Int) (en23 : (N 23 : Int) = n23) (n24 : Int) (en24 : (N 24 : Int) = n24) (n25 : Int) (en25 : (N 25 : Int) = n25) (n26 : Int) (en26 : (N 26 : Int) = n26) (n27 : Int) (en27 : (N 27 : Int) = n27) (n28 : Int) (en28 : (N 28 : Int) = n28) (n29 : Int) (en29 : (N 29 : Int) = n29) (n30 : Int) (en30 : (N 30 : Int) = n30) (u3_0 : Int) (eu3_0 : F 3 0 = u3_0) (u3_1 : Int) (eu3_1 : F 3 1 = u3_1) (u13_0 : Int) (eu13_0 : F 13 0 = u13_0) (u13_1 : Int) (eu13_1 : F 13 1 = u13_1) (u22_0 : Int) (eu22_0 : F 22 0 = u22_0) (u22_1 : Int) (eu22_1 : F 22 1 = u22_1) (w4 : Int → Int) (ew4 : A 4 = w4) (w5 : Int → Int) (ew5 : A 5 = w5) (w6 : Int → Int) (ew6 : A 6 = w6) (w7 : Int → Int) (ew7 : A 7 = w7) (w8 : Int → Int) (ew8 : A 8 = w8) (w9 : Int → Int) (ew9 : A 9 = w9) (w10 : Int → Int) (ew10 : A 10 = w10) (w12 : Int → Int) (ew12 : A 12 = w12) (w14 : Int → Int) (ew14 : A 14 = w14) (w15 : Int → Int) (ew15 : A 15 = w15) (w16 : Int → Int) (ew16 : A 16 = w16) (w17 : Int → Int) (ew17 : A 17 = w17) (w18 : Int → Int) (ew18 : A 18 = w18) (w19 : Int → Int) (ew19 : A 19 = w19) (w20 : Int → Int) (ew20 : A 20 = w20) (w23 : Int → Int) (ew23 : A 23 = w23) (w24 : Int → Int) (ew24 : A 24 = w24) (w25 : Int → Int) (ew25 : A 25 = w25) (w26 : Int → Int) (ew26 : A 26 = w26) (w27 : Int → Int) (ew27 : A 27 = w27) (w28 : Int → Int) (ew28 : A 28 = w28) (w29 : Int → Int) (ew29 : A 29 = w29) (h0 : SL ((w4)) ((u3_1)) ((u3_0)) ((w5)) ((w6)) ((w7)) ((w8)) ((w9)) ((w10))) (h1 : SZD ((n4)) ((n5)) ((n6)) ((n7)) ((n11)) ((n8)) ((n9)) ((n10)) ((u3_1)) ((u3_0))) (h2 : (u3_1) ≤ 36) (h3 : 0 ≤ ((w12)) 0 ∧ ((w12)) 0 < p2 ((u3_0))) (h4 : SL ((w14)) ((u13_1)) ((u13_0)) ((w15)) ((w16)) ((w17)) ((w18)) ((w19)) ((w20))) (h5 : SZD ((n14)) ((n15)) ((n16)) ((n17)) ((n21)) ((n18)) ((n19)) ((n20)) ((u13_1)) ((u13_0))) (h6 : (u13_1) ≤ 32) (h7 : 0 ≤ ((w12)) 1 ∧ ((w12)) 1 < p2 ((u13_0))) (h8 : SL ((w23)) ((u22_1)) ((u22_0)) ((w24)) ((w25)) ((w26)) ((w27)) ((w28)) ((w29))) (h9 : SZD ((n23)) ((n24)) ((n25)) ((n26)) ((n30)) ((n27)) ((n28)) ((n29)) ((u22_1)) ((u22_0))) (h10 : (u22_1) ≤ 53) (h11 : 0 ≤ ((w12)) 2 ∧ ((w12)) 2 < p2 ((u22_0))) (h12 : (n12) = 3 ∧ (n2) = 3) (k : ∀ (z : Int) (σ : rS) (F' : hF) (A' : hA), HW V251 σ D N F' A' → OUT (V251).length D N σE c s D N σ c s → SF [] F F' → SA [] A A' → (inr (z)) → (0 ≤ (z) ∧ (z) ≤ 27) → (BSM (fun b => BB ((w4)) ((u3_0)) ((w8)) (((w12)) 0) b) (fun b => BB ((w14)) ((u13_0)) ((w18)) (((w12)) 1) b) (fun b => BB ((w23)) ((u22_0)) ((w27)) (((w12)) 2) b) 3 (z)) → Q (some (I z)) σ c s) : Ew 251 (d + 1) 0 (rargs 0 [.ref (D 0)]) [] σE c s Q := by
  have O := OUT_refl (n := (V251).length) (D := D) (N := N) (σ := σE) (c := c) (s := s)
  have HE := H
  have r1 : (-2147483648 : Int) ≤ u3_0 ∧ u3_0 ≤ 2147483647 := by have h1 : (-2147483648 : Int) ≤ F 3 0 ∧ F 3 0 ≤ 2147483647 := H.krg 3 0 (by decide); rw [show F 3 0 = u3_0 from (eu3_0)] at h1; exact h1
  have r2 : (-2147483648 : Int) ≤ u3_1 ∧ u3_1 ≤ 2147483647 := by have h1 : (-2147483648 : Int) ≤ F 3 1 ∧ F 3 1 ≤ 2147483647 := H.krg 3 1 (by decide); rw [show F 3 1 = u3_1 from (eu3_1)] at h1; exact h1
  have r3 : (-2147483648 : Int) ≤ u13_0 ∧ u13_0 ≤ 2147483647 := by have h1 : (-2147483648 : Int) ≤ F 13 0 ∧ F 13 0 ≤ 2147483647 := H.krg 13 0 (by decide); rw [show F 13 0 = u13_0 from (eu13_0)] at h1; exact h1
  have r4 : (-2147483648 : Int) ≤ u13_1 ∧ u13_1 ≤ 2147483647 := by have h1 : (-2147483648 : Int) ≤ F 13 1 ∧ F 13 1 ≤ 2147483647 := H.krg 13 1 (by decide); rw [show F 13 1 = u13_1 from (eu13_1)] at h1; exact h1
  have r5 : (-2147483648 : Int) ≤ u22_0 ∧ u22_0 ≤ 2147483647 := by have h1 : (-2147483648 : Int) ≤ F 22 0 ∧ F 22 0 ≤ 2147483647 := H.krg 22 0 (by decide); rw [show F 22 0 = u22_0 from (eu22_0)] at h1; exact h1
  have r6 : (-2147483648 : Int) ≤ u22_1 ∧ u22_1 ≤ 2147483647 := by have h1 : (-2147483648 : Int) ≤ F 22 1 ∧ F 22 1 ≤ 2147483647 := H.krg 22 1 (by decide); rw [show F 22 1 = u22_1 from (eu22_1)] at h1; exact h1
  replace pf1 := HIDm pf1
  replace pf2 := HIDm pf2
  replace pf3 := HIDm pf3
  replace pf4 := HIDm pf4
  replace pf5 := HIDm pf5
  replace pf6 := HIDm pf6
  replace pf7 := HIDm pf7
  replace pf8 := HIDm pf8
  replace pf9 := HIDm pf9
  replace pf10 := HIDm pf10
  replace pf11 := HIDm pf11
  replace pf12 := HIDm pf12
  replace pf13 := HIDm pf13
  replace pf14 := HIDm pf14
  replace pf15 := HIDm pf15
  replace pf16 := HIDm pf16
  replace pf17 := HIDm pf17
  replace pf18 := HIDm pf18
  replace pf19 := HIDm pf19
  replace pf20 := HIDm pf20
  replace pf21 := HIDm pf21
  replace pf22 := HIDm pf22
  replace pf23 := HIDm pf23
  replace pf24 := HIDm pf24
  replace pf25 := HIDm pf25
  replace pf26 := HIDm pf26
  replace pf27 := HIDm pf27
  replace pf28 := HIDm pf28
  replace pf29 := HIDm pf29
  replace pf30 := HIDm pf30
  replace en2 := HIDm en2
  replace en4 := HIDm en4
  replace en5 := HIDm en5
  replace en6 := HIDm en6
  replace en7 := HIDm en7
  replace en8 := HIDm en8
  replace en9 := HIDm en9
  replace en10 := HIDm en10
  replace en11 := HIDm en11
  replace en12 := HIDm en12
  replace en14 := HIDm en14
  replace en15 := HIDm en15
  replace en16 := HIDm en16
  replace en17 := HIDm en17
  replace en18 := HIDm en18
  replace en19 := HIDm en19
  replace en20 := HIDm en20
  replace en21 := HIDm en21
  replace en23 := HIDm en23
  replace en24 := HIDm en24
  replace en25 := HIDm en25
  replace en26 := HIDm en26
  replace en27 := HIDm en27
  replace en28 := HIDm en28
  replace en29 := HIDm en29
  replace en30 := HIDm en30
  replace eu3_0 := HIDm eu3_0
  replace eu3_1 := HIDm eu3_1
  replace eu13_0 := HIDm eu13_0
  replace eu13_1 := HIDm eu13_1
  replace eu22_0 := HIDm eu22_0
  replace eu22_1 := HIDm eu22_1
  have r7 : (0 : Int) ≤ n2 ∧ n2 ≤ 1000000 := by have h1 := H.nle 2 (by decide); have h2 : (N 2 : Int) = n2 := en2; omega
  have r8 : (0 : Int) ≤ n4 ∧ n4 ≤ 1000000 := by have h1 := H.nle 4 (by decide); have h2 : (N 4 : Int) = n4 := en4; omega
  have r9 : (0 : Int) ≤ n5 ∧ n5 ≤ 1000000 := by have h1 := H.nle 5 (by decide); have h2 : (N 5 : Int) = n5 := en5; omega
  have r10 : (0 : Int) ≤ n6 ∧ n6 ≤ 1000000 := by have h1 := H.nle 6 (by decide); have h2 : (N 6 : Int) = n6 := en6; omega
  have r11 : (0 : Int) ≤ n7 ∧ n7 ≤ 1000000 := by have h1 := H.nle 7 (by decide); have h2 : (N 7 : Int) = n7 := en7; omega
  have r12 : (0 : Int) ≤ n8 ∧ n8 ≤ 1000000 := by have h1 := H.nle 8 (by decide); have h2 : (N 8 : Int) = n8 := en8; omega
  have r13 : (0 : Int) ≤ n9 ∧ n9 ≤ 1000000 := by have h1 := H.nle 9 (by decide); have h2 : (N 9 : Int) = n9 := en9; omega
  have r14 : (0 : Int) ≤ n10 ∧ n10 ≤ 1000000 := by have h1 := H.nle 10 (by decide); have h2 : (N 10 : Int) = n10 := en10; omega
  have r15 : (0 : Int) ≤ n11 ∧ n11 ≤ 1000000 := by have h1 := H.nle 11 (by decide); have h2 : (N 11 : Int) = n11 := en11; omega
  have r16 : (0 : Int) ≤ n12 ∧ n12 ≤ 1000000 := by have h1 := H.nle 12 (by decide); have h2 : (N 12 : Int) = n12 := en12; omega
  have r17 : (0 : Int) ≤ n14 ∧ n14 ≤ 1000000 := by have h1 := H.nle 14 (by decide); have h2 : (N 14 : Int) = n14 := en14; omega
  have r18 : (0 : Int) ≤ n15 ∧ n15 ≤ 1000000 := by have h1 := H.nle 15 (by decide); have h2 : (N 15 : Int) = n15 := en15; omega
  have r19 : (0 : Int) ≤ n16 ∧ n16 ≤ 1000000 := by have h1 := H.nle 16 (by decide); have h2 : (N 16 : Int) = n16 := en16; omega
  have r20 : (0 : Int) ≤ n17 ∧ n17 ≤ 1000000 := by have h1 := H.nle 17 (by decide); have h2 : (N 17 : Int) = n17 := en17; omega
  have r21 : (0 : Int) ≤ n18 ∧ n18 ≤ 1000000 := by have h1 := H.nle 18 (by decide); have h2 : (N 18 : Int) = n18 := en18; omega
  have r22 : (0 : Int) ≤ n19 ∧ n19 ≤ 1000000 := by have h1 := H.nle 19 (by decide); have h2 : (N 19 : Int) = n19 := en19; omega
  have r23 : (0 : Int) ≤ n20 ∧ n20 ≤ 1000000 := by have h1 := H.nle 20 (by decide); have h2 : (N 20 : Int) = n20 := en20; omega
  have r24 : (0 : Int) ≤ n21 ∧ n21 ≤ 1000000 := by have h1 := H.nle 21 (by decide); have h2 : (N 21 : Int) = n21 := en21; omega
  have r25 : (0 : Int) ≤ n23 ∧ n23 ≤ 1000000 := by have h1 := H.nle 23 (by decide); have h2 : (N 23 : Int) = n23 := en23; omega
  have r26 : (0 : Int) ≤ n24 ∧ n24 ≤ 1000000 := by have h1 := H.nle 24 (by decide); have h2 : (N 24 : Int) = n24 := en24; omega
  have r27 : (0 : Int) ≤ n25 ∧ n25 ≤ 1000000 := by have h1 := H.nle 25 (by decide); have h2 : (N 25 : Int) = n25 := en25; omega
  have r28 : (0 : Int) ≤ n26 ∧ n26 ≤ 1000000 := by have h1 := H.nle 26 (by decide); have h2 : (N 26 : Int) = n26 := en26; omega
  have r29 : (0 : Int) ≤ n27 ∧ n27 ≤ 1000000 := by have h1 := H.nle 27 (by decide); have h2 : (N 27 : Int) = n27 := en27; omega
  have r30 : (0 : Int) ≤ n28 ∧ n28 ≤ 1000000 := by have h1 := H.nle 28 (by decide); have h2 : (N 28 : Int) = n28 := en28; omega
  have r31 : (0 : Int) ≤ n29 ∧ n29 ≤ 1000000 := by have h1 := H.nle 29 (by decide); have h2 : (N 29 : Int) = n29 := en29; omega
  have r32 : (0 : Int) ≤ n30 ∧ n30 ≤ 1000000 := by have h1 := H.nle 30 (by decide); have h2 : (N 30 : Int) = n30 := en30; omega
  have hsl0 : SL ((w4)) ((u3_1)) ((u3_0)) ((w5)) ((w6)) ((w7)) ((w8)) ((w9)) ((w10)) := by assumption
  have hsf0 : 0 ≤ (u3_0) ∧ (u3_0) ≤ 9 := ⟨(SHD_f hsl0.1).1, (SHD_f hsl0.1).2.1⟩
  have hsl1 : SL ((w14)) ((u13_1)) ((u13_0)) ((w15)) ((w16)) ((w17)) ((w18)) ((w19)) ((w20)) := by assumption
  have hsf1 : 0 ≤ (u13_0) ∧ (u13_0) ≤ 9 := ⟨(SHD_f hsl1.1).1, (SHD_f hsl1.1).2.1⟩
  have hsl2 : SL ((w23)) ((u22_1)) ((u22_0)) ((w24)) ((w25)) ((w26)) ((w27)) ((w28)) ((w29)) := by assumption
  have hsf2 : 0 ≤ (u22_0) ∧ (u22_0) ≤ 9 := ⟨(SHD_f hsl2.1).1, (SHD_f hsl2.1).2.1⟩
  refine Ew_of (pc' := 1) (fun _ => x_iconst rfl) ?_
  refine Ew_of (pc' := 2) (fun _ => x_istore_n rfl) ?_
  refine Ew_of (pc' := 3) (fun _ => x_iconst rfl) ?_
  refine Ew_of (pc' := 4) (fun _ => x_istore_n rfl) ?_
  have hb0 : BSM (fun b => BB ((w4)) ((u3_0)) ((w8)) (((w12)) 0) b) (fun b => BB ((w14)) ((u13_0)) ((w18)) (((w12)) 1) b) (fun b => BB ((w23)) ((u22_0)) ((w27)) (((w12)) 2) b) 0 0 := BSM_0
  suffices hl4 : ∀ (m : Nat), ∀ (ls : rO) (σ : rS) (F_4 : hF) (A_4 : hA) (x4_1 : Int) (x4_2 : Int), rlook ls 0 = some (.ref (D 0)) → rlook ls 1 = some (I (x4_1)) → rlook ls 2 = some (I (x4_2)) → HW V251 σ D N F_4 A_4 → OUT (V251).length D N σE c s D N σ c s → SF [] F F_4 → SA [] A A_4 → (inr (x4_1)) → (inr (x4_2)) → ((0) ≤ (x4_2)) → ((x4_2) ≤ (0) ∨ (x4_2) ≤ (3)) → (0 ≤ (x4_1) ∧ (x4_1) ≤ 9 * (x4_2)) → (BSM (fun b => BB ((w4)) ((u3_0)) ((w8)) (((w12)) 0) b) (fun b => BB ((w14)) ((u13_0)) ((w18)) (((w12)) 1) b) (fun b => BB ((w23)) ((u22_0)) ((w27)) (((w12)) 2) b) (x4_2) (x4_1)) → ((3) - (x4_2)).toNat = m → Ew 251 (d + 1) 4 ls [] σ c s Q from
    hl4 _ _ _ _ _ (0) (0) (rk_o (rk_o (rfl) rfl rfl) rfl rfl) (rk_o (rk_s) rfl rfl) (rk_s) H O (SF_refl) (SA_refl)     (show inr (0) by omega) (show inr (0) by omega) (show (0) ≤ (0) by omega) (show (0) ≤ (0) ∨ (0) ≤ (3) by omega) (show 0 ≤ (0) ∧ (0) ≤ 9 * (0) by omega) (show BSM (fun b => BB ((w4)) ((u3_0)) ((w8)) (((w12)) 0) b) (fun b => BB ((w14)) ((u13_0)) ((w18)) (((w12)) 1) b) (fun b => BB ((w23)) ((u22_0)) ((w27)) (((w12)) 2) b) (0) (0) by assumption) rfl
  as_aux_lemma =>
  intro m
  induction m using Nat.strongRecOn with
  | _ m ih4 =>
    intro ls σ F_4 A_4 x4_1 x4_2 l4_0 l4_1 l4_2 H O hS_4 hA_4     j4_0 j4_1 j4_2 j4_3 j4_4 j4_5 hm4
    have hbs : BSM (fun b => BB ((w4)) ((u3_0)) ((w8)) (((w12)) 0) b) (fun b => BB ((w14)) ((u13_0)) ((w18)) (((w12)) 1) b) (fun b => BB ((w23)) ((u22_0)) ((w27)) (((w12)) 2) b) (x4_2) (x4_1) := by assumption
    refine Ew_of (pc' := 5) (fun _ => x_iload_n rfl l4_2) ?_
    refine Ew_of (pc' := 6) (fun _ => x_iconst rfl) ?_
    refine w_icmpge (t := 36) rfl rfl (show inr (x4_2) by omega) (show inr (3) by omega) (fun b33 => ?_) (fun b33 => ?_)
    · have hl2 : (x4_2) = 3 := by omega
      have hbe : BSM (fun b => BB ((w4)) ((u3_0)) ((w8)) (((w12)) 0) b) (fun b => BB ((w14)) ((u13_0)) ((w18)) (((w12)) 1) b) (fun b => BB ((w23)) ((u22_0)) ((w27)) (((w12)) 2) b) 3 (x4_1) := by rw [← hl2]; assumption
      refine Ew_of (pc' := 37) (fun _ => x_iload_n rfl l4_1) ?_
      exact w_ireturn rfl (k (x4_1) _ _ _ H O (SF_trans (SF_refl) hS_4 (any_sub rfl)) (SA_trans (SA_refl) hA_4 (any_subA rfl)) (show inr (x4_1) by omega) (show 0 ≤ (x4_1) ∧ (x4_1) ≤ 27 by omega) (show BSM (fun b => BB ((w4)) ((u3_0)) ((w8)) (((w12)) 0) b) (fun b => BB ((w14)) ((u13_0)) ((w18)) (((w12)) 1) b) (fun b => BB ((w23)) ((u22_0)) ((w27)) (((w12)) 2) b) 3 (x4_1) by assumption))
    · refine Ew_of (pc' := 10) (fun _ => x_iload_n rfl l4_1) ?_
      have hc28 : ∀ (tc28_0 : Int), ∀ (ls : rO) (σ : rS) (F_c28 : hF) (A_c28 : hA) , rlook ls 0 = some (.ref (D 0)) → rlook ls 2 = some (I (x4_2)) → HW V251 σ D N F_c28 A_c28 → OUT (V251).length D N σE c s D N σ c s → SF [] F_4 F_c28 → SA [] A_4 A_c28 → (inr (tc28_0)) → (0 ≤ (tc28_0) ∧ (tc28_0) ≤ 9) → (BSM (fun b => BB ((w4)) ((u3_0)) ((w8)) (((w12)) 0) b) (fun b => BB ((w14)) ((u13_0)) ((w18)) (((w12)) 1) b) (fun b => BB ((w23)) ((u22_0)) ((w27)) (((w12)) 2) b) ((x4_2) + 1) ((x4_1) + (tc28_0))) → Ew 251 (d + 1) 28 ls [I (tc28_0), I (x4_1)] σ c s Q := by
       as_aux_lemma =>
        intro tc28_0 ls σ F_c28 A_c28  lc28_0 lc28_2 H O hS_c28 hA_c28     jc28_0 jc28_1 jc28_2
        refine w_iadd rfl ?_
        refine Ew_of (pc' := 30) (fun _ => x_istore_n rfl) ?_
        refine Ew_of (pc' := 33) (fun _ => x_iinc (len := 3) rfl (rk_o (lc28_2) rfl rfl)) ?_
        refine Ew_of (pc' := 4) (fun _ => x_goto rfl rfl) ?_
        exact ih4 _ (by omega) _ _ _ _ ((x4_1 + tc28_0)) ((x4_2 + 1)) (rk_o (rk_o (lc28_0) rfl rfl) rfl rfl) (rk_o (rk_s) rfl rfl) (rk_s) H O (SF_trans (hS_4) hS_c28 (any_sub rfl)) (SA_trans (hA_4) hA_c28 (any_subA rfl))     (show inr ((x4_1 + tc28_0)) by omega) (show inr ((x4_2 + 1)) by omega) (show (0) ≤ ((x4_2 + 1)) by omega) (show ((x4_2 + 1)) ≤ (0) ∨ ((x4_2 + 1)) ≤ (3) by omega) (show 0 ≤ ((x4_1 + tc28_0)) ∧ ((x4_1 + tc28_0)) ≤ 9 * ((x4_2 + 1)) by omega) (show BSM (fun b => BB ((w4)) ((u3_0)) ((w8)) (((w12)) 0) b) (fun b => BB ((w14)) ((u13_0)) ((w18)) (((w12)) 1) b) (fun b => BB ((w23)) ((u22_0)) ((w27)) (((w12)) 2) b) ((x4_2 + 1)) ((x4_1 + tc28_0)) by assumption) rfl
      refine Ew_of (pc' := 11) (fun _ => x_aload_n rfl l4_0) ?_
      refine v_g H (o := 0) (v := .ref (D 1)) rfl rfl rfl rfl rfl (vrf (((hS_4 0 3 rfl)).trans (pf1))) ?_
      refine v_g H (o := 1) (v := .ref (D 2)) rfl rfl rfl rfl rfl (vrf (((hS_4 1 1 rfl)).trans (pf2))) ?_
      refine Ew_of (pc' := 18) (fun _ => x_iload_n rfl l4_2) ?_
      rcases (show x4_2 = 0 ∨ x4_2 = 1 ∨ x4_2 = 2 by omega) with b34 | b34 | b34
      · refine v_lR H (o := 2) rfl rfl rfl rfl rfl (n := n2) (en2) (show 0 ≤ x4_2 ∧ x4_2 < n2 by omega) (z := ((D 3 : Nat) : Int)) (v := .ref (D 3)) ((congrArg (A_4 2) b34).trans ((congrFun ((funext (hA_4 2 rfl))) 0).trans (pf3))) (vrf rfl) ?_
        refine Ew_of (pc' := 20) (fun _ => x_aload_n rfl l4_0) ?_
        refine v_g H (o := 0) (v := .ref (D 12)) rfl rfl rfl rfl rfl (vrf (((hS_4 0 6 rfl)).trans (pf12))) ?_
        refine Ew_of (pc' := 24) (fun _ => x_iload_n rfl l4_2) ?_
        refine v_lI H (o := 12) rfl rfl rfl rfl (n := n12) (en12) (show 0 ≤ x4_2 ∧ x4_2 < n12 by omega) (fun v35 ev35 qv35 => ?_)
        have ev35 : (w12) (x4_2) = v35 := (congrFun ((funext (hA_4 12 rfl)).trans (ew12)) (x4_2)).symm.trans ev35
        have hvs := ev35
        have hvk0 : ((x4_2) : Int) = 0 → ((w12)) 0 = (v35) := fun q => by rw [← q]; exact hvs
        have hvk1 : ((x4_2) : Int) = 1 → ((w12)) 1 = (v35) := fun q => by rw [← q]; exact hvs
        have hvk2 : ((x4_2) : Int) = 2 → ((w12)) 2 = (v35) := fun q => by rw [← q]; exact hvs
        refine v_inv H (o := 3) rfl rfl rfl rfl rfl rfl (by rfl) (C172o (D := pul [3, 4, 5, 6, 7, 8, 9, 10, 11] D) (N := pul [3, 4, 5, 6, 7, 8, 9, 10, 11] N) (HW_sub H (VS_of (show vsub V251 V172 [3, 4, 5, 6, 7, 8, 9, 10, 11] = true by decide +kernel))) (((hS_4 3 2 rfl)).trans (pf4)) (((hS_4 3 3 rfl)).trans (pf5)) (((hS_4 3 4 rfl)).trans (pf6)) (((hS_4 3 5 rfl)).trans (pf7)) (((hS_4 3 7 rfl)).trans (pf8)) (((hS_4 3 8 rfl)).trans (pf9)) (((hS_4 3 9 rfl)).trans (pf10)) (((hS_4 3 6 rfl)).trans (pf11)) (n4) (en4) (n5) (en5) (n6) (en6) (n7) (en7) (n8) (en8) (n9) (en9) (n10) (en10) (n11) (en11) (u3_0) (((hS_4 3 0 rfl).trans (eu3_0))) (u3_1) (((hS_4 3 1 rfl).trans (eu3_1))) (w4) ((funext (hA_4 4 rfl)).trans (ew4)) (w5) ((funext (hA_4 5 rfl)).trans (ew5)) (w6) ((funext (hA_4 6 rfl)).trans (ew6)) (w7) ((funext (hA_4 7 rfl)).trans (ew7)) (w8) ((funext (hA_4 8 rfl)).trans (ew8)) (w9) ((funext (hA_4 9 rfl)).trans (ew9)) (w10) ((funext (hA_4 10 rfl)).trans (ew10)) (show inr (v35) by omega) (show SL ((w4)) ((u3_1)) ((u3_0)) ((w5)) ((w6)) ((w7)) ((w8)) ((w9)) ((w10)) by assumption) (show SZD ((n4)) ((n5)) ((n6)) ((n7)) ((n11)) ((n8)) ((n9)) ((n10)) ((u3_1)) ((u3_0)) by assumption) (show 0 ≤ (v35) ∧ (v35) < p2 ((u3_0)) by omega) (fun z36 σ36 F36' A36' H' O' hS36 hA36 pz36_0 pz36_1 pz36_2 => ⟨rfl, ?_⟩))
        refine v_back (c := c) (s := s) H (show vsub V251 V172 [3, 4, 5, 6, 7, 8, 9, 10, 11] = true by decide +kernel) H' O' (fun F36 A36 H O' eF36 eA36 => ?_)
        have O := OUT_trans O O'
        -- Share.bitsBehind
        have hbt : BSM (fun b => BB ((w4)) ((u3_0)) ((w8)) (((w12)) 0) b) (fun b => BB ((w14)) ((u13_0)) ((w18)) (((w12)) 1) b) (fun b => BB ((w23)) ((u22_0)) ((w27)) (((w12)) 2) b) ((x4_2) + 1) ((x4_1) + (z36)) := by first | exact BSM_a hbs (by omega) rfl (by show BB ((w4)) ((u3_0)) ((w8)) (((w12)) 0) ((z36)); have hl0 : ((x4_2) : Int) = 0 := (by omega); rw [← hl0, hvs]; exact pz36_1) (fun _ _ p q => BB_uniq p q) rfl | exact BSM_b hbs (by omega) rfl (by show BB ((w14)) ((u13_0)) ((w18)) (((w12)) 1) ((z36)); have hl0 : ((x4_2) : Int) = 1 := (by omega); rw [← hl0, hvs]; exact pz36_1) (fun _ _ p q => BB_uniq p q) rfl | exact BSM_c hbs (by omega) rfl (by show BB ((w23)) ((u22_0)) ((w27)) (((w12)) 2) ((z36)); have hl0 : ((x4_2) : Int) = 2 := (by omega); rw [← hl0, hvs]; exact pz36_1) (fun _ _ p q => BB_uniq p q) rfl
        exact hc28 (z36) _ _ _ _  (l4_0) (l4_2) H O (SF_trans (SF_refl) (SF_glu (ι := [3, 4, 5, 6, 7, 8, 9, 10, 11]) hS36 eF36 (by decide +kernel)) (any_sub (l' := []) rfl)) (SA_trans (SA_refl) (SA_glu (ι := [3, 4, 5, 6, 7, 8, 9, 10, 11]) hA36 eA36 (by decide +kernel)) (any_subA (l' := []) rfl))     (show inr (z36) by omega) (show 0 ≤ (z36) ∧ (z36) ≤ 9 by omega) (show BSM (fun b => BB ((w4)) ((u3_0)) ((w8)) (((w12)) 0) b) (fun b => BB ((w14)) ((u13_0)) ((w18)) (((w12)) 1) b) (fun b => BB ((w23)) ((u22_0)) ((w27)) (((w12)) 2) b) ((x4_2) + 1) ((x4_1) + (z36)) by assumption)
      · refine v_lR H (o := 2) rfl rfl rfl rfl rfl (n := n2) (en2) (show 0 ≤ x4_2 ∧ x4_2 < n2 by omega) (z := ((D 13 : Nat) : Int)) (v := .ref (D 13)) ((congrArg (A_4 2) b34).trans ((congrFun ((funext (hA_4 2 rfl))) 1).trans (pf13))) (vrf rfl) ?_
        refine Ew_of (pc' := 20) (fun _ => x_aload_n rfl l4_0) ?_
        refine v_g H (o := 0) (v := .ref (D 12)) rfl rfl rfl rfl rfl (vrf (((hS_4 0 6 rfl)).trans (pf12))) ?_
        refine Ew_of (pc' := 24) (fun _ => x_iload_n rfl l4_2) ?_
        refine v_lI H (o := 12) rfl rfl rfl rfl (n := n12) (en12) (show 0 ≤ x4_2 ∧ x4_2 < n12 by omega) (fun v37 ev37 qv37 => ?_)
        have ev37 : (w12) (x4_2) = v37 := (congrFun ((funext (hA_4 12 rfl)).trans (ew12)) (x4_2)).symm.trans ev37
        have hvs := ev37
        have hvk0 : ((x4_2) : Int) = 0 → ((w12)) 0 = (v37) := fun q => by rw [← q]; exact hvs
        have hvk1 : ((x4_2) : Int) = 1 → ((w12)) 1 = (v37) := fun q => by rw [← q]; exact hvs
        have hvk2 : ((x4_2) : Int) = 2 → ((w12)) 2 = (v37) := fun q => by rw [← q]; exact hvs
        refine v_inv H (o := 13) rfl rfl rfl rfl rfl rfl (by rfl) (C172o (D := pul [13, 14, 15, 16, 17, 18, 19, 20, 21] D) (N := pul [13, 14, 15, 16, 17, 18, 19, 20, 21] N) (HW_sub H (VS_of (show vsub V251 V172 [13, 14, 15, 16, 17, 18, 19, 20, 21] = true by decide +kernel))) (((hS_4 13 2 rfl)).trans (pf14)) (((hS_4 13 3 rfl)).trans (pf15)) (((hS_4 13 4 rfl)).trans (pf16)) (((hS_4 13 5 rfl)).trans (pf17)) (((hS_4 13 7 rfl)).trans (pf18)) (((hS_4 13 8 rfl)).trans (pf19)) (((hS_4 13 9 rfl)).trans (pf20)) (((hS_4 13 6 rfl)).trans (pf21)) (n14) (en14) (n15) (en15) (n16) (en16) (n17) (en17) (n18) (en18) (n19) (en19) (n20) (en20) (n21) (en21) (u13_0) (((hS_4 13 0 rfl).trans (eu13_0))) (u13_1) (((hS_4 13 1 rfl).trans (eu13_1))) (w14) ((funext (hA_4 14 rfl)).trans (ew14)) (w15) ((funext (hA_4 15 rfl)).trans (ew15)) (w16) ((funext (hA_4 16 rfl)).trans (ew16)) (w17) ((funext (hA_4 17 rfl)).trans (ew17)) (w18) ((funext (hA_4 18 rfl)).trans (ew18)) (w19) ((funext (hA_4 19 rfl)).trans (ew19)) (w20) ((funext (hA_4 20 rfl)).trans (ew20)) (show inr (v37) by omega) (show SL ((w14)) ((u13_1)) ((u13_0)) ((w15)) ((w16)) ((w17)) ((w18)) ((w19)) ((w20)) by assumption) (show SZD ((n14)) ((n15)) ((n16)) ((n17)) ((n21)) ((n18)) ((n19)) ((n20)) ((u13_1)) ((u13_0)) by assumption) (show 0 ≤ (v37) ∧ (v37) < p2 ((u13_0)) by omega) (fun z38 σ38 F38' A38' H' O' hS38 hA38 pz38_0 pz38_1 pz38_2 => ⟨rfl, ?_⟩))
        refine v_back (c := c) (s := s) H (show vsub V251 V172 [13, 14, 15, 16, 17, 18, 19, 20, 21] = true by decide +kernel) H' O' (fun F38 A38 H O' eF38 eA38 => ?_)
        have O := OUT_trans O O'
        -- Share.bitsBehind
        have hbt : BSM (fun b => BB ((w4)) ((u3_0)) ((w8)) (((w12)) 0) b) (fun b => BB ((w14)) ((u13_0)) ((w18)) (((w12)) 1) b) (fun b => BB ((w23)) ((u22_0)) ((w27)) (((w12)) 2) b) ((x4_2) + 1) ((x4_1) + (z38)) := by first | exact BSM_a hbs (by omega) rfl (by show BB ((w4)) ((u3_0)) ((w8)) (((w12)) 0) ((z38)); have hl0 : ((x4_2) : Int) = 0 := (by omega); rw [← hl0, hvs]; exact pz38_1) (fun _ _ p q => BB_uniq p q) rfl | exact BSM_b hbs (by omega) rfl (by show BB ((w14)) ((u13_0)) ((w18)) (((w12)) 1) ((z38)); have hl0 : ((x4_2) : Int) = 1 := (by omega); rw [← hl0, hvs]; exact pz38_1) (fun _ _ p q => BB_uniq p q) rfl | exact BSM_c hbs (by omega) rfl (by show BB ((w23)) ((u22_0)) ((w27)) (((w12)) 2) ((z38)); have hl0 : ((x4_2) : Int) = 2 := (by omega); rw [← hl0, hvs]; exact pz38_1) (fun _ _ p q => BB_uniq p q) rfl
        exact hc28 (z38) _ _ _ _  (l4_0) (l4_2) H O (SF_trans (SF_refl) (SF_glu (ι := [13, 14, 15, 16, 17, 18, 19, 20, 21]) hS38 eF38 (by decide +kernel)) (any_sub (l' := []) rfl)) (SA_trans (SA_refl) (SA_glu (ι := [13, 14, 15, 16, 17, 18, 19, 20, 21]) hA38 eA38 (by decide +kernel)) (any_subA (l' := []) rfl))     (show inr (z38) by omega) (show 0 ≤ (z38) ∧ (z38) ≤ 9 by omega) (show BSM (fun b => BB ((w4)) ((u3_0)) ((w8)) (((w12)) 0) b) (fun b => BB ((w14)) ((u13_0)) ((w18)) (((w12)) 1) b) (fun b => BB ((w23)) ((u22_0)) ((w27)) (((w12)) 2) b) ((x4_2) + 1) ((x4_1) + (z38)) by assumption)
      · refine v_lR H (o := 2) rfl rfl rfl rfl rfl (n := n2) (en2) (show 0 ≤ x4_2 ∧ x4_2 < n2 by omega) (z := ((D 22 : Nat) : Int)) (v := .ref (D 22)) ((congrArg (A_4 2) b34).trans ((congrFun ((funext (hA_4 2 rfl))) 2).trans (pf22))) (vrf rfl) ?_
        refine Ew_of (pc' := 20) (fun _ => x_aload_n rfl l4_0) ?_
        refine v_g H (o := 0) (v := .ref (D 12)) rfl rfl rfl rfl rfl (vrf (((hS_4 0 6 rfl)).trans (pf12))) ?_
        refine Ew_of (pc' := 24) (fun _ => x_iload_n rfl l4_2) ?_
        refine v_lI H (o := 12) rfl rfl rfl rfl (n := n12) (en12) (show 0 ≤ x4_2 ∧ x4_2 < n12 by omega) (fun v39 ev39 qv39 => ?_)
        have ev39 : (w12) (x4_2) = v39 := (congrFun ((funext (hA_4 12 rfl)).trans (ew12)) (x4_2)).symm.trans ev39
        have hvs := ev39
        have hvk0 : ((x4_2) : Int) = 0 → ((w12)) 0 = (v39) := fun q => by rw [← q]; exact hvs
        have hvk1 : ((x4_2) : Int) = 1 → ((w12)) 1 = (v39) := fun q => by rw [← q]; exact hvs
        have hvk2 : ((x4_2) : Int) = 2 → ((w12)) 2 = (v39) := fun q => by rw [← q]; exact hvs
        refine v_inv H (o := 22) rfl rfl rfl rfl rfl rfl (by rfl) (C172o (D := pul [22, 23, 24, 25, 26, 27, 28, 29, 30] D) (N := pul [22, 23, 24, 25, 26, 27, 28, 29, 30] N) (HW_sub H (VS_of (show vsub V251 V172 [22, 23, 24, 25, 26, 27, 28, 29, 30] = true by decide +kernel))) (((hS_4 22 2 rfl)).trans (pf23)) (((hS_4 22 3 rfl)).trans (pf24)) (((hS_4 22 4 rfl)).trans (pf25)) (((hS_4 22 5 rfl)).trans (pf26)) (((hS_4 22 7 rfl)).trans (pf27)) (((hS_4 22 8 rfl)).trans (pf28)) (((hS_4 22 9 rfl)).trans (pf29)) (((hS_4 22 6 rfl)).trans (pf30)) (n23) (en23) (n24) (en24) (n25) (en25) (n26) (en26) (n27) (en27) (n28) (en28) (n29) (en29) (n30) (en30) (u22_0) (((hS_4 22 0 rfl).trans (eu22_0))) (u22_1) (((hS_4 22 1 rfl).trans (eu22_1))) (w23) ((funext (hA_4 23 rfl)).trans (ew23)) (w24) ((funext (hA_4 24 rfl)).trans (ew24)) (w25) ((funext (hA_4 25 rfl)).trans (ew25)) (w26) ((funext (hA_4 26 rfl)).trans (ew26)) (w27) ((funext (hA_4 27 rfl)).trans (ew27)) (w28) ((funext (hA_4 28 rfl)).trans (ew28)) (w29) ((funext (hA_4 29 rfl)).trans (ew29)) (show inr (v39) by omega) (show SL ((w23)) ((u22_1)) ((u22_0)) ((w24)) ((w25)) ((w26)) ((w27)) ((w28)) ((w29)) by assumption) (show SZD ((n23)) ((n24)) ((n25)) ((n26)) ((n30)) ((n27)) ((n28)) ((n29)) ((u22_1)) ((u22_0)) by assumption) (show 0 ≤ (v39) ∧ (v39) < p2 ((u22_0)) by omega) (fun z40 σ40 F40' A40' H' O' hS40 hA40 pz40_0 pz40_1 pz40_2 => ⟨rfl, ?_⟩))
        refine v_back (c := c) (s := s) H (show vsub V251 V172 [22, 23, 24, 25, 26, 27, 28, 29, 30] = true by decide +kernel) H' O' (fun F40 A40 H O' eF40 eA40 => ?_)
        have O := OUT_trans O O'
        -- Share.bitsBehind
        have hbt : BSM (fun b => BB ((w4)) ((u3_0)) ((w8)) (((w12)) 0) b) (fun b => BB ((w14)) ((u13_0)) ((w18)) (((w12)) 1) b) (fun b => BB ((w23)) ((u22_0)) ((w27)) (((w12)) 2) b) ((x4_2) + 1) ((x4_1) + (z40)) := by first | exact BSM_a hbs (by omega) rfl (by show BB ((w4)) ((u3_0)) ((w8)) (((w12)) 0) ((z40)); have hl0 : ((x4_2) : Int) = 0 := (by omega); rw [← hl0, hvs]; exact pz40_1) (fun _ _ p q => BB_uniq p q) rfl | exact BSM_b hbs (by omega) rfl (by show BB ((w14)) ((u13_0)) ((w18)) (((w12)) 1) ((z40)); have hl0 : ((x4_2) : Int) = 1 := (by omega); rw [← hl0, hvs]; exact pz40_1) (fun _ _ p q => BB_uniq p q) rfl | exact BSM_c hbs (by omega) rfl (by show BB ((w23)) ((u22_0)) ((w27)) (((w12)) 2) ((z40)); have hl0 : ((x4_2) : Int) = 2 := (by omega); rw [← hl0, hvs]; exact pz40_1) (fun _ _ p q => BB_uniq p q) rfl
        exact hc28 (z40) _ _ _ _  (l4_0) (l4_2) H O (SF_trans (SF_refl) (SF_glu (ι := [22, 23, 24, 25, 26, 27, 28, 29, 30]) hS40 eF40 (by decide +kernel)) (any_sub (l' := []) rfl)) (SA_trans (SA_refl) (SA_glu (ι := [22, 23, 24, 25, 26, 27, 28, 29, 30]) hA40 eA40 (by decide +kernel)) (any_subA (l' := []) rfl))     (show inr (z40) by omega) (show 0 ≤ (z40) ∧ (z40) ≤ 9 by omega) (show BSM (fun b => BB ((w4)) ((u3_0)) ((w8)) (((w12)) 0) b) (fun b => BB ((w14)) ((u13_0)) ((w18)) (((w12)) 1) b) (fun b => BB ((w23)) ((u22_0)) ((w27)) (((w12)) 2) b) ((x4_2) + 1) ((x4_1) + (z40)) by assumption)
