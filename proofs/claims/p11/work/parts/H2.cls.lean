abbrev V232 : vV := [(0, 12, [(4, 0), (4, 0), (4, 0), (4, 0), (4, 0), (4, 0), (4, 0), (4, 0), (0, 0), (0, 0), (4, 0), (0, 0), (4, 0), (4, 0), (0, 0), (2, 0), (0, 0), (0, 0), (0, 0), (0, 0), (0, 0), (0, 0)])]
/-- Unpacker.fail: this -/
theorem C232 {σE : rS} {D N : Nat → Nat} {F : hF} {A : hA} {d c s : Nat} {Q : wQ} (H : HW V232 σE D N F A) {a1 a2 : Int} (u0_21 : Int) (eu0_21 : F 0 21 = u0_21) (h0 : inr (a1)) (h1 : inr (a2)) (k : ∀ (z : Int) (σ : rS) (Fₚ : hF) (Aₚ : hA), HW V232 σ D N Fₚ Aₚ → OUT (V232).length D N σE c s D N σ c s → SF [(0, 21)] F Fₚ → SA [] A Aₚ → ∀ y0_21 : Int, Fₚ 0 21 = y0_21 → (inr (z)) → ((z) = (a1)) → ((y0_21) = (a2)) → Q (some (I z)) σ c s) : Ew 232 (d + 0) 0 (rargs 0 [.ref (D 0), I a1, I a2]) [] σE c s Q := by
  have O := OUT_refl (n := (V232).length) (D := D) (N := N) (σ := σE) (c := c) (s := s)
  have HE := H
  have r1 : (-2147483648 : Int) ≤ u0_21 ∧ u0_21 ≤ 2147483647 := by have h1 : (-2147483648 : Int) ≤ F 0 21 ∧ F 0 21 ≤ 2147483647 := H.krg 0 21 (by decide); rw [show F 0 21 = u0_21 from (eu0_21)] at h1; exact h1
  replace eu0_21 := HIDm eu0_21
  refine Ew_of (pcₚ := 1) (fun _ => x_aload_n rfl rfl) ?_
  refine Ew_of (pcₚ := 2) (fun _ => x_iload_n rfl rfl) ?_
  refine v_p H (o := 0) (z := a2) (v := I (a2)) rfl rfl rfl rfl rfl rfl rfl rfl (show (-2147483648 : Int) ≤ a2 ∧ a2 ≤ 2147483647 by omega) (fun σ H Oₚ => ?_)
  have O := OUT_trans O Oₚ
  refine Ew_of (pcₚ := 6) (fun _ => x_iload_n rfl rfl) ?_
  exact w_ireturn rfl (k (a1) _ _ _ H O (SF_upd (SF_refl) rfl) (SA_refl) (a2) (rfl) (show inr (a1) by omega) (show (a1) = a1 by omega) (show (a2) = a2 by omega))
abbrev V234 : vV := [(0, 12, [(4, 0), (4, 0), (4, 0), (4, 0), (4, 0), (4, 0), (4, 0), (4, 0), (0, 0), (0, 0), (4, 0), (0, 0), (4, 0), (4, 0), (0, 0), (2, 0), (0, 0), (0, 0), (0, 0), (0, 0), (0, 0), (0, 0)])]
/-- Unpacker.blockMost: this -/
theorem C234 {σE : rS} {D N : Nat → Nat} {F : hF} {A : hA} {d c s : Nat} {Q : wQ} (H : HW V234 σE D N F A)  (u0_15 : Int) (eu0_15 : F 0 15 = u0_15) (h0 : 0 ≤ (u0_15)) (k : ∀ (z : Int) (σ : rS) (Fₚ : hF) (Aₚ : hA), HW V234 σ D N Fₚ Aₚ → OUT (V234).length D N σE c s D N σ c s → SF [] F Fₚ → SA [] A Aₚ → (inr (z)) → (0 ≤ (z) ∧ (z) ≤ 131072) → Q (some (I z)) σ c s) : Ew 234 (d + 0) 0 (rargs 0 [.ref (D 0)]) [] σE c s Q := by
  have O := OUT_refl (n := (V234).length) (D := D) (N := N) (σ := σE) (c := c) (s := s)
  have HE := H
  have r1 : (-9223372036854775808 : Int) ≤ u0_15 ∧ u0_15 ≤ 9223372036854775807 := by have h1 : (-9223372036854775808 : Int) ≤ F 0 15 ∧ F 0 15 ≤ 9223372036854775807 := H.krg 0 15 (by decide); rw [show F 0 15 = u0_15 from (eu0_15)] at h1; exact h1
  replace eu0_15 := HIDm eu0_15
  refine Ew_of (pcₚ := 1) (fun _ => x_aload_n rfl rfl) ?_
  refine v_g H (o := 0) (v := J (u0_15)) rfl rfl rfl rfl rfl (congrArg (fun z : Int => J z) ((eu0_15) : F 0 15 = u0_15)) ?_
  refine Ew_of (pcₚ := 7) (fun _ => x_ldc2 (z := 131072) rfl (by decide)) ?_
  refine w_lcmp rfl (show inrJ (u0_15) by omega) (show inrJ (131072) by omega) (fun z2 gz2 gaz2 gbz2 => ?_)
  refine w_ifge (t := 19) rfl rfl (show inr (z2) by omega) (fun b3 => ?_) (fun b3 => ?_)
  · refine Ew_of (pcₚ := 21) (fun _ => x_ldc (z := 131072) rfl (by decide)) ?_
    exact w_ireturn rfl (k (131072) _ _ _ H O (SF_refl) (SA_refl) (show inr (131072) by omega) (show 0 ≤ (131072) ∧ (131072) ≤ 131072 by omega))
  · refine Ew_of (pcₚ := 12) (fun _ => x_aload_n rfl rfl) ?_
    refine v_g H (o := 0) (v := J (u0_15)) rfl rfl rfl rfl rfl (congrArg (fun z : Int => J z) ((eu0_15) : F 0 15 = u0_15)) ?_
    refine w_l2i rfl ?_
    refine Ew_of (pcₚ := 21) (fun _ => x_goto rfl rfl) ?_
    exact w_ireturn rfl (k (u0_15) _ _ _ H O (SF_refl) (SA_refl) (show inr (u0_15) by omega) (show 0 ≤ (u0_15) ∧ (u0_15) ≤ 131072 by omega))
abbrev V236 : vV := [(0, 12, [(4, 0), (4, 0), (4, 0), (4, 0), (4, 0), (4, 0), (4, 0), (4, 0), (0, 0), (0, 0), (4, 0), (0, 0), (4, 0), (4, 0), (0, 0), (2, 0), (0, 0), (0, 0), (0, 0), (0, 0), (0, 0), (0, 0)]), (1, 1, [])]
/-- Unpacker.tellWindow: this, this.counts -/
theorem C236 {σE : rS} {D N : Nat → Nat} {F : hF} {A : hA} {d c s : Nat} {Q : wQ} (H : HW V236 σE D N F A) {a1 : Int} (pf1 : F 0 13 = (D 1 : Int)) (n1 : Int) (en1 : (N 1 : Int) = n1) (u0_15 : Int) (eu0_15 : F 0 15 = u0_15) (h0 : inrJ (a1)) (h1 : (n1) = 5) (k : ∀ (σ : rS) (Fₚ : hF) (Aₚ : hA), HW V236 σ D N Fₚ Aₚ → OUT (V236).length D N σE c s D N σ c s → SF [(0, 15)] F Fₚ → SA [1] A Aₚ → ∀ y0_15 : Int, Fₚ 0 15 = y0_15 → (0 ≤ (y0_15)) → Q none σ c s) : Ew 236 (d + 0) 0 (rargs 0 [.ref (D 0), J a1]) [] σE c s Q := by
  have O := OUT_refl (n := (V236).length) (D := D) (N := N) (σ := σE) (c := c) (s := s)
  have HE := H
  have r1 : (-9223372036854775808 : Int) ≤ u0_15 ∧ u0_15 ≤ 9223372036854775807 := by have h1 : (-9223372036854775808 : Int) ≤ F 0 15 ∧ F 0 15 ≤ 9223372036854775807 := H.krg 0 15 (by decide); rw [show F 0 15 = u0_15 from (eu0_15)] at h1; exact h1
  replace pf1 := HIDm pf1
  replace en1 := HIDm en1
  replace eu0_15 := HIDm eu0_15
  have r2 : (0 : Int) ≤ n1 ∧ n1 ≤ 1000000 := by have h1 := H.nle 1 (by decide); have h2 : (N 1 : Int) = n1 := en1; omega
  refine Ew_of (pcₚ := 1) (fun _ => x_aload_n rfl rfl) ?_
  refine Ew_of (pcₚ := 2) (fun _ => x_lload_n rfl rfl) ?_
  refine Ew_of (pcₚ := 3) (fun _ => x_lconst (z := 0) rfl (by decide)) ?_
  refine w_lcmp rfl (show inrJ (a1) by omega) (show inrJ (0) by omega) (fun z3 gz3 gaz3 gbz3 => ?_)
  have hc14 : ∀ (tc14_0 : Int), ∀ (ls : rO) (σ : rS) (F_c14 : hF) (A_c14 : hA) , rlook ls 0 = some (.ref (D 0)) → HW V236 σ D N F_c14 A_c14 → OUT (V236).length D N σE c s D N σ c s → SF [] F F_c14 → SA [] A A_c14 → (inrJ (tc14_0)) → (((z3) ≥ (0) ∧ (tc14_0) = (a1)) ∨ ((z3) < (0) ∧ (tc14_0) = (4611686018427387904))) → Ew 236 (d + 0) 14 ls [J (tc14_0), .ref (D 0)] σ c s Q := by
   as_aux_lemma =>
    intro tc14_0 ls σ F_c14 A_c14  lc14_0 H O hS_c14 hA_c14     jc14_0 jc14_1
    refine v_p H (o := 0) (z := tc14_0) (v := J (tc14_0)) rfl rfl rfl rfl rfl rfl rfl rfl (show (-9223372036854775808 : Int) ≤ tc14_0 ∧ tc14_0 ≤ 9223372036854775807 by omega) (fun σ H Oₚ => ?_)
    have O := OUT_trans O Oₚ
    refine Ew_of (pcₚ := 18) (fun _ => x_aload_n rfl lc14_0) ?_
    refine v_g H (o := 0) (v := .ref (D 1)) rfl rfl rfl rfl rfl (vrf (((hS_c14 0 13 rfl)).trans (pf1))) ?_
    refine Ew_of (pcₚ := 22) (fun _ => x_iconst rfl) ?_
    refine Ew_of (pcₚ := 23) (fun _ => x_aload_n rfl lc14_0) ?_
    refine v_g H (o := 0) (v := J (tc14_0)) rfl rfl rfl rfl rfl (congrArg (fun z : Int => J z) (rfl : (updF F_c14 0 15 (tc14_0)) 0 15 = tc14_0)) ?_
    refine Ew_of (pcₚ := 29) (fun _ => x_ldc2 (z := 2147483647) rfl (by decide)) ?_
    refine w_lcmp rfl (show inrJ (tc14_0) by omega) (show inrJ (2147483647) by omega) (fun z4 gz4 gaz4 gbz4 => ?_)
    refine w_ifge (t := 41) rfl rfl (show inr (z4) by omega) (fun b5 => ?_) (fun b5 => ?_)
    · refine Ew_of (pcₚ := 43) (fun _ => x_ldc (z := 2147483647) rfl (by decide)) ?_
      refine v_sI H (o := 1) (z := 2147483647) rfl rfl rfl rfl (n := n1) (en1) (show 0 ≤ 4 ∧ 4 < n1 by omega) (show inr (2147483647) by omega) (fun σ H Oₚ => ?_)
      have O := OUT_trans O Oₚ
      exact w_ret rfl (k _ _ _ H O (SF_upd (SF_trans (SF_refl) hS_c14 (any_sub rfl)) rfl) (SA_upd (SA_trans (SA_refl) hA_c14 (any_subA rfl)) rfl) (tc14_0) (rfl) (show 0 ≤ (tc14_0) by omega))
    · refine Ew_of (pcₚ := 34) (fun _ => x_aload_n rfl lc14_0) ?_
      refine v_g H (o := 0) (v := J (tc14_0)) rfl rfl rfl rfl rfl (congrArg (fun z : Int => J z) (rfl : (updF F_c14 0 15 (tc14_0)) 0 15 = tc14_0)) ?_
      refine w_l2i rfl ?_
      refine Ew_of (pcₚ := 43) (fun _ => x_goto rfl rfl) ?_
      refine v_sI H (o := 1) (z := tc14_0) rfl rfl rfl rfl (n := n1) (en1) (show 0 ≤ 4 ∧ 4 < n1 by omega) (show inr (tc14_0) by omega) (fun σ H Oₚ => ?_)
      have O := OUT_trans O Oₚ
      exact w_ret rfl (k _ _ _ H O (SF_upd (SF_trans (SF_refl) hS_c14 (any_sub rfl)) rfl) (SA_upd (SA_trans (SA_refl) hA_c14 (any_subA rfl)) rfl) (tc14_0) (rfl) (show 0 ≤ (tc14_0) by omega))
  refine w_ifge (t := 13) rfl rfl (show inr (z3) by omega) (fun b6 => ?_) (fun b6 => ?_)
  · refine Ew_of (pcₚ := 14) (fun _ => x_lload_n rfl rfl) ?_
    exact hc14 (a1) _ _ _ _  (rfl) H O (SF_refl) (SA_refl)     (show inrJ (a1) by omega) (show ((z3) ≥ (0) ∧ (a1) = (a1)) ∨ ((z3) < (0) ∧ (a1) = (4611686018427387904)) by omega)
  · refine Ew_of (pcₚ := 10) (fun _ => x_ldc2 (z := 4611686018427387904) rfl (by decide)) ?_
    refine Ew_of (pcₚ := 14) (fun _ => x_goto rfl rfl) ?_
    exact hc14 (4611686018427387904) _ _ _ _  (rfl) H O (SF_refl) (SA_refl)     (show inrJ (4611686018427387904) by omega) (show ((z3) ≥ (0) ∧ (4611686018427387904) = (a1)) ∨ ((z3) < (0) ∧ (4611686018427387904) = (4611686018427387904)) by omega)
abbrev V237 : vV := [(0, 12, [(4, 0), (4, 0), (4, 0), (4, 0), (4, 0), (4, 0), (4, 0), (4, 0), (0, 0), (0, 0), (4, 0), (0, 0), (4, 0), (4, 0), (0, 0), (2, 0), (0, 0), (0, 0), (0, 0), (0, 0), (0, 0), (0, 0)]), (1, 0, []), (1, 1, [])]
/-- Unpacker.unpackWindow: this, this.in, this.counts -/
theorem C237 {σE : rS} {D N : Nat → Nat} {F : hF} {A : hA} {d c s : Nat} {Q : wQ} (H : HW V237 σE D N F A)  (pf1 : F 0 7 = (D 1 : Int)) (pf2 : F 0 13 = (D 2 : Int)) (n1 : Int) (en1 : (N 1 : Int) = n1) (n2 : Int) (en2 : (N 2 : Int) = n2) (u0_8 : Int) (eu0_8 : F 0 8 = u0_8) (u0_9 : Int) (eu0_9 : F 0 9 = u0_9) (u0_15 : Int) (eu0_15 : F 0 15 = u0_15) (h0 : 0 ≤ (u0_9) ∧ (u0_9) ≤ (u0_8) ∧ (u0_8) ≤ (n1) ∧ (n1) ≤ 65536) (h1 : (n2) = 5) (h2 : 0 ≤ (u0_15)) (k : ∀ (z : Int) (σ : rS) (Fₚ : hF) (Aₚ : hA), HW V237 σ D N Fₚ Aₚ → OUT (V237).length D N σE c s D N σ c s → SF [(0, 9), (0, 15), (0, 21)] F Fₚ → SA [2] A Aₚ → ∀ y0_9 : Int, Fₚ 0 9 = y0_9 → ∀ y0_15 : Int, Fₚ 0 15 = y0_15 → (inr (z)) → (0 ≤ (z) ∧ (z) ≤ 17) → (0 ≤ (y0_9) ∧ (u0_9) ≤ (y0_9) ∧ (y0_9) ≤ (u0_8)) → (0 ≤ (y0_15)) → Q (some (I z)) σ c s) : Ew 237 (d + 1) 0 (rargs 0 [.ref (D 0)]) [] σE c s Q := by
  have O := OUT_refl (n := (V237).length) (D := D) (N := N) (σ := σE) (c := c) (s := s)
  have HE := H
  have r1 : (-2147483648 : Int) ≤ u0_8 ∧ u0_8 ≤ 2147483647 := by have h1 : (-2147483648 : Int) ≤ F 0 8 ∧ F 0 8 ≤ 2147483647 := H.krg 0 8 (by decide); rw [show F 0 8 = u0_8 from (eu0_8)] at h1; exact h1
  have r2 : (-2147483648 : Int) ≤ u0_9 ∧ u0_9 ≤ 2147483647 := by have h1 : (-2147483648 : Int) ≤ F 0 9 ∧ F 0 9 ≤ 2147483647 := H.krg 0 9 (by decide); rw [show F 0 9 = u0_9 from (eu0_9)] at h1; exact h1
  have r3 : (-9223372036854775808 : Int) ≤ u0_15 ∧ u0_15 ≤ 9223372036854775807 := by have h1 : (-9223372036854775808 : Int) ≤ F 0 15 ∧ F 0 15 ≤ 9223372036854775807 := H.krg 0 15 (by decide); rw [show F 0 15 = u0_15 from (eu0_15)] at h1; exact h1
  replace pf1 := HIDm pf1
  replace pf2 := HIDm pf2
  replace en1 := HIDm en1
  replace en2 := HIDm en2
  replace eu0_8 := HIDm eu0_8
  replace eu0_9 := HIDm eu0_9
  replace eu0_15 := HIDm eu0_15
  have r4 : (0 : Int) ≤ n1 ∧ n1 ≤ 1000000 := by have h1 := H.nle 1 (by decide); have h2 : (N 1 : Int) = n1 := en1; omega
  have r5 : (0 : Int) ≤ n2 ∧ n2 ≤ 1000000 := by have h1 := H.nle 2 (by decide); have h2 : (N 2 : Int) = n2 := en2; omega
  refine Ew_of (pcₚ := 1) (fun _ => x_aload_n rfl rfl) ?_
  refine v_g H (o := 0) (v := I (u0_9)) rfl rfl rfl rfl rfl (congrArg (fun z : Int => I z) ((eu0_9) : F 0 9 = u0_9)) ?_
  refine Ew_of (pcₚ := 5) (fun _ => x_aload_n rfl rfl) ?_
  refine v_g H (o := 0) (v := I (u0_8)) rfl rfl rfl rfl rfl (congrArg (fun z : Int => I z) ((eu0_8) : F 0 8 = u0_8)) ?_
  refine w_icmplt (t := 21) rfl rfl (show inr (u0_9) by omega) (show inr (u0_8) by omega) (fun b6 => ?_) (fun b6 => ?_)
  · refine Ew_of (pcₚ := 22) (fun _ => x_aload_n rfl rfl) ?_
    refine v_g H (o := 0) (v := .ref (D 1)) rfl rfl rfl rfl rfl (vrf (pf1)) ?_
    refine Ew_of (pcₚ := 26) (fun _ => x_aload_n rfl rfl) ?_
    refine v_g H (o := 0) (v := I (u0_9)) rfl rfl rfl rfl rfl (congrArg (fun z : Int => I z) ((eu0_9) : F 0 9 = u0_9)) ?_
    refine v_lB H (o := 1) rfl rfl rfl rfl (n := n1) (en1) (show 0 ≤ u0_9 ∧ u0_9 < n1 by omega) (fun v7 ev7 qv7 => ?_)
    have ev7 : (A 1) (u0_9) = v7 := (congrFun (rfl : A 1 = A 1) (u0_9)).symm.trans ev7
    refine Ew_of (pcₚ := 33) (fun _ => x_sipush (z := 255) rfl (by decide)) ?_
    refine w_iand rfl (show inr (v7) by omega) (show inr (255) by omega) (fun z8 gz8 gaz8 gbz8 => ?_)
    refine Ew_of (pcₚ := 35) (fun _ => x_iconst rfl) ?_
    refine w_ishrK 3 8 (by decide) (by decide) rfl (show inr (z8) by omega) (fun z9 gz9 dz9 => ?_)
    refine Ew_of (pcₚ := 37) (fun _ => x_istore_n rfl) ?_
    refine Ew_of (pcₚ := 38) (fun _ => x_aload_n rfl (rk_o (rfl) rfl rfl)) ?_
    refine Ew_of (pcₚ := 39) (fun _ => x_lconst (z := 1) rfl (by decide)) ?_
    refine Ew_of (pcₚ := 41) (fun _ => x_bipush (z := 10) rfl (by decide)) ?_
    refine Ew_of (pcₚ := 42) (fun _ => x_iload_n rfl rk_s) ?_
    refine w_iadd rfl ?_
    refine w_lshlA rfl (fun z10 gz10 => ?_)
    refine Ew_of (pcₚ := 45) (fun _ => x_lconst (z := 1) rfl (by decide)) ?_
    refine Ew_of (pcₚ := 47) (fun _ => x_bipush (z := 7) rfl (by decide)) ?_
    refine Ew_of (pcₚ := 48) (fun _ => x_iload_n rfl rk_s) ?_
    refine w_iadd rfl ?_
    refine w_lshlA rfl (fun z11 gz11 => ?_)
    refine Ew_of (pcₚ := 51) (fun _ => x_aload_n rfl (rk_o (rfl) rfl rfl)) ?_
    refine v_g H (o := 0) (v := .ref (D 1)) rfl rfl rfl rfl rfl (vrf (pf1)) ?_
    refine Ew_of (pcₚ := 55) (fun _ => x_aload_n rfl (rk_o (rfl) rfl rfl)) ?_
    refine v_g H (o := 0) (v := I (u0_9)) rfl rfl rfl rfl rfl (congrArg (fun z : Int => I z) ((eu0_9) : F 0 9 = u0_9)) ?_
    refine v_lB H (o := 1) rfl rfl rfl rfl (n := n1) (en1) (show 0 ≤ u0_9 ∧ u0_9 < n1 by omega) (fun v12 ev12 qv12 => ?_)
    have ev12 : (A 1) (u0_9) = v12 := (congrFun (rfl : A 1 = A 1) (u0_9)).symm.trans ev12
    refine Ew_of (pcₚ := 61) (fun _ => x_bipush (z := 7) rfl (by decide)) ?_
    refine w_iand rfl (show inr (v12) by omega) (show inr (7) by omega) (fun z13 gz13 gaz13 gbz13 => ?_)
    refine w_i2l rfl (show inr (z13) by omega) ?_
    refine w_lmulA rfl (fun z14 gz14 => ?_)
    refine w_laddA rfl (fun z15 gz15 => ?_)
    refine v_inv H (o := 0) rfl rfl rfl rfl rfl rfl (by rfl) (C236 (D := pul [0, 2] D) (N := pul [0, 2] N) (HW_sub H (VS_of (show vsub V237 V236 [0, 2] = true by decide +kernel))) (pf2) (n2) (en2) (u0_15) ((eu0_15)) (show inrJ (z15) by omega) (show (n2) = 5 by omega) (fun σ16 F16ₚ A16ₚ Hₚ Oₚ hS16 hA16 y16_0_15 ey16_0_15 pz16_0 => ⟨rfl, ?_⟩))
    replace ey16_0_15 := HIDm ey16_0_15
    refine v_back (c := c) (s := s) H (show vsub V237 V236 [0, 2] = true by decide +kernel) Hₚ Oₚ (fun F16 A16 H Oₚ eF16 eA16 => ?_)
    have O := OUT_trans O Oₚ
    -- Unpacker.tellWindow
    have r17 : (-9223372036854775808 : Int) ≤ y16_0_15 ∧ y16_0_15 ≤ 9223372036854775807 := by have h1 : (-9223372036854775808 : Int) ≤ F16 0 15 ∧ F16 0 15 ≤ 9223372036854775807 := H.krg 0 15 (by decide); rw [show F16 0 15 = y16_0_15 from ((eF16 0 15).trans ey16_0_15)] at h1; exact h1
    refine Ew_of (pcₚ := 69) (fun _ => x_aload_n rfl (rk_o (rfl) rfl rfl)) ?_
    refine Ew_of (pcₚ := 70) (fun _ => x_dup rfl rfl) ?_
    refine v_g H (o := 0) (v := I (u0_9)) rfl rfl rfl rfl rfl (congrArg (fun z : Int => I z) ((((show F16 0 9 = F 0 9 from (eF16 0 9).trans (hS16 0 9 rfl))).trans (eu0_9)) : F16 0 9 = u0_9)) ?_
    refine Ew_of (pcₚ := 74) (fun _ => x_iconst rfl) ?_
    refine w_iadd rfl ?_
    refine v_p H (o := 0) (z := (u0_9 + 1)) (v := I ((u0_9 + 1))) rfl rfl rfl rfl rfl rfl rfl rfl (show (-2147483648 : Int) ≤ (u0_9 + 1) ∧ (u0_9 + 1) ≤ 2147483647 by omega) (fun σ H Oₚ => ?_)
    have O := OUT_trans O Oₚ
    refine Ew_of (pcₚ := 79) (fun _ => x_iconst rfl) ?_
    exact w_ireturn rfl (k (0) _ _ _ H O (SF_upd (SF_trans (SF_refl) (SF_glu (ι := [0, 2]) hS16 eF16 (by decide +kernel)) (any_sub (lₚ := [(0, 15)]) rfl)) rfl) (SA_trans (SA_refl) (SA_glu (ι := [0, 2]) hA16 eA16 (by decide +kernel)) (any_subA (lₚ := [2]) rfl)) ((u0_9 + 1)) (rfl) (y16_0_15) (((eF16 0 15).trans ey16_0_15)) (show inr (0) by omega) (show 0 ≤ (0) ∧ (0) ≤ 17 by omega) (show 0 ≤ ((u0_9 + 1)) ∧ (u0_9) ≤ ((u0_9 + 1)) ∧ ((u0_9 + 1)) ≤ (u0_8) by omega) (show 0 ≤ (y16_0_15) by omega))
  · refine Ew_of (pcₚ := 12) (fun _ => x_aload_n rfl rfl) ?_
    refine Ew_of (pcₚ := 13) (fun _ => x_iconst rfl) ?_
    refine Ew_of (pcₚ := 14) (fun _ => x_aload_n rfl rfl) ?_
    refine v_g H (o := 0) (v := I (u0_8)) rfl rfl rfl rfl rfl (congrArg (fun z : Int => I z) ((eu0_8) : F 0 8 = u0_8)) ?_
    have r18 : (-2147483648 : Int) ≤ F 0 21 ∧ F 0 21 ≤ 2147483647 := by have h1 : (-2147483648 : Int) ≤ F 0 21 ∧ F 0 21 ≤ 2147483647 := H.krg 0 21 (by decide); rw [show F 0 21 = F 0 21 from rfl] at h1; exact h1
    refine v_inv H (o := 0) rfl rfl rfl rfl rfl rfl (by rfl) (C232 (D := pul [0] D) (N := pul [0] N) (HW_sub H (VS_of (show vsub V237 V232 [0] = true by decide +kernel))) (F 0 21) (rfl) (show inr (1) by omega) (show inr (u0_8) by omega) (fun z19 σ19 F19ₚ A19ₚ Hₚ Oₚ hS19 hA19 y19_0_21 ey19_0_21 pz19_0 pz19_1 pz19_2 => ⟨rfl, ?_⟩))
    replace ey19_0_21 := HIDm ey19_0_21
    refine v_back (c := c) (s := s) H (show vsub V237 V232 [0] = true by decide +kernel) Hₚ Oₚ (fun F19 A19 H Oₚ eF19 eA19 => ?_)
    have O := OUT_trans O Oₚ
    -- Unpacker.fail
    have r20 : (-2147483648 : Int) ≤ y19_0_21 ∧ y19_0_21 ≤ 2147483647 := by have h1 : (-2147483648 : Int) ≤ F19 0 21 ∧ F19 0 21 ≤ 2147483647 := H.krg 0 21 (by decide); rw [show F19 0 21 = y19_0_21 from ((eF19 0 21).trans ey19_0_21)] at h1; exact h1
    exact w_ireturn rfl (k (z19) _ _ _ H O (SF_trans (SF_refl) (SF_glu (ι := [0]) hS19 eF19 (by decide +kernel)) (any_sub (lₚ := [(0, 21)]) rfl)) (SA_trans (SA_refl) (SA_glu (ι := [0]) hA19 eA19 (by decide +kernel)) (any_subA (lₚ := []) rfl)) (u0_9) ((((show F19 0 9 = F 0 9 from (eF19 0 9).trans (hS19 0 9 rfl))).trans (eu0_9))) (u0_15) ((((show F19 0 15 = F 0 15 from (eF19 0 15).trans (hS19 0 15 rfl))).trans (eu0_15))) (show inr (z19) by omega) (show 0 ≤ (z19) ∧ (z19) ≤ 17 by omega) (show 0 ≤ (u0_9) ∧ (u0_9) ≤ (u0_9) ∧ (u0_9) ≤ (u0_8) by omega) (show 0 ≤ (u0_15) by omega))
abbrev V238 : vV := [(0, 12, [(4, 0), (4, 0), (4, 0), (4, 0), (4, 0), (4, 0), (4, 0), (4, 0), (0, 0), (0, 0), (4, 0), (0, 0), (4, 0), (4, 0), (0, 0), (2, 0), (0, 0), (0, 0), (0, 0), (0, 0), (0, 0), (0, 0)]), (1, 0, []), (0, 4, [(4, 0), (4, 0), (0, 0), (4, 0), (4, 0)])]
/-- Unpacker.unpackId: this, this.in, this.dictionary -/
theorem C238 {σE : rS} {D N : Nat → Nat} {F : hF} {A : hA} {d c s : Nat} {Q : wQ} (H : HW V238 σE D N F A)  (pf1 : F 0 7 = (D 1 : Int)) (pf2 : F 0 12 = (D 2 : Int)) (n1 : Int) (en1 : (N 1 : Int) = n1) (u0_8 : Int) (eu0_8 : F 0 8 = u0_8) (u0_9 : Int) (eu0_9 : F 0 9 = u0_9) (u0_14 : Int) (eu0_14 : F 0 14 = u0_14) (h0 : 0 ≤ (u0_9) ∧ (u0_9) ≤ (u0_8) ∧ (u0_8) ≤ (n1) ∧ (n1) ≤ 65536) (h1 : 0 ≤ (u0_14) ∧ (u0_14) ≤ 255) (k : ∀ (z : Int) (σ : rS) (Fₚ : hF) (Aₚ : hA), HW V238 σ D N Fₚ Aₚ → OUT (V238).length D N σE c s D N σ c s → SF [(0, 9), (0, 21)] F Fₚ → SA [] A Aₚ → ∀ y0_9 : Int, Fₚ 0 9 = y0_9 → (inr (z)) → (0 ≤ (z) ∧ (z) ≤ 17) → (0 ≤ (y0_9) ∧ (u0_9) ≤ (y0_9) ∧ (y0_9) ≤ (u0_8)) → Q (some (I z)) σ c s) : Ew 238 (d + 1) 0 (rargs 0 [.ref (D 0)]) [] σE c s Q := by
  have O := OUT_refl (n := (V238).length) (D := D) (N := N) (σ := σE) (c := c) (s := s)
  have HE := H
  have r1 : (-2147483648 : Int) ≤ u0_8 ∧ u0_8 ≤ 2147483647 := by have h1 : (-2147483648 : Int) ≤ F 0 8 ∧ F 0 8 ≤ 2147483647 := H.krg 0 8 (by decide); rw [show F 0 8 = u0_8 from (eu0_8)] at h1; exact h1
  have r2 : (-2147483648 : Int) ≤ u0_9 ∧ u0_9 ≤ 2147483647 := by have h1 : (-2147483648 : Int) ≤ F 0 9 ∧ F 0 9 ≤ 2147483647 := H.krg 0 9 (by decide); rw [show F 0 9 = u0_9 from (eu0_9)] at h1; exact h1
  have r3 : (-2147483648 : Int) ≤ u0_14 ∧ u0_14 ≤ 2147483647 := by have h1 : (-2147483648 : Int) ≤ F 0 14 ∧ F 0 14 ≤ 2147483647 := H.krg 0 14 (by decide); rw [show F 0 14 = u0_14 from (eu0_14)] at h1; exact h1
  replace pf1 := HIDm pf1
  replace pf2 := HIDm pf2
  replace en1 := HIDm en1
  replace eu0_8 := HIDm eu0_8
  replace eu0_9 := HIDm eu0_9
  replace eu0_14 := HIDm eu0_14
  have r4 : (0 : Int) ≤ n1 ∧ n1 ≤ 1000000 := by have h1 := H.nle 1 (by decide); have h2 : (N 1 : Int) = n1 := en1; omega
  refine Ew_of (pcₚ := 1) (fun _ => x_aload_n rfl rfl) ?_
  refine v_g H (o := 0) (v := I (u0_14)) rfl rfl rfl rfl rfl (congrArg (fun z : Int => I z) ((eu0_14) : F 0 14 = u0_14)) ?_
  refine Ew_of (pcₚ := 5) (fun _ => x_iconst rfl) ?_
  refine w_iand rfl (show inr (u0_14) by omega) (show inr (3) by omega) (fun z5 gz5 gaz5 gbz5 => ?_)
  refine Ew_of (pcₚ := 7) (fun _ => x_iconst rfl) ?_
  refine w_icmpne (t := 14) rfl rfl (show inr (z5) by omega) (show inr (3) by omega) (fun b6 => ?_) (fun b6 => ?_)
  · refine Ew_of (pcₚ := 15) (fun _ => x_aload_n rfl rfl) ?_
    refine v_g H (o := 0) (v := I (u0_14)) rfl rfl rfl rfl rfl (congrArg (fun z : Int => I z) ((eu0_14) : F 0 14 = u0_14)) ?_
    refine Ew_of (pcₚ := 19) (fun _ => x_iconst rfl) ?_
    refine w_iand rfl (show inr (u0_14) by omega) (show inr (3) by omega) (fun z7 gz7 gaz7 gbz7 => ?_)
    refine Ew_of (pcₚ := 21) (fun _ => x_istore_n rfl) ?_
    refine Ew_of (pcₚ := 22) (fun _ => x_aload_n rfl (rk_o (rfl) rfl rfl)) ?_
    refine v_g H (o := 0) (v := I (u0_8)) rfl rfl rfl rfl rfl (congrArg (fun z : Int => I z) ((eu0_8) : F 0 8 = u0_8)) ?_
    refine Ew_of (pcₚ := 26) (fun _ => x_aload_n rfl (rk_o (rfl) rfl rfl)) ?_
    refine v_g H (o := 0) (v := I (u0_9)) rfl rfl rfl rfl rfl (congrArg (fun z : Int => I z) ((eu0_9) : F 0 9 = u0_9)) ?_
    refine w_isub rfl ?_
    refine Ew_of (pcₚ := 31) (fun _ => x_iload_n rfl rk_s) ?_
    refine w_icmpge (t := 44) rfl rfl (show inr ((u0_8 - u0_9)) by omega) (show inr (z7) by omega) (fun b8 => ?_) (fun b8 => ?_)
    · refine Ew_of (pcₚ := 45) (fun _ => x_aload_n rfl (rk_o (rfl) rfl rfl)) ?_
      refine v_g H (o := 0) (v := .ref (D 1)) rfl rfl rfl rfl rfl (vrf (pf1)) ?_
      refine Ew_of (pcₚ := 49) (fun _ => x_aload_n rfl (rk_o (rfl) rfl rfl)) ?_
      refine v_g H (o := 0) (v := I (u0_9)) rfl rfl rfl rfl rfl (congrArg (fun z : Int => I z) ((eu0_9) : F 0 9 = u0_9)) ?_
      refine Ew_of (pcₚ := 53) (fun _ => x_iload_n rfl rk_s) ?_
      refine w_stat25 rfl rfl (by rfl) (C42_Brf (D := pul [1] D) (N := pul [1] N) (HW_sub H (VS_of (show vsub V238 V42_Br [1] = true by decide +kernel))) (n1) (en1) (A 1) (rfl) (show inr (u0_9) by omega) (show inr (z7) by omega) (show (z7) ≤ 0 ∨ 0 ≤ (u0_9) ∧ (u0_9) + (z7) ≤ (n1) by omega) (show 0 ≤ (z7) ∧ (z7) ≤ 8 by omega) (fun z9 σ9 F9ₚ A9ₚ Hₚ Oₚ hS9 hA9 pz9_0 pz9_1 pz9_2 => ⟨rfl, ?_⟩))
      refine v_back (c := c) (s := s) H (show vsub V238 V42_Br [1] = true by decide +kernel) Hₚ Oₚ (fun F9 A9 H Oₚ eF9 eA9 => ?_)
      have O := OUT_trans O Oₚ
      -- PackHouse.number
      refine Ew_of (pcₚ := 57) (fun _ => x_lstore_n rfl) ?_
      refine Ew_of (pcₚ := 58) (fun _ => x_lload_n rfl rk2_s) ?_
      refine Ew_of (pcₚ := 59) (fun _ => x_lconst (z := 0) rfl (by decide)) ?_
      refine w_lcmp rfl (show inrJ (z9) by omega) (show inrJ (0) by omega) (fun z10 gz10 gaz10 gbz10 => ?_)
      refine w_ifeq (t := 90) rfl rfl (show inr (z10) by omega) (fun b11 => ?_) (fun b11 => ?_)
      · refine Ew_of (pcₚ := 91) (fun _ => x_aload_n rfl (rk2_o (rk_o (rfl) rfl rfl) rfl rfl)) ?_
        refine Ew_of (pcₚ := 92) (fun _ => x_dup rfl rfl) ?_
        refine v_g H (o := 0) (v := I (u0_9)) rfl rfl rfl rfl rfl (congrArg (fun z : Int => I z) ((((show F9 0 9 = F 0 9 from (eF9 0 9))).trans (eu0_9)) : F9 0 9 = u0_9)) ?_
        refine Ew_of (pcₚ := 96) (fun _ => x_iload_n rfl (rk2_o (rk_s) rfl rfl)) ?_
        refine w_iadd rfl ?_
        refine v_p H (o := 0) (z := (u0_9 + z7)) (v := I ((u0_9 + z7))) rfl rfl rfl rfl rfl rfl rfl rfl (show (-2147483648 : Int) ≤ (u0_9 + z7) ∧ (u0_9 + z7) ≤ 2147483647 by omega) (fun σ H Oₚ => ?_)
        have O := OUT_trans O Oₚ
        refine Ew_of (pcₚ := 101) (fun _ => x_iconst rfl) ?_
        exact w_ireturn rfl (k (0) _ _ _ H O (SF_upd (SF_trans (SF_refl) (SF_glu (ι := [1]) hS9 eF9 (by decide +kernel)) (any_sub (lₚ := []) rfl)) rfl) (SA_trans (SA_refl) (SA_glu (ι := [1]) hA9 eA9 (by decide +kernel)) (any_subA (lₚ := []) rfl)) ((u0_9 + z7)) (rfl) (show inr (0) by omega) (show 0 ≤ (0) ∧ (0) ≤ 17 by omega) (show 0 ≤ ((u0_9 + z7)) ∧ (u0_9) ≤ ((u0_9 + z7)) ∧ ((u0_9 + z7)) ≤ (u0_8) by omega))
      · refine Ew_of (pcₚ := 64) (fun _ => x_lload_n rfl rk2_s) ?_
        refine Ew_of (pcₚ := 65) (fun _ => x_aload_n rfl (rk2_o (rk_o (rfl) rfl rfl) rfl rfl)) ?_
        refine v_g H (o := 0) (v := .ref (D 2)) rfl rfl rfl rfl rfl (vrf ((((show F9 0 12 = F 0 12 from (eF9 0 12)))).trans (pf2))) ?_
        have r12 : (-2147483648 : Int) ≤ F 2 2 ∧ F 2 2 ≤ 2147483647 := by have h1 : (-2147483648 : Int) ≤ F9 2 2 ∧ F9 2 2 ≤ 2147483647 := H.krg 2 2 (by decide); rw [show F9 2 2 = F 2 2 from ((show F9 2 2 = F 2 2 from (eF9 2 2)))] at h1; exact h1
        refine v_g H (o := 2) (v := I (F 2 2)) rfl rfl rfl rfl rfl (congrArg (fun z : Int => I z) (((show F9 2 2 = F 2 2 from (eF9 2 2))) : F9 2 2 = F 2 2)) ?_
        refine w_i2l rfl (show inr (F 2 2) by omega) ?_
        refine Ew_of (pcₚ := 75) (fun _ => x_ldc2 (z := 4294967295) rfl (by decide)) ?_
        refine w_land rfl (show inrJ (F 2 2) by omega) (show inrJ (4294967295) by omega) (fun z13 gz13 gaz13 gbz13 => ?_)
        refine w_lcmp rfl (show inrJ (z9) by omega) (show inrJ (z13) by omega) (fun z14 gz14 gaz14 gbz14 => ?_)
        refine w_ifeq (t := 90) rfl rfl (show inr (z14) by omega) (fun b15 => ?_) (fun b15 => ?_)
        · refine Ew_of (pcₚ := 91) (fun _ => x_aload_n rfl (rk2_o (rk_o (rfl) rfl rfl) rfl rfl)) ?_
          refine Ew_of (pcₚ := 92) (fun _ => x_dup rfl rfl) ?_
          refine v_g H (o := 0) (v := I (u0_9)) rfl rfl rfl rfl rfl (congrArg (fun z : Int => I z) ((((show F9 0 9 = F 0 9 from (eF9 0 9))).trans (eu0_9)) : F9 0 9 = u0_9)) ?_
          refine Ew_of (pcₚ := 96) (fun _ => x_iload_n rfl (rk2_o (rk_s) rfl rfl)) ?_
          refine w_iadd rfl ?_
          refine v_p H (o := 0) (z := (u0_9 + z7)) (v := I ((u0_9 + z7))) rfl rfl rfl rfl rfl rfl rfl rfl (show (-2147483648 : Int) ≤ (u0_9 + z7) ∧ (u0_9 + z7) ≤ 2147483647 by omega) (fun σ H Oₚ => ?_)
          have O := OUT_trans O Oₚ
          refine Ew_of (pcₚ := 101) (fun _ => x_iconst rfl) ?_
          exact w_ireturn rfl (k (0) _ _ _ H O (SF_upd (SF_trans (SF_refl) (SF_glu (ι := [1]) hS9 eF9 (by decide +kernel)) (any_sub (lₚ := []) rfl)) rfl) (SA_trans (SA_refl) (SA_glu (ι := [1]) hA9 eA9 (by decide +kernel)) (any_subA (lₚ := []) rfl)) ((u0_9 + z7)) (rfl) (show inr (0) by omega) (show 0 ≤ (0) ∧ (0) ≤ 17 by omega) (show 0 ≤ ((u0_9 + z7)) ∧ (u0_9) ≤ ((u0_9 + z7)) ∧ ((u0_9 + z7)) ≤ (u0_8) by omega))
        · refine Ew_of (pcₚ := 81) (fun _ => x_aload_n rfl (rk2_o (rk_o (rfl) rfl rfl) rfl rfl)) ?_
          refine Ew_of (pcₚ := 82) (fun _ => x_iconst rfl) ?_
          refine Ew_of (pcₚ := 83) (fun _ => x_aload_n rfl (rk2_o (rk_o (rfl) rfl rfl) rfl rfl)) ?_
          refine v_g H (o := 0) (v := I (u0_9)) rfl rfl rfl rfl rfl (congrArg (fun z : Int => I z) ((((show F9 0 9 = F 0 9 from (eF9 0 9))).trans (eu0_9)) : F9 0 9 = u0_9)) ?_
          have r16 : (-2147483648 : Int) ≤ F 0 21 ∧ F 0 21 ≤ 2147483647 := by have h1 : (-2147483648 : Int) ≤ F9 0 21 ∧ F9 0 21 ≤ 2147483647 := H.krg 0 21 (by decide); rw [show F9 0 21 = F 0 21 from ((show F9 0 21 = F 0 21 from (eF9 0 21)))] at h1; exact h1
          refine v_inv H (o := 0) rfl rfl rfl rfl rfl rfl (by rfl) (C232 (D := pul [0] D) (N := pul [0] N) (HW_sub H (VS_of (show vsub V238 V232 [0] = true by decide +kernel))) (F 0 21) (((show F9 0 21 = F 0 21 from (eF9 0 21)))) (show inr (4) by omega) (show inr (u0_9) by omega) (fun z17 σ17 F17ₚ A17ₚ Hₚ Oₚ hS17 hA17 y17_0_21 ey17_0_21 pz17_0 pz17_1 pz17_2 => ⟨rfl, ?_⟩))
          replace ey17_0_21 := HIDm ey17_0_21
          refine v_back (c := c) (s := s) H (show vsub V238 V232 [0] = true by decide +kernel) Hₚ Oₚ (fun F17 A17 H Oₚ eF17 eA17 => ?_)
          have O := OUT_trans O Oₚ
          -- Unpacker.fail
          have r18 : (-2147483648 : Int) ≤ y17_0_21 ∧ y17_0_21 ≤ 2147483647 := by have h1 : (-2147483648 : Int) ≤ F17 0 21 ∧ F17 0 21 ≤ 2147483647 := H.krg 0 21 (by decide); rw [show F17 0 21 = y17_0_21 from ((eF17 0 21).trans ey17_0_21)] at h1; exact h1
          exact w_ireturn rfl (k (z17) _ _ _ H O (SF_trans (SF_trans (SF_refl) (SF_glu (ι := [1]) hS9 eF9 (by decide +kernel)) (any_sub (lₚ := []) rfl)) (SF_glu (ι := [0]) hS17 eF17 (by decide +kernel)) (any_sub (lₚ := [(0, 21)]) rfl)) (SA_trans (SA_trans (SA_refl) (SA_glu (ι := [1]) hA9 eA9 (by decide +kernel)) (any_subA (lₚ := []) rfl)) (SA_glu (ι := [0]) hA17 eA17 (by decide +kernel)) (any_subA (lₚ := []) rfl)) (u0_9) (((((show F17 0 9 = F9 0 9 from (eF17 0 9).trans (hS17 0 9 rfl))).trans ((show F9 0 9 = F 0 9 from (eF9 0 9)))).trans (eu0_9))) (show inr (z17) by omega) (show 0 ≤ (z17) ∧ (z17) ≤ 17 by omega) (show 0 ≤ (u0_9) ∧ (u0_9) ≤ (u0_9) ∧ (u0_9) ≤ (u0_8) by omega))
    · refine Ew_of (pcₚ := 35) (fun _ => x_aload_n rfl (rk_o (rfl) rfl rfl)) ?_
      refine Ew_of (pcₚ := 36) (fun _ => x_iconst rfl) ?_
      refine Ew_of (pcₚ := 37) (fun _ => x_aload_n rfl (rk_o (rfl) rfl rfl)) ?_
      refine v_g H (o := 0) (v := I (u0_8)) rfl rfl rfl rfl rfl (congrArg (fun z : Int => I z) ((eu0_8) : F 0 8 = u0_8)) ?_
      have r19 : (-2147483648 : Int) ≤ F 0 21 ∧ F 0 21 ≤ 2147483647 := by have h1 : (-2147483648 : Int) ≤ F 0 21 ∧ F 0 21 ≤ 2147483647 := H.krg 0 21 (by decide); rw [show F 0 21 = F 0 21 from rfl] at h1; exact h1
      refine v_inv H (o := 0) rfl rfl rfl rfl rfl rfl (by rfl) (C232 (D := pul [0] D) (N := pul [0] N) (HW_sub H (VS_of (show vsub V238 V232 [0] = true by decide +kernel))) (F 0 21) (rfl) (show inr (1) by omega) (show inr (u0_8) by omega) (fun z20 σ20 F20ₚ A20ₚ Hₚ Oₚ hS20 hA20 y20_0_21 ey20_0_21 pz20_0 pz20_1 pz20_2 => ⟨rfl, ?_⟩))
      replace ey20_0_21 := HIDm ey20_0_21
      refine v_back (c := c) (s := s) H (show vsub V238 V232 [0] = true by decide +kernel) Hₚ Oₚ (fun F20 A20 H Oₚ eF20 eA20 => ?_)
      have O := OUT_trans O Oₚ
      -- Unpacker.fail
      have r21 : (-2147483648 : Int) ≤ y20_0_21 ∧ y20_0_21 ≤ 2147483647 := by have h1 : (-2147483648 : Int) ≤ F20 0 21 ∧ F20 0 21 ≤ 2147483647 := H.krg 0 21 (by decide); rw [show F20 0 21 = y20_0_21 from ((eF20 0 21).trans ey20_0_21)] at h1; exact h1
      exact w_ireturn rfl (k (z20) _ _ _ H O (SF_trans (SF_refl) (SF_glu (ι := [0]) hS20 eF20 (by decide +kernel)) (any_sub (lₚ := [(0, 21)]) rfl)) (SA_trans (SA_refl) (SA_glu (ι := [0]) hA20 eA20 (by decide +kernel)) (any_subA (lₚ := []) rfl)) (u0_9) ((((show F20 0 9 = F 0 9 from (eF20 0 9).trans (hS20 0 9 rfl))).trans (eu0_9))) (show inr (z20) by omega) (show 0 ≤ (z20) ∧ (z20) ≤ 17 by omega) (show 0 ≤ (u0_9) ∧ (u0_9) ≤ (u0_9) ∧ (u0_9) ≤ (u0_8) by omega))
  · refine Ew_of (pcₚ := 11) (fun _ => x_iconst rfl) ?_
    refine Ew_of (pcₚ := 20) (fun _ => x_goto rfl rfl) ?_
    refine Ew_of (pcₚ := 21) (fun _ => x_istore_n rfl) ?_
    refine Ew_of (pcₚ := 22) (fun _ => x_aload_n rfl (rk_o (rfl) rfl rfl)) ?_
    refine v_g H (o := 0) (v := I (u0_8)) rfl rfl rfl rfl rfl (congrArg (fun z : Int => I z) ((eu0_8) : F 0 8 = u0_8)) ?_
    refine Ew_of (pcₚ := 26) (fun _ => x_aload_n rfl (rk_o (rfl) rfl rfl)) ?_
    refine v_g H (o := 0) (v := I (u0_9)) rfl rfl rfl rfl rfl (congrArg (fun z : Int => I z) ((eu0_9) : F 0 9 = u0_9)) ?_
    refine w_isub rfl ?_
    refine Ew_of (pcₚ := 31) (fun _ => x_iload_n rfl rk_s) ?_
    refine w_icmpge (t := 44) rfl rfl (show inr ((u0_8 - u0_9)) by omega) (show inr (4) by omega) (fun b22 => ?_) (fun b22 => ?_)
    · refine Ew_of (pcₚ := 45) (fun _ => x_aload_n rfl (rk_o (rfl) rfl rfl)) ?_
      refine v_g H (o := 0) (v := .ref (D 1)) rfl rfl rfl rfl rfl (vrf (pf1)) ?_
      refine Ew_of (pcₚ := 49) (fun _ => x_aload_n rfl (rk_o (rfl) rfl rfl)) ?_
      refine v_g H (o := 0) (v := I (u0_9)) rfl rfl rfl rfl rfl (congrArg (fun z : Int => I z) ((eu0_9) : F 0 9 = u0_9)) ?_
      refine Ew_of (pcₚ := 53) (fun _ => x_iload_n rfl rk_s) ?_
      refine w_stat25 rfl rfl (by rfl) (C42_Brf (D := pul [1] D) (N := pul [1] N) (HW_sub H (VS_of (show vsub V238 V42_Br [1] = true by decide +kernel))) (n1) (en1) (A 1) (rfl) (show inr (u0_9) by omega) (show inr (4) by omega) (show (4) ≤ 0 ∨ 0 ≤ (u0_9) ∧ (u0_9) + (4) ≤ (n1) by omega) (show 0 ≤ (4) ∧ (4) ≤ 8 by omega) (fun z23 σ23 F23ₚ A23ₚ Hₚ Oₚ hS23 hA23 pz23_0 pz23_1 pz23_2 => ⟨rfl, ?_⟩))
      refine v_back (c := c) (s := s) H (show vsub V238 V42_Br [1] = true by decide +kernel) Hₚ Oₚ (fun F23 A23 H Oₚ eF23 eA23 => ?_)
      have O := OUT_trans O Oₚ
      -- PackHouse.number
      refine Ew_of (pcₚ := 57) (fun _ => x_lstore_n rfl) ?_
      refine Ew_of (pcₚ := 58) (fun _ => x_lload_n rfl rk2_s) ?_
      refine Ew_of (pcₚ := 59) (fun _ => x_lconst (z := 0) rfl (by decide)) ?_
      refine w_lcmp rfl (show inrJ (z23) by omega) (show inrJ (0) by omega) (fun z24 gz24 gaz24 gbz24 => ?_)
      refine w_ifeq (t := 90) rfl rfl (show inr (z24) by omega) (fun b25 => ?_) (fun b25 => ?_)
      · refine Ew_of (pcₚ := 91) (fun _ => x_aload_n rfl (rk2_o (rk_o (rfl) rfl rfl) rfl rfl)) ?_
        refine Ew_of (pcₚ := 92) (fun _ => x_dup rfl rfl) ?_
        refine v_g H (o := 0) (v := I (u0_9)) rfl rfl rfl rfl rfl (congrArg (fun z : Int => I z) ((((show F23 0 9 = F 0 9 from (eF23 0 9))).trans (eu0_9)) : F23 0 9 = u0_9)) ?_
        refine Ew_of (pcₚ := 96) (fun _ => x_iload_n rfl (rk2_o (rk_s) rfl rfl)) ?_
        refine w_iadd rfl ?_
        refine v_p H (o := 0) (z := (u0_9 + 4)) (v := I ((u0_9 + 4))) rfl rfl rfl rfl rfl rfl rfl rfl (show (-2147483648 : Int) ≤ (u0_9 + 4) ∧ (u0_9 + 4) ≤ 2147483647 by omega) (fun σ H Oₚ => ?_)
        have O := OUT_trans O Oₚ
        refine Ew_of (pcₚ := 101) (fun _ => x_iconst rfl) ?_
        exact w_ireturn rfl (k (0) _ _ _ H O (SF_upd (SF_trans (SF_refl) (SF_glu (ι := [1]) hS23 eF23 (by decide +kernel)) (any_sub (lₚ := []) rfl)) rfl) (SA_trans (SA_refl) (SA_glu (ι := [1]) hA23 eA23 (by decide +kernel)) (any_subA (lₚ := []) rfl)) ((u0_9 + 4)) (rfl) (show inr (0) by omega) (show 0 ≤ (0) ∧ (0) ≤ 17 by omega) (show 0 ≤ ((u0_9 + 4)) ∧ (u0_9) ≤ ((u0_9 + 4)) ∧ ((u0_9 + 4)) ≤ (u0_8) by omega))
      · refine Ew_of (pcₚ := 64) (fun _ => x_lload_n rfl rk2_s) ?_
        refine Ew_of (pcₚ := 65) (fun _ => x_aload_n rfl (rk2_o (rk_o (rfl) rfl rfl) rfl rfl)) ?_
        refine v_g H (o := 0) (v := .ref (D 2)) rfl rfl rfl rfl rfl (vrf ((((show F23 0 12 = F 0 12 from (eF23 0 12)))).trans (pf2))) ?_
        have r26 : (-2147483648 : Int) ≤ F 2 2 ∧ F 2 2 ≤ 2147483647 := by have h1 : (-2147483648 : Int) ≤ F23 2 2 ∧ F23 2 2 ≤ 2147483647 := H.krg 2 2 (by decide); rw [show F23 2 2 = F 2 2 from ((show F23 2 2 = F 2 2 from (eF23 2 2)))] at h1; exact h1
        refine v_g H (o := 2) (v := I (F 2 2)) rfl rfl rfl rfl rfl (congrArg (fun z : Int => I z) (((show F23 2 2 = F 2 2 from (eF23 2 2))) : F23 2 2 = F 2 2)) ?_
        refine w_i2l rfl (show inr (F 2 2) by omega) ?_
        refine Ew_of (pcₚ := 75) (fun _ => x_ldc2 (z := 4294967295) rfl (by decide)) ?_
        refine w_land rfl (show inrJ (F 2 2) by omega) (show inrJ (4294967295) by omega) (fun z27 gz27 gaz27 gbz27 => ?_)
        refine w_lcmp rfl (show inrJ (z23) by omega) (show inrJ (z27) by omega) (fun z28 gz28 gaz28 gbz28 => ?_)
        refine w_ifeq (t := 90) rfl rfl (show inr (z28) by omega) (fun b29 => ?_) (fun b29 => ?_)
        · refine Ew_of (pcₚ := 91) (fun _ => x_aload_n rfl (rk2_o (rk_o (rfl) rfl rfl) rfl rfl)) ?_
          refine Ew_of (pcₚ := 92) (fun _ => x_dup rfl rfl) ?_
          refine v_g H (o := 0) (v := I (u0_9)) rfl rfl rfl rfl rfl (congrArg (fun z : Int => I z) ((((show F23 0 9 = F 0 9 from (eF23 0 9))).trans (eu0_9)) : F23 0 9 = u0_9)) ?_
          refine Ew_of (pcₚ := 96) (fun _ => x_iload_n rfl (rk2_o (rk_s) rfl rfl)) ?_
          refine w_iadd rfl ?_
          refine v_p H (o := 0) (z := (u0_9 + 4)) (v := I ((u0_9 + 4))) rfl rfl rfl rfl rfl rfl rfl rfl (show (-2147483648 : Int) ≤ (u0_9 + 4) ∧ (u0_9 + 4) ≤ 2147483647 by omega) (fun σ H Oₚ => ?_)
          have O := OUT_trans O Oₚ
          refine Ew_of (pcₚ := 101) (fun _ => x_iconst rfl) ?_
          exact w_ireturn rfl (k (0) _ _ _ H O (SF_upd (SF_trans (SF_refl) (SF_glu (ι := [1]) hS23 eF23 (by decide +kernel)) (any_sub (lₚ := []) rfl)) rfl) (SA_trans (SA_refl) (SA_glu (ι := [1]) hA23 eA23 (by decide +kernel)) (any_subA (lₚ := []) rfl)) ((u0_9 + 4)) (rfl) (show inr (0) by omega) (show 0 ≤ (0) ∧ (0) ≤ 17 by omega) (show 0 ≤ ((u0_9 + 4)) ∧ (u0_9) ≤ ((u0_9 + 4)) ∧ ((u0_9 + 4)) ≤ (u0_8) by omega))
        · refine Ew_of (pcₚ := 81) (fun _ => x_aload_n rfl (rk2_o (rk_o (rfl) rfl rfl) rfl rfl)) ?_
          refine Ew_of (pcₚ := 82) (fun _ => x_iconst rfl) ?_
          refine Ew_of (pcₚ := 83) (fun _ => x_aload_n rfl (rk2_o (rk_o (rfl) rfl rfl) rfl rfl)) ?_
          refine v_g H (o := 0) (v := I (u0_9)) rfl rfl rfl rfl rfl (congrArg (fun z : Int => I z) ((((show F23 0 9 = F 0 9 from (eF23 0 9))).trans (eu0_9)) : F23 0 9 = u0_9)) ?_
          have r30 : (-2147483648 : Int) ≤ F 0 21 ∧ F 0 21 ≤ 2147483647 := by have h1 : (-2147483648 : Int) ≤ F23 0 21 ∧ F23 0 21 ≤ 2147483647 := H.krg 0 21 (by decide); rw [show F23 0 21 = F 0 21 from ((show F23 0 21 = F 0 21 from (eF23 0 21)))] at h1; exact h1
          refine v_inv H (o := 0) rfl rfl rfl rfl rfl rfl (by rfl) (C232 (D := pul [0] D) (N := pul [0] N) (HW_sub H (VS_of (show vsub V238 V232 [0] = true by decide +kernel))) (F 0 21) (((show F23 0 21 = F 0 21 from (eF23 0 21)))) (show inr (4) by omega) (show inr (u0_9) by omega) (fun z31 σ31 F31ₚ A31ₚ Hₚ Oₚ hS31 hA31 y31_0_21 ey31_0_21 pz31_0 pz31_1 pz31_2 => ⟨rfl, ?_⟩))
          replace ey31_0_21 := HIDm ey31_0_21
          refine v_back (c := c) (s := s) H (show vsub V238 V232 [0] = true by decide +kernel) Hₚ Oₚ (fun F31 A31 H Oₚ eF31 eA31 => ?_)
          have O := OUT_trans O Oₚ
          -- Unpacker.fail
          have r32 : (-2147483648 : Int) ≤ y31_0_21 ∧ y31_0_21 ≤ 2147483647 := by have h1 : (-2147483648 : Int) ≤ F31 0 21 ∧ F31 0 21 ≤ 2147483647 := H.krg 0 21 (by decide); rw [show F31 0 21 = y31_0_21 from ((eF31 0 21).trans ey31_0_21)] at h1; exact h1
          exact w_ireturn rfl (k (z31) _ _ _ H O (SF_trans (SF_trans (SF_refl) (SF_glu (ι := [1]) hS23 eF23 (by decide +kernel)) (any_sub (lₚ := []) rfl)) (SF_glu (ι := [0]) hS31 eF31 (by decide +kernel)) (any_sub (lₚ := [(0, 21)]) rfl)) (SA_trans (SA_trans (SA_refl) (SA_glu (ι := [1]) hA23 eA23 (by decide +kernel)) (any_subA (lₚ := []) rfl)) (SA_glu (ι := [0]) hA31 eA31 (by decide +kernel)) (any_subA (lₚ := []) rfl)) (u0_9) (((((show F31 0 9 = F23 0 9 from (eF31 0 9).trans (hS31 0 9 rfl))).trans ((show F23 0 9 = F 0 9 from (eF23 0 9)))).trans (eu0_9))) (show inr (z31) by omega) (show 0 ≤ (z31) ∧ (z31) ≤ 17 by omega) (show 0 ≤ (u0_9) ∧ (u0_9) ≤ (u0_9) ∧ (u0_9) ≤ (u0_8) by omega))
    · refine Ew_of (pcₚ := 35) (fun _ => x_aload_n rfl (rk_o (rfl) rfl rfl)) ?_
      refine Ew_of (pcₚ := 36) (fun _ => x_iconst rfl) ?_
      refine Ew_of (pcₚ := 37) (fun _ => x_aload_n rfl (rk_o (rfl) rfl rfl)) ?_
      refine v_g H (o := 0) (v := I (u0_8)) rfl rfl rfl rfl rfl (congrArg (fun z : Int => I z) ((eu0_8) : F 0 8 = u0_8)) ?_
      have r33 : (-2147483648 : Int) ≤ F 0 21 ∧ F 0 21 ≤ 2147483647 := by have h1 : (-2147483648 : Int) ≤ F 0 21 ∧ F 0 21 ≤ 2147483647 := H.krg 0 21 (by decide); rw [show F 0 21 = F 0 21 from rfl] at h1; exact h1
      refine v_inv H (o := 0) rfl rfl rfl rfl rfl rfl (by rfl) (C232 (D := pul [0] D) (N := pul [0] N) (HW_sub H (VS_of (show vsub V238 V232 [0] = true by decide +kernel))) (F 0 21) (rfl) (show inr (1) by omega) (show inr (u0_8) by omega) (fun z34 σ34 F34ₚ A34ₚ Hₚ Oₚ hS34 hA34 y34_0_21 ey34_0_21 pz34_0 pz34_1 pz34_2 => ⟨rfl, ?_⟩))
      replace ey34_0_21 := HIDm ey34_0_21
      refine v_back (c := c) (s := s) H (show vsub V238 V232 [0] = true by decide +kernel) Hₚ Oₚ (fun F34 A34 H Oₚ eF34 eA34 => ?_)
      have O := OUT_trans O Oₚ
      -- Unpacker.fail
      have r35 : (-2147483648 : Int) ≤ y34_0_21 ∧ y34_0_21 ≤ 2147483647 := by have h1 : (-2147483648 : Int) ≤ F34 0 21 ∧ F34 0 21 ≤ 2147483647 := H.krg 0 21 (by decide); rw [show F34 0 21 = y34_0_21 from ((eF34 0 21).trans ey34_0_21)] at h1; exact h1
      exact w_ireturn rfl (k (z34) _ _ _ H O (SF_trans (SF_refl) (SF_glu (ι := [0]) hS34 eF34 (by decide +kernel)) (any_sub (lₚ := [(0, 21)]) rfl)) (SA_trans (SA_refl) (SA_glu (ι := [0]) hA34 eA34 (by decide +kernel)) (any_subA (lₚ := []) rfl)) (u0_9) ((((show F34 0 9 = F 0 9 from (eF34 0 9).trans (hS34 0 9 rfl))).trans (eu0_9))) (show inr (z34) by omega) (show 0 ≤ (z34) ∧ (z34) ≤ 17 by omega) (show 0 ≤ (u0_9) ∧ (u0_9) ≤ (u0_9) ∧ (u0_9) ≤ (u0_8) by omega))
abbrev V239 : vV := [(0, 12, [(4, 0), (4, 0), (4, 0), (4, 0), (4, 0), (4, 0), (4, 0), (4, 0), (0, 0), (0, 0), (4, 0), (0, 0), (4, 0), (4, 0), (0, 0), (2, 0), (0, 0), (0, 0), (0, 0), (0, 0), (0, 0), (0, 0)])]
/-- Unpacker.sizeBytes: this -/
theorem C239 {σE : rS} {D N : Nat → Nat} {F : hF} {A : hA} {d c s : Nat} {Q : wQ} (H : HW V239 σE D N F A)  (u0_14 : Int) (eu0_14 : F 0 14 = u0_14) (h0 : 0 ≤ (u0_14) ∧ (u0_14) ≤ 255) (k : ∀ (z : Int) (σ : rS) (Fₚ : hF) (Aₚ : hA), HW V239 σ D N Fₚ Aₚ → OUT (V239).length D N σE c s D N σ c s → SF [] F Fₚ → SA [] A Aₚ → (inr (z)) → (0 ≤ (z) ∧ (z) ≤ 8) → ((z) = sbt ((u0_14))) → Q (some (I z)) σ c s) : Ew 239 (d + 0) 0 (rargs 0 [.ref (D 0)]) [] σE c s Q := by
  have O := OUT_refl (n := (V239).length) (D := D) (N := N) (σ := σE) (c := c) (s := s)
  have HE := H
  have r1 : (-2147483648 : Int) ≤ u0_14 ∧ u0_14 ≤ 2147483647 := by have h1 : (-2147483648 : Int) ≤ F 0 14 ∧ F 0 14 ≤ 2147483647 := H.krg 0 14 (by decide); rw [show F 0 14 = u0_14 from (eu0_14)] at h1; exact h1
  replace eu0_14 := HIDm eu0_14
  refine Ew_of (pcₚ := 1) (fun _ => x_aload_n rfl rfl) ?_
  refine v_g H (o := 0) (v := I (u0_14)) rfl rfl rfl rfl rfl (congrArg (fun z : Int => I z) ((eu0_14) : F 0 14 = u0_14)) ?_
  refine Ew_of (pcₚ := 6) (fun _ => x_bipush (z := 6) rfl (by decide)) ?_
  refine w_ishrK 6 64 (by decide) (by decide) rfl (show inr (u0_14) by omega) (fun z2 gz2 dz2 => ?_)
  refine Ew_of (pcₚ := 8) (fun _ => x_istore_n rfl) ?_
  refine Ew_of (pcₚ := 9) (fun _ => x_iload_n rfl rk_s) ?_
  refine w_ifle (t := 18) rfl rfl (show inr (z2) by omega) (fun b3 => ?_) (fun b3 => ?_)
  · refine Ew_of (pcₚ := 19) (fun _ => x_aload_n rfl (rk_o (rfl) rfl rfl)) ?_
    refine v_g H (o := 0) (v := I (u0_14)) rfl rfl rfl rfl rfl (congrArg (fun z : Int => I z) ((eu0_14) : F 0 14 = u0_14)) ?_
    refine Ew_of (pcₚ := 24) (fun _ => x_bipush (z := 32) rfl (by decide)) ?_
    refine w_iandE rfl (show inr (u0_14) by omega) (show inr (32) by omega) (fun z4 gz4 gaz4 gbz4 gez4 => ?_)
    refine w_ifeq (t := 32) rfl rfl (show inr (z4) by omega) (fun b5 => ?_) (fun b5 => ?_)
    · refine Ew_of (pcₚ := 33) (fun _ => x_iconst rfl) ?_
      have hsb : ((0) : Int) = sbt ((u0_14)) := by first | exact sbt_1 (by omega) (by omega) | exact sbt_2 (by omega) (by omega) | exact sbt_3 (by omega) (by omega)
      exact w_ireturn rfl (k (0) _ _ _ H O (SF_refl) (SA_refl) (show inr (0) by omega) (show 0 ≤ (0) ∧ (0) ≤ 8 by omega) (show (0) = sbt ((u0_14)) by omega))
    · refine Ew_of (pcₚ := 29) (fun _ => x_iconst rfl) ?_
      refine Ew_of (pcₚ := 33) (fun _ => x_goto rfl rfl) ?_
      have hsb : ((1) : Int) = sbt ((u0_14)) := by first | exact sbt_1 (by omega) (by omega) | exact sbt_2 (by omega) (by omega) | exact sbt_3 (by omega) (by omega)
      exact w_ireturn rfl (k (1) _ _ _ H O (SF_refl) (SA_refl) (show inr (1) by omega) (show 0 ≤ (1) ∧ (1) ≤ 8 by omega) (show (1) = sbt ((u0_14)) by omega))
  · refine Ew_of (pcₚ := 13) (fun _ => x_iconst rfl) ?_
    refine Ew_of (pcₚ := 14) (fun _ => x_iload_n rfl rk_s) ?_
    have hp3 : p2 ((z2)) ≤ p2 3 := p2_mono (by omega)
    have hp8 : p2 3 = 8 := by decide
    have hpp := p2_pos ((z2))
    refine w_ishl1 rfl (show 0 ≤ z2 ∧ z2 ≤ 31 by omega) ?_
    refine Ew_of (pcₚ := 33) (fun _ => x_goto rfl rfl) ?_
    have hsb : ((p2 (z2)) : Int) = sbt ((u0_14)) := by first | exact sbt_1 (by omega) (by omega) | exact sbt_2 (by omega) (by omega) | exact sbt_3 (by omega) (by omega)
    exact w_ireturn rfl (k (p2 (z2)) _ _ _ H O (SF_refl) (SA_refl) (show inr (p2 (z2)) by omega) (show 0 ≤ (p2 (z2)) ∧ (p2 (z2)) ≤ 8 by omega) (show (p2 (z2)) = sbt ((u0_14)) by omega))
abbrev V240 : vV := [(0, 12, [(4, 0), (4, 0), (4, 0), (4, 0), (4, 0), (4, 0), (4, 0), (4, 0), (0, 0), (0, 0), (4, 0), (0, 0), (4, 0), (4, 0), (0, 0), (2, 0), (0, 0), (0, 0), (0, 0), (0, 0), (0, 0), (0, 0)]), (1, 0, [])]
/-- Unpacker.sizeTold: this, this.in -/
theorem C240 {σE : rS} {D N : Nat → Nat} {F : hF} {A : hA} {d c s : Nat} {Q : wQ} (H : HW V240 σE D N F A)  (pf1 : F 0 7 = (D 1 : Int)) (n1 : Int) (en1 : (N 1 : Int) = n1) (u0_14 : Int) (eu0_14 : F 0 14 = u0_14) (u0_16 : Int) (eu0_16 : F 0 16 = u0_16) (h0 : 0 ≤ (u0_14) ∧ (u0_14) ≤ 255) (h1 : 0 ≤ (u0_16) ∧ (u0_16) + sbt ((u0_14)) ≤ (n1)) (h2 : (n1) ≤ 65536) (k : ∀ (z : Int) (σ : rS) (Fₚ : hF) (Aₚ : hA), HW V240 σ D N Fₚ Aₚ → OUT (V240).length D N σE c s D N σ c s → SF [] F Fₚ → SA [] A Aₚ → (inrJ (z)) → Q (some (J z)) σ c s) : Ew 240 (d + 1) 0 (rargs 0 [.ref (D 0)]) [] σE c s Q := by
  have O := OUT_refl (n := (V240).length) (D := D) (N := N) (σ := σE) (c := c) (s := s)
  have HE := H
  have r1 : (-2147483648 : Int) ≤ u0_14 ∧ u0_14 ≤ 2147483647 := by have h1 : (-2147483648 : Int) ≤ F 0 14 ∧ F 0 14 ≤ 2147483647 := H.krg 0 14 (by decide); rw [show F 0 14 = u0_14 from (eu0_14)] at h1; exact h1
  have r2 : (-2147483648 : Int) ≤ u0_16 ∧ u0_16 ≤ 2147483647 := by have h1 : (-2147483648 : Int) ≤ F 0 16 ∧ F 0 16 ≤ 2147483647 := H.krg 0 16 (by decide); rw [show F 0 16 = u0_16 from (eu0_16)] at h1; exact h1
  replace pf1 := HIDm pf1
  replace en1 := HIDm en1
  replace eu0_14 := HIDm eu0_14
  replace eu0_16 := HIDm eu0_16
  have r3 : (0 : Int) ≤ n1 ∧ n1 ≤ 1000000 := by have h1 := H.nle 1 (by decide); have h2 : (N 1 : Int) = n1 := en1; omega
  refine Ew_of (pcₚ := 1) (fun _ => x_aload_n rfl rfl) ?_
  refine v_inv H (o := 0) rfl rfl rfl rfl rfl rfl (by rfl) (C239 (D := pul [0] D) (N := pul [0] N) (HW_sub H (VS_of (show vsub V240 V239 [0] = true by decide +kernel))) (u0_14) ((eu0_14)) (show 0 ≤ (u0_14) ∧ (u0_14) ≤ 255 by omega) (fun z4 σ4 F4ₚ A4ₚ Hₚ Oₚ hS4 hA4 pz4_0 pz4_1 pz4_2 => ⟨rfl, ?_⟩))
  refine v_back (c := c) (s := s) H (show vsub V240 V239 [0] = true by decide +kernel) Hₚ Oₚ (fun F4 A4 H Oₚ eF4 eA4 => ?_)
  have O := OUT_trans O Oₚ
  -- Unpacker.sizeBytes
  refine Ew_of (pcₚ := 5) (fun _ => x_istore_n rfl) ?_
  refine Ew_of (pcₚ := 6) (fun _ => x_aload_n rfl (rk_o (rfl) rfl rfl)) ?_
  refine v_g H (o := 0) (v := .ref (D 1)) rfl rfl rfl rfl rfl (vrf ((((show F4 0 7 = F 0 7 from (eF4 0 7).trans (hS4 0 7 rfl)))).trans (pf1))) ?_
  refine Ew_of (pcₚ := 10) (fun _ => x_aload_n rfl (rk_o (rfl) rfl rfl)) ?_
  refine v_g H (o := 0) (v := I (u0_16)) rfl rfl rfl rfl rfl (congrArg (fun z : Int => I z) ((((show F4 0 16 = F 0 16 from (eF4 0 16).trans (hS4 0 16 rfl))).trans (eu0_16)) : F4 0 16 = u0_16)) ?_
  refine Ew_of (pcₚ := 14) (fun _ => x_iload_n rfl rk_s) ?_
  refine w_stat25 rfl rfl (by rfl) (C42_Brf (D := pul [1] D) (N := pul [1] N) (HW_sub H (VS_of (show vsub V240 V42_Br [1] = true by decide +kernel))) (n1) (en1) (A 1) ((show A4 1 = A 1 from (eA4 1))) (show inr (u0_16) by omega) (show inr (z4) by omega) (show (z4) ≤ 0 ∨ 0 ≤ (u0_16) ∧ (u0_16) + (z4) ≤ (n1) by omega) (show 0 ≤ (z4) ∧ (z4) ≤ 8 by omega) (fun z5 σ5 F5ₚ A5ₚ Hₚ Oₚ hS5 hA5 pz5_0 pz5_1 pz5_2 => ⟨rfl, ?_⟩))
  refine v_back (c := c) (s := s) H (show vsub V240 V42_Br [1] = true by decide +kernel) Hₚ Oₚ (fun F5 A5 H Oₚ eF5 eA5 => ?_)
  have O := OUT_trans O Oₚ
  -- PackHouse.number
  refine Ew_of (pcₚ := 18) (fun _ => x_iload_n rfl rk_s) ?_
  refine Ew_of (pcₚ := 19) (fun _ => x_iconst rfl) ?_
  refine w_icmpne (t := 28) rfl rfl (show inr (z4) by omega) (show inr (2) by omega) (fun b6 => ?_) (fun b6 => ?_)
  · refine Ew_of (pcₚ := 29) (fun _ => x_iconst rfl) ?_
    refine w_i2l rfl (show inr (0) by omega) ?_
    refine w_laddA rfl (fun z7 gz7 => ?_)
    exact w_lreturn rfl (k (z7) _ _ _ H O (SF_trans (SF_trans (SF_refl) (SF_glu (ι := [0]) hS4 eF4 (by decide +kernel)) (any_sub (lₚ := []) rfl)) (SF_glu (ι := [1]) hS5 eF5 (by decide +kernel)) (any_sub (lₚ := []) rfl)) (SA_trans (SA_trans (SA_refl) (SA_glu (ι := [0]) hA4 eA4 (by decide +kernel)) (any_subA (lₚ := []) rfl)) (SA_glu (ι := [1]) hA5 eA5 (by decide +kernel)) (any_subA (lₚ := []) rfl)) (show inrJ (z7) by omega))
  · refine Ew_of (pcₚ := 25) (fun _ => x_sipush (z := 256) rfl (by decide)) ?_
    refine Ew_of (pcₚ := 29) (fun _ => x_goto rfl rfl) ?_
    refine w_i2l rfl (show inr (256) by omega) ?_
    refine w_laddA rfl (fun z8 gz8 => ?_)
    exact w_lreturn rfl (k (z8) _ _ _ H O (SF_trans (SF_trans (SF_refl) (SF_glu (ι := [0]) hS4 eF4 (by decide +kernel)) (any_sub (lₚ := []) rfl)) (SF_glu (ι := [1]) hS5 eF5 (by decide +kernel)) (any_sub (lₚ := []) rfl)) (SA_trans (SA_trans (SA_refl) (SA_glu (ι := [0]) hA4 eA4 (by decide +kernel)) (any_subA (lₚ := []) rfl)) (SA_glu (ι := [1]) hA5 eA5 (by decide +kernel)) (any_subA (lₚ := []) rfl)) (show inrJ (z8) by omega))
abbrev V241 : vV := [(0, 12, [(4, 0), (4, 0), (4, 0), (4, 0), (4, 0), (4, 0), (4, 0), (4, 0), (0, 0), (0, 0), (4, 0), (0, 0), (4, 0), (4, 0), (0, 0), (2, 0), (0, 0), (0, 0), (0, 0), (0, 0), (0, 0), (0, 0)]), (1, 0, []), (1, 1, [])]
/-- Unpacker.unpackSize: this, this.in, this.counts -/
theorem C241 {σE : rS} {D N : Nat → Nat} {F : hF} {A : hA} {d c s : Nat} {Q : wQ} (H : HW V241 σE D N F A)  (pf1 : F 0 7 = (D 1 : Int)) (pf2 : F 0 13 = (D 2 : Int)) (n1 : Int) (en1 : (N 1 : Int) = n1) (n2 : Int) (en2 : (N 2 : Int) = n2) (u0_8 : Int) (eu0_8 : F 0 8 = u0_8) (u0_9 : Int) (eu0_9 : F 0 9 = u0_9) (u0_14 : Int) (eu0_14 : F 0 14 = u0_14) (u0_15 : Int) (eu0_15 : F 0 15 = u0_15) (u0_16 : Int) (eu0_16 : F 0 16 = u0_16) (h0 : 0 ≤ (u0_9) ∧ (u0_9) ≤ (u0_8) ∧ (u0_8) ≤ (n1) ∧ (n1) ≤ 65536) (h1 : 0 ≤ (u0_14) ∧ (u0_14) ≤ 255) (h2 : (n2) = 5) (h3 : 0 ≤ (u0_15)) (k : ∀ (z : Int) (σ : rS) (Fₚ : hF) (Aₚ : hA), HW V241 σ D N Fₚ Aₚ → OUT (V241).length D N σE c s D N σ c s → SF [(0, 9), (0, 15), (0, 16), (0, 21)] F Fₚ → SA [2] A Aₚ → ∀ y0_9 : Int, Fₚ 0 9 = y0_9 → ∀ y0_15 : Int, Fₚ 0 15 = y0_15 → ∀ y0_16 : Int, Fₚ 0 16 = y0_16 → (inr (z)) → (0 ≤ (z) ∧ (z) ≤ 17) → (0 ≤ (y0_9) ∧ (u0_9) ≤ (y0_9) ∧ (y0_9) ≤ (u0_8)) → (0 ≤ (y0_15)) → ((z) ≠ 0 ∨ 0 ≤ (y0_16) ∧ (y0_16) + sbt ((u0_14)) ≤ (n1)) → Q (some (I z)) σ c s) : Ew 241 (d + 2) 0 (rargs 0 [.ref (D 0)]) [] σE c s Q := by
  have O := OUT_refl (n := (V241).length) (D := D) (N := N) (σ := σE) (c := c) (s := s)
  have HE := H
  have r1 : (-2147483648 : Int) ≤ u0_8 ∧ u0_8 ≤ 2147483647 := by have h1 : (-2147483648 : Int) ≤ F 0 8 ∧ F 0 8 ≤ 2147483647 := H.krg 0 8 (by decide); rw [show F 0 8 = u0_8 from (eu0_8)] at h1; exact h1
  have r2 : (-2147483648 : Int) ≤ u0_9 ∧ u0_9 ≤ 2147483647 := by have h1 : (-2147483648 : Int) ≤ F 0 9 ∧ F 0 9 ≤ 2147483647 := H.krg 0 9 (by decide); rw [show F 0 9 = u0_9 from (eu0_9)] at h1; exact h1
  have r3 : (-2147483648 : Int) ≤ u0_14 ∧ u0_14 ≤ 2147483647 := by have h1 : (-2147483648 : Int) ≤ F 0 14 ∧ F 0 14 ≤ 2147483647 := H.krg 0 14 (by decide); rw [show F 0 14 = u0_14 from (eu0_14)] at h1; exact h1
  have r4 : (-9223372036854775808 : Int) ≤ u0_15 ∧ u0_15 ≤ 9223372036854775807 := by have h1 : (-9223372036854775808 : Int) ≤ F 0 15 ∧ F 0 15 ≤ 9223372036854775807 := H.krg 0 15 (by decide); rw [show F 0 15 = u0_15 from (eu0_15)] at h1; exact h1
  have r5 : (-2147483648 : Int) ≤ u0_16 ∧ u0_16 ≤ 2147483647 := by have h1 : (-2147483648 : Int) ≤ F 0 16 ∧ F 0 16 ≤ 2147483647 := H.krg 0 16 (by decide); rw [show F 0 16 = u0_16 from (eu0_16)] at h1; exact h1
  replace pf1 := HIDm pf1
  replace pf2 := HIDm pf2
  replace en1 := HIDm en1
  replace en2 := HIDm en2
  replace eu0_8 := HIDm eu0_8
  replace eu0_9 := HIDm eu0_9
  replace eu0_14 := HIDm eu0_14
  replace eu0_15 := HIDm eu0_15
  replace eu0_16 := HIDm eu0_16
  have r6 : (0 : Int) ≤ n1 ∧ n1 ≤ 1000000 := by have h1 := H.nle 1 (by decide); have h2 : (N 1 : Int) = n1 := en1; omega
  have r7 : (0 : Int) ≤ n2 ∧ n2 ≤ 1000000 := by have h1 := H.nle 2 (by decide); have h2 : (N 2 : Int) = n2 := en2; omega
  refine Ew_of (pcₚ := 1) (fun _ => x_aload_n rfl rfl) ?_
  refine v_inv H (o := 0) rfl rfl rfl rfl rfl rfl (by rfl) (C239 (D := pul [0] D) (N := pul [0] N) (HW_sub H (VS_of (show vsub V241 V239 [0] = true by decide +kernel))) (u0_14) ((eu0_14)) (show 0 ≤ (u0_14) ∧ (u0_14) ≤ 255 by omega) (fun z8 σ8 F8ₚ A8ₚ Hₚ Oₚ hS8 hA8 pz8_0 pz8_1 pz8_2 => ⟨rfl, ?_⟩))
  refine v_back (c := c) (s := s) H (show vsub V241 V239 [0] = true by decide +kernel) Hₚ Oₚ (fun F8 A8 H Oₚ eF8 eA8 => ?_)
  have O := OUT_trans O Oₚ
  -- Unpacker.sizeBytes
  refine Ew_of (pcₚ := 5) (fun _ => x_istore_n rfl) ?_
  refine Ew_of (pcₚ := 6) (fun _ => x_aload_n rfl (rk_o (rfl) rfl rfl)) ?_
  refine v_g H (o := 0) (v := I (u0_8)) rfl rfl rfl rfl rfl (congrArg (fun z : Int => I z) ((((show F8 0 8 = F 0 8 from (eF8 0 8).trans (hS8 0 8 rfl))).trans (eu0_8)) : F8 0 8 = u0_8)) ?_
  refine Ew_of (pcₚ := 10) (fun _ => x_aload_n rfl (rk_o (rfl) rfl rfl)) ?_
  refine v_g H (o := 0) (v := I (u0_9)) rfl rfl rfl rfl rfl (congrArg (fun z : Int => I z) ((((show F8 0 9 = F 0 9 from (eF8 0 9).trans (hS8 0 9 rfl))).trans (eu0_9)) : F8 0 9 = u0_9)) ?_
  refine w_isub rfl ?_
  refine Ew_of (pcₚ := 15) (fun _ => x_iload_n rfl rk_s) ?_
  refine w_icmpge (t := 28) rfl rfl (show inr ((u0_8 - u0_9)) by omega) (show inr (z8) by omega) (fun b9 => ?_) (fun b9 => ?_)
  · refine Ew_of (pcₚ := 29) (fun _ => x_aload_n rfl (rk_o (rfl) rfl rfl)) ?_
    refine Ew_of (pcₚ := 30) (fun _ => x_aload_n rfl (rk_o (rfl) rfl rfl)) ?_
    refine v_g H (o := 0) (v := I (u0_9)) rfl rfl rfl rfl rfl (congrArg (fun z : Int => I z) ((((show F8 0 9 = F 0 9 from (eF8 0 9).trans (hS8 0 9 rfl))).trans (eu0_9)) : F8 0 9 = u0_9)) ?_
    refine v_p H (o := 0) (z := u0_9) (v := I (u0_9)) rfl rfl rfl rfl rfl rfl rfl rfl (show (-2147483648 : Int) ≤ u0_9 ∧ u0_9 ≤ 2147483647 by omega) (fun σ H Oₚ => ?_)
    have O := OUT_trans O Oₚ
    have hc54 : ∀ (ls : rO) (σ : rS) (F_c54 : hF) (A_c54 : hA) , rlook ls 0 = some (.ref (D 0)) → rlook ls 1 = some (I (z8)) → HW V241 σ D N F_c54 A_c54 → OUT (V241).length D N σE c s D N σ c s → SF [(0, 15)] (updF F8 0 16 (u0_9)) F_c54 → SA [2] A8 A_c54 → ∀ yc54_0_15 : Int, F_c54 0 15 = yc54_0_15 → (0 ≤ (yc54_0_15)) → Ew 241 (d + 2) 54 ls [] σ c s Q := by
     as_aux_lemma =>
      intro  ls σ F_c54 A_c54  lc54_0 lc54_1 H O hS_c54 hA_c54   yc54_0_15 eyc54_0_15  jc54_0
      replace eyc54_0_15 := HIDm eyc54_0_15
      have r10 : (-9223372036854775808 : Int) ≤ yc54_0_15 ∧ yc54_0_15 ≤ 9223372036854775807 := by have h1 : (-9223372036854775808 : Int) ≤ F_c54 0 15 ∧ F_c54 0 15 ≤ 9223372036854775807 := H.krg 0 15 (by decide); rw [show F_c54 0 15 = yc54_0_15 from (eyc54_0_15)] at h1; exact h1
      refine Ew_of (pcₚ := 55) (fun _ => x_aload_n rfl lc54_0) ?_
      refine Ew_of (pcₚ := 56) (fun _ => x_dup rfl rfl) ?_
      refine v_g H (o := 0) (v := I (u0_9)) rfl rfl rfl rfl rfl (congrArg (fun z : Int => I z) ((((hS_c54 0 9 rfl).trans ((show F8 0 9 = F 0 9 from (eF8 0 9).trans (hS8 0 9 rfl)))).trans (eu0_9)) : F_c54 0 9 = u0_9)) ?_
      refine Ew_of (pcₚ := 60) (fun _ => x_iload_n rfl lc54_1) ?_
      refine w_iadd rfl ?_
      refine v_p H (o := 0) (z := (u0_9 + z8)) (v := I ((u0_9 + z8))) rfl rfl rfl rfl rfl rfl rfl rfl (show (-2147483648 : Int) ≤ (u0_9 + z8) ∧ (u0_9 + z8) ≤ 2147483647 by omega) (fun σ H Oₚ => ?_)
      have O := OUT_trans O Oₚ
      refine Ew_of (pcₚ := 65) (fun _ => x_iconst rfl) ?_
      exact w_ireturn rfl (k (0) _ _ _ H O (SF_upd (SF_trans (SF_upd (SF_trans (SF_refl) (SF_glu (ι := [0]) hS8 eF8 (by decide +kernel)) (any_sub (lₚ := []) rfl)) rfl) hS_c54 (any_sub rfl)) rfl) (SA_trans (SA_trans (SA_refl) (SA_glu (ι := [0]) hA8 eA8 (by decide +kernel)) (any_subA (lₚ := []) rfl)) hA_c54 (any_subA rfl)) ((u0_9 + z8)) (rfl) (yc54_0_15) ((eyc54_0_15)) (u0_9) ((hS_c54 0 16 rfl)) (show inr (0) by omega) (show 0 ≤ (0) ∧ (0) ≤ 17 by omega) (show 0 ≤ ((u0_9 + z8)) ∧ (u0_9) ≤ ((u0_9 + z8)) ∧ ((u0_9 + z8)) ≤ (u0_8) by omega) (show 0 ≤ (yc54_0_15) by omega) (show (0) ≠ 0 ∨ 0 ≤ (u0_9) ∧ (u0_9) + sbt ((u0_14)) ≤ (n1) by omega))
    refine Ew_of (pcₚ := 37) (fun _ => x_aload_n rfl (rk_o (rfl) rfl rfl)) ?_
    refine v_g H (o := 0) (v := I (u0_14)) rfl rfl rfl rfl rfl (congrArg (fun z : Int => I z) ((((show F8 0 14 = F 0 14 from (eF8 0 14).trans (hS8 0 14 rfl))).trans (eu0_14)) : (updF F8 0 16 (u0_9)) 0 14 = u0_14)) ?_
    refine Ew_of (pcₚ := 42) (fun _ => x_bipush (z := 32) rfl (by decide)) ?_
    refine w_iand rfl (show inr (u0_14) by omega) (show inr (32) by omega) (fun z11 gz11 gaz11 gbz11 => ?_)
    refine w_ifeq (t := 54) rfl rfl (show inr (z11) by omega) (fun b12 => ?_) (fun b12 => ?_)
    · exact hc54  _ _ _ _  (rk_o (rfl) rfl rfl) (rk_s) H O (SF_refl) (SA_refl)   (u0_15) ((((show F8 0 15 = F 0 15 from (eF8 0 15).trans (hS8 0 15 rfl))).trans (eu0_15)))  (show 0 ≤ (u0_15) by omega)
    · refine Ew_of (pcₚ := 47) (fun _ => x_aload_n rfl (rk_o (rfl) rfl rfl)) ?_
      refine Ew_of (pcₚ := 48) (fun _ => x_aload_n rfl (rk_o (rfl) rfl rfl)) ?_
      refine v_inv H (o := 0) rfl rfl rfl rfl rfl rfl (by rfl) (C240 (D := pul [0, 1] D) (N := pul [0, 1] N) (HW_sub H (VS_of (show vsub V241 V240 [0, 1] = true by decide +kernel))) ((((show F8 0 7 = F 0 7 from (eF8 0 7).trans (hS8 0 7 rfl)))).trans (pf1)) (n1) (en1) (u0_14) ((((show F8 0 14 = F 0 14 from (eF8 0 14).trans (hS8 0 14 rfl))).trans (eu0_14))) (u0_9) (rfl) (show 0 ≤ (u0_14) ∧ (u0_14) ≤ 255 by omega) (show 0 ≤ (u0_9) ∧ (u0_9) + sbt ((u0_14)) ≤ (n1) by omega) (show (n1) ≤ 65536 by omega) (fun z13 σ13 F13ₚ A13ₚ Hₚ Oₚ hS13 hA13 pz13_0 => ⟨rfl, ?_⟩))
      refine v_back (c := c) (s := s) H (show vsub V241 V240 [0, 1] = true by decide +kernel) Hₚ Oₚ (fun F13 A13 H Oₚ eF13 eA13 => ?_)
      have O := OUT_trans O Oₚ
      -- Unpacker.sizeTold
      refine v_inv H (o := 0) rfl rfl rfl rfl rfl rfl (by rfl) (C236 (D := pul [0, 2] D) (N := pul [0, 2] N) (HW_sub H (VS_of (show vsub V241 V236 [0, 2] = true by decide +kernel))) (((((show F13 0 13 = (updF F8 0 16 (u0_9)) 0 13 from (eF13 0 13).trans (hS13 0 13 rfl))).trans ((show F8 0 13 = F 0 13 from (eF8 0 13).trans (hS8 0 13 rfl))))).trans (pf2)) (n2) (en2) (u0_15) (((((show F13 0 15 = (updF F8 0 16 (u0_9)) 0 15 from (eF13 0 15).trans (hS13 0 15 rfl))).trans ((show F8 0 15 = F 0 15 from (eF8 0 15).trans (hS8 0 15 rfl)))).trans (eu0_15))) (show inrJ (z13) by omega) (show (n2) = 5 by omega) (fun σ14 F14ₚ A14ₚ Hₚ Oₚ hS14 hA14 y14_0_15 ey14_0_15 pz14_0 => ⟨rfl, ?_⟩))
      replace ey14_0_15 := HIDm ey14_0_15
      refine v_back (c := c) (s := s) H (show vsub V241 V236 [0, 2] = true by decide +kernel) Hₚ Oₚ (fun F14 A14 H Oₚ eF14 eA14 => ?_)
      have O := OUT_trans O Oₚ
      -- Unpacker.tellWindow
      have r15 : (-9223372036854775808 : Int) ≤ y14_0_15 ∧ y14_0_15 ≤ 9223372036854775807 := by have h1 : (-9223372036854775808 : Int) ≤ F14 0 15 ∧ F14 0 15 ≤ 9223372036854775807 := H.krg 0 15 (by decide); rw [show F14 0 15 = y14_0_15 from ((eF14 0 15).trans ey14_0_15)] at h1; exact h1
      exact hc54  _ _ _ _  (rk_o (rfl) rfl rfl) (rk_s) H O (SF_trans (SF_trans (SF_refl) (SF_glu (ι := [0, 1]) hS13 eF13 (by decide +kernel)) (any_sub (lₚ := []) rfl)) (SF_glu (ι := [0, 2]) hS14 eF14 (by decide +kernel)) (any_sub (lₚ := [(0, 15)]) rfl)) (SA_trans (SA_trans (SA_refl) (SA_glu (ι := [0, 1]) hA13 eA13 (by decide +kernel)) (any_subA (lₚ := []) rfl)) (SA_glu (ι := [0, 2]) hA14 eA14 (by decide +kernel)) (any_subA (lₚ := [2]) rfl))   (y14_0_15) (((eF14 0 15).trans ey14_0_15))  (show 0 ≤ (y14_0_15) by omega)
  · refine Ew_of (pcₚ := 19) (fun _ => x_aload_n rfl (rk_o (rfl) rfl rfl)) ?_
    refine Ew_of (pcₚ := 20) (fun _ => x_iconst rfl) ?_
    refine Ew_of (pcₚ := 21) (fun _ => x_aload_n rfl (rk_o (rfl) rfl rfl)) ?_
    refine v_g H (o := 0) (v := I (u0_8)) rfl rfl rfl rfl rfl (congrArg (fun z : Int => I z) ((((show F8 0 8 = F 0 8 from (eF8 0 8).trans (hS8 0 8 rfl))).trans (eu0_8)) : F8 0 8 = u0_8)) ?_
    have r16 : (-2147483648 : Int) ≤ F 0 21 ∧ F 0 21 ≤ 2147483647 := by have h1 : (-2147483648 : Int) ≤ F8 0 21 ∧ F8 0 21 ≤ 2147483647 := H.krg 0 21 (by decide); rw [show F8 0 21 = F 0 21 from ((show F8 0 21 = F 0 21 from (eF8 0 21).trans (hS8 0 21 rfl)))] at h1; exact h1
    refine v_inv H (o := 0) rfl rfl rfl rfl rfl rfl (by rfl) (C232 (D := pul [0] D) (N := pul [0] N) (HW_sub H (VS_of (show vsub V241 V232 [0] = true by decide +kernel))) (F 0 21) (((show F8 0 21 = F 0 21 from (eF8 0 21).trans (hS8 0 21 rfl)))) (show inr (1) by omega) (show inr (u0_8) by omega) (fun z17 σ17 F17ₚ A17ₚ Hₚ Oₚ hS17 hA17 y17_0_21 ey17_0_21 pz17_0 pz17_1 pz17_2 => ⟨rfl, ?_⟩))
    replace ey17_0_21 := HIDm ey17_0_21
    refine v_back (c := c) (s := s) H (show vsub V241 V232 [0] = true by decide +kernel) Hₚ Oₚ (fun F17 A17 H Oₚ eF17 eA17 => ?_)
    have O := OUT_trans O Oₚ
    -- Unpacker.fail
    have r18 : (-2147483648 : Int) ≤ y17_0_21 ∧ y17_0_21 ≤ 2147483647 := by have h1 : (-2147483648 : Int) ≤ F17 0 21 ∧ F17 0 21 ≤ 2147483647 := H.krg 0 21 (by decide); rw [show F17 0 21 = y17_0_21 from ((eF17 0 21).trans ey17_0_21)] at h1; exact h1
    exact w_ireturn rfl (k (z17) _ _ _ H O (SF_trans (SF_trans (SF_refl) (SF_glu (ι := [0]) hS8 eF8 (by decide +kernel)) (any_sub (lₚ := []) rfl)) (SF_glu (ι := [0]) hS17 eF17 (by decide +kernel)) (any_sub (lₚ := [(0, 21)]) rfl)) (SA_trans (SA_trans (SA_refl) (SA_glu (ι := [0]) hA8 eA8 (by decide +kernel)) (any_subA (lₚ := []) rfl)) (SA_glu (ι := [0]) hA17 eA17 (by decide +kernel)) (any_subA (lₚ := []) rfl)) (u0_9) (((((show F17 0 9 = F8 0 9 from (eF17 0 9).trans (hS17 0 9 rfl))).trans ((show F8 0 9 = F 0 9 from (eF8 0 9).trans (hS8 0 9 rfl)))).trans (eu0_9))) (u0_15) (((((show F17 0 15 = F8 0 15 from (eF17 0 15).trans (hS17 0 15 rfl))).trans ((show F8 0 15 = F 0 15 from (eF8 0 15).trans (hS8 0 15 rfl)))).trans (eu0_15))) (u0_16) (((((show F17 0 16 = F8 0 16 from (eF17 0 16).trans (hS17 0 16 rfl))).trans ((show F8 0 16 = F 0 16 from (eF8 0 16).trans (hS8 0 16 rfl)))).trans (eu0_16))) (show inr (z17) by omega) (show 0 ≤ (z17) ∧ (z17) ≤ 17 by omega) (show 0 ≤ (u0_9) ∧ (u0_9) ≤ (u0_9) ∧ (u0_9) ≤ (u0_8) by omega) (show 0 ≤ (u0_15) by omega) (show (z17) ≠ 0 ∨ 0 ≤ (u0_16) ∧ (u0_16) + sbt ((u0_14)) ≤ (n1) by omega))
abbrev V242 : vV := [(0, 12, [(4, 0), (4, 0), (4, 0), (4, 0), (4, 0), (4, 0), (4, 0), (4, 0), (0, 0), (0, 0), (4, 0), (0, 0), (4, 0), (4, 0), (0, 0), (2, 0), (0, 0), (0, 0), (0, 0), (0, 0), (0, 0), (0, 0)]), (1, 0, []), (0, 7, [(4, 0), (0, 0), (1, 0), (0, 0), (0, 0)]), (1, 0, [])]
/-- Unpacker.unpackEnd: this, this.in, this.result, this.result.bytes -/
theorem C242 {σE : rS} {D N : Nat → Nat} {F : hF} {A : hA} {d c s : Nat} {Q : wQ} (H : HW V242 σE D N F A)  (pf1 : F 0 7 = (D 1 : Int)) (pf2 : F 0 10 = (D 2 : Int)) (pf3 : F 2 0 = (D 3 : Int)) (n1 : Int) (en1 : (N 1 : Int) = n1) (n3 : Int) (en3 : (N 3 : Int) = n3) (u0_8 : Int) (eu0_8 : F 0 8 = u0_8) (u0_9 : Int) (eu0_9 : F 0 9 = u0_9) (u0_14 : Int) (eu0_14 : F 0 14 = u0_14) (u0_16 : Int) (eu0_16 : F 0 16 = u0_16) (u0_17 : Int) (eu0_17 : F 0 17 = u0_17) (u2_1 : Int) (eu2_1 : F 2 1 = u2_1) (h0 : 0 ≤ (u0_9) ∧ (u0_9) ≤ (u0_8) ∧ (u0_8) ≤ (n1) ∧ (n1) ≤ 65536) (h1 : 0 ≤ (u0_14) ∧ (u0_14) ≤ 255) (h2 : 0 ≤ (u0_16) ∧ (u0_16) + sbt ((u0_14)) ≤ (n1)) (h3 : 0 ≤ (u2_1) ∧ (u2_1) ≤ (n3) ∧ (n3) ≤ 65536) (h4 : 0 ≤ (u0_17) ∧ (u0_17) ≤ (u2_1)) (k : ∀ (z : Int) (σ : rS) (Fₚ : hF) (Aₚ : hA), HW V242 σ D N Fₚ Aₚ → OUT (V242).length D N σE c s D N σ c s → SF [(0, 9), (0, 21)] F Fₚ → SA [] A Aₚ → ∀ y0_9 : Int, Fₚ 0 9 = y0_9 → (inr (z)) → (0 ≤ (z) ∧ (z) ≤ 17) → (0 ≤ (y0_9) ∧ (u0_9) ≤ (y0_9) ∧ (y0_9) ≤ (u0_8)) → Q (some (I z)) σ c s) : Ew 242 (d + 4) 0 (rargs 0 [.ref (D 0)]) [] σE c s Q := by
  have O := OUT_refl (n := (V242).length) (D := D) (N := N) (σ := σE) (c := c) (s := s)
  have HE := H
  have r1 : (-2147483648 : Int) ≤ u0_8 ∧ u0_8 ≤ 2147483647 := by have h1 : (-2147483648 : Int) ≤ F 0 8 ∧ F 0 8 ≤ 2147483647 := H.krg 0 8 (by decide); rw [show F 0 8 = u0_8 from (eu0_8)] at h1; exact h1
  have r2 : (-2147483648 : Int) ≤ u0_9 ∧ u0_9 ≤ 2147483647 := by have h1 : (-2147483648 : Int) ≤ F 0 9 ∧ F 0 9 ≤ 2147483647 := H.krg 0 9 (by decide); rw [show F 0 9 = u0_9 from (eu0_9)] at h1; exact h1
  have r3 : (-2147483648 : Int) ≤ u0_14 ∧ u0_14 ≤ 2147483647 := by have h1 : (-2147483648 : Int) ≤ F 0 14 ∧ F 0 14 ≤ 2147483647 := H.krg 0 14 (by decide); rw [show F 0 14 = u0_14 from (eu0_14)] at h1; exact h1
  have r4 : (-2147483648 : Int) ≤ u0_16 ∧ u0_16 ≤ 2147483647 := by have h1 : (-2147483648 : Int) ≤ F 0 16 ∧ F 0 16 ≤ 2147483647 := H.krg 0 16 (by decide); rw [show F 0 16 = u0_16 from (eu0_16)] at h1; exact h1
  have r5 : (-2147483648 : Int) ≤ u0_17 ∧ u0_17 ≤ 2147483647 := by have h1 : (-2147483648 : Int) ≤ F 0 17 ∧ F 0 17 ≤ 2147483647 := H.krg 0 17 (by decide); rw [show F 0 17 = u0_17 from (eu0_17)] at h1; exact h1
  have r6 : (-2147483648 : Int) ≤ u2_1 ∧ u2_1 ≤ 2147483647 := by have h1 : (-2147483648 : Int) ≤ F 2 1 ∧ F 2 1 ≤ 2147483647 := H.krg 2 1 (by decide); rw [show F 2 1 = u2_1 from (eu2_1)] at h1; exact h1
  replace pf1 := HIDm pf1
  replace pf2 := HIDm pf2
  replace pf3 := HIDm pf3
  replace en1 := HIDm en1
  replace en3 := HIDm en3
  replace eu0_8 := HIDm eu0_8
  replace eu0_9 := HIDm eu0_9
  replace eu0_14 := HIDm eu0_14
  replace eu0_16 := HIDm eu0_16
  replace eu0_17 := HIDm eu0_17
  replace eu2_1 := HIDm eu2_1
  have r7 : (0 : Int) ≤ n1 ∧ n1 ≤ 1000000 := by have h1 := H.nle 1 (by decide); have h2 : (N 1 : Int) = n1 := en1; omega
  have r8 : (0 : Int) ≤ n3 ∧ n3 ≤ 1000000 := by have h1 := H.nle 3 (by decide); have h2 : (N 3 : Int) = n3 := en3; omega
  have hc90 : ∀ (ls : rO) (σ : rS) (F_c90 : hF) (A_c90 : hA) , rlook ls 0 = some (.ref (D 0)) → HW V242 σ D N F_c90 A_c90 → OUT (V242).length D N σE c s D N σ c s → SF [(0, 9)] F F_c90 → SA [] A A_c90 → ∀ yc90_0_9 : Int, F_c90 0 9 = yc90_0_9 → (0 ≤ (yc90_0_9) ∧ (yc90_0_9) ≤ (u0_8) ∧ (u0_8) ≤ (n1) ∧ (n1) ≤ 65536) → ((u0_9) ≤ (yc90_0_9)) → Ew 242 (d + 4) 90 ls [] σ c s Q := by
   as_aux_lemma =>
    intro  ls σ F_c90 A_c90  lc90_0 H O hS_c90 hA_c90   yc90_0_9 eyc90_0_9  jc90_0 jc90_1
    replace eyc90_0_9 := HIDm eyc90_0_9
    have r9 : (-2147483648 : Int) ≤ yc90_0_9 ∧ yc90_0_9 ≤ 2147483647 := by have h1 : (-2147483648 : Int) ≤ F_c90 0 9 ∧ F_c90 0 9 ≤ 2147483647 := H.krg 0 9 (by decide); rw [show F_c90 0 9 = yc90_0_9 from (eyc90_0_9)] at h1; exact h1
    refine Ew_of (pcₚ := 91) (fun _ => x_aload_n rfl lc90_0) ?_
    refine v_inv H (o := 0) rfl rfl rfl rfl rfl rfl (by rfl) (C239 (D := pul [0] D) (N := pul [0] N) (HW_sub H (VS_of (show vsub V242 V239 [0] = true by decide +kernel))) (u0_14) (((hS_c90 0 14 rfl).trans (eu0_14))) (show 0 ≤ (u0_14) ∧ (u0_14) ≤ 255 by omega) (fun z10 σ10 F10ₚ A10ₚ Hₚ Oₚ hS10 hA10 pz10_0 pz10_1 pz10_2 => ⟨rfl, ?_⟩))
    refine v_back (c := c) (s := s) H (show vsub V242 V239 [0] = true by decide +kernel) Hₚ Oₚ (fun F10 A10 H Oₚ eF10 eA10 => ?_)
    have O := OUT_trans O Oₚ
    -- Unpacker.sizeBytes
    refine w_ifle (t := 131) rfl rfl (show inr (z10) by omega) (fun b11 => ?_) (fun b11 => ?_)
    · refine Ew_of (pcₚ := 132) (fun _ => x_iconst rfl) ?_
      exact w_ireturn rfl (k (0) _ _ _ H O (SF_trans (SF_trans (SF_refl) hS_c90 (any_sub rfl)) (SF_glu (ι := [0]) hS10 eF10 (by decide +kernel)) (any_sub (lₚ := []) rfl)) (SA_trans (SA_trans (SA_refl) hA_c90 (any_subA rfl)) (SA_glu (ι := [0]) hA10 eA10 (by decide +kernel)) (any_subA (lₚ := []) rfl)) (yc90_0_9) ((((show F10 0 9 = F_c90 0 9 from (eF10 0 9).trans (hS10 0 9 rfl))).trans (eyc90_0_9))) (show inr (0) by omega) (show 0 ≤ (0) ∧ (0) ≤ 17 by omega) (show 0 ≤ (yc90_0_9) ∧ (u0_9) ≤ (yc90_0_9) ∧ (yc90_0_9) ≤ (u0_8) by omega))
    · refine Ew_of (pcₚ := 98) (fun _ => x_aload_n rfl lc90_0) ?_
      refine v_inv H (o := 0) rfl rfl rfl rfl rfl rfl (by rfl) (C240 (D := pul [0, 1] D) (N := pul [0, 1] N) (HW_sub H (VS_of (show vsub V242 V240 [0, 1] = true by decide +kernel))) (((((show F10 0 7 = F_c90 0 7 from (eF10 0 7).trans (hS10 0 7 rfl))).trans (hS_c90 0 7 rfl))).trans (pf1)) (n1) (en1) (u0_14) (((((show F10 0 14 = F_c90 0 14 from (eF10 0 14).trans (hS10 0 14 rfl))).trans (hS_c90 0 14 rfl)).trans (eu0_14))) (u0_16) (((((show F10 0 16 = F_c90 0 16 from (eF10 0 16).trans (hS10 0 16 rfl))).trans (hS_c90 0 16 rfl)).trans (eu0_16))) (show 0 ≤ (u0_14) ∧ (u0_14) ≤ 255 by omega) (show 0 ≤ (u0_16) ∧ (u0_16) + sbt ((u0_14)) ≤ (n1) by omega) (show (n1) ≤ 65536 by omega) (fun z12 σ12 F12ₚ A12ₚ Hₚ Oₚ hS12 hA12 pz12_0 => ⟨rfl, ?_⟩))
      refine v_back (c := c) (s := s) H (show vsub V242 V240 [0, 1] = true by decide +kernel) Hₚ Oₚ (fun F12 A12 H Oₚ eF12 eA12 => ?_)
      have O := OUT_trans O Oₚ
      -- Unpacker.sizeTold
      refine Ew_of (pcₚ := 102) (fun _ => x_aload_n rfl lc90_0) ?_
      refine v_g H (o := 0) (v := .ref (D 2)) rfl rfl rfl rfl rfl (vrf ((((((show F12 0 10 = F10 0 10 from (eF12 0 10).trans (hS12 0 10 rfl))).trans ((show F10 0 10 = F_c90 0 10 from (eF10 0 10).trans (hS10 0 10 rfl)))).trans (hS_c90 0 10 rfl))).trans (pf2))) ?_
      refine v_g H (o := 2) (v := I (u2_1)) rfl rfl rfl rfl rfl (congrArg (fun z : Int => I z) ((((((show F12 2 1 = F10 2 1 from (eF12 2 1))).trans ((show F10 2 1 = F_c90 2 1 from (eF10 2 1)))).trans (hS_c90 2 1 rfl)).trans (eu2_1)) : F12 2 1 = u2_1)) ?_
      refine Ew_of (pcₚ := 109) (fun _ => x_aload_n rfl lc90_0) ?_
      refine v_g H (o := 0) (v := I (u0_17)) rfl rfl rfl rfl rfl (congrArg (fun z : Int => I z) ((((((show F12 0 17 = F10 0 17 from (eF12 0 17).trans (hS12 0 17 rfl))).trans ((show F10 0 17 = F_c90 0 17 from (eF10 0 17).trans (hS10 0 17 rfl)))).trans (hS_c90 0 17 rfl)).trans (eu0_17)) : F12 0 17 = u0_17)) ?_
      refine w_isub rfl ?_
      refine w_i2l rfl (show inr ((u2_1 - u0_17)) by omega) ?_
      refine w_lcmp rfl (show inrJ (z12) by omega) (show inrJ ((u2_1 - u0_17)) by omega) (fun z13 gz13 gaz13 gbz13 => ?_)
      refine w_ifeq (t := 131) rfl rfl (show inr (z13) by omega) (fun b14 => ?_) (fun b14 => ?_)
      · refine Ew_of (pcₚ := 132) (fun _ => x_iconst rfl) ?_
        exact w_ireturn rfl (k (0) _ _ _ H O (SF_trans (SF_trans (SF_trans (SF_refl) hS_c90 (any_sub rfl)) (SF_glu (ι := [0]) hS10 eF10 (by decide +kernel)) (any_sub (lₚ := []) rfl)) (SF_glu (ι := [0, 1]) hS12 eF12 (by decide +kernel)) (any_sub (lₚ := []) rfl)) (SA_trans (SA_trans (SA_trans (SA_refl) hA_c90 (any_subA rfl)) (SA_glu (ι := [0]) hA10 eA10 (by decide +kernel)) (any_subA (lₚ := []) rfl)) (SA_glu (ι := [0, 1]) hA12 eA12 (by decide +kernel)) (any_subA (lₚ := []) rfl)) (yc90_0_9) (((((show F12 0 9 = F10 0 9 from (eF12 0 9).trans (hS12 0 9 rfl))).trans ((show F10 0 9 = F_c90 0 9 from (eF10 0 9).trans (hS10 0 9 rfl)))).trans (eyc90_0_9))) (show inr (0) by omega) (show 0 ≤ (0) ∧ (0) ≤ 17 by omega) (show 0 ≤ (yc90_0_9) ∧ (u0_9) ≤ (yc90_0_9) ∧ (yc90_0_9) ≤ (u0_8) by omega))
      · refine Ew_of (pcₚ := 119) (fun _ => x_aload_n rfl lc90_0) ?_
        refine Ew_of (pcₚ := 121) (fun _ => x_bipush (z := 9) rfl (by decide)) ?_
        refine Ew_of (pcₚ := 122) (fun _ => x_aload_n rfl lc90_0) ?_
        refine v_g H (o := 0) (v := I (u0_16)) rfl rfl rfl rfl rfl (congrArg (fun z : Int => I z) ((((((show F12 0 16 = F10 0 16 from (eF12 0 16).trans (hS12 0 16 rfl))).trans ((show F10 0 16 = F_c90 0 16 from (eF10 0 16).trans (hS10 0 16 rfl)))).trans (hS_c90 0 16 rfl)).trans (eu0_16)) : F12 0 16 = u0_16)) ?_
        have r15 : (-2147483648 : Int) ≤ F 0 21 ∧ F 0 21 ≤ 2147483647 := by have h1 : (-2147483648 : Int) ≤ F12 0 21 ∧ F12 0 21 ≤ 2147483647 := H.krg 0 21 (by decide); rw [show F12 0 21 = F 0 21 from ((((show F12 0 21 = F10 0 21 from (eF12 0 21).trans (hS12 0 21 rfl))).trans ((show F10 0 21 = F_c90 0 21 from (eF10 0 21).trans (hS10 0 21 rfl)))).trans (hS_c90 0 21 rfl))] at h1; exact h1
        refine v_inv H (o := 0) rfl rfl rfl rfl rfl rfl (by rfl) (C232 (D := pul [0] D) (N := pul [0] N) (HW_sub H (VS_of (show vsub V242 V232 [0] = true by decide +kernel))) (F 0 21) (((((show F12 0 21 = F10 0 21 from (eF12 0 21).trans (hS12 0 21 rfl))).trans ((show F10 0 21 = F_c90 0 21 from (eF10 0 21).trans (hS10 0 21 rfl)))).trans (hS_c90 0 21 rfl))) (show inr (9) by omega) (show inr (u0_16) by omega) (fun z16 σ16 F16ₚ A16ₚ Hₚ Oₚ hS16 hA16 y16_0_21 ey16_0_21 pz16_0 pz16_1 pz16_2 => ⟨rfl, ?_⟩))
        replace ey16_0_21 := HIDm ey16_0_21
        refine v_back (c := c) (s := s) H (show vsub V242 V232 [0] = true by decide +kernel) Hₚ Oₚ (fun F16 A16 H Oₚ eF16 eA16 => ?_)
        have O := OUT_trans O Oₚ
        -- Unpacker.fail
        have r17 : (-2147483648 : Int) ≤ y16_0_21 ∧ y16_0_21 ≤ 2147483647 := by have h1 : (-2147483648 : Int) ≤ F16 0 21 ∧ F16 0 21 ≤ 2147483647 := H.krg 0 21 (by decide); rw [show F16 0 21 = y16_0_21 from ((eF16 0 21).trans ey16_0_21)] at h1; exact h1
        refine Ew_of (pcₚ := 132) (fun _ => x_goto rfl rfl) ?_
        exact w_ireturn rfl (k (z16) _ _ _ H O (SF_trans (SF_trans (SF_trans (SF_trans (SF_refl) hS_c90 (any_sub rfl)) (SF_glu (ι := [0]) hS10 eF10 (by decide +kernel)) (any_sub (lₚ := []) rfl)) (SF_glu (ι := [0, 1]) hS12 eF12 (by decide +kernel)) (any_sub (lₚ := []) rfl)) (SF_glu (ι := [0]) hS16 eF16 (by decide +kernel)) (any_sub (lₚ := [(0, 21)]) rfl)) (SA_trans (SA_trans (SA_trans (SA_trans (SA_refl) hA_c90 (any_subA rfl)) (SA_glu (ι := [0]) hA10 eA10 (by decide +kernel)) (any_subA (lₚ := []) rfl)) (SA_glu (ι := [0, 1]) hA12 eA12 (by decide +kernel)) (any_subA (lₚ := []) rfl)) (SA_glu (ι := [0]) hA16 eA16 (by decide +kernel)) (any_subA (lₚ := []) rfl)) (yc90_0_9) ((((((show F16 0 9 = F12 0 9 from (eF16 0 9).trans (hS16 0 9 rfl))).trans ((show F12 0 9 = F10 0 9 from (eF12 0 9).trans (hS12 0 9 rfl)))).trans ((show F10 0 9 = F_c90 0 9 from (eF10 0 9).trans (hS10 0 9 rfl)))).trans (eyc90_0_9))) (show inr (z16) by omega) (show 0 ≤ (z16) ∧ (z16) ≤ 17 by omega) (show 0 ≤ (yc90_0_9) ∧ (u0_9) ≤ (yc90_0_9) ∧ (yc90_0_9) ≤ (u0_8) by omega))
  refine Ew_of (pcₚ := 1) (fun _ => x_aload_n rfl rfl) ?_
  refine v_g H (o := 0) (v := I (u0_14)) rfl rfl rfl rfl rfl (congrArg (fun z : Int => I z) ((eu0_14) : F 0 14 = u0_14)) ?_
  refine Ew_of (pcₚ := 5) (fun _ => x_iconst rfl) ?_
  refine w_iand rfl (show inr (u0_14) by omega) (show inr (4) by omega) (fun z18 gz18 gaz18 gbz18 => ?_)
  refine w_ifeq (t := 90) rfl rfl (show inr (z18) by omega) (fun b19 => ?_) (fun b19 => ?_)
  · exact hc90  _ _ _ _  (rfl) H O (SF_refl) (SA_refl)   (u0_9) ((eu0_9))  (show 0 ≤ (u0_9) ∧ (u0_9) ≤ (u0_8) ∧ (u0_8) ≤ (n1) ∧ (n1) ≤ 65536 by omega) (show (u0_9) ≤ (u0_9) by omega)
  · refine Ew_of (pcₚ := 10) (fun _ => x_aload_n rfl rfl) ?_
    refine v_g H (o := 0) (v := I (u0_8)) rfl rfl rfl rfl rfl (congrArg (fun z : Int => I z) ((eu0_8) : F 0 8 = u0_8)) ?_
    refine Ew_of (pcₚ := 14) (fun _ => x_aload_n rfl rfl) ?_
    refine v_g H (o := 0) (v := I (u0_9)) rfl rfl rfl rfl rfl (congrArg (fun z : Int => I z) ((eu0_9) : F 0 9 = u0_9)) ?_
    refine w_isub rfl ?_
    refine Ew_of (pcₚ := 19) (fun _ => x_iconst rfl) ?_
    refine w_icmpge (t := 32) rfl rfl (show inr ((u0_8 - u0_9)) by omega) (show inr (4) by omega) (fun b20 => ?_) (fun b20 => ?_)
    · refine Ew_of (pcₚ := 33) (fun _ => x_aload_n rfl rfl) ?_
      refine v_g H (o := 0) (v := .ref (D 1)) rfl rfl rfl rfl rfl (vrf (pf1)) ?_
      refine Ew_of (pcₚ := 37) (fun _ => x_aload_n rfl rfl) ?_
      refine v_g H (o := 0) (v := I (u0_9)) rfl rfl rfl rfl rfl (congrArg (fun z : Int => I z) ((eu0_9) : F 0 9 = u0_9)) ?_
      refine w_stat25 rfl rfl (by rfl) (C41_Br (D := pul [1] D) (N := pul [1] N) (HW_sub H (VS_of (show vsub V242 V41_Br [1] = true by decide +kernel))) (n1) (en1) (show inr (u0_9) by omega) (show 0 ≤ (u0_9) ∧ (u0_9) + 4 ≤ (n1) by omega) (fun z21 σ21 F21ₚ A21ₚ Hₚ Oₚ hS21 hA21 pz21_0 => ⟨rfl, ?_⟩))
      refine v_back (c := c) (s := s) H (show vsub V242 V41_Br [1] = true by decide +kernel) Hₚ Oₚ (fun F21 A21 H Oₚ eF21 eA21 => ?_)
      have O := OUT_trans O Oₚ
      -- PackHouse.word
      refine Ew_of (pcₚ := 44) (fun _ => x_aload_n rfl rfl) ?_
      refine v_g H (o := 0) (v := .ref (D 2)) rfl rfl rfl rfl rfl (vrf ((((show F21 0 10 = F 0 10 from (eF21 0 10)))).trans (pf2))) ?_
      refine v_g H (o := 2) (v := .ref (D 3)) rfl rfl rfl rfl rfl (vrf ((((show F21 2 0 = F 2 0 from (eF21 2 0)))).trans (pf3))) ?_
      refine Ew_of (pcₚ := 51) (fun _ => x_aload_n rfl rfl) ?_
      refine v_g H (o := 0) (v := I (u0_17)) rfl rfl rfl rfl rfl (congrArg (fun z : Int => I z) ((((show F21 0 17 = F 0 17 from (eF21 0 17))).trans (eu0_17)) : F21 0 17 = u0_17)) ?_
      refine Ew_of (pcₚ := 55) (fun _ => x_aload_n rfl rfl) ?_
      refine v_g H (o := 0) (v := .ref (D 2)) rfl rfl rfl rfl rfl (vrf ((((show F21 0 10 = F 0 10 from (eF21 0 10)))).trans (pf2))) ?_
      refine v_g H (o := 2) (v := I (u2_1)) rfl rfl rfl rfl rfl (congrArg (fun z : Int => I z) ((((show F21 2 1 = F 2 1 from (eF21 2 1))).trans (eu2_1)) : F21 2 1 = u2_1)) ?_
      refine Ew_of (pcₚ := 62) (fun _ => x_lconst (z := 0) rfl (by decide)) ?_
      refine w_stat25 rfl rfl (by rfl) (C51_Br (D := pul [3] D) (N := pul [3] N) (HW_sub H (VS_of (show vsub V242 V51_Br [3] = true by decide +kernel))) (n3) (en3) (show inr (u0_17) by omega) (show inr (u2_1) by omega) (show inrJ (0) by omega) (show 0 ≤ (u0_17) ∧ (u0_17) ≤ (u2_1) ∧ (u2_1) ≤ (n3) by omega) (fun z22 σ22 F22ₚ A22ₚ Hₚ Oₚ hS22 hA22 pz22_0 => ⟨rfl, ?_⟩))
      refine v_back (c := c) (s := s) H (show vsub V242 V51_Br [3] = true by decide +kernel) Hₚ Oₚ (fun F22 A22 H Oₚ eF22 eA22 => ?_)
      have O := OUT_trans O Oₚ
      -- PackHouse.wideSum
      refine w_l2iA rfl (fun z23 gz23 => ?_)
      refine w_icmpeq (t := 80) rfl rfl (show inr (z21) by omega) (show inr (z23) by omega) (fun b24 => ?_) (fun b24 => ?_)
      · refine Ew_of (pcₚ := 81) (fun _ => x_aload_n rfl rfl) ?_
        refine Ew_of (pcₚ := 82) (fun _ => x_dup rfl rfl) ?_
        refine v_g H (o := 0) (v := I (u0_9)) rfl rfl rfl rfl rfl (congrArg (fun z : Int => I z) (((((show F22 0 9 = F21 0 9 from (eF22 0 9))).trans ((show F21 0 9 = F 0 9 from (eF21 0 9)))).trans (eu0_9)) : F22 0 9 = u0_9)) ?_
        refine Ew_of (pcₚ := 86) (fun _ => x_iconst rfl) ?_
        refine w_iadd rfl ?_
        refine v_p H (o := 0) (z := (u0_9 + 4)) (v := I ((u0_9 + 4))) rfl rfl rfl rfl rfl rfl rfl rfl (show (-2147483648 : Int) ≤ (u0_9 + 4) ∧ (u0_9 + 4) ≤ 2147483647 by omega) (fun σ H Oₚ => ?_)
        have O := OUT_trans O Oₚ
        exact hc90  _ _ _ _  (rfl) H O (SF_upd (SF_trans (SF_trans (SF_refl) (SF_glu (ι := [1]) hS21 eF21 (by decide +kernel)) (any_sub (lₚ := []) rfl)) (SF_glu (ι := [3]) hS22 eF22 (by decide +kernel)) (any_sub (lₚ := []) rfl)) rfl) (SA_trans (SA_trans (SA_refl) (SA_glu (ι := [1]) hA21 eA21 (by decide +kernel)) (any_subA (lₚ := []) rfl)) (SA_glu (ι := [3]) hA22 eA22 (by decide +kernel)) (any_subA (lₚ := []) rfl))   ((u0_9 + 4)) (rfl)  (show 0 ≤ ((u0_9 + 4)) ∧ ((u0_9 + 4)) ≤ (u0_8) ∧ (u0_8) ≤ (n1) ∧ (n1) ≤ 65536 by omega) (show (u0_9) ≤ ((u0_9 + 4)) by omega)
      · refine Ew_of (pcₚ := 70) (fun _ => x_aload_n rfl rfl) ?_
        refine Ew_of (pcₚ := 72) (fun _ => x_bipush (z := 8) rfl (by decide)) ?_
        refine Ew_of (pcₚ := 73) (fun _ => x_aload_n rfl rfl) ?_
        refine v_g H (o := 0) (v := I (u0_9)) rfl rfl rfl rfl rfl (congrArg (fun z : Int => I z) (((((show F22 0 9 = F21 0 9 from (eF22 0 9))).trans ((show F21 0 9 = F 0 9 from (eF21 0 9)))).trans (eu0_9)) : F22 0 9 = u0_9)) ?_
        have r25 : (-2147483648 : Int) ≤ F 0 21 ∧ F 0 21 ≤ 2147483647 := by have h1 : (-2147483648 : Int) ≤ F22 0 21 ∧ F22 0 21 ≤ 2147483647 := H.krg 0 21 (by decide); rw [show F22 0 21 = F 0 21 from (((show F22 0 21 = F21 0 21 from (eF22 0 21))).trans ((show F21 0 21 = F 0 21 from (eF21 0 21))))] at h1; exact h1
        refine v_inv H (o := 0) rfl rfl rfl rfl rfl rfl (by rfl) (C232 (D := pul [0] D) (N := pul [0] N) (HW_sub H (VS_of (show vsub V242 V232 [0] = true by decide +kernel))) (F 0 21) ((((show F22 0 21 = F21 0 21 from (eF22 0 21))).trans ((show F21 0 21 = F 0 21 from (eF21 0 21))))) (show inr (8) by omega) (show inr (u0_9) by omega) (fun z26 σ26 F26ₚ A26ₚ Hₚ Oₚ hS26 hA26 y26_0_21 ey26_0_21 pz26_0 pz26_1 pz26_2 => ⟨rfl, ?_⟩))
        replace ey26_0_21 := HIDm ey26_0_21
        refine v_back (c := c) (s := s) H (show vsub V242 V232 [0] = true by decide +kernel) Hₚ Oₚ (fun F26 A26 H Oₚ eF26 eA26 => ?_)
        have O := OUT_trans O Oₚ
        -- Unpacker.fail
        have r27 : (-2147483648 : Int) ≤ y26_0_21 ∧ y26_0_21 ≤ 2147483647 := by have h1 : (-2147483648 : Int) ≤ F26 0 21 ∧ F26 0 21 ≤ 2147483647 := H.krg 0 21 (by decide); rw [show F26 0 21 = y26_0_21 from ((eF26 0 21).trans ey26_0_21)] at h1; exact h1
        exact w_ireturn rfl (k (z26) _ _ _ H O (SF_trans (SF_trans (SF_trans (SF_refl) (SF_glu (ι := [1]) hS21 eF21 (by decide +kernel)) (any_sub (lₚ := []) rfl)) (SF_glu (ι := [3]) hS22 eF22 (by decide +kernel)) (any_sub (lₚ := []) rfl)) (SF_glu (ι := [0]) hS26 eF26 (by decide +kernel)) (any_sub (lₚ := [(0, 21)]) rfl)) (SA_trans (SA_trans (SA_trans (SA_refl) (SA_glu (ι := [1]) hA21 eA21 (by decide +kernel)) (any_subA (lₚ := []) rfl)) (SA_glu (ι := [3]) hA22 eA22 (by decide +kernel)) (any_subA (lₚ := []) rfl)) (SA_glu (ι := [0]) hA26 eA26 (by decide +kernel)) (any_subA (lₚ := []) rfl)) (u0_9) ((((((show F26 0 9 = F22 0 9 from (eF26 0 9).trans (hS26 0 9 rfl))).trans ((show F22 0 9 = F21 0 9 from (eF22 0 9)))).trans ((show F21 0 9 = F 0 9 from (eF21 0 9)))).trans (eu0_9))) (show inr (z26) by omega) (show 0 ≤ (z26) ∧ (z26) ≤ 17 by omega) (show 0 ≤ (u0_9) ∧ (u0_9) ≤ (u0_9) ∧ (u0_9) ≤ (u0_8) by omega))
    · refine Ew_of (pcₚ := 23) (fun _ => x_aload_n rfl rfl) ?_
      refine Ew_of (pcₚ := 24) (fun _ => x_iconst rfl) ?_
      refine Ew_of (pcₚ := 25) (fun _ => x_aload_n rfl rfl) ?_
      refine v_g H (o := 0) (v := I (u0_8)) rfl rfl rfl rfl rfl (congrArg (fun z : Int => I z) ((eu0_8) : F 0 8 = u0_8)) ?_
      have r28 : (-2147483648 : Int) ≤ F 0 21 ∧ F 0 21 ≤ 2147483647 := by have h1 : (-2147483648 : Int) ≤ F 0 21 ∧ F 0 21 ≤ 2147483647 := H.krg 0 21 (by decide); rw [show F 0 21 = F 0 21 from rfl] at h1; exact h1
      refine v_inv H (o := 0) rfl rfl rfl rfl rfl rfl (by rfl) (C232 (D := pul [0] D) (N := pul [0] N) (HW_sub H (VS_of (show vsub V242 V232 [0] = true by decide +kernel))) (F 0 21) (rfl) (show inr (1) by omega) (show inr (u0_8) by omega) (fun z29 σ29 F29ₚ A29ₚ Hₚ Oₚ hS29 hA29 y29_0_21 ey29_0_21 pz29_0 pz29_1 pz29_2 => ⟨rfl, ?_⟩))
      replace ey29_0_21 := HIDm ey29_0_21
      refine v_back (c := c) (s := s) H (show vsub V242 V232 [0] = true by decide +kernel) Hₚ Oₚ (fun F29 A29 H Oₚ eF29 eA29 => ?_)
      have O := OUT_trans O Oₚ
      -- Unpacker.fail
      have r30 : (-2147483648 : Int) ≤ y29_0_21 ∧ y29_0_21 ≤ 2147483647 := by have h1 : (-2147483648 : Int) ≤ F29 0 21 ∧ F29 0 21 ≤ 2147483647 := H.krg 0 21 (by decide); rw [show F29 0 21 = y29_0_21 from ((eF29 0 21).trans ey29_0_21)] at h1; exact h1
      exact w_ireturn rfl (k (z29) _ _ _ H O (SF_trans (SF_refl) (SF_glu (ι := [0]) hS29 eF29 (by decide +kernel)) (any_sub (lₚ := [(0, 21)]) rfl)) (SA_trans (SA_refl) (SA_glu (ι := [0]) hA29 eA29 (by decide +kernel)) (any_subA (lₚ := []) rfl)) (u0_9) ((((show F29 0 9 = F 0 9 from (eF29 0 9).trans (hS29 0 9 rfl))).trans (eu0_9))) (show inr (z29) by omega) (show 0 ≤ (z29) ∧ (z29) ≤ 17 by omega) (show 0 ≤ (u0_9) ∧ (u0_9) ≤ (u0_9) ∧ (u0_9) ≤ (u0_8) by omega))
abbrev V243 : vV := [(0, 12, [(4, 0), (4, 0), (4, 0), (4, 0), (4, 0), (4, 0), (4, 0), (4, 0), (0, 0), (0, 0), (4, 0), (0, 0), (4, 0), (4, 0), (0, 0), (2, 0), (0, 0), (0, 0), (0, 0), (0, 0), (0, 0), (0, 0)]), (1, 0, []), (0, 7, [(4, 0), (0, 0), (1, 0), (0, 0), (0, 0)]), (1, 0, []), (1, 1, [])]
set_option maxHeartbeats 16000000 in
/-- Unpacker.unpackBlockHead: this, this.in, this.result, this.result.bytes, this.counts -/
theorem C243 {σE : rS} {D N : Nat → Nat} {F : hF} {A : hA} {d c s : Nat} {Q : wQ} (H : HW V243 σE D N F A)  (pf1 : F 0 7 = (D 1 : Int)) (pf2 : F 0 10 = (D 2 : Int)) (pf3 : F 2 0 = (D 3 : Int)) (pf4 : F 0 13 = (D 4 : Int)) (n1 : Int) (en1 : (N 1 : Int) = n1) (n3 : Int) (en3 : (N 3 : Int) = n3) (n4 : Int) (en4 : (N 4 : Int) = n4) (u0_8 : Int) (eu0_8 : F 0 8 = u0_8) (u0_9 : Int) (eu0_9 : F 0 9 = u0_9) (u0_11 : Int) (eu0_11 : F 0 11 = u0_11) (u0_15 : Int) (eu0_15 : F 0 15 = u0_15) (u0_18 : Int) (eu0_18 : F 0 18 = u0_18) (u2_1 : Int) (eu2_1 : F 2 1 = u2_1) (h0 : 0 ≤ (u0_9) ∧ (u0_9) ≤ (u0_8) ∧ (u0_8) ≤ (n1) ∧ (n1) ≤ 65536) (h1 : 0 ≤ (u2_1) ∧ (u2_1) ≤ (n3) ∧ (n3) ≤ 65536) (h2 : 0 ≤ (u0_11) ∧ (u0_11) ≤ 65536 ∧ (u2_1) ≤ (u0_11)) (h3 : (n4) = 5) (h4 : 0 ≤ (u0_15)) (k : ∀ (z : Int) (σ : rS) (Dₚ Nₚ : Nat → Nat) (Fₚ : hF) (Aₚ : hA) (cₚ sₚ : Nat), HW V243 σ Dₚ Nₚ Fₚ Aₚ → OUT (V243).length D N σE c s Dₚ Nₚ σ cₚ sₚ → SD [3] D Dₚ → SD [3] N Nₚ → SF [(0, 9), (0, 18), (0, 21), (2, 0), (2, 1), (2, 2)] F Fₚ → SA [3, 4] A Aₚ → Fₚ 2 0 = (Dₚ 3 : Int) → ∀ m3 : Int, (Nₚ 3 : Int) = m3 → ∀ y0_9 : Int, Fₚ 0 9 = y0_9 → ∀ y0_18 : Int, Fₚ 0 18 = y0_18 → ∀ y2_1 : Int, Fₚ 2 1 = y2_1 → (inr (z)) → (0 ≤ (z) ∧ (z) ≤ 17) → (0 ≤ (y0_9) ∧ (u0_9) ≤ (y0_9) ∧ (y0_9) ≤ (u0_8)) → (0 ≤ (y2_1) ∧ (y2_1) ≤ (m3) ∧ (m3) ≤ 65536) → ((u2_1) ≤ (y2_1) ∧ (y2_1) ≤ (u0_11)) → ((y0_18) = 0 ∨ (y0_9) ≤ (y0_18) ∧ (y0_18) ≤ (u0_8)) → Q (some (I z)) σ cₚ sₚ) : Ew 243 (d + 3) 0 (rargs 0 [.ref (D 0)]) [] σE c s Q := by
  have O := OUT_refl (n := (V243).length) (D := D) (N := N) (σ := σE) (c := c) (s := s)
  have HE := H
  have r1 : (-2147483648 : Int) ≤ u0_8 ∧ u0_8 ≤ 2147483647 := by have h1 : (-2147483648 : Int) ≤ F 0 8 ∧ F 0 8 ≤ 2147483647 := H.krg 0 8 (by decide); rw [show F 0 8 = u0_8 from (eu0_8)] at h1; exact h1
  have r2 : (-2147483648 : Int) ≤ u0_9 ∧ u0_9 ≤ 2147483647 := by have h1 : (-2147483648 : Int) ≤ F 0 9 ∧ F 0 9 ≤ 2147483647 := H.krg 0 9 (by decide); rw [show F 0 9 = u0_9 from (eu0_9)] at h1; exact h1
  have r3 : (-2147483648 : Int) ≤ u0_11 ∧ u0_11 ≤ 2147483647 := by have h1 : (-2147483648 : Int) ≤ F 0 11 ∧ F 0 11 ≤ 2147483647 := H.krg 0 11 (by decide); rw [show F 0 11 = u0_11 from (eu0_11)] at h1; exact h1
  have r4 : (-9223372036854775808 : Int) ≤ u0_15 ∧ u0_15 ≤ 9223372036854775807 := by have h1 : (-9223372036854775808 : Int) ≤ F 0 15 ∧ F 0 15 ≤ 9223372036854775807 := H.krg 0 15 (by decide); rw [show F 0 15 = u0_15 from (eu0_15)] at h1; exact h1
  have r5 : (-2147483648 : Int) ≤ u0_18 ∧ u0_18 ≤ 2147483647 := by have h1 : (-2147483648 : Int) ≤ F 0 18 ∧ F 0 18 ≤ 2147483647 := H.krg 0 18 (by decide); rw [show F 0 18 = u0_18 from (eu0_18)] at h1; exact h1
  have r6 : (-2147483648 : Int) ≤ u2_1 ∧ u2_1 ≤ 2147483647 := by have h1 : (-2147483648 : Int) ≤ F 2 1 ∧ F 2 1 ≤ 2147483647 := H.krg 2 1 (by decide); rw [show F 2 1 = u2_1 from (eu2_1)] at h1; exact h1
  replace pf1 := HIDm pf1
  replace pf2 := HIDm pf2
  replace pf3 := HIDm pf3
  replace pf4 := HIDm pf4
  replace en1 := HIDm en1
  replace en3 := HIDm en3
  replace en4 := HIDm en4
  replace eu0_8 := HIDm eu0_8
  replace eu0_9 := HIDm eu0_9
  replace eu0_11 := HIDm eu0_11
  replace eu0_15 := HIDm eu0_15
  replace eu0_18 := HIDm eu0_18
  replace eu2_1 := HIDm eu2_1
  have r7 : (0 : Int) ≤ n1 ∧ n1 ≤ 1000000 := by have h1 := H.nle 1 (by decide); have h2 : (N 1 : Int) = n1 := en1; omega
  have r8 : (0 : Int) ≤ n3 ∧ n3 ≤ 1000000 := by have h1 := H.nle 3 (by decide); have h2 : (N 3 : Int) = n3 := en3; omega
  have r9 : (0 : Int) ≤ n4 ∧ n4 ≤ 1000000 := by have h1 := H.nle 4 (by decide); have h2 : (N 4 : Int) = n4 := en4; omega
  refine Ew_of (pcₚ := 1) (fun _ => x_aload_n rfl rfl) ?_
  refine Ew_of (pcₚ := 2) (fun _ => x_iconst rfl) ?_
  refine v_p H (o := 0) (z := 0) (v := I (0)) rfl rfl rfl rfl rfl rfl rfl rfl (show (-2147483648 : Int) ≤ 0 ∧ 0 ≤ 2147483647 by omega) (fun σ H Oₚ => ?_)
  have O := OUT_trans O Oₚ
  refine Ew_of (pcₚ := 6) (fun _ => x_aload_n rfl rfl) ?_
  refine v_g H (o := 0) (v := I (u0_8)) rfl rfl rfl rfl rfl (congrArg (fun z : Int => I z) ((eu0_8) : (updF F 0 18 (0)) 0 8 = u0_8)) ?_
  refine Ew_of (pcₚ := 10) (fun _ => x_aload_n rfl rfl) ?_
  refine v_g H (o := 0) (v := I (u0_9)) rfl rfl rfl rfl rfl (congrArg (fun z : Int => I z) ((eu0_9) : (updF F 0 18 (0)) 0 9 = u0_9)) ?_
  refine w_isub rfl ?_
  refine Ew_of (pcₚ := 15) (fun _ => x_iconst rfl) ?_
  refine w_icmpge (t := 28) rfl rfl (show inr ((u0_8 - u0_9)) by omega) (show inr (3) by omega) (fun b10 => ?_) (fun b10 => ?_)
  · refine Ew_of (pcₚ := 29) (fun _ => x_aload_n rfl rfl) ?_
    refine v_g H (o := 0) (v := .ref (D 4)) rfl rfl rfl rfl rfl (vrf (pf4)) ?_
    refine Ew_of (pcₚ := 33) (fun _ => x_iconst rfl) ?_
    refine Ew_of (pcₚ := 34) (fun _ => x_dup2 rfl rfl rfl) ?_
    refine v_lI H (o := 4) rfl rfl rfl rfl (n := n4) (en4) (show 0 ≤ 1 ∧ 1 < n4 by omega) (fun v11 ev11 qv11 => ?_)
    have ev11 : (A 4) (1) = v11 := (congrFun (rfl : A 4 = A 4) (1)).symm.trans ev11
    refine Ew_of (pcₚ := 36) (fun _ => x_iconst rfl) ?_
    refine w_iaddA rfl (fun z12 gz12 => ?_)
    refine v_sI H (o := 4) (z := z12) rfl rfl rfl rfl (n := n4) (en4) (show 0 ≤ 1 ∧ 1 < n4 by omega) (show inr (z12) by omega) (fun σ H Oₚ => ?_)
    have O := OUT_trans O Oₚ
    refine Ew_of (pcₚ := 39) (fun _ => x_aload_n rfl rfl) ?_
    refine v_g H (o := 0) (v := .ref (D 1)) rfl rfl rfl rfl rfl (vrf (pf1)) ?_
    refine Ew_of (pcₚ := 43) (fun _ => x_aload_n rfl rfl) ?_
    refine v_g H (o := 0) (v := I (u0_9)) rfl rfl rfl rfl rfl (congrArg (fun z : Int => I z) ((eu0_9) : (updF F 0 18 (0)) 0 9 = u0_9)) ?_
    refine Ew_of (pcₚ := 47) (fun _ => x_iconst rfl) ?_
    refine w_stat25 rfl rfl (by rfl) (C42_Brf (D := pul [1] D) (N := pul [1] N) (HW_sub H (VS_of (show vsub V243 V42_Br [1] = true by decide +kernel))) (n1) (en1) (A 1) (rfl) (show inr (u0_9) by omega) (show inr (3) by omega) (show (3) ≤ 0 ∨ 0 ≤ (u0_9) ∧ (u0_9) + (3) ≤ (n1) by omega) (show 0 ≤ (3) ∧ (3) ≤ 8 by omega) (fun z13 σ13 F13ₚ A13ₚ Hₚ Oₚ hS13 hA13 pz13_0 pz13_1 pz13_2 => ⟨rfl, ?_⟩))
    refine v_back (c := c) (s := s) H (show vsub V243 V42_Br [1] = true by decide +kernel) Hₚ Oₚ (fun F13 A13 H Oₚ eF13 eA13 => ?_)
    have O := OUT_trans O Oₚ
    -- PackHouse.number
    have hnb := nb3 pz13_1
    refine w_l2i rfl ?_
    refine Ew_of (pcₚ := 52) (fun _ => x_istore_n rfl) ?_
    refine Ew_of (pcₚ := 53) (fun _ => x_iload_n rfl rk_s) ?_
    refine Ew_of (pcₚ := 54) (fun _ => x_iconst rfl) ?_
    refine w_ishrA rfl (fun z14 gz14 => ?_)
    refine Ew_of (pcₚ := 56) (fun _ => x_iconst rfl) ?_
    refine w_iand rfl (show inr (z14) by omega) (show inr (3) by omega) (fun z15 gz15 gaz15 gbz15 => ?_)
    refine Ew_of (pcₚ := 58) (fun _ => x_istore_n rfl) ?_
    refine Ew_of (pcₚ := 59) (fun _ => x_iload_n rfl (rk_o (rk_s) rfl rfl)) ?_
    refine Ew_of (pcₚ := 60) (fun _ => x_iconst rfl) ?_
    refine w_ishrK 3 8 (by decide) (by decide) rfl (show inr (z13) by omega) (fun z16 gz16 dz16 => ?_)
    refine Ew_of (pcₚ := 62) (fun _ => x_istore_n rfl) ?_
    refine Ew_of (pcₚ := 63) (fun _ => x_iload_n rfl (rk_o (rk_s) rfl rfl)) ?_
    refine Ew_of (pcₚ := 64) (fun _ => x_iconst rfl) ?_
    refine w_icmpne (t := 77) rfl rfl (show inr (z15) by omega) (show inr (3) by omega) (fun b17 => ?_) (fun b17 => ?_)
    · refine Ew_of (pcₚ := 78) (fun _ => x_iload_n rfl rk_s) ?_
      refine Ew_of (pcₚ := 79) (fun _ => x_aload_n rfl (rk_o (rk_o (rk_o (rfl) rfl rfl) rfl rfl) rfl rfl)) ?_
      refine v_inv H (o := 0) rfl rfl rfl rfl rfl rfl (by rfl) (C234 (D := pul [0] D) (N := pul [0] N) (HW_sub H (VS_of (show vsub V243 V234 [0] = true by decide +kernel))) (u0_15) ((((show F13 0 15 = (updF F 0 18 (0)) 0 15 from (eF13 0 15))).trans (eu0_15))) (show 0 ≤ (u0_15) by omega) (fun z18 σ18 F18ₚ A18ₚ Hₚ Oₚ hS18 hA18 pz18_0 pz18_1 => ⟨rfl, ?_⟩))
      refine v_back (c := c) (s := s) H (show vsub V243 V234 [0] = true by decide +kernel) Hₚ Oₚ (fun F18 A18 H Oₚ eF18 eA18 => ?_)
      have O := OUT_trans O Oₚ
      -- Unpacker.blockMost
      refine w_icmple (t := 96) rfl rfl (show inr (z16) by omega) (show inr (z18) by omega) (fun b19 => ?_) (fun b19 => ?_)
      · refine Ew_of (pcₚ := 97) (fun _ => x_iload_n rfl (rk_o (rk_s) rfl rfl)) ?_
        refine Ew_of (pcₚ := 98) (fun _ => x_iconst rfl) ?_
        have hc106 : ∀ (tc106_0 : Int), ∀ (ls : rO) (σ : rS) (F_c106 : hF) (A_c106 : hA) , rlook ls 0 = some (.ref (D 0)) → rlook ls 2 = some (I (z15)) → rlook ls 3 = some (I (z16)) → HW V243 σ D N F_c106 A_c106 → OUT (V243).length D N σE c s D N σ c s → SF [] F18 F_c106 → SA [] A18 A_c106 → (inr (tc106_0)) → (((z15) ≠ (1) ∧ (tc106_0) = (z16)) ∨ ((z15) = (1) ∧ (tc106_0) = (1))) → Ew 243 (d + 3) 106 ls [I (tc106_0)] σ c s Q := by
         as_aux_lemma =>
          intro tc106_0 ls σ F_c106 A_c106  lc106_0 lc106_2 lc106_3 H O hS_c106 hA_c106     jc106_0 jc106_1
          refine Ew_of (pcₚ := 108) (fun _ => x_istore rfl) ?_
          refine Ew_of (pcₚ := 109) (fun _ => x_aload_n rfl (rk_o (lc106_0) rfl rfl)) ?_
          refine v_g H (o := 0) (v := I (u0_8)) rfl rfl rfl rfl rfl (congrArg (fun z : Int => I z) (((((hS_c106 0 8 rfl).trans ((show F18 0 8 = F13 0 8 from (eF18 0 8).trans (hS18 0 8 rfl)))).trans ((show F13 0 8 = (updF F 0 18 (0)) 0 8 from (eF13 0 8)))).trans (eu0_8)) : F_c106 0 8 = u0_8)) ?_
          refine Ew_of (pcₚ := 113) (fun _ => x_aload_n rfl (rk_o (lc106_0) rfl rfl)) ?_
          refine v_g H (o := 0) (v := I (u0_9)) rfl rfl rfl rfl rfl (congrArg (fun z : Int => I z) (((((hS_c106 0 9 rfl).trans ((show F18 0 9 = F13 0 9 from (eF18 0 9).trans (hS18 0 9 rfl)))).trans ((show F13 0 9 = (updF F 0 18 (0)) 0 9 from (eF13 0 9)))).trans (eu0_9)) : F_c106 0 9 = u0_9)) ?_
          refine w_isub rfl ?_
          refine Ew_of (pcₚ := 118) (fun _ => x_iconst rfl) ?_
          refine w_isub rfl ?_
          refine Ew_of (pcₚ := 121) (fun _ => x_iload rfl rk_s) ?_
          refine w_icmpge (t := 134) rfl rfl (show inr (((u0_8 - u0_9) - 3)) by omega) (show inr (tc106_0) by omega) (fun b20 => ?_) (fun b20 => ?_)
          · refine Ew_of (pcₚ := 135) (fun _ => x_iload_n rfl (rk_o (lc106_2) rfl rfl)) ?_
            refine Ew_of (pcₚ := 136) (fun _ => x_iconst rfl) ?_
            have hc166 : ∀ (ls : rO) (σ : rS) (F_c166 : hF) (A_c166 : hA) , rlook ls 0 = some (.ref (D 0)) → rlook ls 2 = some (I (z15)) → rlook ls 3 = some (I (z16)) → rlook ls 4 = some (I (tc106_0)) → HW V243 σ D N F_c166 A_c166 → OUT (V243).length D N σE c s D N σ c s → SF [] F_c106 F_c166 → SA [] A_c106 A_c166 → (((z15) = (2)) ∨ ((z15) ≠ (2) ∧ (z16) ≤ ((u0_11 - u2_1)))) → Ew 243 (d + 3) 166 ls [] σ c s Q := by
             as_aux_lemma =>
              intro  ls σ F_c166 A_c166  lc166_0 lc166_2 lc166_3 lc166_4 H O hS_c166 hA_c166     jc166_0
              refine Ew_of (pcₚ := 167) (fun _ => x_aload_n rfl lc166_0) ?_
              refine Ew_of (pcₚ := 168) (fun _ => x_dup rfl rfl) ?_
              refine v_g H (o := 0) (v := I (u0_9)) rfl rfl rfl rfl rfl (congrArg (fun z : Int => I z) ((((((hS_c166 0 9 rfl).trans (hS_c106 0 9 rfl)).trans ((show F18 0 9 = F13 0 9 from (eF18 0 9).trans (hS18 0 9 rfl)))).trans ((show F13 0 9 = (updF F 0 18 (0)) 0 9 from (eF13 0 9)))).trans (eu0_9)) : F_c166 0 9 = u0_9)) ?_
              refine Ew_of (pcₚ := 172) (fun _ => x_iconst rfl) ?_
              refine w_iadd rfl ?_
              refine v_p H (o := 0) (z := (u0_9 + 3)) (v := I ((u0_9 + 3))) rfl rfl rfl rfl rfl rfl rfl rfl (show (-2147483648 : Int) ≤ (u0_9 + 3) ∧ (u0_9 + 3) ≤ 2147483647 by omega) (fun σ H Oₚ => ?_)
              have O := OUT_trans O Oₚ
              refine Ew_of (pcₚ := 177) (fun _ => x_iload_n rfl lc166_2) ?_
              refine Ew_of (pcₚ := 178) (fun _ => x_iconst rfl) ?_
              refine w_icmpne (t := 193) rfl rfl (show inr (z15) by omega) (show inr (2) by omega) (fun b21 => ?_) (fun b21 => ?_)
              · have hc234 : ∀ (ls : rO) (σ : rS) (D_c234 N_c234 : Nat → Nat) (c_c234 s_c234 : Nat) (F_c234 : hF) (A_c234 : hA) , rlook ls 0 = some (.ref (D_c234 0)) → rlook ls 4 = some (I (tc106_0)) → HW V243 σ D_c234 N_c234 F_c234 A_c234 → OUT (V243).length D N σE c s D_c234 N_c234 σ c_c234 s_c234 → SD [3] D D_c234 → SD [3] N N_c234 → SF [(2, 0), (2, 1), (2, 2)] (updF F_c166 0 9 ((u0_9 + 3))) F_c234 → SA [3] A_c166 A_c234 → F_c234 2 0 = (D_c234 3 : Int) → ∀ mc234_3 : Int, (N_c234 3 : Int) = mc234_3 → ∀ yc234_2_1 : Int, F_c234 2 1 = yc234_2_1 → (0 ≤ (yc234_2_1) ∧ (yc234_2_1) ≤ (mc234_3) ∧ (mc234_3) ≤ 65536) → ((u2_1) ≤ (yc234_2_1) ∧ (yc234_2_1) ≤ (u0_11)) → Ew 243 (d + 3) 234 ls [] σ c_c234 s_c234 Q := by
                 as_aux_lemma =>
                  intro  ls σ D_c234 N_c234 c_c234 s_c234 F_c234 A_c234  lc234_0 lc234_4 H O hD_c234 hN_c234 hS_c234 hA_c234 pmc234_3 mc234_3 emc234_3 yc234_2_1 eyc234_2_1  jc234_0 jc234_1
                  replace pmc234_3 := HIDm pmc234_3
                  replace emc234_3 := HIDm emc234_3
                  replace eyc234_2_1 := HIDm eyc234_2_1
                  try clear jc166_0
                  have pf_c234_0_10 : HID (F_c234 0 10 = (D_c234 2 : Int)) := (hS_c234 0 10 rfl).trans (((((((hS_c166 0 10 rfl).trans (hS_c106 0 10 rfl)).trans ((show F18 0 10 = F13 0 10 from (eF18 0 10).trans (hS18 0 10 rfl)))).trans ((show F13 0 10 = (updF F 0 18 (0)) 0 10 from (eF13 0 10))))).trans (pf2)).trans (congrArg (fun q : Nat => (q : Int)) (hD_c234 2 rfl).symm))
                  have pf_c234_0_13 : HID (F_c234 0 13 = (D_c234 4 : Int)) := (hS_c234 0 13 rfl).trans (((((((hS_c166 0 13 rfl).trans (hS_c106 0 13 rfl)).trans ((show F18 0 13 = F13 0 13 from (eF18 0 13).trans (hS18 0 13 rfl)))).trans ((show F13 0 13 = (updF F 0 18 (0)) 0 13 from (eF13 0 13))))).trans (pf4)).trans (congrArg (fun q : Nat => (q : Int)) (hD_c234 4 rfl).symm))
                  have pf_c234_0_7 : HID (F_c234 0 7 = (D_c234 1 : Int)) := (hS_c234 0 7 rfl).trans (((((((hS_c166 0 7 rfl).trans (hS_c106 0 7 rfl)).trans ((show F18 0 7 = F13 0 7 from (eF18 0 7).trans (hS18 0 7 rfl)))).trans ((show F13 0 7 = (updF F 0 18 (0)) 0 7 from (eF13 0 7))))).trans (pf1)).trans (congrArg (fun q : Nat => (q : Int)) (hD_c234 1 rfl).symm))
                  have r22 : (0 : Int) ≤ mc234_3 ∧ mc234_3 ≤ 1000000 := by have h1 := H.nle 3 (by decide); have h2 : (N_c234 3 : Int) = mc234_3 := emc234_3; omega
                  have r23 : (-2147483648 : Int) ≤ yc234_2_1 ∧ yc234_2_1 ≤ 2147483647 := by have h1 : (-2147483648 : Int) ≤ F_c234 2 1 ∧ F_c234 2 1 ≤ 2147483647 := H.krg 2 1 (by decide); rw [show F_c234 2 1 = yc234_2_1 from (eyc234_2_1)] at h1; exact h1
                  refine Ew_of (pcₚ := 235) (fun _ => x_aload_n rfl lc234_0) ?_
                  refine Ew_of (pcₚ := 236) (fun _ => x_dup rfl rfl) ?_
                  refine v_g H (o := 0) (v := I ((u0_9 + 3))) rfl rfl rfl rfl rfl (congrArg (fun z : Int => I z) ((hS_c234 0 9 rfl) : F_c234 0 9 = (u0_9 + 3))) ?_
                  refine Ew_of (pcₚ := 241) (fun _ => x_iload rfl lc234_4) ?_
                  refine w_iadd rfl ?_
                  refine v_p H (o := 0) (z := ((u0_9 + 3) + tc106_0)) (v := I (((u0_9 + 3) + tc106_0))) rfl rfl rfl rfl rfl rfl rfl rfl (show (-2147483648 : Int) ≤ ((u0_9 + 3) + tc106_0) ∧ ((u0_9 + 3) + tc106_0) ≤ 2147483647 by omega) (fun σ H Oₚ => ?_)
                  have O := OUT_trans O Oₚ
                  refine Ew_of (pcₚ := 246) (fun _ => x_iconst rfl) ?_
                  exact w_ireturn rfl (k (0) _ _ _ _ _ _ _ H O (SD_trans (SD_refl) hD_c234 (any_subA rfl)) (SD_trans (SD_refl) hN_c234 (any_subA rfl)) (SF_upd (SF_trans (SF_upd (SF_trans (SF_trans (SF_trans (SF_trans (SF_upd (SF_refl) rfl) (SF_glu (ι := [1]) hS13 eF13 (by decide +kernel)) (any_sub (lₚ := []) rfl)) (SF_glu (ι := [0]) hS18 eF18 (by decide +kernel)) (any_sub (lₚ := []) rfl)) hS_c106 (any_sub rfl)) hS_c166 (any_sub rfl)) rfl) hS_c234 (any_sub rfl)) rfl) (SA_trans (SA_trans (SA_trans (SA_trans (SA_trans (SA_upd (SA_refl) rfl) (SA_glu (ι := [1]) hA13 eA13 (by decide +kernel)) (any_subA (lₚ := []) rfl)) (SA_glu (ι := [0]) hA18 eA18 (by decide +kernel)) (any_subA (lₚ := []) rfl)) hA_c106 (any_subA rfl)) hA_c166 (any_subA rfl)) hA_c234 (any_subA rfl)) (pmc234_3) (mc234_3) (emc234_3) (((u0_9 + 3) + tc106_0)) (rfl) (0) ((((((hS_c234 0 18 rfl).trans (hS_c166 0 18 rfl)).trans (hS_c106 0 18 rfl)).trans ((show F18 0 18 = F13 0 18 from (eF18 0 18).trans (hS18 0 18 rfl)))).trans ((show F13 0 18 = (updF F 0 18 (0)) 0 18 from (eF13 0 18))))) (yc234_2_1) ((eyc234_2_1)) (show inr (0) by omega) (show 0 ≤ (0) ∧ (0) ≤ 17 by omega) (show 0 ≤ (((u0_9 + 3) + tc106_0)) ∧ (u0_9) ≤ (((u0_9 + 3) + tc106_0)) ∧ (((u0_9 + 3) + tc106_0)) ≤ (u0_8) by omega) (show 0 ≤ (yc234_2_1) ∧ (yc234_2_1) ≤ (mc234_3) ∧ (mc234_3) ≤ 65536 by omega) (show (u2_1) ≤ (yc234_2_1) ∧ (yc234_2_1) ≤ (u0_11) by omega) (show (0) = 0 ∨ (((u0_9 + 3) + tc106_0)) ≤ (0) ∧ (0) ≤ (u0_8) by omega))
                refine Ew_of (pcₚ := 194) (fun _ => x_iload_n rfl lc166_2) ?_
                refine Ew_of (pcₚ := 195) (fun _ => x_iconst rfl) ?_
                refine w_icmpne (t := 218) rfl rfl (show inr (z15) by omega) (show inr (1) by omega) (fun b24 => ?_) (fun b24 => ?_)
                · refine Ew_of (pcₚ := 219) (fun _ => x_aload_n rfl lc166_0) ?_
                  refine v_g H (o := 0) (v := .ref (D 2)) rfl rfl rfl rfl rfl (vrf ((((((hS_c166 0 10 rfl).trans (hS_c106 0 10 rfl)).trans ((show F18 0 10 = F13 0 10 from (eF18 0 10).trans (hS18 0 10 rfl)))).trans ((show F13 0 10 = (updF F 0 18 (0)) 0 10 from (eF13 0 10))))).trans (pf2))) ?_
                  refine Ew_of (pcₚ := 223) (fun _ => x_aload_n rfl lc166_0) ?_
                  refine v_g H (o := 0) (v := .ref (D 1)) rfl rfl rfl rfl rfl (vrf ((((((hS_c166 0 7 rfl).trans (hS_c106 0 7 rfl)).trans ((show F18 0 7 = F13 0 7 from (eF18 0 7).trans (hS18 0 7 rfl)))).trans ((show F13 0 7 = (updF F 0 18 (0)) 0 7 from (eF13 0 7))))).trans (pf1))) ?_
                  refine Ew_of (pcₚ := 227) (fun _ => x_aload_n rfl lc166_0) ?_
                  refine v_g H (o := 0) (v := I ((u0_9 + 3))) rfl rfl rfl rfl rfl (congrArg (fun z : Int => I z) (rfl : (updF F_c166 0 9 ((u0_9 + 3))) 0 9 = (u0_9 + 3))) ?_
                  refine Ew_of (pcₚ := 231) (fun _ => x_iload_n rfl lc166_3) ?_
                  refine v_inv H (o := 2) rfl rfl rfl rfl rfl rfl (by rfl) (C161_Br (D := pul [2, 1, 3] D) (N := pul [2, 1, 3] N) (HW_sub H (VS_of (show vsub V243 V161_Br [2, 1, 3] = true by decide +kernel))) ((((((hS_c166 2 0 rfl).trans (hS_c106 2 0 rfl)).trans ((show F18 2 0 = F13 2 0 from (eF18 2 0)))).trans ((show F13 2 0 = (updF F 0 18 (0)) 2 0 from (eF13 2 0))))).trans (pf3)) (n1) (en1) (n3) (en3) (u2_1) ((((((hS_c166 2 1 rfl).trans (hS_c106 2 1 rfl)).trans ((show F18 2 1 = F13 2 1 from (eF18 2 1)))).trans ((show F13 2 1 = (updF F 0 18 (0)) 2 1 from (eF13 2 1)))).trans (eu2_1))) (A 3) ((funext (hA_c166 3 rfl)).trans ((funext (hA_c106 3 rfl)).trans (((show A18 3 = A13 3 from (eA18 3))).trans ((show A13 3 = (updA A 4 (1) (z12)) 3 from (eA13 3)))))) (show inr ((u0_9 + 3)) by omega) (show inr (z16) by omega) (show 0 ≤ (u2_1) ∧ (u2_1) ≤ (n3) ∧ (n3) ≤ 65536 by omega) (show (z16) < 0 ∨ 0 ≤ ((u0_9 + 3)) ∧ ((u0_9 + 3)) + (z16) ≤ (n1) by omega) (fun σ25 D25ₚ N25ₚ F25ₚ A25ₚ c25 s25 Hₚ Oₚ hD25 hN25 hS25 hA25 pm25_2 m25_2 em25_2 y25_0_1 ey25_0_1 w25_2 ew25_2 pz25_0 pz25_1 pz25_2 => ⟨rfl, ?_⟩))
                  replace pm25_2 := HIDm pm25_2
                  replace em25_2 := HIDm em25_2
                  replace ey25_0_1 := HIDm ey25_0_1
                  refine v_backM (c := c) (s := s) H (show vsub V243 V161_Br [2, 1, 3] = true by decide +kernel) Hₚ Oₚ hD25 (show vmov V243 [2, 1, 3] [2] = true by decide +kernel) (fun D25 N25 F25 A25 H Oₚ eD25 eN25 eF25 eA25 => ?_)
                  have O := OUT_trans O Oₚ
                  -- Row.addPart
                  have pf25_0_10 : HID (F25 0 10 = (D25 2 : Int)) := ((show F25 0 10 = (updF F_c166 0 9 ((u0_9 + 3))) 0 10 from (eF25 0 10))).trans (((((((hS_c166 0 10 rfl).trans (hS_c106 0 10 rfl)).trans ((show F18 0 10 = F13 0 10 from (eF18 0 10).trans (hS18 0 10 rfl)))).trans ((show F13 0 10 = (updF F 0 18 (0)) 0 10 from (eF13 0 10))))).trans (pf2)).trans (congrArg (fun q : Nat => (q : Int)) ((show D25 2 = D 2 from (eD25 2).trans (hD25 0 rfl))).symm))
                  have pf25_0_13 : HID (F25 0 13 = (D25 4 : Int)) := ((show F25 0 13 = (updF F_c166 0 9 ((u0_9 + 3))) 0 13 from (eF25 0 13))).trans (((((((hS_c166 0 13 rfl).trans (hS_c106 0 13 rfl)).trans ((show F18 0 13 = F13 0 13 from (eF18 0 13).trans (hS18 0 13 rfl)))).trans ((show F13 0 13 = (updF F 0 18 (0)) 0 13 from (eF13 0 13))))).trans (pf4)).trans (congrArg (fun q : Nat => (q : Int)) ((show D25 4 = D 4 from (eD25 4))).symm))
                  have pf25_0_7 : HID (F25 0 7 = (D25 1 : Int)) := ((show F25 0 7 = (updF F_c166 0 9 ((u0_9 + 3))) 0 7 from (eF25 0 7))).trans (((((((hS_c166 0 7 rfl).trans (hS_c106 0 7 rfl)).trans ((show F18 0 7 = F13 0 7 from (eF18 0 7).trans (hS18 0 7 rfl)))).trans ((show F13 0 7 = (updF F 0 18 (0)) 0 7 from (eF13 0 7))))).trans (pf1)).trans (congrArg (fun q : Nat => (q : Int)) ((show D25 1 = D 1 from (eD25 1).trans (hD25 1 rfl))).symm))
                  have pf25_2_0 : HID (F25 2 0 = (D25 3 : Int)) := (eF25 2 0).trans (pm25_2.trans (congrArg (fun q : Nat => (q : Int)) (eD25 3).symm))
                  have r26 : (0 : Int) ≤ m25_2 ∧ m25_2 ≤ 1000000 := by have h1 := H.nle 3 (by decide); have h2 : (N25 3 : Int) = m25_2 := (congrArg (fun q : Nat => (q : Int)) (eN25 3)).trans em25_2; omega
                  have r27 : (-2147483648 : Int) ≤ y25_0_1 ∧ y25_0_1 ≤ 2147483647 := by have h1 : (-2147483648 : Int) ≤ F25 2 1 ∧ F25 2 1 ≤ 2147483647 := H.krg 2 1 (by decide); rw [show F25 2 1 = y25_0_1 from ((eF25 2 1).trans ey25_0_1)] at h1; exact h1
                  exact hc234  _ _ _ _ _ _ _ _  ((lc166_0).trans (congrArg (fun q : Nat => some (Value.ref q)) (((show D25 0 = D 0 from (eD25 0)))).symm)) (lc166_4) H O (SD_trans (SD_refl) (SD_glu (ι := [2, 1, 3]) hD25 eD25 (by decide +kernel)) (any_subA (lₚ := [3]) rfl)) (SD_trans (SD_refl) (SD_glu (ι := [2, 1, 3]) hN25 eN25 (by decide +kernel)) (any_subA (lₚ := [3]) rfl)) (SF_trans (SF_refl) (SF_glu (ι := [2, 1, 3]) hS25 eF25 (by decide +kernel)) (any_sub (lₚ := [(2, 0), (2, 1), (2, 2)]) rfl)) (SA_trans (SA_refl) (SA_glu (ι := [2, 1, 3]) hA25 eA25 (by decide +kernel)) (any_subA (lₚ := [3]) rfl)) (pf25_2_0) (m25_2) ((congrArg (fun q : Nat => (q : Int)) (eN25 3)).trans em25_2) (y25_0_1) (((eF25 2 1).trans ey25_0_1))  (show 0 ≤ (y25_0_1) ∧ (y25_0_1) ≤ (m25_2) ∧ (m25_2) ≤ 65536 by omega) (show (u2_1) ≤ (y25_0_1) ∧ (y25_0_1) ≤ (u0_11) by omega)
                · refine Ew_of (pcₚ := 199) (fun _ => x_aload_n rfl lc166_0) ?_
                  refine v_g H (o := 0) (v := .ref (D 2)) rfl rfl rfl rfl rfl (vrf ((((((hS_c166 0 10 rfl).trans (hS_c106 0 10 rfl)).trans ((show F18 0 10 = F13 0 10 from (eF18 0 10).trans (hS18 0 10 rfl)))).trans ((show F13 0 10 = (updF F 0 18 (0)) 0 10 from (eF13 0 10))))).trans (pf2))) ?_
                  refine Ew_of (pcₚ := 203) (fun _ => x_aload_n rfl lc166_0) ?_
                  refine v_g H (o := 0) (v := .ref (D 1)) rfl rfl rfl rfl rfl (vrf ((((((hS_c166 0 7 rfl).trans (hS_c106 0 7 rfl)).trans ((show F18 0 7 = F13 0 7 from (eF18 0 7).trans (hS18 0 7 rfl)))).trans ((show F13 0 7 = (updF F 0 18 (0)) 0 7 from (eF13 0 7))))).trans (pf1))) ?_
                  refine Ew_of (pcₚ := 207) (fun _ => x_aload_n rfl lc166_0) ?_
                  refine v_g H (o := 0) (v := I ((u0_9 + 3))) rfl rfl rfl rfl rfl (congrArg (fun z : Int => I z) (rfl : (updF F_c166 0 9 ((u0_9 + 3))) 0 9 = (u0_9 + 3))) ?_
                  refine v_lB H (o := 1) rfl rfl rfl rfl (n := n1) (en1) (show 0 ≤ (u0_9 + 3) ∧ (u0_9 + 3) < n1 by omega) (fun v28 ev28 qv28 => ?_)
                  have ev28 : (A 1) ((u0_9 + 3)) = v28 := (congrFun ((funext (hA_c166 1 rfl)).trans ((funext (hA_c106 1 rfl)).trans (((show A18 1 = A13 1 from (eA18 1))).trans ((show A13 1 = (updA A 4 (1) (z12)) 1 from (eA13 1).trans (funext (hA13 0 rfl))))))) ((u0_9 + 3))).symm.trans ev28
                  refine Ew_of (pcₚ := 212) (fun _ => x_iload_n rfl lc166_3) ?_
                  refine v_inv H (o := 2) rfl rfl rfl rfl rfl rfl (by rfl) (C162 (D := pul [2, 3] D) (N := pul [2, 3] N) (HW_sub H (VS_of (show vsub V243 V162 [2, 3] = true by decide +kernel))) ((((((hS_c166 2 0 rfl).trans (hS_c106 2 0 rfl)).trans ((show F18 2 0 = F13 2 0 from (eF18 2 0)))).trans ((show F13 2 0 = (updF F 0 18 (0)) 2 0 from (eF13 2 0))))).trans (pf3)) (n3) (en3) (u2_1) ((((((hS_c166 2 1 rfl).trans (hS_c106 2 1 rfl)).trans ((show F18 2 1 = F13 2 1 from (eF18 2 1)))).trans ((show F13 2 1 = (updF F 0 18 (0)) 2 1 from (eF13 2 1)))).trans (eu2_1))) (show inr (v28) by omega) (show inr (z16) by omega) (show 0 ≤ (u2_1) ∧ (u2_1) ≤ (n3) ∧ (n3) ≤ 65536 by omega) (fun σ29 D29ₚ N29ₚ F29ₚ A29ₚ c29 s29 Hₚ Oₚ hD29 hN29 hS29 hA29 pm29_1 m29_1 em29_1 y29_0_1 ey29_0_1 pz29_0 pz29_1 => ⟨rfl, ?_⟩))
                  replace pm29_1 := HIDm pm29_1
                  replace em29_1 := HIDm em29_1
                  replace ey29_0_1 := HIDm ey29_0_1
                  refine v_backM (c := c) (s := s) H (show vsub V243 V162 [2, 3] = true by decide +kernel) Hₚ Oₚ hD29 (show vmov V243 [2, 3] [1] = true by decide +kernel) (fun D29 N29 F29 A29 H Oₚ eD29 eN29 eF29 eA29 => ?_)
                  have O := OUT_trans O Oₚ
                  -- Row.addSame
                  have pf29_0_10 : HID (F29 0 10 = (D29 2 : Int)) := ((show F29 0 10 = (updF F_c166 0 9 ((u0_9 + 3))) 0 10 from (eF29 0 10))).trans (((((((hS_c166 0 10 rfl).trans (hS_c106 0 10 rfl)).trans ((show F18 0 10 = F13 0 10 from (eF18 0 10).trans (hS18 0 10 rfl)))).trans ((show F13 0 10 = (updF F 0 18 (0)) 0 10 from (eF13 0 10))))).trans (pf2)).trans (congrArg (fun q : Nat => (q : Int)) ((show D29 2 = D 2 from (eD29 2).trans (hD29 0 rfl))).symm))
                  have pf29_0_13 : HID (F29 0 13 = (D29 4 : Int)) := ((show F29 0 13 = (updF F_c166 0 9 ((u0_9 + 3))) 0 13 from (eF29 0 13))).trans (((((((hS_c166 0 13 rfl).trans (hS_c106 0 13 rfl)).trans ((show F18 0 13 = F13 0 13 from (eF18 0 13).trans (hS18 0 13 rfl)))).trans ((show F13 0 13 = (updF F 0 18 (0)) 0 13 from (eF13 0 13))))).trans (pf4)).trans (congrArg (fun q : Nat => (q : Int)) ((show D29 4 = D 4 from (eD29 4))).symm))
                  have pf29_0_7 : HID (F29 0 7 = (D29 1 : Int)) := ((show F29 0 7 = (updF F_c166 0 9 ((u0_9 + 3))) 0 7 from (eF29 0 7))).trans (((((((hS_c166 0 7 rfl).trans (hS_c106 0 7 rfl)).trans ((show F18 0 7 = F13 0 7 from (eF18 0 7).trans (hS18 0 7 rfl)))).trans ((show F13 0 7 = (updF F 0 18 (0)) 0 7 from (eF13 0 7))))).trans (pf1)).trans (congrArg (fun q : Nat => (q : Int)) ((show D29 1 = D 1 from (eD29 1))).symm))
                  have pf29_2_0 : HID (F29 2 0 = (D29 3 : Int)) := (eF29 2 0).trans (pm29_1.trans (congrArg (fun q : Nat => (q : Int)) (eD29 3).symm))
                  have r30 : (0 : Int) ≤ m29_1 ∧ m29_1 ≤ 1000000 := by have h1 := H.nle 3 (by decide); have h2 : (N29 3 : Int) = m29_1 := (congrArg (fun q : Nat => (q : Int)) (eN29 3)).trans em29_1; omega
                  have r31 : (-2147483648 : Int) ≤ y29_0_1 ∧ y29_0_1 ≤ 2147483647 := by have h1 : (-2147483648 : Int) ≤ F29 2 1 ∧ F29 2 1 ≤ 2147483647 := H.krg 2 1 (by decide); rw [show F29 2 1 = y29_0_1 from ((eF29 2 1).trans ey29_0_1)] at h1; exact h1
                  refine Ew_of (pcₚ := 234) (fun _ => x_goto rfl rfl) ?_
                  exact hc234  _ _ _ _ _ _ _ _  ((lc166_0).trans (congrArg (fun q : Nat => some (Value.ref q)) (((show D29 0 = D 0 from (eD29 0)))).symm)) (lc166_4) H O (SD_trans (SD_refl) (SD_glu (ι := [2, 3]) hD29 eD29 (by decide +kernel)) (any_subA (lₚ := [3]) rfl)) (SD_trans (SD_refl) (SD_glu (ι := [2, 3]) hN29 eN29 (by decide +kernel)) (any_subA (lₚ := [3]) rfl)) (SF_trans (SF_refl) (SF_glu (ι := [2, 3]) hS29 eF29 (by decide +kernel)) (any_sub (lₚ := [(2, 0), (2, 1), (2, 2)]) rfl)) (SA_trans (SA_refl) (SA_glu (ι := [2, 3]) hA29 eA29 (by decide +kernel)) (any_subA (lₚ := [3]) rfl)) (pf29_2_0) (m29_1) ((congrArg (fun q : Nat => (q : Int)) (eN29 3)).trans em29_1) (y29_0_1) (((eF29 2 1).trans ey29_0_1))  (show 0 ≤ (y29_0_1) ∧ (y29_0_1) ≤ (m29_1) ∧ (m29_1) ≤ 65536 by omega) (show (u2_1) ≤ (y29_0_1) ∧ (y29_0_1) ≤ (u0_11) by omega)
              · refine Ew_of (pcₚ := 182) (fun _ => x_aload_n rfl lc166_0) ?_
                refine Ew_of (pcₚ := 183) (fun _ => x_aload_n rfl lc166_0) ?_
                refine v_g H (o := 0) (v := I ((u0_9 + 3))) rfl rfl rfl rfl rfl (congrArg (fun z : Int => I z) (rfl : (updF F_c166 0 9 ((u0_9 + 3))) 0 9 = (u0_9 + 3))) ?_
                refine Ew_of (pcₚ := 187) (fun _ => x_iload_n rfl lc166_3) ?_
                refine w_iadd rfl ?_
                refine v_p H (o := 0) (z := ((u0_9 + 3) + z16)) (v := I (((u0_9 + 3) + z16))) rfl rfl rfl rfl rfl rfl rfl rfl (show (-2147483648 : Int) ≤ ((u0_9 + 3) + z16) ∧ ((u0_9 + 3) + z16) ≤ 2147483647 by omega) (fun σ H Oₚ => ?_)
                have O := OUT_trans O Oₚ
                refine Ew_of (pcₚ := 192) (fun _ => x_iconst rfl) ?_
                exact w_ireturn rfl (k (0) _ _ _ _ _ _ _ H O (SD_refl) (SD_refl) (SF_upd (SF_upd (SF_trans (SF_trans (SF_trans (SF_trans (SF_upd (SF_refl) rfl) (SF_glu (ι := [1]) hS13 eF13 (by decide +kernel)) (any_sub (lₚ := []) rfl)) (SF_glu (ι := [0]) hS18 eF18 (by decide +kernel)) (any_sub (lₚ := []) rfl)) hS_c106 (any_sub rfl)) hS_c166 (any_sub rfl)) rfl) rfl) (SA_trans (SA_trans (SA_trans (SA_trans (SA_upd (SA_refl) rfl) (SA_glu (ι := [1]) hA13 eA13 (by decide +kernel)) (any_subA (lₚ := []) rfl)) (SA_glu (ι := [0]) hA18 eA18 (by decide +kernel)) (any_subA (lₚ := []) rfl)) hA_c106 (any_subA rfl)) hA_c166 (any_subA rfl)) ((((((hS_c166 2 0 rfl).trans (hS_c106 2 0 rfl)).trans ((show F18 2 0 = F13 2 0 from (eF18 2 0)))).trans ((show F13 2 0 = (updF F 0 18 (0)) 2 0 from (eF13 2 0))))).trans (pf3)) (n3) (en3) ((u0_9 + 3)) (rfl) (((u0_9 + 3) + z16)) (rfl) (u2_1) ((((((hS_c166 2 1 rfl).trans (hS_c106 2 1 rfl)).trans ((show F18 2 1 = F13 2 1 from (eF18 2 1)))).trans ((show F13 2 1 = (updF F 0 18 (0)) 2 1 from (eF13 2 1)))).trans (eu2_1))) (show inr (0) by omega) (show 0 ≤ (0) ∧ (0) ≤ 17 by omega) (show 0 ≤ ((u0_9 + 3)) ∧ (u0_9) ≤ ((u0_9 + 3)) ∧ ((u0_9 + 3)) ≤ (u0_8) by omega) (show 0 ≤ (u2_1) ∧ (u2_1) ≤ (n3) ∧ (n3) ≤ 65536 by omega) (show (u2_1) ≤ (u2_1) ∧ (u2_1) ≤ (u0_11) by omega) (show (((u0_9 + 3) + z16)) = 0 ∨ ((u0_9 + 3)) ≤ (((u0_9 + 3) + z16)) ∧ (((u0_9 + 3) + z16)) ≤ (u0_8) by omega))
            refine w_icmpeq (t := 166) rfl rfl (show inr (z15) by omega) (show inr (2) by omega) (fun b32 => ?_) (fun b32 => ?_)
            · exact hc166  _ _ _ _  (rk_o (lc106_0) rfl rfl) (rk_o (lc106_2) rfl rfl) (rk_o (lc106_3) rfl rfl) (rk_s) H O (SF_refl) (SA_refl)     (show ((z15) = (2)) ∨ ((z15) ≠ (2) ∧ (z16) ≤ ((u0_11 - u2_1))) by omega)
            · refine Ew_of (pcₚ := 140) (fun _ => x_iload_n rfl (rk_o (lc106_3) rfl rfl)) ?_
              refine Ew_of (pcₚ := 141) (fun _ => x_aload_n rfl (rk_o (lc106_0) rfl rfl)) ?_
              refine v_g H (o := 0) (v := I (u0_11)) rfl rfl rfl rfl rfl (congrArg (fun z : Int => I z) (((((hS_c106 0 11 rfl).trans ((show F18 0 11 = F13 0 11 from (eF18 0 11).trans (hS18 0 11 rfl)))).trans ((show F13 0 11 = (updF F 0 18 (0)) 0 11 from (eF13 0 11)))).trans (eu0_11)) : F_c106 0 11 = u0_11)) ?_
              refine Ew_of (pcₚ := 145) (fun _ => x_aload_n rfl (rk_o (lc106_0) rfl rfl)) ?_
              refine v_g H (o := 0) (v := .ref (D 2)) rfl rfl rfl rfl rfl (vrf (((((hS_c106 0 10 rfl).trans ((show F18 0 10 = F13 0 10 from (eF18 0 10).trans (hS18 0 10 rfl)))).trans ((show F13 0 10 = (updF F 0 18 (0)) 0 10 from (eF13 0 10))))).trans (pf2))) ?_
              refine v_g H (o := 2) (v := I (u2_1)) rfl rfl rfl rfl rfl (congrArg (fun z : Int => I z) (((((hS_c106 2 1 rfl).trans ((show F18 2 1 = F13 2 1 from (eF18 2 1)))).trans ((show F13 2 1 = (updF F 0 18 (0)) 2 1 from (eF13 2 1)))).trans (eu2_1)) : F_c106 2 1 = u2_1)) ?_
              refine w_isub rfl ?_
              refine w_icmple (t := 166) rfl rfl (show inr (z16) by omega) (show inr ((u0_11 - u2_1)) by omega) (fun b33 => ?_) (fun b33 => ?_)
              · exact hc166  _ _ _ _  (rk_o (lc106_0) rfl rfl) (rk_o (lc106_2) rfl rfl) (rk_o (lc106_3) rfl rfl) (rk_s) H O (SF_refl) (SA_refl)     (show ((z15) = (2)) ∨ ((z15) ≠ (2) ∧ (z16) ≤ ((u0_11 - u2_1))) by omega)
              · refine Ew_of (pcₚ := 156) (fun _ => x_aload_n rfl (rk_o (lc106_0) rfl rfl)) ?_
                refine Ew_of (pcₚ := 158) (fun _ => x_bipush (z := 7) rfl (by decide)) ?_
                refine Ew_of (pcₚ := 159) (fun _ => x_aload_n rfl (rk_o (lc106_0) rfl rfl)) ?_
                refine v_g H (o := 0) (v := I (u0_9)) rfl rfl rfl rfl rfl (congrArg (fun z : Int => I z) (((((hS_c106 0 9 rfl).trans ((show F18 0 9 = F13 0 9 from (eF18 0 9).trans (hS18 0 9 rfl)))).trans ((show F13 0 9 = (updF F 0 18 (0)) 0 9 from (eF13 0 9)))).trans (eu0_9)) : F_c106 0 9 = u0_9)) ?_
                have r34 : (-2147483648 : Int) ≤ F 0 21 ∧ F 0 21 ≤ 2147483647 := by have h1 : (-2147483648 : Int) ≤ F_c106 0 21 ∧ F_c106 0 21 ≤ 2147483647 := H.krg 0 21 (by decide); rw [show F_c106 0 21 = F 0 21 from (((hS_c106 0 21 rfl).trans ((show F18 0 21 = F13 0 21 from (eF18 0 21).trans (hS18 0 21 rfl)))).trans ((show F13 0 21 = (updF F 0 18 (0)) 0 21 from (eF13 0 21))))] at h1; exact h1
                refine v_inv H (o := 0) rfl rfl rfl rfl rfl rfl (by rfl) (C232 (D := pul [0] D) (N := pul [0] N) (HW_sub H (VS_of (show vsub V243 V232 [0] = true by decide +kernel))) (F 0 21) ((((hS_c106 0 21 rfl).trans ((show F18 0 21 = F13 0 21 from (eF18 0 21).trans (hS18 0 21 rfl)))).trans ((show F13 0 21 = (updF F 0 18 (0)) 0 21 from (eF13 0 21))))) (show inr (7) by omega) (show inr (u0_9) by omega) (fun z35 σ35 F35ₚ A35ₚ Hₚ Oₚ hS35 hA35 y35_0_21 ey35_0_21 pz35_0 pz35_1 pz35_2 => ⟨rfl, ?_⟩))
                replace ey35_0_21 := HIDm ey35_0_21
                refine v_back (c := c) (s := s) H (show vsub V243 V232 [0] = true by decide +kernel) Hₚ Oₚ (fun F35 A35 H Oₚ eF35 eA35 => ?_)
                have O := OUT_trans O Oₚ
                -- Unpacker.fail
                have r36 : (-2147483648 : Int) ≤ y35_0_21 ∧ y35_0_21 ≤ 2147483647 := by have h1 : (-2147483648 : Int) ≤ F35 0 21 ∧ F35 0 21 ≤ 2147483647 := H.krg 0 21 (by decide); rw [show F35 0 21 = y35_0_21 from ((eF35 0 21).trans ey35_0_21)] at h1; exact h1
                exact w_ireturn rfl (k (z35) _ _ _ _ _ _ _ H O (SD_refl) (SD_refl) (SF_trans (SF_trans (SF_trans (SF_trans (SF_upd (SF_refl) rfl) (SF_glu (ι := [1]) hS13 eF13 (by decide +kernel)) (any_sub (lₚ := []) rfl)) (SF_glu (ι := [0]) hS18 eF18 (by decide +kernel)) (any_sub (lₚ := []) rfl)) hS_c106 (any_sub rfl)) (SF_glu (ι := [0]) hS35 eF35 (by decide +kernel)) (any_sub (lₚ := [(0, 21)]) rfl)) (SA_trans (SA_trans (SA_trans (SA_trans (SA_upd (SA_refl) rfl) (SA_glu (ι := [1]) hA13 eA13 (by decide +kernel)) (any_subA (lₚ := []) rfl)) (SA_glu (ι := [0]) hA18 eA18 (by decide +kernel)) (any_subA (lₚ := []) rfl)) hA_c106 (any_subA rfl)) (SA_glu (ι := [0]) hA35 eA35 (by decide +kernel)) (any_subA (lₚ := []) rfl)) (((((((show F35 2 0 = F_c106 2 0 from (eF35 2 0))).trans (hS_c106 2 0 rfl)).trans ((show F18 2 0 = F13 2 0 from (eF18 2 0)))).trans ((show F13 2 0 = (updF F 0 18 (0)) 2 0 from (eF13 2 0))))).trans (pf3)) (n3) (en3) (u0_9) (((((((show F35 0 9 = F_c106 0 9 from (eF35 0 9).trans (hS35 0 9 rfl))).trans (hS_c106 0 9 rfl)).trans ((show F18 0 9 = F13 0 9 from (eF18 0 9).trans (hS18 0 9 rfl)))).trans ((show F13 0 9 = (updF F 0 18 (0)) 0 9 from (eF13 0 9)))).trans (eu0_9))) (0) ((((((show F35 0 18 = F_c106 0 18 from (eF35 0 18).trans (hS35 0 18 rfl))).trans (hS_c106 0 18 rfl)).trans ((show F18 0 18 = F13 0 18 from (eF18 0 18).trans (hS18 0 18 rfl)))).trans ((show F13 0 18 = (updF F 0 18 (0)) 0 18 from (eF13 0 18))))) (u2_1) (((((((show F35 2 1 = F_c106 2 1 from (eF35 2 1))).trans (hS_c106 2 1 rfl)).trans ((show F18 2 1 = F13 2 1 from (eF18 2 1)))).trans ((show F13 2 1 = (updF F 0 18 (0)) 2 1 from (eF13 2 1)))).trans (eu2_1))) (show inr (z35) by omega) (show 0 ≤ (z35) ∧ (z35) ≤ 17 by omega) (show 0 ≤ (u0_9) ∧ (u0_9) ≤ (u0_9) ∧ (u0_9) ≤ (u0_8) by omega) (show 0 ≤ (u2_1) ∧ (u2_1) ≤ (n3) ∧ (n3) ≤ 65536 by omega) (show (u2_1) ≤ (u2_1) ∧ (u2_1) ≤ (u0_11) by omega) (show (0) = 0 ∨ (u0_9) ≤ (0) ∧ (0) ≤ (u0_8) by omega))
          · refine Ew_of (pcₚ := 125) (fun _ => x_aload_n rfl (rk_o (lc106_0) rfl rfl)) ?_
            refine Ew_of (pcₚ := 126) (fun _ => x_iconst rfl) ?_
            refine Ew_of (pcₚ := 127) (fun _ => x_aload_n rfl (rk_o (lc106_0) rfl rfl)) ?_
            refine v_g H (o := 0) (v := I (u0_8)) rfl rfl rfl rfl rfl (congrArg (fun z : Int => I z) (((((hS_c106 0 8 rfl).trans ((show F18 0 8 = F13 0 8 from (eF18 0 8).trans (hS18 0 8 rfl)))).trans ((show F13 0 8 = (updF F 0 18 (0)) 0 8 from (eF13 0 8)))).trans (eu0_8)) : F_c106 0 8 = u0_8)) ?_
            have r37 : (-2147483648 : Int) ≤ F 0 21 ∧ F 0 21 ≤ 2147483647 := by have h1 : (-2147483648 : Int) ≤ F_c106 0 21 ∧ F_c106 0 21 ≤ 2147483647 := H.krg 0 21 (by decide); rw [show F_c106 0 21 = F 0 21 from (((hS_c106 0 21 rfl).trans ((show F18 0 21 = F13 0 21 from (eF18 0 21).trans (hS18 0 21 rfl)))).trans ((show F13 0 21 = (updF F 0 18 (0)) 0 21 from (eF13 0 21))))] at h1; exact h1
            refine v_inv H (o := 0) rfl rfl rfl rfl rfl rfl (by rfl) (C232 (D := pul [0] D) (N := pul [0] N) (HW_sub H (VS_of (show vsub V243 V232 [0] = true by decide +kernel))) (F 0 21) ((((hS_c106 0 21 rfl).trans ((show F18 0 21 = F13 0 21 from (eF18 0 21).trans (hS18 0 21 rfl)))).trans ((show F13 0 21 = (updF F 0 18 (0)) 0 21 from (eF13 0 21))))) (show inr (1) by omega) (show inr (u0_8) by omega) (fun z38 σ38 F38ₚ A38ₚ Hₚ Oₚ hS38 hA38 y38_0_21 ey38_0_21 pz38_0 pz38_1 pz38_2 => ⟨rfl, ?_⟩))
            replace ey38_0_21 := HIDm ey38_0_21
            refine v_back (c := c) (s := s) H (show vsub V243 V232 [0] = true by decide +kernel) Hₚ Oₚ (fun F38 A38 H Oₚ eF38 eA38 => ?_)
            have O := OUT_trans O Oₚ
            -- Unpacker.fail
            have r39 : (-2147483648 : Int) ≤ y38_0_21 ∧ y38_0_21 ≤ 2147483647 := by have h1 : (-2147483648 : Int) ≤ F38 0 21 ∧ F38 0 21 ≤ 2147483647 := H.krg 0 21 (by decide); rw [show F38 0 21 = y38_0_21 from ((eF38 0 21).trans ey38_0_21)] at h1; exact h1
            exact w_ireturn rfl (k (z38) _ _ _ _ _ _ _ H O (SD_refl) (SD_refl) (SF_trans (SF_trans (SF_trans (SF_trans (SF_upd (SF_refl) rfl) (SF_glu (ι := [1]) hS13 eF13 (by decide +kernel)) (any_sub (lₚ := []) rfl)) (SF_glu (ι := [0]) hS18 eF18 (by decide +kernel)) (any_sub (lₚ := []) rfl)) hS_c106 (any_sub rfl)) (SF_glu (ι := [0]) hS38 eF38 (by decide +kernel)) (any_sub (lₚ := [(0, 21)]) rfl)) (SA_trans (SA_trans (SA_trans (SA_trans (SA_upd (SA_refl) rfl) (SA_glu (ι := [1]) hA13 eA13 (by decide +kernel)) (any_subA (lₚ := []) rfl)) (SA_glu (ι := [0]) hA18 eA18 (by decide +kernel)) (any_subA (lₚ := []) rfl)) hA_c106 (any_subA rfl)) (SA_glu (ι := [0]) hA38 eA38 (by decide +kernel)) (any_subA (lₚ := []) rfl)) (((((((show F38 2 0 = F_c106 2 0 from (eF38 2 0))).trans (hS_c106 2 0 rfl)).trans ((show F18 2 0 = F13 2 0 from (eF18 2 0)))).trans ((show F13 2 0 = (updF F 0 18 (0)) 2 0 from (eF13 2 0))))).trans (pf3)) (n3) (en3) (u0_9) (((((((show F38 0 9 = F_c106 0 9 from (eF38 0 9).trans (hS38 0 9 rfl))).trans (hS_c106 0 9 rfl)).trans ((show F18 0 9 = F13 0 9 from (eF18 0 9).trans (hS18 0 9 rfl)))).trans ((show F13 0 9 = (updF F 0 18 (0)) 0 9 from (eF13 0 9)))).trans (eu0_9))) (0) ((((((show F38 0 18 = F_c106 0 18 from (eF38 0 18).trans (hS38 0 18 rfl))).trans (hS_c106 0 18 rfl)).trans ((show F18 0 18 = F13 0 18 from (eF18 0 18).trans (hS18 0 18 rfl)))).trans ((show F13 0 18 = (updF F 0 18 (0)) 0 18 from (eF13 0 18))))) (u2_1) (((((((show F38 2 1 = F_c106 2 1 from (eF38 2 1))).trans (hS_c106 2 1 rfl)).trans ((show F18 2 1 = F13 2 1 from (eF18 2 1)))).trans ((show F13 2 1 = (updF F 0 18 (0)) 2 1 from (eF13 2 1)))).trans (eu2_1))) (show inr (z38) by omega) (show 0 ≤ (z38) ∧ (z38) ≤ 17 by omega) (show 0 ≤ (u0_9) ∧ (u0_9) ≤ (u0_9) ∧ (u0_9) ≤ (u0_8) by omega) (show 0 ≤ (u2_1) ∧ (u2_1) ≤ (n3) ∧ (n3) ≤ 65536 by omega) (show (u2_1) ≤ (u2_1) ∧ (u2_1) ≤ (u0_11) by omega) (show (0) = 0 ∨ (u0_9) ≤ (0) ∧ (0) ≤ (u0_8) by omega))
        refine w_icmpne (t := 105) rfl rfl (show inr (z15) by omega) (show inr (1) by omega) (fun b40 => ?_) (fun b40 => ?_)
        · refine Ew_of (pcₚ := 106) (fun _ => x_iload_n rfl rk_s) ?_
          exact hc106 (z16) _ _ _ _  (rk_o (rk_o (rk_o (rfl) rfl rfl) rfl rfl) rfl rfl) (rk_o (rk_s) rfl rfl) (rk_s) H O (SF_refl) (SA_refl)     (show inr (z16) by omega) (show ((z15) ≠ (1) ∧ (z16) = (z16)) ∨ ((z15) = (1) ∧ (z16) = (1)) by omega)
        · refine Ew_of (pcₚ := 102) (fun _ => x_iconst rfl) ?_
          refine Ew_of (pcₚ := 106) (fun _ => x_goto rfl rfl) ?_
          exact hc106 (1) _ _ _ _  (rk_o (rk_o (rk_o (rfl) rfl rfl) rfl rfl) rfl rfl) (rk_o (rk_s) rfl rfl) (rk_s) H O (SF_refl) (SA_refl)     (show inr (1) by omega) (show ((z15) ≠ (1) ∧ (1) = (z16)) ∨ ((z15) = (1) ∧ (1) = (1)) by omega)
      · refine Ew_of (pcₚ := 86) (fun _ => x_aload_n rfl (rk_o (rk_o (rk_o (rfl) rfl rfl) rfl rfl) rfl rfl)) ?_
        refine Ew_of (pcₚ := 88) (fun _ => x_bipush (z := 6) rfl (by decide)) ?_
        refine Ew_of (pcₚ := 89) (fun _ => x_aload_n rfl (rk_o (rk_o (rk_o (rfl) rfl rfl) rfl rfl) rfl rfl)) ?_
        refine v_g H (o := 0) (v := I (u0_9)) rfl rfl rfl rfl rfl (congrArg (fun z : Int => I z) (((((show F18 0 9 = F13 0 9 from (eF18 0 9).trans (hS18 0 9 rfl))).trans ((show F13 0 9 = (updF F 0 18 (0)) 0 9 from (eF13 0 9)))).trans (eu0_9)) : F18 0 9 = u0_9)) ?_
        have r41 : (-2147483648 : Int) ≤ F 0 21 ∧ F 0 21 ≤ 2147483647 := by have h1 : (-2147483648 : Int) ≤ F18 0 21 ∧ F18 0 21 ≤ 2147483647 := H.krg 0 21 (by decide); rw [show F18 0 21 = F 0 21 from (((show F18 0 21 = F13 0 21 from (eF18 0 21).trans (hS18 0 21 rfl))).trans ((show F13 0 21 = (updF F 0 18 (0)) 0 21 from (eF13 0 21))))] at h1; exact h1
        refine v_inv H (o := 0) rfl rfl rfl rfl rfl rfl (by rfl) (C232 (D := pul [0] D) (N := pul [0] N) (HW_sub H (VS_of (show vsub V243 V232 [0] = true by decide +kernel))) (F 0 21) ((((show F18 0 21 = F13 0 21 from (eF18 0 21).trans (hS18 0 21 rfl))).trans ((show F13 0 21 = (updF F 0 18 (0)) 0 21 from (eF13 0 21))))) (show inr (6) by omega) (show inr (u0_9) by omega) (fun z42 σ42 F42ₚ A42ₚ Hₚ Oₚ hS42 hA42 y42_0_21 ey42_0_21 pz42_0 pz42_1 pz42_2 => ⟨rfl, ?_⟩))
        replace ey42_0_21 := HIDm ey42_0_21
        refine v_back (c := c) (s := s) H (show vsub V243 V232 [0] = true by decide +kernel) Hₚ Oₚ (fun F42 A42 H Oₚ eF42 eA42 => ?_)
        have O := OUT_trans O Oₚ
        -- Unpacker.fail
        have r43 : (-2147483648 : Int) ≤ y42_0_21 ∧ y42_0_21 ≤ 2147483647 := by have h1 : (-2147483648 : Int) ≤ F42 0 21 ∧ F42 0 21 ≤ 2147483647 := H.krg 0 21 (by decide); rw [show F42 0 21 = y42_0_21 from ((eF42 0 21).trans ey42_0_21)] at h1; exact h1
        exact w_ireturn rfl (k (z42) _ _ _ _ _ _ _ H O (SD_refl) (SD_refl) (SF_trans (SF_trans (SF_trans (SF_upd (SF_refl) rfl) (SF_glu (ι := [1]) hS13 eF13 (by decide +kernel)) (any_sub (lₚ := []) rfl)) (SF_glu (ι := [0]) hS18 eF18 (by decide +kernel)) (any_sub (lₚ := []) rfl)) (SF_glu (ι := [0]) hS42 eF42 (by decide +kernel)) (any_sub (lₚ := [(0, 21)]) rfl)) (SA_trans (SA_trans (SA_trans (SA_upd (SA_refl) rfl) (SA_glu (ι := [1]) hA13 eA13 (by decide +kernel)) (any_subA (lₚ := []) rfl)) (SA_glu (ι := [0]) hA18 eA18 (by decide +kernel)) (any_subA (lₚ := []) rfl)) (SA_glu (ι := [0]) hA42 eA42 (by decide +kernel)) (any_subA (lₚ := []) rfl)) ((((((show F42 2 0 = F18 2 0 from (eF42 2 0))).trans ((show F18 2 0 = F13 2 0 from (eF18 2 0)))).trans ((show F13 2 0 = (updF F 0 18 (0)) 2 0 from (eF13 2 0))))).trans (pf3)) (n3) (en3) (u0_9) ((((((show F42 0 9 = F18 0 9 from (eF42 0 9).trans (hS42 0 9 rfl))).trans ((show F18 0 9 = F13 0 9 from (eF18 0 9).trans (hS18 0 9 rfl)))).trans ((show F13 0 9 = (updF F 0 18 (0)) 0 9 from (eF13 0 9)))).trans (eu0_9))) (0) (((((show F42 0 18 = F18 0 18 from (eF42 0 18).trans (hS42 0 18 rfl))).trans ((show F18 0 18 = F13 0 18 from (eF18 0 18).trans (hS18 0 18 rfl)))).trans ((show F13 0 18 = (updF F 0 18 (0)) 0 18 from (eF13 0 18))))) (u2_1) ((((((show F42 2 1 = F18 2 1 from (eF42 2 1))).trans ((show F18 2 1 = F13 2 1 from (eF18 2 1)))).trans ((show F13 2 1 = (updF F 0 18 (0)) 2 1 from (eF13 2 1)))).trans (eu2_1))) (show inr (z42) by omega) (show 0 ≤ (z42) ∧ (z42) ≤ 17 by omega) (show 0 ≤ (u0_9) ∧ (u0_9) ≤ (u0_9) ∧ (u0_9) ≤ (u0_8) by omega) (show 0 ≤ (u2_1) ∧ (u2_1) ≤ (n3) ∧ (n3) ≤ 65536 by omega) (show (u2_1) ≤ (u2_1) ∧ (u2_1) ≤ (u0_11) by omega) (show (0) = 0 ∨ (u0_9) ≤ (0) ∧ (0) ≤ (u0_8) by omega))
    · refine Ew_of (pcₚ := 68) (fun _ => x_aload_n rfl (rk_o (rk_o (rk_o (rfl) rfl rfl) rfl rfl) rfl rfl)) ?_
      refine Ew_of (pcₚ := 69) (fun _ => x_iconst rfl) ?_
      refine Ew_of (pcₚ := 70) (fun _ => x_aload_n rfl (rk_o (rk_o (rk_o (rfl) rfl rfl) rfl rfl) rfl rfl)) ?_
      refine v_g H (o := 0) (v := I (u0_9)) rfl rfl rfl rfl rfl (congrArg (fun z : Int => I z) ((((show F13 0 9 = (updF F 0 18 (0)) 0 9 from (eF13 0 9))).trans (eu0_9)) : F13 0 9 = u0_9)) ?_
      have r44 : (-2147483648 : Int) ≤ F 0 21 ∧ F 0 21 ≤ 2147483647 := by have h1 : (-2147483648 : Int) ≤ F13 0 21 ∧ F13 0 21 ≤ 2147483647 := H.krg 0 21 (by decide); rw [show F13 0 21 = F 0 21 from ((show F13 0 21 = (updF F 0 18 (0)) 0 21 from (eF13 0 21)))] at h1; exact h1
      refine v_inv H (o := 0) rfl rfl rfl rfl rfl rfl (by rfl) (C232 (D := pul [0] D) (N := pul [0] N) (HW_sub H (VS_of (show vsub V243 V232 [0] = true by decide +kernel))) (F 0 21) (((show F13 0 21 = (updF F 0 18 (0)) 0 21 from (eF13 0 21)))) (show inr (5) by omega) (show inr (u0_9) by omega) (fun z45 σ45 F45ₚ A45ₚ Hₚ Oₚ hS45 hA45 y45_0_21 ey45_0_21 pz45_0 pz45_1 pz45_2 => ⟨rfl, ?_⟩))
      replace ey45_0_21 := HIDm ey45_0_21
      refine v_back (c := c) (s := s) H (show vsub V243 V232 [0] = true by decide +kernel) Hₚ Oₚ (fun F45 A45 H Oₚ eF45 eA45 => ?_)
      have O := OUT_trans O Oₚ
      -- Unpacker.fail
      have r46 : (-2147483648 : Int) ≤ y45_0_21 ∧ y45_0_21 ≤ 2147483647 := by have h1 : (-2147483648 : Int) ≤ F45 0 21 ∧ F45 0 21 ≤ 2147483647 := H.krg 0 21 (by decide); rw [show F45 0 21 = y45_0_21 from ((eF45 0 21).trans ey45_0_21)] at h1; exact h1
      exact w_ireturn rfl (k (z45) _ _ _ _ _ _ _ H O (SD_refl) (SD_refl) (SF_trans (SF_trans (SF_upd (SF_refl) rfl) (SF_glu (ι := [1]) hS13 eF13 (by decide +kernel)) (any_sub (lₚ := []) rfl)) (SF_glu (ι := [0]) hS45 eF45 (by decide +kernel)) (any_sub (lₚ := [(0, 21)]) rfl)) (SA_trans (SA_trans (SA_upd (SA_refl) rfl) (SA_glu (ι := [1]) hA13 eA13 (by decide +kernel)) (any_subA (lₚ := []) rfl)) (SA_glu (ι := [0]) hA45 eA45 (by decide +kernel)) (any_subA (lₚ := []) rfl)) (((((show F45 2 0 = F13 2 0 from (eF45 2 0))).trans ((show F13 2 0 = (updF F 0 18 (0)) 2 0 from (eF13 2 0))))).trans (pf3)) (n3) (en3) (u0_9) (((((show F45 0 9 = F13 0 9 from (eF45 0 9).trans (hS45 0 9 rfl))).trans ((show F13 0 9 = (updF F 0 18 (0)) 0 9 from (eF13 0 9)))).trans (eu0_9))) (0) ((((show F45 0 18 = F13 0 18 from (eF45 0 18).trans (hS45 0 18 rfl))).trans ((show F13 0 18 = (updF F 0 18 (0)) 0 18 from (eF13 0 18))))) (u2_1) (((((show F45 2 1 = F13 2 1 from (eF45 2 1))).trans ((show F13 2 1 = (updF F 0 18 (0)) 2 1 from (eF13 2 1)))).trans (eu2_1))) (show inr (z45) by omega) (show 0 ≤ (z45) ∧ (z45) ≤ 17 by omega) (show 0 ≤ (u0_9) ∧ (u0_9) ≤ (u0_9) ∧ (u0_9) ≤ (u0_8) by omega) (show 0 ≤ (u2_1) ∧ (u2_1) ≤ (n3) ∧ (n3) ≤ 65536 by omega) (show (u2_1) ≤ (u2_1) ∧ (u2_1) ≤ (u0_11) by omega) (show (0) = 0 ∨ (u0_9) ≤ (0) ∧ (0) ≤ (u0_8) by omega))
  · refine Ew_of (pcₚ := 19) (fun _ => x_aload_n rfl rfl) ?_
    refine Ew_of (pcₚ := 20) (fun _ => x_iconst rfl) ?_
    refine Ew_of (pcₚ := 21) (fun _ => x_aload_n rfl rfl) ?_
    refine v_g H (o := 0) (v := I (u0_8)) rfl rfl rfl rfl rfl (congrArg (fun z : Int => I z) ((eu0_8) : (updF F 0 18 (0)) 0 8 = u0_8)) ?_
    have r47 : (-2147483648 : Int) ≤ F 0 21 ∧ F 0 21 ≤ 2147483647 := by have h1 : (-2147483648 : Int) ≤ (updF F 0 18 (0)) 0 21 ∧ (updF F 0 18 (0)) 0 21 ≤ 2147483647 := H.krg 0 21 (by decide); rw [show (updF F 0 18 (0)) 0 21 = F 0 21 from rfl] at h1; exact h1
    refine v_inv H (o := 0) rfl rfl rfl rfl rfl rfl (by rfl) (C232 (D := pul [0] D) (N := pul [0] N) (HW_sub H (VS_of (show vsub V243 V232 [0] = true by decide +kernel))) (F 0 21) (rfl) (show inr (1) by omega) (show inr (u0_8) by omega) (fun z48 σ48 F48ₚ A48ₚ Hₚ Oₚ hS48 hA48 y48_0_21 ey48_0_21 pz48_0 pz48_1 pz48_2 => ⟨rfl, ?_⟩))
    replace ey48_0_21 := HIDm ey48_0_21
    refine v_back (c := c) (s := s) H (show vsub V243 V232 [0] = true by decide +kernel) Hₚ Oₚ (fun F48 A48 H Oₚ eF48 eA48 => ?_)
    have O := OUT_trans O Oₚ
    -- Unpacker.fail
    have r49 : (-2147483648 : Int) ≤ y48_0_21 ∧ y48_0_21 ≤ 2147483647 := by have h1 : (-2147483648 : Int) ≤ F48 0 21 ∧ F48 0 21 ≤ 2147483647 := H.krg 0 21 (by decide); rw [show F48 0 21 = y48_0_21 from ((eF48 0 21).trans ey48_0_21)] at h1; exact h1
    exact w_ireturn rfl (k (z48) _ _ _ _ _ _ _ H O (SD_refl) (SD_refl) (SF_trans (SF_upd (SF_refl) rfl) (SF_glu (ι := [0]) hS48 eF48 (by decide +kernel)) (any_sub (lₚ := [(0, 21)]) rfl)) (SA_trans (SA_refl) (SA_glu (ι := [0]) hA48 eA48 (by decide +kernel)) (any_subA (lₚ := []) rfl)) ((((show F48 2 0 = (updF F 0 18 (0)) 2 0 from (eF48 2 0)))).trans (pf3)) (n3) (en3) (u0_9) ((((show F48 0 9 = (updF F 0 18 (0)) 0 9 from (eF48 0 9).trans (hS48 0 9 rfl))).trans (eu0_9))) (0) (((show F48 0 18 = (updF F 0 18 (0)) 0 18 from (eF48 0 18).trans (hS48 0 18 rfl)))) (u2_1) ((((show F48 2 1 = (updF F 0 18 (0)) 2 1 from (eF48 2 1))).trans (eu2_1))) (show inr (z48) by omega) (show 0 ≤ (z48) ∧ (z48) ≤ 17 by omega) (show 0 ≤ (u0_9) ∧ (u0_9) ≤ (u0_9) ∧ (u0_9) ≤ (u0_8) by omega) (show 0 ≤ (u2_1) ∧ (u2_1) ≤ (n3) ∧ (n3) ≤ 65536 by omega) (show (u2_1) ≤ (u2_1) ∧ (u2_1) ≤ (u0_11) by omega) (show (0) = 0 ∨ (u0_9) ≤ (0) ∧ (0) ≤ (u0_8) by omega))
abbrev V244 : vV := [(0, 12, [(4, 0), (4, 0), (4, 0), (4, 0), (4, 0), (4, 0), (4, 0), (4, 0), (0, 0), (0, 0), (4, 0), (0, 0), (4, 0), (4, 0), (0, 0), (2, 0), (0, 0), (0, 0), (0, 0), (0, 0), (0, 0), (0, 0)]), (1, 0, []), (0, 7, [(4, 0), (0, 0), (1, 0), (0, 0), (0, 0)]), (1, 0, [])]
set_option maxHeartbeats 16000000 in
/-- Unpacker.unpackPlain: this, this.in, this.literals, this.literals.bytes -/
theorem C244 {σE : rS} {D N : Nat → Nat} {F : hF} {A : hA} {d c s : Nat} {Q : wQ} (H : HW V244 σE D N F A)  (pf1 : F 0 7 = (D 1 : Int)) (pf2 : F 0 4 = (D 2 : Int)) (pf3 : F 2 0 = (D 3 : Int)) (n1 : Int) (en1 : (N 1 : Int) = n1) (n3 : Int) (en3 : (N 3 : Int) = n3) (u0_8 : Int) (eu0_8 : F 0 8 = u0_8) (u0_9 : Int) (eu0_9 : F 0 9 = u0_9) (u0_15 : Int) (eu0_15 : F 0 15 = u0_15) (u0_18 : Int) (eu0_18 : F 0 18 = u0_18) (u0_19 : Int) (eu0_19 : F 0 19 = u0_19) (u2_1 : Int) (eu2_1 : F 2 1 = u2_1) (h0 : 0 ≤ (u0_9) ∧ (u0_9) ≤ (u0_8) ∧ (u0_8) ≤ (n1) ∧ (n1) ≤ 65536) (h1 : (u0_9) ≤ (u0_18) ∧ (u0_18) ≤ (u0_8)) (h2 : 0 ≤ (u2_1) ∧ (u2_1) ≤ (n3) ∧ (n3) ≤ 65536) (h3 : (u2_1) = 0) (h4 : 0 ≤ (u0_15)) (k : ∀ (z : Int) (σ : rS) (Dₚ Nₚ : Nat → Nat) (Fₚ : hF) (Aₚ : hA) (cₚ sₚ : Nat), HW V244 σ Dₚ Nₚ Fₚ Aₚ → OUT (V244).length D N σE c s Dₚ Nₚ σ cₚ sₚ → SD [3] D Dₚ → SD [3] N Nₚ → SF [(0, 9), (0, 19), (0, 21), (2, 0), (2, 1), (2, 2)] F Fₚ → SA [3] A Aₚ → Fₚ 2 0 = (Dₚ 3 : Int) → ∀ m3 : Int, (Nₚ 3 : Int) = m3 → ∀ y0_9 : Int, Fₚ 0 9 = y0_9 → ∀ y0_19 : Int, Fₚ 0 19 = y0_19 → ∀ y2_1 : Int, Fₚ 2 1 = y2_1 → (inr (z)) → (0 ≤ (z) ∧ (z) ≤ 17) → (0 ≤ (y0_9) ∧ (u0_9) ≤ (y0_9) ∧ (y0_9) ≤ (u0_8)) → ((y0_9) ≤ (u0_18)) → (0 ≤ (y2_1) ∧ (y2_1) ≤ (m3) ∧ (m3) ≤ 65536) → ((z) ≠ 0 ∨ 0 ≤ (y0_19) ∧ (y0_19) ≤ 131072 ∧ ((y0_19) ≤ (m3) ∨ (m3) = 65536)) → Q (some (I z)) σ cₚ sₚ) : Ew 244 (d + 3) 0 (rargs 0 [.ref (D 0)]) [] σE c s Q := by
  have O := OUT_refl (n := (V244).length) (D := D) (N := N) (σ := σE) (c := c) (s := s)
  have HE := H
  have r1 : (-2147483648 : Int) ≤ u0_8 ∧ u0_8 ≤ 2147483647 := by have h1 : (-2147483648 : Int) ≤ F 0 8 ∧ F 0 8 ≤ 2147483647 := H.krg 0 8 (by decide); rw [show F 0 8 = u0_8 from (eu0_8)] at h1; exact h1
  have r2 : (-2147483648 : Int) ≤ u0_9 ∧ u0_9 ≤ 2147483647 := by have h1 : (-2147483648 : Int) ≤ F 0 9 ∧ F 0 9 ≤ 2147483647 := H.krg 0 9 (by decide); rw [show F 0 9 = u0_9 from (eu0_9)] at h1; exact h1
  have r3 : (-9223372036854775808 : Int) ≤ u0_15 ∧ u0_15 ≤ 9223372036854775807 := by have h1 : (-9223372036854775808 : Int) ≤ F 0 15 ∧ F 0 15 ≤ 9223372036854775807 := H.krg 0 15 (by decide); rw [show F 0 15 = u0_15 from (eu0_15)] at h1; exact h1
  have r4 : (-2147483648 : Int) ≤ u0_18 ∧ u0_18 ≤ 2147483647 := by have h1 : (-2147483648 : Int) ≤ F 0 18 ∧ F 0 18 ≤ 2147483647 := H.krg 0 18 (by decide); rw [show F 0 18 = u0_18 from (eu0_18)] at h1; exact h1
  have r5 : (-2147483648 : Int) ≤ u0_19 ∧ u0_19 ≤ 2147483647 := by have h1 : (-2147483648 : Int) ≤ F 0 19 ∧ F 0 19 ≤ 2147483647 := H.krg 0 19 (by decide); rw [show F 0 19 = u0_19 from (eu0_19)] at h1; exact h1
  have r6 : (-2147483648 : Int) ≤ u2_1 ∧ u2_1 ≤ 2147483647 := by have h1 : (-2147483648 : Int) ≤ F 2 1 ∧ F 2 1 ≤ 2147483647 := H.krg 2 1 (by decide); rw [show F 2 1 = u2_1 from (eu2_1)] at h1; exact h1
  replace pf1 := HIDm pf1
  replace pf2 := HIDm pf2
  replace pf3 := HIDm pf3
  replace en1 := HIDm en1
  replace en3 := HIDm en3
  replace eu0_8 := HIDm eu0_8
  replace eu0_9 := HIDm eu0_9
  replace eu0_15 := HIDm eu0_15
  replace eu0_18 := HIDm eu0_18
  replace eu0_19 := HIDm eu0_19
  replace eu2_1 := HIDm eu2_1
  have r7 : (0 : Int) ≤ n1 ∧ n1 ≤ 1000000 := by have h1 := H.nle 1 (by decide); have h2 : (N 1 : Int) = n1 := en1; omega
  have r8 : (0 : Int) ≤ n3 ∧ n3 ≤ 1000000 := by have h1 := H.nle 3 (by decide); have h2 : (N 3 : Int) = n3 := en3; omega
  refine Ew_of (pcₚ := 1) (fun _ => x_aload_n rfl rfl) ?_
  refine v_g H (o := 0) (v := I (u0_9)) rfl rfl rfl rfl rfl (congrArg (fun z : Int => I z) ((eu0_9) : F 0 9 = u0_9)) ?_
  refine Ew_of (pcₚ := 5) (fun _ => x_aload_n rfl rfl) ?_
  refine v_g H (o := 0) (v := I (u0_18)) rfl rfl rfl rfl rfl (congrArg (fun z : Int => I z) ((eu0_18) : F 0 18 = u0_18)) ?_
  refine w_icmplt (t := 22) rfl rfl (show inr (u0_9) by omega) (show inr (u0_18) by omega) (fun b9 => ?_) (fun b9 => ?_)
  · refine Ew_of (pcₚ := 23) (fun _ => x_aload_n rfl rfl) ?_
    refine v_g H (o := 0) (v := .ref (D 1)) rfl rfl rfl rfl rfl (vrf (pf1)) ?_
    refine Ew_of (pcₚ := 27) (fun _ => x_aload_n rfl rfl) ?_
    refine v_g H (o := 0) (v := I (u0_9)) rfl rfl rfl rfl rfl (congrArg (fun z : Int => I z) ((eu0_9) : F 0 9 = u0_9)) ?_
    refine v_lB H (o := 1) rfl rfl rfl rfl (n := n1) (en1) (show 0 ≤ u0_9 ∧ u0_9 < n1 by omega) (fun v10 ev10 qv10 => ?_)
    have ev10 : (A 1) (u0_9) = v10 := (congrFun (rfl : A 1 = A 1) (u0_9)).symm.trans ev10
    refine Ew_of (pcₚ := 34) (fun _ => x_sipush (z := 255) rfl (by decide)) ?_
    refine w_iand rfl (show inr (v10) by omega) (show inr (255) by omega) (fun z11 gz11 gaz11 gbz11 => ?_)
    refine Ew_of (pcₚ := 36) (fun _ => x_istore_n rfl) ?_
    refine Ew_of (pcₚ := 37) (fun _ => x_iload_n rfl rk_s) ?_
    refine Ew_of (pcₚ := 38) (fun _ => x_iconst rfl) ?_
    refine w_ishrK 2 4 (by decide) (by decide) rfl (show inr (z11) by omega) (fun z12 gz12 dz12 => ?_)
    refine Ew_of (pcₚ := 40) (fun _ => x_iconst rfl) ?_
    refine w_iand rfl (show inr (z12) by omega) (show inr (3) by omega) (fun z13 gz13 gaz13 gbz13 => ?_)
    refine Ew_of (pcₚ := 42) (fun _ => x_istore_n rfl) ?_
    refine Ew_of (pcₚ := 43) (fun _ => x_iload_n rfl rk_s) ?_
    refine Ew_of (pcₚ := 44) (fun _ => x_iconst rfl) ?_
    refine w_irem rfl (show inr (z13) ∧ 0 ≤ z13 by omega) (show inr (2) ∧ 0 < 2 by omega) ?_
    have hc62 : ∀ (tc62_0 : Int), ∀ (ls : rO) (σ : rS) (F_c62 : hF) (A_c62 : hA) , rlook ls 0 = some (.ref (D 0)) → rlook ls 1 = some (I (z11)) → HW V244 σ D N F_c62 A_c62 → OUT (V244).length D N σE c s D N σ c s → SF [] F F_c62 → SA [] A A_c62 → (inr (tc62_0)) → ((((z13 % 2)) ≠ (0) ∧ (z13) ≠ (1) ∧ (tc62_0) = (3)) ∨ (((z13 % 2)) ≠ (0) ∧ (z13) = (1) ∧ (tc62_0) = (2)) ∨ (((z13 % 2)) = (0) ∧ (tc62_0) = (1))) → Ew 244 (d + 3) 62 ls [I (tc62_0)] σ c s Q := by
     as_aux_lemma =>
      intro tc62_0 ls σ F_c62 A_c62  lc62_0 lc62_1 H O hS_c62 hA_c62     jc62_0 jc62_1
      refine Ew_of (pcₚ := 63) (fun _ => x_istore_n rfl) ?_
      refine Ew_of (pcₚ := 64) (fun _ => x_aload_n rfl (rk_o (lc62_0) rfl rfl)) ?_
      refine v_g H (o := 0) (v := I (u0_18)) rfl rfl rfl rfl rfl (congrArg (fun z : Int => I z) (((hS_c62 0 18 rfl).trans (eu0_18)) : F_c62 0 18 = u0_18)) ?_
      refine Ew_of (pcₚ := 68) (fun _ => x_aload_n rfl (rk_o (lc62_0) rfl rfl)) ?_
      refine v_g H (o := 0) (v := I (u0_9)) rfl rfl rfl rfl rfl (congrArg (fun z : Int => I z) (((hS_c62 0 9 rfl).trans (eu0_9)) : F_c62 0 9 = u0_9)) ?_
      refine w_isub rfl ?_
      refine Ew_of (pcₚ := 73) (fun _ => x_iload_n rfl rk_s) ?_
      refine w_icmpge (t := 87) rfl rfl (show inr ((u0_18 - u0_9)) by omega) (show inr (tc62_0) by omega) (fun b14 => ?_) (fun b14 => ?_)
      · refine Ew_of (pcₚ := 88) (fun _ => x_aload_n rfl (rk_o (lc62_0) rfl rfl)) ?_
        refine v_g H (o := 0) (v := .ref (D 1)) rfl rfl rfl rfl rfl (vrf (((hS_c62 0 7 rfl)).trans (pf1))) ?_
        refine Ew_of (pcₚ := 92) (fun _ => x_aload_n rfl (rk_o (lc62_0) rfl rfl)) ?_
        refine v_g H (o := 0) (v := I (u0_9)) rfl rfl rfl rfl rfl (congrArg (fun z : Int => I z) (((hS_c62 0 9 rfl).trans (eu0_9)) : F_c62 0 9 = u0_9)) ?_
        refine Ew_of (pcₚ := 96) (fun _ => x_iload_n rfl rk_s) ?_
        refine w_stat25 rfl rfl (by rfl) (C42_Brf (D := pul [1] D) (N := pul [1] N) (HW_sub H (VS_of (show vsub V244 V42_Br [1] = true by decide +kernel))) (n1) (en1) (A 1) (funext (hA_c62 1 rfl)) (show inr (u0_9) by omega) (show inr (tc62_0) by omega) (show (tc62_0) ≤ 0 ∨ 0 ≤ (u0_9) ∧ (u0_9) + (tc62_0) ≤ (n1) by omega) (show 0 ≤ (tc62_0) ∧ (tc62_0) ≤ 8 by omega) (fun z15 σ15 F15ₚ A15ₚ Hₚ Oₚ hS15 hA15 pz15_0 pz15_1 pz15_2 => ⟨rfl, ?_⟩))
        refine v_back (c := c) (s := s) H (show vsub V244 V42_Br [1] = true by decide +kernel) Hₚ Oₚ (fun F15 A15 H Oₚ eF15 eA15 => ?_)
        have O := OUT_trans O Oₚ
        -- PackHouse.number
        have hnb : 0 ≤ ((z15) : Int) ∧ (z15) ≤ 16777215 := nb3 (NBY_up pz15_1 (by omega) (by omega))
        refine Ew_of (pcₚ := 100) (fun _ => x_iload_n rfl rk_s) ?_
        refine Ew_of (pcₚ := 101) (fun _ => x_iconst rfl) ?_
        have hc109 : ∀ (tc109_0 : Int), ∀ (ls : rO) (σ : rS) (F_c109 : hF) (A_c109 : hA) , rlook ls 0 = some (.ref (D 0)) → rlook ls 1 = some (I (z11)) → rlook ls 3 = some (I (tc62_0)) → HW V244 σ D N F_c109 A_c109 → OUT (V244).length D N σE c s D N σ c s → SF [] F15 F_c109 → SA [] A15 A_c109 → (inr (tc109_0)) → (((tc62_0) ≠ (1) ∧ (tc109_0) = (4)) ∨ ((tc62_0) = (1) ∧ (tc109_0) = (3))) → Ew 244 (d + 3) 109 ls [I (tc109_0), J (z15)] σ c s Q := by
         as_aux_lemma =>
          intro tc109_0 ls σ F_c109 A_c109  lc109_0 lc109_1 lc109_3 H O hS_c109 hA_c109     jc109_0 jc109_1
          have hy : p2 ((tc109_0)) = 8 ∨ p2 ((tc109_0)) = 16 := by rcases (show ((tc109_0) : Int) = 3 ∨ ((tc109_0) : Int) = 4 by omega) with q | q <;> rw [q] <;> decide
          have hdv : 0 ≤ ((z15) : Int) / p2 ((tc109_0)) ∧ ((z15) : Int) / p2 ((tc109_0)) ≤ 2097152 := by rcases hy with q | q <;> rw [q] <;> omega
          refine w_lshrX rfl (show inrJ (z15) by omega) (fun z16 gz16 dz16 => ?_)
          have hzz : 0 ≤ ((z16) : Int) ∧ (z16) ≤ 2097152 := by omega
          refine w_l2i rfl ?_
          refine Ew_of (pcₚ := 113) (fun _ => x_istore rfl) ?_
          refine Ew_of (pcₚ := 115) (fun _ => x_iload rfl rk_s) ?_
          refine Ew_of (pcₚ := 116) (fun _ => x_aload_n rfl (rk_o (lc109_0) rfl rfl)) ?_
          refine v_inv H (o := 0) rfl rfl rfl rfl rfl rfl (by rfl) (C234 (D := pul [0] D) (N := pul [0] N) (HW_sub H (VS_of (show vsub V244 V234 [0] = true by decide +kernel))) (u0_15) (((((hS_c109 0 15 rfl).trans ((show F15 0 15 = F_c62 0 15 from (eF15 0 15)))).trans (hS_c62 0 15 rfl)).trans (eu0_15))) (show 0 ≤ (u0_15) by omega) (fun z17 σ17 F17ₚ A17ₚ Hₚ Oₚ hS17 hA17 pz17_0 pz17_1 => ⟨rfl, ?_⟩))
          refine v_back (c := c) (s := s) H (show vsub V244 V234 [0] = true by decide +kernel) Hₚ Oₚ (fun F17 A17 H Oₚ eF17 eA17 => ?_)
          have O := OUT_trans O Oₚ
          -- Unpacker.blockMost
          refine w_icmple (t := 133) rfl rfl (show inr (z16) by omega) (show inr (z17) by omega) (fun b18 => ?_) (fun b18 => ?_)
          · refine Ew_of (pcₚ := 134) (fun _ => x_aload_n rfl (rk_o (lc109_0) rfl rfl)) ?_
            refine Ew_of (pcₚ := 135) (fun _ => x_dup rfl rfl) ?_
            refine v_g H (o := 0) (v := I (u0_9)) rfl rfl rfl rfl rfl (congrArg (fun z : Int => I z) (((((((show F17 0 9 = F_c109 0 9 from (eF17 0 9).trans (hS17 0 9 rfl))).trans (hS_c109 0 9 rfl)).trans ((show F15 0 9 = F_c62 0 9 from (eF15 0 9)))).trans (hS_c62 0 9 rfl)).trans (eu0_9)) : F17 0 9 = u0_9)) ?_
            refine Ew_of (pcₚ := 139) (fun _ => x_iload_n rfl (rk_o (lc109_3) rfl rfl)) ?_
            refine w_iadd rfl ?_
            refine v_p H (o := 0) (z := (u0_9 + tc62_0)) (v := I ((u0_9 + tc62_0))) rfl rfl rfl rfl rfl rfl rfl rfl (show (-2147483648 : Int) ≤ (u0_9 + tc62_0) ∧ (u0_9 + tc62_0) ≤ 2147483647 by omega) (fun σ H Oₚ => ?_)
            have O := OUT_trans O Oₚ
            refine Ew_of (pcₚ := 144) (fun _ => x_iload_n rfl (rk_o (lc109_1) rfl rfl)) ?_
            refine Ew_of (pcₚ := 145) (fun _ => x_iconst rfl) ?_
            refine w_iand rfl (show inr (z11) by omega) (show inr (3) by omega) (fun z19 gz19 gaz19 gbz19 => ?_)
            have hc154 : ∀ (tc154_0 : Int), ∀ (ls : rO) (σ : rS) (F_c154 : hF) (A_c154 : hA) , rlook ls 0 = some (.ref (D 0)) → rlook ls 4 = some (I (z16)) → HW V244 σ D N F_c154 A_c154 → OUT (V244).length D N σE c s D N σ c s → SF [] (updF F17 0 9 ((u0_9 + tc62_0))) F_c154 → SA [] A17 A_c154 → (inr (tc154_0)) → (((z19) ≠ (0) ∧ (tc154_0) = (0)) ∨ ((z19) = (0) ∧ (tc154_0) = (1))) → Ew 244 (d + 3) 154 ls [I (tc154_0)] σ c s Q := by
             as_aux_lemma =>
              intro tc154_0 ls σ F_c154 A_c154  lc154_0 lc154_4 H O hS_c154 hA_c154     jc154_0 jc154_1
              refine Ew_of (pcₚ := 156) (fun _ => x_istore rfl) ?_
              refine Ew_of (pcₚ := 158) (fun _ => x_iload rfl rk_s) ?_
              have hc167 : ∀ (tc167_0 : Int), ∀ (ls : rO) (σ : rS) (F_c167 : hF) (A_c167 : hA) , rlook ls 0 = some (.ref (D 0)) → rlook ls 4 = some (I (z16)) → rlook ls 5 = some (I (tc154_0)) → HW V244 σ D N F_c167 A_c167 → OUT (V244).length D N σE c s D N σ c s → SF [] F_c154 F_c167 → SA [] A_c154 A_c167 → (inr (tc167_0)) → (((tc154_0) = (0) ∧ (tc167_0) = (1)) ∨ ((tc154_0) ≠ (0) ∧ (tc167_0) = (z16))) → Ew 244 (d + 3) 167 ls [I (tc167_0)] σ c s Q := by
               as_aux_lemma =>
                intro tc167_0 ls σ F_c167 A_c167  lc167_0 lc167_4 lc167_5 H O hS_c167 hA_c167     jc167_0 jc167_1
                refine Ew_of (pcₚ := 169) (fun _ => x_istore rfl) ?_
                refine Ew_of (pcₚ := 170) (fun _ => x_aload_n rfl (rk_o (lc167_0) rfl rfl)) ?_
                refine v_g H (o := 0) (v := I (u0_18)) rfl rfl rfl rfl rfl (congrArg (fun z : Int => I z) ((((((((hS_c167 0 18 rfl).trans (hS_c154 0 18 rfl)).trans ((show F17 0 18 = F_c109 0 18 from (eF17 0 18).trans (hS17 0 18 rfl)))).trans (hS_c109 0 18 rfl)).trans ((show F15 0 18 = F_c62 0 18 from (eF15 0 18)))).trans (hS_c62 0 18 rfl)).trans (eu0_18)) : F_c167 0 18 = u0_18)) ?_
                refine Ew_of (pcₚ := 174) (fun _ => x_aload_n rfl (rk_o (lc167_0) rfl rfl)) ?_
                refine v_g H (o := 0) (v := I ((u0_9 + tc62_0))) rfl rfl rfl rfl rfl (congrArg (fun z : Int => I z) (((hS_c167 0 9 rfl).trans (hS_c154 0 9 rfl)) : F_c167 0 9 = (u0_9 + tc62_0))) ?_
                refine w_isub rfl ?_
                refine Ew_of (pcₚ := 180) (fun _ => x_iload rfl rk_s) ?_
                refine w_icmpge (t := 194) rfl rfl (show inr ((u0_18 - (u0_9 + tc62_0))) by omega) (show inr (tc167_0) by omega) (fun b20 => ?_) (fun b20 => ?_)
                · refine Ew_of (pcₚ := 195) (fun _ => x_aload_n rfl (rk_o (lc167_0) rfl rfl)) ?_
                  refine Ew_of (pcₚ := 197) (fun _ => x_iload rfl (rk_o (lc167_4) rfl rfl)) ?_
                  refine v_p H (o := 0) (z := z16) (v := I (z16)) rfl rfl rfl rfl rfl rfl rfl rfl (show (-2147483648 : Int) ≤ z16 ∧ z16 ≤ 2147483647 by omega) (fun σ H Oₚ => ?_)
                  have O := OUT_trans O Oₚ
                  have hc248 : ∀ (ls : rO) (σ : rS) (D_c248 N_c248 : Nat → Nat) (c_c248 s_c248 : Nat) (F_c248 : hF) (A_c248 : hA) , rlook ls 0 = some (.ref (D_c248 0)) → rlook ls 6 = some (I (tc167_0)) → HW V244 σ D_c248 N_c248 F_c248 A_c248 → OUT (V244).length D N σE c s D_c248 N_c248 σ c_c248 s_c248 → SD [3] D D_c248 → SD [3] N N_c248 → SF [(2, 0), (2, 1), (2, 2)] (updF F_c167 0 19 (z16)) F_c248 → SA [3] A_c167 A_c248 → F_c248 2 0 = (D_c248 3 : Int) → ∀ mc248_3 : Int, (N_c248 3 : Int) = mc248_3 → ∀ yc248_2_1 : Int, F_c248 2 1 = yc248_2_1 → (0 ≤ (yc248_2_1) ∧ (yc248_2_1) ≤ (mc248_3) ∧ (mc248_3) ≤ 65536) → (((z16) ≤ (mc248_3) ∨ (mc248_3) = 65536)) → Ew 244 (d + 3) 248 ls [] σ c_c248 s_c248 Q := by
                   as_aux_lemma =>
                    intro  ls σ D_c248 N_c248 c_c248 s_c248 F_c248 A_c248  lc248_0 lc248_6 H O hD_c248 hN_c248 hS_c248 hA_c248 pmc248_3 mc248_3 emc248_3 yc248_2_1 eyc248_2_1  jc248_0 jc248_1
                    replace pmc248_3 := HIDm pmc248_3
                    replace emc248_3 := HIDm emc248_3
                    replace eyc248_2_1 := HIDm eyc248_2_1
                    have pf_c248_0_4 : HID (F_c248 0 4 = (D_c248 2 : Int)) := (hS_c248 0 4 rfl).trans (((((((((hS_c167 0 4 rfl).trans (hS_c154 0 4 rfl)).trans ((show F17 0 4 = F_c109 0 4 from (eF17 0 4).trans (hS17 0 4 rfl)))).trans (hS_c109 0 4 rfl)).trans ((show F15 0 4 = F_c62 0 4 from (eF15 0 4)))).trans (hS_c62 0 4 rfl))).trans (pf2)).trans (congrArg (fun q : Nat => (q : Int)) (hD_c248 2 rfl).symm))
                    have pf_c248_0_7 : HID (F_c248 0 7 = (D_c248 1 : Int)) := (hS_c248 0 7 rfl).trans (((((((((hS_c167 0 7 rfl).trans (hS_c154 0 7 rfl)).trans ((show F17 0 7 = F_c109 0 7 from (eF17 0 7).trans (hS17 0 7 rfl)))).trans (hS_c109 0 7 rfl)).trans ((show F15 0 7 = F_c62 0 7 from (eF15 0 7)))).trans (hS_c62 0 7 rfl))).trans (pf1)).trans (congrArg (fun q : Nat => (q : Int)) (hD_c248 1 rfl).symm))
                    have r21 : (0 : Int) ≤ mc248_3 ∧ mc248_3 ≤ 1000000 := by have h1 := H.nle 3 (by decide); have h2 : (N_c248 3 : Int) = mc248_3 := emc248_3; omega
                    have r22 : (-2147483648 : Int) ≤ yc248_2_1 ∧ yc248_2_1 ≤ 2147483647 := by have h1 : (-2147483648 : Int) ≤ F_c248 2 1 ∧ F_c248 2 1 ≤ 2147483647 := H.krg 2 1 (by decide); rw [show F_c248 2 1 = yc248_2_1 from (eyc248_2_1)] at h1; exact h1
                    refine Ew_of (pcₚ := 249) (fun _ => x_aload_n rfl lc248_0) ?_
                    refine Ew_of (pcₚ := 250) (fun _ => x_dup rfl rfl) ?_
                    refine v_g H (o := 0) (v := I ((u0_9 + tc62_0))) rfl rfl rfl rfl rfl (congrArg (fun z : Int => I z) ((((hS_c248 0 9 rfl).trans (hS_c167 0 9 rfl)).trans (hS_c154 0 9 rfl)) : F_c248 0 9 = (u0_9 + tc62_0))) ?_
                    refine Ew_of (pcₚ := 255) (fun _ => x_iload rfl lc248_6) ?_
                    refine w_iadd rfl ?_
                    refine v_p H (o := 0) (z := ((u0_9 + tc62_0) + tc167_0)) (v := I (((u0_9 + tc62_0) + tc167_0))) rfl rfl rfl rfl rfl rfl rfl rfl (show (-2147483648 : Int) ≤ ((u0_9 + tc62_0) + tc167_0) ∧ ((u0_9 + tc62_0) + tc167_0) ≤ 2147483647 by omega) (fun σ H Oₚ => ?_)
                    have O := OUT_trans O Oₚ
                    refine Ew_of (pcₚ := 260) (fun _ => x_iconst rfl) ?_
                    exact w_ireturn rfl (k (0) _ _ _ _ _ _ _ H O (SD_trans (SD_refl) hD_c248 (any_subA rfl)) (SD_trans (SD_refl) hN_c248 (any_subA rfl)) (SF_upd (SF_trans (SF_upd (SF_trans (SF_trans (SF_upd (SF_trans (SF_trans (SF_trans (SF_trans (SF_refl) hS_c62 (any_sub rfl)) (SF_glu (ι := [1]) hS15 eF15 (by decide +kernel)) (any_sub (lₚ := []) rfl)) hS_c109 (any_sub rfl)) (SF_glu (ι := [0]) hS17 eF17 (by decide +kernel)) (any_sub (lₚ := []) rfl)) rfl) hS_c154 (any_sub rfl)) hS_c167 (any_sub rfl)) rfl) hS_c248 (any_sub rfl)) rfl) (SA_trans (SA_trans (SA_trans (SA_trans (SA_trans (SA_trans (SA_trans (SA_refl) hA_c62 (any_subA rfl)) (SA_glu (ι := [1]) hA15 eA15 (by decide +kernel)) (any_subA (lₚ := []) rfl)) hA_c109 (any_subA rfl)) (SA_glu (ι := [0]) hA17 eA17 (by decide +kernel)) (any_subA (lₚ := []) rfl)) hA_c154 (any_subA rfl)) hA_c167 (any_subA rfl)) hA_c248 (any_subA rfl)) (pmc248_3) (mc248_3) (emc248_3) (((u0_9 + tc62_0) + tc167_0)) (rfl) (z16) ((hS_c248 0 19 rfl)) (yc248_2_1) ((eyc248_2_1)) (show inr (0) by omega) (show 0 ≤ (0) ∧ (0) ≤ 17 by omega) (show 0 ≤ (((u0_9 + tc62_0) + tc167_0)) ∧ (u0_9) ≤ (((u0_9 + tc62_0) + tc167_0)) ∧ (((u0_9 + tc62_0) + tc167_0)) ≤ (u0_8) by omega) (show (((u0_9 + tc62_0) + tc167_0)) ≤ (u0_18) by omega) (show 0 ≤ (yc248_2_1) ∧ (yc248_2_1) ≤ (mc248_3) ∧ (mc248_3) ≤ 65536 by omega) (show (0) ≠ 0 ∨ 0 ≤ (z16) ∧ (z16) ≤ 131072 ∧ ((z16) ≤ (mc248_3) ∨ (mc248_3) = 65536) by omega))
                  refine Ew_of (pcₚ := 202) (fun _ => x_iload rfl (rk_o (lc167_5) rfl rfl)) ?_
                  refine w_ifeq (t := 225) rfl rfl (show inr (tc154_0) by omega) (fun b23 => ?_) (fun b23 => ?_)
                  · refine Ew_of (pcₚ := 226) (fun _ => x_aload_n rfl (rk_o (lc167_0) rfl rfl)) ?_
                    refine v_g H (o := 0) (v := .ref (D 2)) rfl rfl rfl rfl rfl (vrf ((((((((hS_c167 0 4 rfl).trans (hS_c154 0 4 rfl)).trans ((show F17 0 4 = F_c109 0 4 from (eF17 0 4).trans (hS17 0 4 rfl)))).trans (hS_c109 0 4 rfl)).trans ((show F15 0 4 = F_c62 0 4 from (eF15 0 4)))).trans (hS_c62 0 4 rfl))).trans (pf2))) ?_
                    refine Ew_of (pcₚ := 230) (fun _ => x_aload_n rfl (rk_o (lc167_0) rfl rfl)) ?_
                    refine v_g H (o := 0) (v := .ref (D 1)) rfl rfl rfl rfl rfl (vrf ((((((((hS_c167 0 7 rfl).trans (hS_c154 0 7 rfl)).trans ((show F17 0 7 = F_c109 0 7 from (eF17 0 7).trans (hS17 0 7 rfl)))).trans (hS_c109 0 7 rfl)).trans ((show F15 0 7 = F_c62 0 7 from (eF15 0 7)))).trans (hS_c62 0 7 rfl))).trans (pf1))) ?_
                    refine Ew_of (pcₚ := 234) (fun _ => x_aload_n rfl (rk_o (lc167_0) rfl rfl)) ?_
                    refine v_g H (o := 0) (v := I ((u0_9 + tc62_0))) rfl rfl rfl rfl rfl (congrArg (fun z : Int => I z) (((hS_c167 0 9 rfl).trans (hS_c154 0 9 rfl)) : (updF F_c167 0 19 (z16)) 0 9 = (u0_9 + tc62_0))) ?_
                    refine v_lB H (o := 1) rfl rfl rfl rfl (n := n1) (en1) (show 0 ≤ (u0_9 + tc62_0) ∧ (u0_9 + tc62_0) < n1 by omega) (fun v24 ev24 qv24 => ?_)
                    have ev24 : (A 1) ((u0_9 + tc62_0)) = v24 := (congrFun ((funext (hA_c167 1 rfl)).trans ((funext (hA_c154 1 rfl)).trans (((show A17 1 = A_c109 1 from (eA17 1))).trans ((funext (hA_c109 1 rfl)).trans (((show A15 1 = A_c62 1 from (eA15 1).trans (funext (hA15 0 rfl)))).trans (funext (hA_c62 1 rfl))))))) ((u0_9 + tc62_0))).symm.trans ev24
                    refine Ew_of (pcₚ := 240) (fun _ => x_iload rfl (rk_o (lc167_4) rfl rfl)) ?_
                    refine Ew_of (pcₚ := 242) (fun _ => x_ldc (z := 65536) rfl (by decide)) ?_
                    refine v_min rfl rfl (show inr (z16) by omega) (show inr (65536) by omega) (fun z25 gz25 => ?_)
                    refine v_inv H (o := 2) rfl rfl rfl rfl rfl rfl (by rfl) (C162 (D := pul [2, 3] D) (N := pul [2, 3] N) (HW_sub H (VS_of (show vsub V244 V162 [2, 3] = true by decide +kernel))) ((((((((hS_c167 2 0 rfl).trans (hS_c154 2 0 rfl)).trans ((show F17 2 0 = F_c109 2 0 from (eF17 2 0)))).trans (hS_c109 2 0 rfl)).trans ((show F15 2 0 = F_c62 2 0 from (eF15 2 0)))).trans (hS_c62 2 0 rfl))).trans (pf3)) (n3) (en3) (u2_1) ((((((((hS_c167 2 1 rfl).trans (hS_c154 2 1 rfl)).trans ((show F17 2 1 = F_c109 2 1 from (eF17 2 1)))).trans (hS_c109 2 1 rfl)).trans ((show F15 2 1 = F_c62 2 1 from (eF15 2 1)))).trans (hS_c62 2 1 rfl)).trans (eu2_1))) (show inr (v24) by omega) (show inr (z25) by omega) (show 0 ≤ (u2_1) ∧ (u2_1) ≤ (n3) ∧ (n3) ≤ 65536 by omega) (fun σ26 D26ₚ N26ₚ F26ₚ A26ₚ c26 s26 Hₚ Oₚ hD26 hN26 hS26 hA26 pm26_1 m26_1 em26_1 y26_0_1 ey26_0_1 pz26_0 pz26_1 => ⟨rfl, ?_⟩))
                    replace pm26_1 := HIDm pm26_1
                    replace em26_1 := HIDm em26_1
                    replace ey26_0_1 := HIDm ey26_0_1
                    refine v_backM (c := c) (s := s) H (show vsub V244 V162 [2, 3] = true by decide +kernel) Hₚ Oₚ hD26 (show vmov V244 [2, 3] [1] = true by decide +kernel) (fun D26 N26 F26 A26 H Oₚ eD26 eN26 eF26 eA26 => ?_)
                    have O := OUT_trans O Oₚ
                    -- Row.addSame
                    have pf26_0_4 : HID (F26 0 4 = (D26 2 : Int)) := ((show F26 0 4 = (updF F_c167 0 19 (z16)) 0 4 from (eF26 0 4))).trans (((((((((hS_c167 0 4 rfl).trans (hS_c154 0 4 rfl)).trans ((show F17 0 4 = F_c109 0 4 from (eF17 0 4).trans (hS17 0 4 rfl)))).trans (hS_c109 0 4 rfl)).trans ((show F15 0 4 = F_c62 0 4 from (eF15 0 4)))).trans (hS_c62 0 4 rfl))).trans (pf2)).trans (congrArg (fun q : Nat => (q : Int)) ((show D26 2 = D 2 from (eD26 2).trans (hD26 0 rfl))).symm))
                    have pf26_0_7 : HID (F26 0 7 = (D26 1 : Int)) := ((show F26 0 7 = (updF F_c167 0 19 (z16)) 0 7 from (eF26 0 7))).trans (((((((((hS_c167 0 7 rfl).trans (hS_c154 0 7 rfl)).trans ((show F17 0 7 = F_c109 0 7 from (eF17 0 7).trans (hS17 0 7 rfl)))).trans (hS_c109 0 7 rfl)).trans ((show F15 0 7 = F_c62 0 7 from (eF15 0 7)))).trans (hS_c62 0 7 rfl))).trans (pf1)).trans (congrArg (fun q : Nat => (q : Int)) ((show D26 1 = D 1 from (eD26 1))).symm))
                    have pf26_2_0 : HID (F26 2 0 = (D26 3 : Int)) := (eF26 2 0).trans (pm26_1.trans (congrArg (fun q : Nat => (q : Int)) (eD26 3).symm))
                    have r27 : (0 : Int) ≤ m26_1 ∧ m26_1 ≤ 1000000 := by have h1 := H.nle 3 (by decide); have h2 : (N26 3 : Int) = m26_1 := (congrArg (fun q : Nat => (q : Int)) (eN26 3)).trans em26_1; omega
                    have r28 : (-2147483648 : Int) ≤ y26_0_1 ∧ y26_0_1 ≤ 2147483647 := by have h1 : (-2147483648 : Int) ≤ F26 2 1 ∧ F26 2 1 ≤ 2147483647 := H.krg 2 1 (by decide); rw [show F26 2 1 = y26_0_1 from ((eF26 2 1).trans ey26_0_1)] at h1; exact h1
                    exact hc248  _ _ _ _ _ _ _ _  ((rk_o (lc167_0) rfl rfl).trans (congrArg (fun q : Nat => some (Value.ref q)) (((show D26 0 = D 0 from (eD26 0)))).symm)) (rk_s) H O (SD_trans (SD_refl) (SD_glu (ι := [2, 3]) hD26 eD26 (by decide +kernel)) (any_subA (lₚ := [3]) rfl)) (SD_trans (SD_refl) (SD_glu (ι := [2, 3]) hN26 eN26 (by decide +kernel)) (any_subA (lₚ := [3]) rfl)) (SF_trans (SF_refl) (SF_glu (ι := [2, 3]) hS26 eF26 (by decide +kernel)) (any_sub (lₚ := [(2, 0), (2, 1), (2, 2)]) rfl)) (SA_trans (SA_refl) (SA_glu (ι := [2, 3]) hA26 eA26 (by decide +kernel)) (any_subA (lₚ := [3]) rfl)) (pf26_2_0) (m26_1) ((congrArg (fun q : Nat => (q : Int)) (eN26 3)).trans em26_1) (y26_0_1) (((eF26 2 1).trans ey26_0_1))  (show 0 ≤ (y26_0_1) ∧ (y26_0_1) ≤ (m26_1) ∧ (m26_1) ≤ 65536 by omega) (show ((z16) ≤ (m26_1) ∨ (m26_1) = 65536) by omega)
                  · refine Ew_of (pcₚ := 206) (fun _ => x_aload_n rfl (rk_o (lc167_0) rfl rfl)) ?_
                    refine v_g H (o := 0) (v := .ref (D 2)) rfl rfl rfl rfl rfl (vrf ((((((((hS_c167 0 4 rfl).trans (hS_c154 0 4 rfl)).trans ((show F17 0 4 = F_c109 0 4 from (eF17 0 4).trans (hS17 0 4 rfl)))).trans (hS_c109 0 4 rfl)).trans ((show F15 0 4 = F_c62 0 4 from (eF15 0 4)))).trans (hS_c62 0 4 rfl))).trans (pf2))) ?_
                    refine Ew_of (pcₚ := 210) (fun _ => x_aload_n rfl (rk_o (lc167_0) rfl rfl)) ?_
                    refine v_g H (o := 0) (v := .ref (D 1)) rfl rfl rfl rfl rfl (vrf ((((((((hS_c167 0 7 rfl).trans (hS_c154 0 7 rfl)).trans ((show F17 0 7 = F_c109 0 7 from (eF17 0 7).trans (hS17 0 7 rfl)))).trans (hS_c109 0 7 rfl)).trans ((show F15 0 7 = F_c62 0 7 from (eF15 0 7)))).trans (hS_c62 0 7 rfl))).trans (pf1))) ?_
                    refine Ew_of (pcₚ := 214) (fun _ => x_aload_n rfl (rk_o (lc167_0) rfl rfl)) ?_
                    refine v_g H (o := 0) (v := I ((u0_9 + tc62_0))) rfl rfl rfl rfl rfl (congrArg (fun z : Int => I z) (((hS_c167 0 9 rfl).trans (hS_c154 0 9 rfl)) : (updF F_c167 0 19 (z16)) 0 9 = (u0_9 + tc62_0))) ?_
                    refine Ew_of (pcₚ := 219) (fun _ => x_iload rfl (rk_o (lc167_4) rfl rfl)) ?_
                    refine v_inv H (o := 2) rfl rfl rfl rfl rfl rfl (by rfl) (C161_Br (D := pul [2, 1, 3] D) (N := pul [2, 1, 3] N) (HW_sub H (VS_of (show vsub V244 V161_Br [2, 1, 3] = true by decide +kernel))) ((((((((hS_c167 2 0 rfl).trans (hS_c154 2 0 rfl)).trans ((show F17 2 0 = F_c109 2 0 from (eF17 2 0)))).trans (hS_c109 2 0 rfl)).trans ((show F15 2 0 = F_c62 2 0 from (eF15 2 0)))).trans (hS_c62 2 0 rfl))).trans (pf3)) (n1) (en1) (n3) (en3) (u2_1) ((((((((hS_c167 2 1 rfl).trans (hS_c154 2 1 rfl)).trans ((show F17 2 1 = F_c109 2 1 from (eF17 2 1)))).trans (hS_c109 2 1 rfl)).trans ((show F15 2 1 = F_c62 2 1 from (eF15 2 1)))).trans (hS_c62 2 1 rfl)).trans (eu2_1))) (A 3) ((funext (hA_c167 3 rfl)).trans ((funext (hA_c154 3 rfl)).trans (((show A17 3 = A_c109 3 from (eA17 3))).trans ((funext (hA_c109 3 rfl)).trans (((show A15 3 = A_c62 3 from (eA15 3))).trans (funext (hA_c62 3 rfl))))))) (show inr ((u0_9 + tc62_0)) by omega) (show inr (z16) by omega) (show 0 ≤ (u2_1) ∧ (u2_1) ≤ (n3) ∧ (n3) ≤ 65536 by omega) (show (z16) < 0 ∨ 0 ≤ ((u0_9 + tc62_0)) ∧ ((u0_9 + tc62_0)) + (z16) ≤ (n1) by omega) (fun σ29 D29ₚ N29ₚ F29ₚ A29ₚ c29 s29 Hₚ Oₚ hD29 hN29 hS29 hA29 pm29_2 m29_2 em29_2 y29_0_1 ey29_0_1 w29_2 ew29_2 pz29_0 pz29_1 pz29_2 => ⟨rfl, ?_⟩))
                    replace pm29_2 := HIDm pm29_2
                    replace em29_2 := HIDm em29_2
                    replace ey29_0_1 := HIDm ey29_0_1
                    refine v_backM (c := c) (s := s) H (show vsub V244 V161_Br [2, 1, 3] = true by decide +kernel) Hₚ Oₚ hD29 (show vmov V244 [2, 1, 3] [2] = true by decide +kernel) (fun D29 N29 F29 A29 H Oₚ eD29 eN29 eF29 eA29 => ?_)
                    have O := OUT_trans O Oₚ
                    -- Row.addPart
                    have pf29_0_4 : HID (F29 0 4 = (D29 2 : Int)) := ((show F29 0 4 = (updF F_c167 0 19 (z16)) 0 4 from (eF29 0 4))).trans (((((((((hS_c167 0 4 rfl).trans (hS_c154 0 4 rfl)).trans ((show F17 0 4 = F_c109 0 4 from (eF17 0 4).trans (hS17 0 4 rfl)))).trans (hS_c109 0 4 rfl)).trans ((show F15 0 4 = F_c62 0 4 from (eF15 0 4)))).trans (hS_c62 0 4 rfl))).trans (pf2)).trans (congrArg (fun q : Nat => (q : Int)) ((show D29 2 = D 2 from (eD29 2).trans (hD29 0 rfl))).symm))
                    have pf29_0_7 : HID (F29 0 7 = (D29 1 : Int)) := ((show F29 0 7 = (updF F_c167 0 19 (z16)) 0 7 from (eF29 0 7))).trans (((((((((hS_c167 0 7 rfl).trans (hS_c154 0 7 rfl)).trans ((show F17 0 7 = F_c109 0 7 from (eF17 0 7).trans (hS17 0 7 rfl)))).trans (hS_c109 0 7 rfl)).trans ((show F15 0 7 = F_c62 0 7 from (eF15 0 7)))).trans (hS_c62 0 7 rfl))).trans (pf1)).trans (congrArg (fun q : Nat => (q : Int)) ((show D29 1 = D 1 from (eD29 1).trans (hD29 1 rfl))).symm))
                    have pf29_2_0 : HID (F29 2 0 = (D29 3 : Int)) := (eF29 2 0).trans (pm29_2.trans (congrArg (fun q : Nat => (q : Int)) (eD29 3).symm))
                    have r30 : (0 : Int) ≤ m29_2 ∧ m29_2 ≤ 1000000 := by have h1 := H.nle 3 (by decide); have h2 : (N29 3 : Int) = m29_2 := (congrArg (fun q : Nat => (q : Int)) (eN29 3)).trans em29_2; omega
                    have r31 : (-2147483648 : Int) ≤ y29_0_1 ∧ y29_0_1 ≤ 2147483647 := by have h1 : (-2147483648 : Int) ≤ F29 2 1 ∧ F29 2 1 ≤ 2147483647 := H.krg 2 1 (by decide); rw [show F29 2 1 = y29_0_1 from ((eF29 2 1).trans ey29_0_1)] at h1; exact h1
                    refine Ew_of (pcₚ := 248) (fun _ => x_goto rfl rfl) ?_
                    exact hc248  _ _ _ _ _ _ _ _  ((rk_o (lc167_0) rfl rfl).trans (congrArg (fun q : Nat => some (Value.ref q)) (((show D29 0 = D 0 from (eD29 0)))).symm)) (rk_s) H O (SD_trans (SD_refl) (SD_glu (ι := [2, 1, 3]) hD29 eD29 (by decide +kernel)) (any_subA (lₚ := [3]) rfl)) (SD_trans (SD_refl) (SD_glu (ι := [2, 1, 3]) hN29 eN29 (by decide +kernel)) (any_subA (lₚ := [3]) rfl)) (SF_trans (SF_refl) (SF_glu (ι := [2, 1, 3]) hS29 eF29 (by decide +kernel)) (any_sub (lₚ := [(2, 0), (2, 1), (2, 2)]) rfl)) (SA_trans (SA_refl) (SA_glu (ι := [2, 1, 3]) hA29 eA29 (by decide +kernel)) (any_subA (lₚ := [3]) rfl)) (pf29_2_0) (m29_2) ((congrArg (fun q : Nat => (q : Int)) (eN29 3)).trans em29_2) (y29_0_1) (((eF29 2 1).trans ey29_0_1))  (show 0 ≤ (y29_0_1) ∧ (y29_0_1) ≤ (m29_2) ∧ (m29_2) ≤ 65536 by omega) (show ((z16) ≤ (m29_2) ∨ (m29_2) = 65536) by omega)
                · refine Ew_of (pcₚ := 184) (fun _ => x_aload_n rfl (rk_o (lc167_0) rfl rfl)) ?_
                  refine Ew_of (pcₚ := 186) (fun _ => x_bipush (z := 10) rfl (by decide)) ?_
                  refine Ew_of (pcₚ := 187) (fun _ => x_aload_n rfl (rk_o (lc167_0) rfl rfl)) ?_
                  refine v_g H (o := 0) (v := I (u0_18)) rfl rfl rfl rfl rfl (congrArg (fun z : Int => I z) ((((((((hS_c167 0 18 rfl).trans (hS_c154 0 18 rfl)).trans ((show F17 0 18 = F_c109 0 18 from (eF17 0 18).trans (hS17 0 18 rfl)))).trans (hS_c109 0 18 rfl)).trans ((show F15 0 18 = F_c62 0 18 from (eF15 0 18)))).trans (hS_c62 0 18 rfl)).trans (eu0_18)) : F_c167 0 18 = u0_18)) ?_
                  have r32 : (-2147483648 : Int) ≤ F 0 21 ∧ F 0 21 ≤ 2147483647 := by have h1 : (-2147483648 : Int) ≤ F_c167 0 21 ∧ F_c167 0 21 ≤ 2147483647 := H.krg 0 21 (by decide); rw [show F_c167 0 21 = F 0 21 from ((((((hS_c167 0 21 rfl).trans (hS_c154 0 21 rfl)).trans ((show F17 0 21 = F_c109 0 21 from (eF17 0 21).trans (hS17 0 21 rfl)))).trans (hS_c109 0 21 rfl)).trans ((show F15 0 21 = F_c62 0 21 from (eF15 0 21)))).trans (hS_c62 0 21 rfl))] at h1; exact h1
                  refine v_inv H (o := 0) rfl rfl rfl rfl rfl rfl (by rfl) (C232 (D := pul [0] D) (N := pul [0] N) (HW_sub H (VS_of (show vsub V244 V232 [0] = true by decide +kernel))) (F 0 21) (((((((hS_c167 0 21 rfl).trans (hS_c154 0 21 rfl)).trans ((show F17 0 21 = F_c109 0 21 from (eF17 0 21).trans (hS17 0 21 rfl)))).trans (hS_c109 0 21 rfl)).trans ((show F15 0 21 = F_c62 0 21 from (eF15 0 21)))).trans (hS_c62 0 21 rfl))) (show inr (10) by omega) (show inr (u0_18) by omega) (fun z33 σ33 F33ₚ A33ₚ Hₚ Oₚ hS33 hA33 y33_0_21 ey33_0_21 pz33_0 pz33_1 pz33_2 => ⟨rfl, ?_⟩))
                  replace ey33_0_21 := HIDm ey33_0_21
                  refine v_back (c := c) (s := s) H (show vsub V244 V232 [0] = true by decide +kernel) Hₚ Oₚ (fun F33 A33 H Oₚ eF33 eA33 => ?_)
                  have O := OUT_trans O Oₚ
                  -- Unpacker.fail
                  have r34 : (-2147483648 : Int) ≤ y33_0_21 ∧ y33_0_21 ≤ 2147483647 := by have h1 : (-2147483648 : Int) ≤ F33 0 21 ∧ F33 0 21 ≤ 2147483647 := H.krg 0 21 (by decide); rw [show F33 0 21 = y33_0_21 from ((eF33 0 21).trans ey33_0_21)] at h1; exact h1
                  exact w_ireturn rfl (k (z33) _ _ _ _ _ _ _ H O (SD_refl) (SD_refl) (SF_trans (SF_trans (SF_trans (SF_upd (SF_trans (SF_trans (SF_trans (SF_trans (SF_refl) hS_c62 (any_sub rfl)) (SF_glu (ι := [1]) hS15 eF15 (by decide +kernel)) (any_sub (lₚ := []) rfl)) hS_c109 (any_sub rfl)) (SF_glu (ι := [0]) hS17 eF17 (by decide +kernel)) (any_sub (lₚ := []) rfl)) rfl) hS_c154 (any_sub rfl)) hS_c167 (any_sub rfl)) (SF_glu (ι := [0]) hS33 eF33 (by decide +kernel)) (any_sub (lₚ := [(0, 21)]) rfl)) (SA_trans (SA_trans (SA_trans (SA_trans (SA_trans (SA_trans (SA_trans (SA_refl) hA_c62 (any_subA rfl)) (SA_glu (ι := [1]) hA15 eA15 (by decide +kernel)) (any_subA (lₚ := []) rfl)) hA_c109 (any_subA rfl)) (SA_glu (ι := [0]) hA17 eA17 (by decide +kernel)) (any_subA (lₚ := []) rfl)) hA_c154 (any_subA rfl)) hA_c167 (any_subA rfl)) (SA_glu (ι := [0]) hA33 eA33 (by decide +kernel)) (any_subA (lₚ := []) rfl)) ((((((((((show F33 2 0 = F_c167 2 0 from (eF33 2 0))).trans (hS_c167 2 0 rfl)).trans (hS_c154 2 0 rfl)).trans ((show F17 2 0 = F_c109 2 0 from (eF17 2 0)))).trans (hS_c109 2 0 rfl)).trans ((show F15 2 0 = F_c62 2 0 from (eF15 2 0)))).trans (hS_c62 2 0 rfl))).trans (pf3)) (n3) (en3) ((u0_9 + tc62_0)) (((((show F33 0 9 = F_c167 0 9 from (eF33 0 9).trans (hS33 0 9 rfl))).trans (hS_c167 0 9 rfl)).trans (hS_c154 0 9 rfl))) (u0_19) ((((((((((show F33 0 19 = F_c167 0 19 from (eF33 0 19).trans (hS33 0 19 rfl))).trans (hS_c167 0 19 rfl)).trans (hS_c154 0 19 rfl)).trans ((show F17 0 19 = F_c109 0 19 from (eF17 0 19).trans (hS17 0 19 rfl)))).trans (hS_c109 0 19 rfl)).trans ((show F15 0 19 = F_c62 0 19 from (eF15 0 19)))).trans (hS_c62 0 19 rfl)).trans (eu0_19))) (u2_1) ((((((((((show F33 2 1 = F_c167 2 1 from (eF33 2 1))).trans (hS_c167 2 1 rfl)).trans (hS_c154 2 1 rfl)).trans ((show F17 2 1 = F_c109 2 1 from (eF17 2 1)))).trans (hS_c109 2 1 rfl)).trans ((show F15 2 1 = F_c62 2 1 from (eF15 2 1)))).trans (hS_c62 2 1 rfl)).trans (eu2_1))) (show inr (z33) by omega) (show 0 ≤ (z33) ∧ (z33) ≤ 17 by omega) (show 0 ≤ ((u0_9 + tc62_0)) ∧ (u0_9) ≤ ((u0_9 + tc62_0)) ∧ ((u0_9 + tc62_0)) ≤ (u0_8) by omega) (show ((u0_9 + tc62_0)) ≤ (u0_18) by omega) (show 0 ≤ (u2_1) ∧ (u2_1) ≤ (n3) ∧ (n3) ≤ 65536 by omega) (show (z33) ≠ 0 ∨ 0 ≤ (u0_19) ∧ (u0_19) ≤ 131072 ∧ ((u0_19) ≤ (n3) ∨ (n3) = 65536) by omega))
              refine w_ifeq (t := 166) rfl rfl (show inr (tc154_0) by omega) (fun b35 => ?_) (fun b35 => ?_)
              · refine Ew_of (pcₚ := 167) (fun _ => x_iconst rfl) ?_
                exact hc167 (1) _ _ _ _  (rk_o (lc154_0) rfl rfl) (rk_o (lc154_4) rfl rfl) (rk_s) H O (SF_refl) (SA_refl)     (show inr (1) by omega) (show ((tc154_0) = (0) ∧ (1) = (1)) ∨ ((tc154_0) ≠ (0) ∧ (1) = (z16)) by omega)
              · refine Ew_of (pcₚ := 163) (fun _ => x_iload rfl (rk_o (lc154_4) rfl rfl)) ?_
                refine Ew_of (pcₚ := 167) (fun _ => x_goto rfl rfl) ?_
                exact hc167 (z16) _ _ _ _  (rk_o (lc154_0) rfl rfl) (rk_o (lc154_4) rfl rfl) (rk_s) H O (SF_refl) (SA_refl)     (show inr (z16) by omega) (show ((tc154_0) = (0) ∧ (z16) = (1)) ∨ ((tc154_0) ≠ (0) ∧ (z16) = (z16)) by omega)
            refine w_ifne (t := 153) rfl rfl (show inr (z19) by omega) (fun b36 => ?_) (fun b36 => ?_)
            · refine Ew_of (pcₚ := 154) (fun _ => x_iconst rfl) ?_
              exact hc154 (0) _ _ _ _  (rk_o (lc109_0) rfl rfl) (rk_s) H O (SF_refl) (SA_refl)     (show inr (0) by omega) (show ((z19) ≠ (0) ∧ (0) = (0)) ∨ ((z19) = (0) ∧ (0) = (1)) by omega)
            · refine Ew_of (pcₚ := 150) (fun _ => x_iconst rfl) ?_
              refine Ew_of (pcₚ := 154) (fun _ => x_goto rfl rfl) ?_
              exact hc154 (1) _ _ _ _  (rk_o (lc109_0) rfl rfl) (rk_s) H O (SF_refl) (SA_refl)     (show inr (1) by omega) (show ((z19) ≠ (0) ∧ (1) = (0)) ∨ ((z19) = (0) ∧ (1) = (1)) by omega)
          · refine Ew_of (pcₚ := 123) (fun _ => x_aload_n rfl (rk_o (lc109_0) rfl rfl)) ?_
            refine Ew_of (pcₚ := 125) (fun _ => x_bipush (z := 11) rfl (by decide)) ?_
            refine Ew_of (pcₚ := 126) (fun _ => x_aload_n rfl (rk_o (lc109_0) rfl rfl)) ?_
            refine v_g H (o := 0) (v := I (u0_9)) rfl rfl rfl rfl rfl (congrArg (fun z : Int => I z) (((((((show F17 0 9 = F_c109 0 9 from (eF17 0 9).trans (hS17 0 9 rfl))).trans (hS_c109 0 9 rfl)).trans ((show F15 0 9 = F_c62 0 9 from (eF15 0 9)))).trans (hS_c62 0 9 rfl)).trans (eu0_9)) : F17 0 9 = u0_9)) ?_
            have r37 : (-2147483648 : Int) ≤ F 0 21 ∧ F 0 21 ≤ 2147483647 := by have h1 : (-2147483648 : Int) ≤ F17 0 21 ∧ F17 0 21 ≤ 2147483647 := H.krg 0 21 (by decide); rw [show F17 0 21 = F 0 21 from (((((show F17 0 21 = F_c109 0 21 from (eF17 0 21).trans (hS17 0 21 rfl))).trans (hS_c109 0 21 rfl)).trans ((show F15 0 21 = F_c62 0 21 from (eF15 0 21)))).trans (hS_c62 0 21 rfl))] at h1; exact h1
            refine v_inv H (o := 0) rfl rfl rfl rfl rfl rfl (by rfl) (C232 (D := pul [0] D) (N := pul [0] N) (HW_sub H (VS_of (show vsub V244 V232 [0] = true by decide +kernel))) (F 0 21) ((((((show F17 0 21 = F_c109 0 21 from (eF17 0 21).trans (hS17 0 21 rfl))).trans (hS_c109 0 21 rfl)).trans ((show F15 0 21 = F_c62 0 21 from (eF15 0 21)))).trans (hS_c62 0 21 rfl))) (show inr (11) by omega) (show inr (u0_9) by omega) (fun z38 σ38 F38ₚ A38ₚ Hₚ Oₚ hS38 hA38 y38_0_21 ey38_0_21 pz38_0 pz38_1 pz38_2 => ⟨rfl, ?_⟩))
            replace ey38_0_21 := HIDm ey38_0_21
            refine v_back (c := c) (s := s) H (show vsub V244 V232 [0] = true by decide +kernel) Hₚ Oₚ (fun F38 A38 H Oₚ eF38 eA38 => ?_)
            have O := OUT_trans O Oₚ
            -- Unpacker.fail
            have r39 : (-2147483648 : Int) ≤ y38_0_21 ∧ y38_0_21 ≤ 2147483647 := by have h1 : (-2147483648 : Int) ≤ F38 0 21 ∧ F38 0 21 ≤ 2147483647 := H.krg 0 21 (by decide); rw [show F38 0 21 = y38_0_21 from ((eF38 0 21).trans ey38_0_21)] at h1; exact h1
            exact w_ireturn rfl (k (z38) _ _ _ _ _ _ _ H O (SD_refl) (SD_refl) (SF_trans (SF_trans (SF_trans (SF_trans (SF_trans (SF_refl) hS_c62 (any_sub rfl)) (SF_glu (ι := [1]) hS15 eF15 (by decide +kernel)) (any_sub (lₚ := []) rfl)) hS_c109 (any_sub rfl)) (SF_glu (ι := [0]) hS17 eF17 (by decide +kernel)) (any_sub (lₚ := []) rfl)) (SF_glu (ι := [0]) hS38 eF38 (by decide +kernel)) (any_sub (lₚ := [(0, 21)]) rfl)) (SA_trans (SA_trans (SA_trans (SA_trans (SA_trans (SA_refl) hA_c62 (any_subA rfl)) (SA_glu (ι := [1]) hA15 eA15 (by decide +kernel)) (any_subA (lₚ := []) rfl)) hA_c109 (any_subA rfl)) (SA_glu (ι := [0]) hA17 eA17 (by decide +kernel)) (any_subA (lₚ := []) rfl)) (SA_glu (ι := [0]) hA38 eA38 (by decide +kernel)) (any_subA (lₚ := []) rfl)) ((((((((show F38 2 0 = F17 2 0 from (eF38 2 0))).trans ((show F17 2 0 = F_c109 2 0 from (eF17 2 0)))).trans (hS_c109 2 0 rfl)).trans ((show F15 2 0 = F_c62 2 0 from (eF15 2 0)))).trans (hS_c62 2 0 rfl))).trans (pf3)) (n3) (en3) (u0_9) ((((((((show F38 0 9 = F17 0 9 from (eF38 0 9).trans (hS38 0 9 rfl))).trans ((show F17 0 9 = F_c109 0 9 from (eF17 0 9).trans (hS17 0 9 rfl)))).trans (hS_c109 0 9 rfl)).trans ((show F15 0 9 = F_c62 0 9 from (eF15 0 9)))).trans (hS_c62 0 9 rfl)).trans (eu0_9))) (u0_19) ((((((((show F38 0 19 = F17 0 19 from (eF38 0 19).trans (hS38 0 19 rfl))).trans ((show F17 0 19 = F_c109 0 19 from (eF17 0 19).trans (hS17 0 19 rfl)))).trans (hS_c109 0 19 rfl)).trans ((show F15 0 19 = F_c62 0 19 from (eF15 0 19)))).trans (hS_c62 0 19 rfl)).trans (eu0_19))) (u2_1) ((((((((show F38 2 1 = F17 2 1 from (eF38 2 1))).trans ((show F17 2 1 = F_c109 2 1 from (eF17 2 1)))).trans (hS_c109 2 1 rfl)).trans ((show F15 2 1 = F_c62 2 1 from (eF15 2 1)))).trans (hS_c62 2 1 rfl)).trans (eu2_1))) (show inr (z38) by omega) (show 0 ≤ (z38) ∧ (z38) ≤ 17 by omega) (show 0 ≤ (u0_9) ∧ (u0_9) ≤ (u0_9) ∧ (u0_9) ≤ (u0_8) by omega) (show (u0_9) ≤ (u0_18) by omega) (show 0 ≤ (u2_1) ∧ (u2_1) ≤ (n3) ∧ (n3) ≤ 65536 by omega) (show (z38) ≠ 0 ∨ 0 ≤ (u0_19) ∧ (u0_19) ≤ 131072 ∧ ((u0_19) ≤ (n3) ∨ (n3) = 65536) by omega))
        refine w_icmpne (t := 108) rfl rfl (show inr (tc62_0) by omega) (show inr (1) by omega) (fun b40 => ?_) (fun b40 => ?_)
        · refine Ew_of (pcₚ := 109) (fun _ => x_iconst rfl) ?_
          exact hc109 (4) _ _ _ _  (rk_o (lc62_0) rfl rfl) (rk_o (lc62_1) rfl rfl) (rk_s) H O (SF_refl) (SA_refl)     (show inr (4) by omega) (show ((tc62_0) ≠ (1) ∧ (4) = (4)) ∨ ((tc62_0) = (1) ∧ (4) = (3)) by omega)
        · refine Ew_of (pcₚ := 105) (fun _ => x_iconst rfl) ?_
          refine Ew_of (pcₚ := 109) (fun _ => x_goto rfl rfl) ?_
          exact hc109 (3) _ _ _ _  (rk_o (lc62_0) rfl rfl) (rk_o (lc62_1) rfl rfl) (rk_s) H O (SF_refl) (SA_refl)     (show inr (3) by omega) (show ((tc62_0) ≠ (1) ∧ (3) = (4)) ∨ ((tc62_0) = (1) ∧ (3) = (3)) by omega)
      · refine Ew_of (pcₚ := 77) (fun _ => x_aload_n rfl (rk_o (lc62_0) rfl rfl)) ?_
        refine Ew_of (pcₚ := 79) (fun _ => x_bipush (z := 10) rfl (by decide)) ?_
        refine Ew_of (pcₚ := 80) (fun _ => x_aload_n rfl (rk_o (lc62_0) rfl rfl)) ?_
        refine v_g H (o := 0) (v := I (u0_18)) rfl rfl rfl rfl rfl (congrArg (fun z : Int => I z) (((hS_c62 0 18 rfl).trans (eu0_18)) : F_c62 0 18 = u0_18)) ?_
        have r41 : (-2147483648 : Int) ≤ F 0 21 ∧ F 0 21 ≤ 2147483647 := by have h1 : (-2147483648 : Int) ≤ F_c62 0 21 ∧ F_c62 0 21 ≤ 2147483647 := H.krg 0 21 (by decide); rw [show F_c62 0 21 = F 0 21 from (hS_c62 0 21 rfl)] at h1; exact h1
        refine v_inv H (o := 0) rfl rfl rfl rfl rfl rfl (by rfl) (C232 (D := pul [0] D) (N := pul [0] N) (HW_sub H (VS_of (show vsub V244 V232 [0] = true by decide +kernel))) (F 0 21) ((hS_c62 0 21 rfl)) (show inr (10) by omega) (show inr (u0_18) by omega) (fun z42 σ42 F42ₚ A42ₚ Hₚ Oₚ hS42 hA42 y42_0_21 ey42_0_21 pz42_0 pz42_1 pz42_2 => ⟨rfl, ?_⟩))
        replace ey42_0_21 := HIDm ey42_0_21
        refine v_back (c := c) (s := s) H (show vsub V244 V232 [0] = true by decide +kernel) Hₚ Oₚ (fun F42 A42 H Oₚ eF42 eA42 => ?_)
        have O := OUT_trans O Oₚ
        -- Unpacker.fail
        have r43 : (-2147483648 : Int) ≤ y42_0_21 ∧ y42_0_21 ≤ 2147483647 := by have h1 : (-2147483648 : Int) ≤ F42 0 21 ∧ F42 0 21 ≤ 2147483647 := H.krg 0 21 (by decide); rw [show F42 0 21 = y42_0_21 from ((eF42 0 21).trans ey42_0_21)] at h1; exact h1
        exact w_ireturn rfl (k (z42) _ _ _ _ _ _ _ H O (SD_refl) (SD_refl) (SF_trans (SF_trans (SF_refl) hS_c62 (any_sub rfl)) (SF_glu (ι := [0]) hS42 eF42 (by decide +kernel)) (any_sub (lₚ := [(0, 21)]) rfl)) (SA_trans (SA_trans (SA_refl) hA_c62 (any_subA rfl)) (SA_glu (ι := [0]) hA42 eA42 (by decide +kernel)) (any_subA (lₚ := []) rfl)) (((((show F42 2 0 = F_c62 2 0 from (eF42 2 0))).trans (hS_c62 2 0 rfl))).trans (pf3)) (n3) (en3) (u0_9) (((((show F42 0 9 = F_c62 0 9 from (eF42 0 9).trans (hS42 0 9 rfl))).trans (hS_c62 0 9 rfl)).trans (eu0_9))) (u0_19) (((((show F42 0 19 = F_c62 0 19 from (eF42 0 19).trans (hS42 0 19 rfl))).trans (hS_c62 0 19 rfl)).trans (eu0_19))) (u2_1) (((((show F42 2 1 = F_c62 2 1 from (eF42 2 1))).trans (hS_c62 2 1 rfl)).trans (eu2_1))) (show inr (z42) by omega) (show 0 ≤ (z42) ∧ (z42) ≤ 17 by omega) (show 0 ≤ (u0_9) ∧ (u0_9) ≤ (u0_9) ∧ (u0_9) ≤ (u0_8) by omega) (show (u0_9) ≤ (u0_18) by omega) (show 0 ≤ (u2_1) ∧ (u2_1) ≤ (n3) ∧ (n3) ≤ 65536 by omega) (show (z42) ≠ 0 ∨ 0 ≤ (u0_19) ∧ (u0_19) ≤ 131072 ∧ ((u0_19) ≤ (n3) ∨ (n3) = 65536) by omega))
    refine w_ifne (t := 52) rfl rfl (show inr ((z13 % 2)) by omega) (fun b44 => ?_) (fun b44 => ?_)
    · refine Ew_of (pcₚ := 53) (fun _ => x_iload_n rfl rk_s) ?_
      refine Ew_of (pcₚ := 54) (fun _ => x_iconst rfl) ?_
      refine w_icmpne (t := 61) rfl rfl (show inr (z13) by omega) (show inr (1) by omega) (fun b45 => ?_) (fun b45 => ?_)
      · refine Ew_of (pcₚ := 62) (fun _ => x_iconst rfl) ?_
        exact hc62 (3) _ _ _ _  (rk_o (rk_o (rfl) rfl rfl) rfl rfl) (rk_o (rk_s) rfl rfl) H O (SF_refl) (SA_refl)     (show inr (3) by omega) (show (((z13 % 2)) ≠ (0) ∧ (z13) ≠ (1) ∧ (3) = (3)) ∨ (((z13 % 2)) ≠ (0) ∧ (z13) = (1) ∧ (3) = (2)) ∨ (((z13 % 2)) = (0) ∧ (3) = (1)) by omega)
      · refine Ew_of (pcₚ := 58) (fun _ => x_iconst rfl) ?_
        refine Ew_of (pcₚ := 62) (fun _ => x_goto rfl rfl) ?_
        exact hc62 (2) _ _ _ _  (rk_o (rk_o (rfl) rfl rfl) rfl rfl) (rk_o (rk_s) rfl rfl) H O (SF_refl) (SA_refl)     (show inr (2) by omega) (show (((z13 % 2)) ≠ (0) ∧ (z13) ≠ (1) ∧ (2) = (3)) ∨ (((z13 % 2)) ≠ (0) ∧ (z13) = (1) ∧ (2) = (2)) ∨ (((z13 % 2)) = (0) ∧ (2) = (1)) by omega)
    · refine Ew_of (pcₚ := 49) (fun _ => x_iconst rfl) ?_
      refine Ew_of (pcₚ := 62) (fun _ => x_goto rfl rfl) ?_
      exact hc62 (1) _ _ _ _  (rk_o (rk_o (rfl) rfl rfl) rfl rfl) (rk_o (rk_s) rfl rfl) H O (SF_refl) (SA_refl)     (show inr (1) by omega) (show (((z13 % 2)) ≠ (0) ∧ (z13) ≠ (1) ∧ (1) = (3)) ∨ (((z13 % 2)) ≠ (0) ∧ (z13) = (1) ∧ (1) = (2)) ∨ (((z13 % 2)) = (0) ∧ (1) = (1)) by omega)
  · refine Ew_of (pcₚ := 12) (fun _ => x_aload_n rfl rfl) ?_
    refine Ew_of (pcₚ := 14) (fun _ => x_bipush (z := 10) rfl (by decide)) ?_
    refine Ew_of (pcₚ := 15) (fun _ => x_aload_n rfl rfl) ?_
    refine v_g H (o := 0) (v := I (u0_18)) rfl rfl rfl rfl rfl (congrArg (fun z : Int => I z) ((eu0_18) : F 0 18 = u0_18)) ?_
    have r46 : (-2147483648 : Int) ≤ F 0 21 ∧ F 0 21 ≤ 2147483647 := by have h1 : (-2147483648 : Int) ≤ F 0 21 ∧ F 0 21 ≤ 2147483647 := H.krg 0 21 (by decide); rw [show F 0 21 = F 0 21 from rfl] at h1; exact h1
    refine v_inv H (o := 0) rfl rfl rfl rfl rfl rfl (by rfl) (C232 (D := pul [0] D) (N := pul [0] N) (HW_sub H (VS_of (show vsub V244 V232 [0] = true by decide +kernel))) (F 0 21) (rfl) (show inr (10) by omega) (show inr (u0_18) by omega) (fun z47 σ47 F47ₚ A47ₚ Hₚ Oₚ hS47 hA47 y47_0_21 ey47_0_21 pz47_0 pz47_1 pz47_2 => ⟨rfl, ?_⟩))
    replace ey47_0_21 := HIDm ey47_0_21
    refine v_back (c := c) (s := s) H (show vsub V244 V232 [0] = true by decide +kernel) Hₚ Oₚ (fun F47 A47 H Oₚ eF47 eA47 => ?_)
    have O := OUT_trans O Oₚ
    -- Unpacker.fail
    have r48 : (-2147483648 : Int) ≤ y47_0_21 ∧ y47_0_21 ≤ 2147483647 := by have h1 : (-2147483648 : Int) ≤ F47 0 21 ∧ F47 0 21 ≤ 2147483647 := H.krg 0 21 (by decide); rw [show F47 0 21 = y47_0_21 from ((eF47 0 21).trans ey47_0_21)] at h1; exact h1
    exact w_ireturn rfl (k (z47) _ _ _ _ _ _ _ H O (SD_refl) (SD_refl) (SF_trans (SF_refl) (SF_glu (ι := [0]) hS47 eF47 (by decide +kernel)) (any_sub (lₚ := [(0, 21)]) rfl)) (SA_trans (SA_refl) (SA_glu (ι := [0]) hA47 eA47 (by decide +kernel)) (any_subA (lₚ := []) rfl)) ((((show F47 2 0 = F 2 0 from (eF47 2 0)))).trans (pf3)) (n3) (en3) (u0_9) ((((show F47 0 9 = F 0 9 from (eF47 0 9).trans (hS47 0 9 rfl))).trans (eu0_9))) (u0_19) ((((show F47 0 19 = F 0 19 from (eF47 0 19).trans (hS47 0 19 rfl))).trans (eu0_19))) (u2_1) ((((show F47 2 1 = F 2 1 from (eF47 2 1))).trans (eu2_1))) (show inr (z47) by omega) (show 0 ≤ (z47) ∧ (z47) ≤ 17 by omega) (show 0 ≤ (u0_9) ∧ (u0_9) ≤ (u0_9) ∧ (u0_9) ≤ (u0_8) by omega) (show (u0_9) ≤ (u0_18) by omega) (show 0 ≤ (u2_1) ∧ (u2_1) ≤ (n3) ∧ (n3) ≤ 65536 by omega) (show (z47) ≠ 0 ∨ 0 ≤ (u0_19) ∧ (u0_19) ≤ 131072 ∧ ((u0_19) ≤ (n3) ∨ (n3) = 65536) by omega))
