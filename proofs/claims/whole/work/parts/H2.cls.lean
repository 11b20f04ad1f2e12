abbrev V232 : vV := [(0, 12, [(4, 0), (4, 0), (4, 0), (4, 0), (4, 0), (4, 0), (4, 0), (4, 0), (0, 0), (0, 0), (4, 0), (0, 0), (4, 0), (4, 0), (0, 0), (2, 0), (0, 0), (0, 0), (0, 0), (0, 0), (0, 0), (0, 0)])]
/-- Unpacker.fail: this -/
theorem C232 {σE : rS} {D N : Nat → Nat} {F : hF} {A : hA} {d c s : Nat} {Q : wQ} (H : HW V232 σE D N F A) {a1 a2 : Int} (u0_21 : Int) (eu0_21 : F 0 21 = u0_21) (h0 : inr (a1)) (h1 : inr (a2)) (k : ∀ (z : Int) (σ : rS) (F' : hF) (A' : hA), HW V232 σ D N F' A' → OUT (V232).length D N σE c s D N σ c s → SF [(0, 21)] F F' → SA [] A A' → ∀ y0_21 : Int, F' 0 21 = y0_21 → (inr (z)) → ((z) = (a1)) → ((y0_21) = (a2)) → Q (some (I z)) σ c s) : Ew 232 (d + 0) 0 (rargs 0 [.ref (D 0), I a1, I a2]) [] σE c s Q := by
  have O := OUT_refl (n := (V232).length) (D := D) (N := N) (σ := σE) (c := c) (s := s)
  have HE := H
  have r1 : (-2147483648 : Int) ≤ u0_21 ∧ u0_21 ≤ 2147483647 := by have h1 : (-2147483648 : Int) ≤ F 0 21 ∧ F 0 21 ≤ 2147483647 := H.krg 0 21 (by decide); rw [show F 0 21 = u0_21 from (eu0_21)] at h1; exact h1
  replace eu0_21 := HIDm eu0_21
  refine Ew_of (pc' := 1) (fun _ => x_aload_n rfl rfl) ?_
  refine Ew_of (pc' := 2) (fun _ => x_iload_n rfl rfl) ?_
  refine v_p H (o := 0) (z := a2) (v := I (a2)) rfl rfl rfl rfl rfl rfl rfl rfl (show (-2147483648 : Int) ≤ a2 ∧ a2 ≤ 2147483647 by omega) (fun σ H O' => ?_)
  have O := OUT_trans O O'
  refine Ew_of (pc' := 6) (fun _ => x_iload_n rfl rfl) ?_
  exact w_ireturn rfl (k (a1) _ _ _ H O (SF_upd (SF_refl) rfl) (SA_refl) (a2) (rfl) (show inr (a1) by omega) (show (a1) = a1 by omega) (show (a2) = a2 by omega))
abbrev V234 : vV := [(0, 12, [(4, 0), (4, 0), (4, 0), (4, 0), (4, 0), (4, 0), (4, 0), (4, 0), (0, 0), (0, 0), (4, 0), (0, 0), (4, 0), (4, 0), (0, 0), (2, 0), (0, 0), (0, 0), (0, 0), (0, 0), (0, 0), (0, 0)])]
/-- Unpacker.blockMost: this -/
theorem C234 {σE : rS} {D N : Nat → Nat} {F : hF} {A : hA} {d c s : Nat} {Q : wQ} (H : HW V234 σE D N F A)  (u0_15 : Int) (eu0_15 : F 0 15 = u0_15) (h0 : 0 ≤ (u0_15)) (k : ∀ (z : Int) (σ : rS) (F' : hF) (A' : hA), HW V234 σ D N F' A' → OUT (V234).length D N σE c s D N σ c s → SF [] F F' → SA [] A A' → (inr (z)) → (0 ≤ (z) ∧ (z) ≤ 131072) → ((z) = moF ((u0_15))) → Q (some (I z)) σ c s) : Ew 234 (d + 0) 0 (rargs 0 [.ref (D 0)]) [] σE c s Q := by
  have O := OUT_refl (n := (V234).length) (D := D) (N := N) (σ := σE) (c := c) (s := s)
  have HE := H
  have r1 : (-9223372036854775808 : Int) ≤ u0_15 ∧ u0_15 ≤ 9223372036854775807 := by have h1 : (-9223372036854775808 : Int) ≤ F 0 15 ∧ F 0 15 ≤ 9223372036854775807 := H.krg 0 15 (by decide); rw [show F 0 15 = u0_15 from (eu0_15)] at h1; exact h1
  replace eu0_15 := HIDm eu0_15
  have hmo := moF_eq ((u0_15))
  refine Ew_of (pc' := 1) (fun _ => x_aload_n rfl rfl) ?_
  refine v_g H (o := 0) (v := J (u0_15)) rfl rfl rfl rfl rfl (congrArg (fun z : Int => J z) ((eu0_15) : F 0 15 = u0_15)) ?_
  refine Ew_of (pc' := 7) (fun _ => x_ldc2 (z := 131072) rfl (by decide)) ?_
  refine w_lcmp rfl (show inrJ (u0_15) by omega) (show inrJ (131072) by omega) (fun z2 gz2 gaz2 gbz2 => ?_)
  refine w_ifge (t := 19) rfl rfl (show inr (z2) by omega) (fun b3 => ?_) (fun b3 => ?_)
  · refine Ew_of (pc' := 21) (fun _ => x_ldc (z := 131072) rfl (by decide)) ?_
    exact w_ireturn rfl (k (131072) _ _ _ H O (SF_refl) (SA_refl) (show inr (131072) by omega) (show 0 ≤ (131072) ∧ (131072) ≤ 131072 by omega) (show (131072) = moF ((u0_15)) by omega))
  · refine Ew_of (pc' := 12) (fun _ => x_aload_n rfl rfl) ?_
    refine v_g H (o := 0) (v := J (u0_15)) rfl rfl rfl rfl rfl (congrArg (fun z : Int => J z) ((eu0_15) : F 0 15 = u0_15)) ?_
    refine w_l2i rfl ?_
    refine Ew_of (pc' := 21) (fun _ => x_goto rfl rfl) ?_
    exact w_ireturn rfl (k (u0_15) _ _ _ H O (SF_refl) (SA_refl) (show inr (u0_15) by omega) (show 0 ≤ (u0_15) ∧ (u0_15) ≤ 131072 by omega) (show (u0_15) = moF ((u0_15)) by omega))
abbrev V236 : vV := [(0, 12, [(4, 0), (4, 0), (4, 0), (4, 0), (4, 0), (4, 0), (4, 0), (4, 0), (0, 0), (0, 0), (4, 0), (0, 0), (4, 0), (4, 0), (0, 0), (2, 0), (0, 0), (0, 0), (0, 0), (0, 0), (0, 0), (0, 0)]), (1, 1, [])]
/-- Unpacker.tellWindow: this, this.counts -/
theorem C236 {σE : rS} {D N : Nat → Nat} {F : hF} {A : hA} {d c s : Nat} {Q : wQ} (H : HW V236 σE D N F A) {a1 : Int} (pf1 : F 0 13 = (D 1 : Int)) (n1 : Int) (en1 : (N 1 : Int) = n1) (u0_15 : Int) (eu0_15 : F 0 15 = u0_15) (w1 : Int → Int) (ew1 : A 1 = w1) (h0 : inrJ (a1)) (h1 : (n1) = 5) (k : ∀ (σ : rS) (F' : hF) (A' : hA), HW V236 σ D N F' A' → OUT (V236).length D N σE c s D N σ c s → SF [(0, 15)] F F' → SA [1] A A' → ∀ y0_15 : Int, F' 0 15 = y0_15 → ∀ v1 : Int → Int, A' 1 = v1 → (0 ≤ (y0_15)) → ((y0_15) = wnF ((a1))) → (((v1)) 4 = tdF (wnF ((a1)))) → (((v1)) 0 = ((w1)) 0) → (((v1)) 1 = ((w1)) 1) → (((v1)) 2 = ((w1)) 2) → (((v1)) 3 = ((w1)) 3) → Q none σ c s) : Ew 236 (d + 0) 0 (rargs 0 [.ref (D 0), J a1]) [] σE c s Q := by
  have O := OUT_refl (n := (V236).length) (D := D) (N := N) (σ := σE) (c := c) (s := s)
  have HE := H
  have r1 : (-9223372036854775808 : Int) ≤ u0_15 ∧ u0_15 ≤ 9223372036854775807 := by have h1 : (-9223372036854775808 : Int) ≤ F 0 15 ∧ F 0 15 ≤ 9223372036854775807 := H.krg 0 15 (by decide); rw [show F 0 15 = u0_15 from (eu0_15)] at h1; exact h1
  replace pf1 := HIDm pf1
  replace en1 := HIDm en1
  replace eu0_15 := HIDm eu0_15
  have r2 : (0 : Int) ≤ n1 ∧ n1 ≤ 1000000 := by have h1 := H.nle 1 (by decide); have h2 : (N 1 : Int) = n1 := en1; omega
  have hwf := wnF_eq ((a1))
  have htd := tdF_eq (wnF ((a1)))
  refine Ew_of (pc' := 1) (fun _ => x_aload_n rfl rfl) ?_
  refine Ew_of (pc' := 2) (fun _ => x_lload_n rfl rfl) ?_
  refine Ew_of (pc' := 3) (fun _ => x_lconst (z := 0) rfl (by decide)) ?_
  refine w_lcmp rfl (show inrJ (a1) by omega) (show inrJ (0) by omega) (fun z3 gz3 gaz3 gbz3 => ?_)
  have hc14 : ∀ (tc14_0 : Int), ∀ (ls : rO) (σ : rS) (F_c14 : hF) (A_c14 : hA) , rlook ls 0 = some (.ref (D 0)) → HW V236 σ D N F_c14 A_c14 → OUT (V236).length D N σE c s D N σ c s → SF [] F F_c14 → SA [] A A_c14 → (inrJ (tc14_0)) → (((z3) ≥ (0) ∧ (tc14_0) = (a1)) ∨ ((z3) < (0) ∧ (tc14_0) = (4611686018427387904))) → Ew 236 (d + 0) 14 ls [J (tc14_0), .ref (D 0)] σ c s Q := by
   as_aux_lemma =>
    intro tc14_0 ls σ F_c14 A_c14  lc14_0 H O hS_c14 hA_c14     jc14_0 jc14_1
    refine v_p H (o := 0) (z := tc14_0) (v := J (tc14_0)) rfl rfl rfl rfl rfl rfl rfl rfl (show (-9223372036854775808 : Int) ≤ tc14_0 ∧ tc14_0 ≤ 9223372036854775807 by omega) (fun σ H O' => ?_)
    have O := OUT_trans O O'
    refine Ew_of (pc' := 18) (fun _ => x_aload_n rfl lc14_0) ?_
    refine v_g H (o := 0) (v := .ref (D 1)) rfl rfl rfl rfl rfl (vrf (((hS_c14 0 13 rfl)).trans (pf1))) ?_
    refine Ew_of (pc' := 22) (fun _ => x_iconst rfl) ?_
    refine Ew_of (pc' := 23) (fun _ => x_aload_n rfl lc14_0) ?_
    refine v_g H (o := 0) (v := J (tc14_0)) rfl rfl rfl rfl rfl (congrArg (fun z : Int => J z) (rfl : (updF F_c14 0 15 (tc14_0)) 0 15 = tc14_0)) ?_
    refine Ew_of (pc' := 29) (fun _ => x_ldc2 (z := 2147483647) rfl (by decide)) ?_
    refine w_lcmp rfl (show inrJ (tc14_0) by omega) (show inrJ (2147483647) by omega) (fun z4 gz4 gaz4 gbz4 => ?_)
    refine w_ifge (t := 41) rfl rfl (show inr (z4) by omega) (fun b5 => ?_) (fun b5 => ?_)
    · refine Ew_of (pc' := 43) (fun _ => x_ldc (z := 2147483647) rfl (by decide)) ?_
      refine v_sI H (o := 1) (z := 2147483647) rfl rfl rfl rfl (n := n1) (en1) (show 0 ≤ 4 ∧ 4 < n1 by omega) (show inr (2147483647) by omega) (fun σ H O' => ?_)
      have O := OUT_trans O O'
      have hc4 : ((upd1 (w1) (4) (2147483647))) 4 = tdF (wnF ((a1))) := by rw [upd1_s]; omega
      have hck0 : ((upd1 (w1) (4) (2147483647))) 0 = ((w1)) 0 := upd1_o (by decide)
      have hck1 : ((upd1 (w1) (4) (2147483647))) 1 = ((w1)) 1 := upd1_o (by decide)
      have hck2 : ((upd1 (w1) (4) (2147483647))) 2 = ((w1)) 2 := upd1_o (by decide)
      have hck3 : ((upd1 (w1) (4) (2147483647))) 3 = ((w1)) 3 := upd1_o (by decide)
      exact w_ret rfl (k _ _ _ H O (SF_upd (SF_trans (SF_refl) hS_c14 (any_sub rfl)) rfl) (SA_upd (SA_trans (SA_refl) hA_c14 (any_subA rfl)) rfl) (tc14_0) (rfl) (upd1 (w1) (4) (2147483647)) (congrArg (fun q => upd1 q (4) (2147483647)) ((funext (hA_c14 1 rfl)).trans (ew1))) (show 0 ≤ (tc14_0) by omega) (show (tc14_0) = wnF (a1) by omega) (show ((upd1 (w1) (4) (2147483647))) 4 = tdF (wnF (a1)) by omega) (show ((upd1 (w1) (4) (2147483647))) 0 = ((w1)) 0 by omega) (show ((upd1 (w1) (4) (2147483647))) 1 = ((w1)) 1 by omega) (show ((upd1 (w1) (4) (2147483647))) 2 = ((w1)) 2 by omega) (show ((upd1 (w1) (4) (2147483647))) 3 = ((w1)) 3 by omega))
    · refine Ew_of (pc' := 34) (fun _ => x_aload_n rfl lc14_0) ?_
      refine v_g H (o := 0) (v := J (tc14_0)) rfl rfl rfl rfl rfl (congrArg (fun z : Int => J z) (rfl : (updF F_c14 0 15 (tc14_0)) 0 15 = tc14_0)) ?_
      refine w_l2i rfl ?_
      refine Ew_of (pc' := 43) (fun _ => x_goto rfl rfl) ?_
      refine v_sI H (o := 1) (z := tc14_0) rfl rfl rfl rfl (n := n1) (en1) (show 0 ≤ 4 ∧ 4 < n1 by omega) (show inr (tc14_0) by omega) (fun σ H O' => ?_)
      have O := OUT_trans O O'
      have hc4 : ((upd1 (w1) (4) (tc14_0))) 4 = tdF (wnF ((a1))) := by rw [upd1_s]; omega
      have hck0 : ((upd1 (w1) (4) (tc14_0))) 0 = ((w1)) 0 := upd1_o (by decide)
      have hck1 : ((upd1 (w1) (4) (tc14_0))) 1 = ((w1)) 1 := upd1_o (by decide)
      have hck2 : ((upd1 (w1) (4) (tc14_0))) 2 = ((w1)) 2 := upd1_o (by decide)
      have hck3 : ((upd1 (w1) (4) (tc14_0))) 3 = ((w1)) 3 := upd1_o (by decide)
      exact w_ret rfl (k _ _ _ H O (SF_upd (SF_trans (SF_refl) hS_c14 (any_sub rfl)) rfl) (SA_upd (SA_trans (SA_refl) hA_c14 (any_subA rfl)) rfl) (tc14_0) (rfl) (upd1 (w1) (4) (tc14_0)) (congrArg (fun q => upd1 q (4) (tc14_0)) ((funext (hA_c14 1 rfl)).trans (ew1))) (show 0 ≤ (tc14_0) by omega) (show (tc14_0) = wnF (a1) by omega) (show ((upd1 (w1) (4) (tc14_0))) 4 = tdF (wnF (a1)) by omega) (show ((upd1 (w1) (4) (tc14_0))) 0 = ((w1)) 0 by omega) (show ((upd1 (w1) (4) (tc14_0))) 1 = ((w1)) 1 by omega) (show ((upd1 (w1) (4) (tc14_0))) 2 = ((w1)) 2 by omega) (show ((upd1 (w1) (4) (tc14_0))) 3 = ((w1)) 3 by omega))
  refine w_ifge (t := 13) rfl rfl (show inr (z3) by omega) (fun b6 => ?_) (fun b6 => ?_)
  · refine Ew_of (pc' := 14) (fun _ => x_lload_n rfl rfl) ?_
    exact hc14 (a1) _ _ _ _  (rfl) H O (SF_refl) (SA_refl)     (show inrJ (a1) by omega) (show ((z3) ≥ (0) ∧ (a1) = (a1)) ∨ ((z3) < (0) ∧ (a1) = (4611686018427387904)) by omega)
  · refine Ew_of (pc' := 10) (fun _ => x_ldc2 (z := 4611686018427387904) rfl (by decide)) ?_
    refine Ew_of (pc' := 14) (fun _ => x_goto rfl rfl) ?_
    exact hc14 (4611686018427387904) _ _ _ _  (rfl) H O (SF_refl) (SA_refl)     (show inrJ (4611686018427387904) by omega) (show ((z3) ≥ (0) ∧ (4611686018427387904) = (a1)) ∨ ((z3) < (0) ∧ (4611686018427387904) = (4611686018427387904)) by omega)
abbrev V237 : vV := [(0, 12, [(4, 0), (4, 0), (4, 0), (4, 0), (4, 0), (4, 0), (4, 0), (4, 0), (0, 0), (0, 0), (4, 0), (0, 0), (4, 0), (4, 0), (0, 0), (2, 0), (0, 0), (0, 0), (0, 0), (0, 0), (0, 0), (0, 0)]), (1, 0, []), (1, 1, [])]
/-- Unpacker.unpackWindow: this, this.in, this.counts -/
theorem C237 {σE : rS} {D N : Nat → Nat} {F : hF} {A : hA} {d c s : Nat} {Q : wQ} (H : HW V237 σE D N F A)  (pf1 : F 0 7 = (D 1 : Int)) (pf2 : F 0 13 = (D 2 : Int)) (n1 : Int) (en1 : (N 1 : Int) = n1) (n2 : Int) (en2 : (N 2 : Int) = n2) (u0_8 : Int) (eu0_8 : F 0 8 = u0_8) (u0_9 : Int) (eu0_9 : F 0 9 = u0_9) (u0_15 : Int) (eu0_15 : F 0 15 = u0_15) (u0_21 : Int) (eu0_21 : F 0 21 = u0_21) (w1 : Int → Int) (ew1 : A 1 = w1) (w2 : Int → Int) (ew2 : A 2 = w2) (h0 : 0 ≤ (u0_9) ∧ (u0_9) ≤ (u0_8) ∧ (u0_8) ≤ (n1) ∧ (n1) ≤ 65536) (h1 : (n2) = 5) (h2 : 0 ≤ (u0_15)) (k : ∀ (z : Int) (σ : rS) (F' : hF) (A' : hA), HW V237 σ D N F' A' → OUT (V237).length D N σE c s D N σ c s → SF [(0, 9), (0, 15), (0, 21)] F F' → SA [2] A A' → ∀ y0_9 : Int, F' 0 9 = y0_9 → ∀ y0_15 : Int, F' 0 15 = y0_15 → ∀ y0_21 : Int, F' 0 21 = y0_21 → ∀ v2 : Int → Int, A' 2 = v2 → (inr (z)) → (0 ≤ (z) ∧ (z) ≤ 17) → (0 ≤ (y0_9) ∧ (u0_9) ≤ (y0_9) ∧ (y0_9) ≤ (u0_8)) → (0 ≤ (y0_15)) → (UWA (ub8 ((w1))) ((u0_8)) ((u0_9)) (((w2)) 4) ((z)) ((y0_21)) ((y0_9)) ((y0_15)) (((v2)) 4)) → (((v2)) 0 = ((w2)) 0) → (((v2)) 1 = ((w2)) 1) → (((v2)) 2 = ((w2)) 2) → (((v2)) 3 = ((w2)) 3) → ((z) ≠ 0 ∨ (y0_21) = (u0_21)) → Q (some (I z)) σ c s) : Ew 237 (d + 1) 0 (rargs 0 [.ref (D 0)]) [] σE c s Q := by
  have O := OUT_refl (n := (V237).length) (D := D) (N := N) (σ := σE) (c := c) (s := s)
  have HE := H
  have r1 : (-2147483648 : Int) ≤ u0_8 ∧ u0_8 ≤ 2147483647 := by have h1 : (-2147483648 : Int) ≤ F 0 8 ∧ F 0 8 ≤ 2147483647 := H.krg 0 8 (by decide); rw [show F 0 8 = u0_8 from (eu0_8)] at h1; exact h1
  have r2 : (-2147483648 : Int) ≤ u0_9 ∧ u0_9 ≤ 2147483647 := by have h1 : (-2147483648 : Int) ≤ F 0 9 ∧ F 0 9 ≤ 2147483647 := H.krg 0 9 (by decide); rw [show F 0 9 = u0_9 from (eu0_9)] at h1; exact h1
  have r3 : (-9223372036854775808 : Int) ≤ u0_15 ∧ u0_15 ≤ 9223372036854775807 := by have h1 : (-9223372036854775808 : Int) ≤ F 0 15 ∧ F 0 15 ≤ 9223372036854775807 := H.krg 0 15 (by decide); rw [show F 0 15 = u0_15 from (eu0_15)] at h1; exact h1
  have r4 : (-2147483648 : Int) ≤ u0_21 ∧ u0_21 ≤ 2147483647 := by have h1 : (-2147483648 : Int) ≤ F 0 21 ∧ F 0 21 ≤ 2147483647 := H.krg 0 21 (by decide); rw [show F 0 21 = u0_21 from (eu0_21)] at h1; exact h1
  replace pf1 := HIDm pf1
  replace pf2 := HIDm pf2
  replace en1 := HIDm en1
  replace en2 := HIDm en2
  replace eu0_8 := HIDm eu0_8
  replace eu0_9 := HIDm eu0_9
  replace eu0_15 := HIDm eu0_15
  replace eu0_21 := HIDm eu0_21
  have r5 : (0 : Int) ≤ n1 ∧ n1 ≤ 1000000 := by have h1 := H.nle 1 (by decide); have h2 : (N 1 : Int) = n1 := en1; omega
  have r6 : (0 : Int) ≤ n2 ∧ n2 ≤ 1000000 := by have h1 := H.nle 2 (by decide); have h2 : (N 2 : Int) = n2 := en2; omega
  refine Ew_of (pc' := 1) (fun _ => x_aload_n rfl rfl) ?_
  refine v_g H (o := 0) (v := I (u0_9)) rfl rfl rfl rfl rfl (congrArg (fun z : Int => I z) ((eu0_9) : F 0 9 = u0_9)) ?_
  refine Ew_of (pc' := 5) (fun _ => x_aload_n rfl rfl) ?_
  refine v_g H (o := 0) (v := I (u0_8)) rfl rfl rfl rfl rfl (congrArg (fun z : Int => I z) ((eu0_8) : F 0 8 = u0_8)) ?_
  refine w_icmplt (t := 21) rfl rfl (show inr (u0_9) by omega) (show inr (u0_8) by omega) (fun b7 => ?_) (fun b7 => ?_)
  · refine Ew_of (pc' := 22) (fun _ => x_aload_n rfl rfl) ?_
    refine v_g H (o := 0) (v := .ref (D 1)) rfl rfl rfl rfl rfl (vrf (pf1)) ?_
    refine Ew_of (pc' := 26) (fun _ => x_aload_n rfl rfl) ?_
    refine v_g H (o := 0) (v := I (u0_9)) rfl rfl rfl rfl rfl (congrArg (fun z : Int => I z) ((eu0_9) : F 0 9 = u0_9)) ?_
    refine v_lB H (o := 1) rfl rfl rfl rfl (n := n1) (en1) (show 0 ≤ u0_9 ∧ u0_9 < n1 by omega) (fun v8 ev8 qv8 => ?_)
    have ev8 : (w1) (u0_9) = v8 := (congrFun (ew1) (u0_9)).symm.trans ev8
    have hvx := ev8
    have hbx : (ub8 ((w1))) ((u0_9)) = (v8) % 256 := by show u8 _ = _; rw [hvx]; rfl
    refine Ew_of (pc' := 33) (fun _ => x_sipush (z := 255) rfl (by decide)) ?_
    refine v_and255 rfl ?_
    refine Ew_of (pc' := 35) (fun _ => x_iconst rfl) ?_
    refine w_ishrK 3 8 (by decide) (by decide) rfl (show inr ((v8 % 256)) by omega) (fun z9 gz9 dz9 => ?_)
    have hwr := wnW_r (x := (ub8 ((w1))) ((u0_9))) (u8_rng _)
    refine Ew_of (pc' := 37) (fun _ => x_istore_n rfl) ?_
    refine Ew_of (pc' := 38) (fun _ => x_aload_n rfl (rk_o (rfl) rfl rfl)) ?_
    refine Ew_of (pc' := 39) (fun _ => x_lconst (z := 1) rfl (by decide)) ?_
    refine Ew_of (pc' := 41) (fun _ => x_bipush (z := 10) rfl (by decide)) ?_
    refine Ew_of (pc' := 42) (fun _ => x_iload_n rfl rk_s) ?_
    refine w_iadd rfl ?_
    refine w_lshl1 rfl (show 0 ≤ (10 + z9) ∧ (10 + z9) ≤ 63 by omega) ?_
    refine Ew_of (pc' := 45) (fun _ => x_lconst (z := 1) rfl (by decide)) ?_
    refine Ew_of (pc' := 47) (fun _ => x_bipush (z := 7) rfl (by decide)) ?_
    refine Ew_of (pc' := 48) (fun _ => x_iload_n rfl rk_s) ?_
    refine w_iadd rfl ?_
    refine w_lshl1 rfl (show 0 ≤ (7 + z9) ∧ (7 + z9) ≤ 63 by omega) ?_
    refine Ew_of (pc' := 51) (fun _ => x_aload_n rfl (rk_o (rfl) rfl rfl)) ?_
    refine v_g H (o := 0) (v := .ref (D 1)) rfl rfl rfl rfl rfl (vrf (pf1)) ?_
    refine Ew_of (pc' := 55) (fun _ => x_aload_n rfl (rk_o (rfl) rfl rfl)) ?_
    refine v_g H (o := 0) (v := I (u0_9)) rfl rfl rfl rfl rfl (congrArg (fun z : Int => I z) ((eu0_9) : F 0 9 = u0_9)) ?_
    refine v_lB H (o := 1) rfl rfl rfl rfl (n := n1) (en1) (show 0 ≤ u0_9 ∧ u0_9 < n1 by omega) (fun v12 ev12 qv12 => ?_)
    have ev12 : (w1) (u0_9) = v12 := (congrFun (ew1) (u0_9)).symm.trans ev12
    have hvy := ev12
    refine Ew_of (pc' := 61) (fun _ => x_bipush (z := 7) rfl (by decide)) ?_
    refine w_iandE rfl (show inr (v12) by omega) (show inr (7) by omega) (fun z13 gz13 gaz13 gbz13 gez13 => ?_)
    refine w_i2l rfl (show inr (z13) by omega) ?_
    refine w_lmul rfl ?_
    refine w_ladd rfl ?_
    have hwv : ((p2 ((10 + z9)) + (p2 ((7 + z9)) * z13))) = wnW (ub8 ((w1))) ((u0_9)) := by unfold wnW; rw [show (z9) = (ub8 ((w1))) ((u0_9)) / 8 by omega]; congr 1; congr 1; have := andI_7 (((w1)) ((u0_9))); rw [hvy] at this; omega
    have hwb : 0 ≤ ((p2 ((10 + z9)) + (p2 ((7 + z9)) * z13))) ∧ ((p2 ((10 + z9)) + (p2 ((7 + z9)) * z13))) ≤ 8796093022208 := by rw [hwv]; unfold wnW; omega
    obtain ⟨qw, hqw⟩ : ∃ q : Int, q = ((p2 ((10 + z9)) + (p2 ((7 + z9)) * z13))) := ⟨_, rfl⟩
    rw [← hqw] at hwv hwb
    refine v_inv H (o := 0) rfl rfl rfl rfl rfl rfl (by rfl) (C236 (D := pul [0, 2] D) (N := pul [0, 2] N) (HW_sub H (VS_of (show vsub V237 V236 [0, 2] = true by decide +kernel))) (pf2) (n2) (en2) (u0_15) ((eu0_15)) (w2) (ew2) (show inrJ ((p2 ((10 + z9)) + (p2 ((7 + z9)) * z13))) by omega) (show (n2) = 5 by omega) (fun σ14 F14' A14' H' O' hS14 hA14 y14_0_15 ey14_0_15 w14_1 ew14_1 pz14_0 pz14_1 pz14_2 pz14_3 pz14_4 pz14_5 pz14_6 => ⟨rfl, ?_⟩))
    replace ey14_0_15 := HIDm ey14_0_15
    refine v_back (c := c) (s := s) H (show vsub V237 V236 [0, 2] = true by decide +kernel) H' O' (fun F14 A14 H O' eF14 eA14 => ?_)
    have O := OUT_trans O O'
    -- Unpacker.tellWindow
    have r15 : (-9223372036854775808 : Int) ≤ y14_0_15 ∧ y14_0_15 ≤ 9223372036854775807 := by have h1 : (-9223372036854775808 : Int) ≤ F14 0 15 ∧ F14 0 15 ≤ 9223372036854775807 := H.krg 0 15 (by decide); rw [show F14 0 15 = y14_0_15 from ((eF14 0 15).trans ey14_0_15)] at h1; exact h1
    have hwf := wnF_eq qw
    refine Ew_of (pc' := 69) (fun _ => x_aload_n rfl (rk_o (rfl) rfl rfl)) ?_
    refine Ew_of (pc' := 70) (fun _ => x_dup rfl rfl) ?_
    refine v_g H (o := 0) (v := I (u0_9)) rfl rfl rfl rfl rfl (congrArg (fun z : Int => I z) ((((show F14 0 9 = F 0 9 from (eF14 0 9).trans (hS14 0 9 rfl))).trans (eu0_9)) : F14 0 9 = u0_9)) ?_
    refine Ew_of (pc' := 74) (fun _ => x_iconst rfl) ?_
    refine w_iadd rfl ?_
    refine v_p H (o := 0) (z := (u0_9 + 1)) (v := I ((u0_9 + 1))) rfl rfl rfl rfl rfl rfl rfl rfl (show (-2147483648 : Int) ≤ (u0_9 + 1) ∧ (u0_9 + 1) ≤ 2147483647 by omega) (fun σ H O' => ?_)
    have O := OUT_trans O O'
    refine Ew_of (pc' := 79) (fun _ => x_iconst rfl) ?_
    have : UWA (ub8 ((w1))) ((u0_8)) ((u0_9)) (((w2)) 4) ((0)) ((u0_21)) (((u0_9 + 1))) ((y14_0_15)) (((w14_1)) 4) := .inr ⟨by omega, by omega, by omega, by rw [← hwv]; omega, by rw [show (y14_0_15) = wnF qw by omega]; omega⟩
    exact w_ireturn rfl (k (0) _ _ _ H O (SF_upd (SF_trans (SF_refl) (SF_glu (ι := [0, 2]) hS14 eF14 (by decide +kernel)) (any_sub (l' := [(0, 15)]) rfl)) rfl) (SA_trans (SA_refl) (SA_glu (ι := [0, 2]) hA14 eA14 (by decide +kernel)) (any_subA (l' := [2]) rfl)) ((u0_9 + 1)) (rfl) (y14_0_15) (((eF14 0 15).trans ey14_0_15)) (u0_21) ((((show F14 0 21 = F 0 21 from (eF14 0 21).trans (hS14 0 21 rfl))).trans (eu0_21))) (w14_1) ((eA14 2).trans ew14_1) (show inr (0) by omega) (show 0 ≤ (0) ∧ (0) ≤ 17 by omega) (show 0 ≤ ((u0_9 + 1)) ∧ (u0_9) ≤ ((u0_9 + 1)) ∧ ((u0_9 + 1)) ≤ (u0_8) by omega) (show 0 ≤ (y14_0_15) by omega) (show UWA (ub8 ((w1))) ((u0_8)) ((u0_9)) (((w2)) 4) ((0)) ((u0_21)) (((u0_9 + 1))) ((y14_0_15)) (((w14_1)) 4) by assumption) (show ((w14_1)) 0 = ((w2)) 0 by omega) (show ((w14_1)) 1 = ((w2)) 1 by omega) (show ((w14_1)) 2 = ((w2)) 2 by omega) (show ((w14_1)) 3 = ((w2)) 3 by omega) (show (0) ≠ 0 ∨ (u0_21) = (u0_21) by omega))
  · refine Ew_of (pc' := 12) (fun _ => x_aload_n rfl rfl) ?_
    refine Ew_of (pc' := 13) (fun _ => x_iconst rfl) ?_
    refine Ew_of (pc' := 14) (fun _ => x_aload_n rfl rfl) ?_
    refine v_g H (o := 0) (v := I (u0_8)) rfl rfl rfl rfl rfl (congrArg (fun z : Int => I z) ((eu0_8) : F 0 8 = u0_8)) ?_
    refine v_inv H (o := 0) rfl rfl rfl rfl rfl rfl (by rfl) (C232 (D := pul [0] D) (N := pul [0] N) (HW_sub H (VS_of (show vsub V237 V232 [0] = true by decide +kernel))) (u0_21) ((eu0_21)) (show inr (1) by omega) (show inr (u0_8) by omega) (fun z16 σ16 F16' A16' H' O' hS16 hA16 y16_0_21 ey16_0_21 pz16_0 pz16_1 pz16_2 => ⟨rfl, ?_⟩))
    replace ey16_0_21 := HIDm ey16_0_21
    refine v_back (c := c) (s := s) H (show vsub V237 V232 [0] = true by decide +kernel) H' O' (fun F16 A16 H O' eF16 eA16 => ?_)
    have O := OUT_trans O O'
    -- Unpacker.fail
    have r17 : (-2147483648 : Int) ≤ y16_0_21 ∧ y16_0_21 ≤ 2147483647 := by have h1 : (-2147483648 : Int) ≤ F16 0 21 ∧ F16 0 21 ≤ 2147483647 := H.krg 0 21 (by decide); rw [show F16 0 21 = y16_0_21 from ((eF16 0 21).trans ey16_0_21)] at h1; exact h1
    have : UWA (ub8 ((w1))) ((u0_8)) ((u0_9)) (((w2)) 4) ((z16)) ((y16_0_21)) ((u0_9)) ((u0_15)) (((w2)) 4) := .inl ⟨by omega, by omega, by omega, rfl⟩
    exact w_ireturn rfl (k (z16) _ _ _ H O (SF_trans (SF_refl) (SF_glu (ι := [0]) hS16 eF16 (by decide +kernel)) (any_sub (l' := [(0, 21)]) rfl)) (SA_trans (SA_refl) (SA_glu (ι := [0]) hA16 eA16 (by decide +kernel)) (any_subA (l' := []) rfl)) (u0_9) ((((show F16 0 9 = F 0 9 from (eF16 0 9).trans (hS16 0 9 rfl))).trans (eu0_9))) (u0_15) ((((show F16 0 15 = F 0 15 from (eF16 0 15).trans (hS16 0 15 rfl))).trans (eu0_15))) (y16_0_21) (((eF16 0 21).trans ey16_0_21)) (w2) (((show A16 2 = A 2 from (eA16 2))).trans (ew2)) (show inr (z16) by omega) (show 0 ≤ (z16) ∧ (z16) ≤ 17 by omega) (show 0 ≤ (u0_9) ∧ (u0_9) ≤ (u0_9) ∧ (u0_9) ≤ (u0_8) by omega) (show 0 ≤ (u0_15) by omega) (show UWA (ub8 ((w1))) ((u0_8)) ((u0_9)) (((w2)) 4) ((z16)) ((y16_0_21)) ((u0_9)) ((u0_15)) (((w2)) 4) by assumption) (show ((w2)) 0 = ((w2)) 0 by omega) (show ((w2)) 1 = ((w2)) 1 by omega) (show ((w2)) 2 = ((w2)) 2 by omega) (show ((w2)) 3 = ((w2)) 3 by omega) (show (z16) ≠ 0 ∨ (y16_0_21) = (u0_21) by omega))
abbrev V238 : vV := [(0, 12, [(4, 0), (4, 0), (4, 0), (4, 0), (4, 0), (4, 0), (4, 0), (4, 0), (0, 0), (0, 0), (4, 0), (0, 0), (4, 0), (4, 0), (0, 0), (2, 0), (0, 0), (0, 0), (0, 0), (0, 0), (0, 0), (0, 0)]), (1, 0, []), (0, 4, [(4, 0), (4, 0), (0, 0), (4, 0), (4, 0)])]
/-- Unpacker.unpackId: this, this.in, this.dictionary -/
theorem C238 {σE : rS} {D N : Nat → Nat} {F : hF} {A : hA} {d c s : Nat} {Q : wQ} (H : HW V238 σE D N F A)  (pf1 : F 0 7 = (D 1 : Int)) (pf2 : F 0 12 = (D 2 : Int)) (n1 : Int) (en1 : (N 1 : Int) = n1) (u0_8 : Int) (eu0_8 : F 0 8 = u0_8) (u0_9 : Int) (eu0_9 : F 0 9 = u0_9) (u0_14 : Int) (eu0_14 : F 0 14 = u0_14) (u0_21 : Int) (eu0_21 : F 0 21 = u0_21) (u2_2 : Int) (eu2_2 : F 2 2 = u2_2) (w1 : Int → Int) (ew1 : A 1 = w1) (h0 : 0 ≤ (u0_9) ∧ (u0_9) ≤ (u0_8) ∧ (u0_8) ≤ (n1) ∧ (n1) ≤ 65536) (h1 : 0 ≤ (u0_14) ∧ (u0_14) ≤ 255) (k : ∀ (z : Int) (σ : rS) (F' : hF) (A' : hA), HW V238 σ D N F' A' → OUT (V238).length D N σE c s D N σ c s → SF [(0, 9), (0, 21)] F F' → SA [] A A' → ∀ y0_9 : Int, F' 0 9 = y0_9 → ∀ y0_21 : Int, F' 0 21 = y0_21 → (inr (z)) → (0 ≤ (z) ∧ (z) ≤ 17) → (0 ≤ (y0_9) ∧ (u0_9) ≤ (y0_9) ∧ (y0_9) ≤ (u0_8)) → (UIA (ub8 ((w1))) ((u0_8)) ((u0_9)) ((u2_2) % 4294967296) ((u0_14)) ((z)) ((y0_21)) ((y0_9))) → ((z) ≠ 0 ∨ (y0_21) = (u0_21)) → Q (some (I z)) σ c s) : Ew 238 (d + 1) 0 (rargs 0 [.ref (D 0)]) [] σE c s Q := by
  have O := OUT_refl (n := (V238).length) (D := D) (N := N) (σ := σE) (c := c) (s := s)
  have HE := H
  have r1 : (-2147483648 : Int) ≤ u0_8 ∧ u0_8 ≤ 2147483647 := by have h1 : (-2147483648 : Int) ≤ F 0 8 ∧ F 0 8 ≤ 2147483647 := H.krg 0 8 (by decide); rw [show F 0 8 = u0_8 from (eu0_8)] at h1; exact h1
  have r2 : (-2147483648 : Int) ≤ u0_9 ∧ u0_9 ≤ 2147483647 := by have h1 : (-2147483648 : Int) ≤ F 0 9 ∧ F 0 9 ≤ 2147483647 := H.krg 0 9 (by decide); rw [show F 0 9 = u0_9 from (eu0_9)] at h1; exact h1
  have r3 : (-2147483648 : Int) ≤ u0_14 ∧ u0_14 ≤ 2147483647 := by have h1 : (-2147483648 : Int) ≤ F 0 14 ∧ F 0 14 ≤ 2147483647 := H.krg 0 14 (by decide); rw [show F 0 14 = u0_14 from (eu0_14)] at h1; exact h1
  have r4 : (-2147483648 : Int) ≤ u0_21 ∧ u0_21 ≤ 2147483647 := by have h1 : (-2147483648 : Int) ≤ F 0 21 ∧ F 0 21 ≤ 2147483647 := H.krg 0 21 (by decide); rw [show F 0 21 = u0_21 from (eu0_21)] at h1; exact h1
  have r5 : (-2147483648 : Int) ≤ u2_2 ∧ u2_2 ≤ 2147483647 := by have h1 : (-2147483648 : Int) ≤ F 2 2 ∧ F 2 2 ≤ 2147483647 := H.krg 2 2 (by decide); rw [show F 2 2 = u2_2 from (eu2_2)] at h1; exact h1
  replace pf1 := HIDm pf1
  replace pf2 := HIDm pf2
  replace en1 := HIDm en1
  replace eu0_8 := HIDm eu0_8
  replace eu0_9 := HIDm eu0_9
  replace eu0_14 := HIDm eu0_14
  replace eu0_21 := HIDm eu0_21
  replace eu2_2 := HIDm eu2_2
  have r6 : (0 : Int) ≤ n1 ∧ n1 ≤ 1000000 := by have h1 := H.nle 1 (by decide); have h2 : (N 1 : Int) = n1 := en1; omega
  have hib := idB_eq ((u0_14))
  have ha3 := andI_3 ((u0_14))
  refine Ew_of (pc' := 1) (fun _ => x_aload_n rfl rfl) ?_
  refine v_g H (o := 0) (v := I (u0_14)) rfl rfl rfl rfl rfl (congrArg (fun z : Int => I z) ((eu0_14) : F 0 14 = u0_14)) ?_
  refine Ew_of (pc' := 5) (fun _ => x_iconst rfl) ?_
  refine w_iandE rfl (show inr (u0_14) by omega) (show inr (3) by omega) (fun z7 gz7 gaz7 gbz7 gez7 => ?_)
  refine Ew_of (pc' := 7) (fun _ => x_iconst rfl) ?_
  refine w_icmpne (t := 14) rfl rfl (show inr (z7) by omega) (show inr (3) by omega) (fun b8 => ?_) (fun b8 => ?_)
  · refine Ew_of (pc' := 15) (fun _ => x_aload_n rfl rfl) ?_
    refine v_g H (o := 0) (v := I (u0_14)) rfl rfl rfl rfl rfl (congrArg (fun z : Int => I z) ((eu0_14) : F 0 14 = u0_14)) ?_
    refine Ew_of (pc' := 19) (fun _ => x_iconst rfl) ?_
    refine w_iandE rfl (show inr (u0_14) by omega) (show inr (3) by omega) (fun z9 gz9 gaz9 gbz9 gez9 => ?_)
    refine Ew_of (pc' := 21) (fun _ => x_istore_n rfl) ?_
    have hl1 : (z9) = idB ((u0_14)) := by omega
    refine Ew_of (pc' := 22) (fun _ => x_aload_n rfl (rk_o (rfl) rfl rfl)) ?_
    refine v_g H (o := 0) (v := I (u0_8)) rfl rfl rfl rfl rfl (congrArg (fun z : Int => I z) ((eu0_8) : F 0 8 = u0_8)) ?_
    refine Ew_of (pc' := 26) (fun _ => x_aload_n rfl (rk_o (rfl) rfl rfl)) ?_
    refine v_g H (o := 0) (v := I (u0_9)) rfl rfl rfl rfl rfl (congrArg (fun z : Int => I z) ((eu0_9) : F 0 9 = u0_9)) ?_
    refine w_isub rfl ?_
    refine Ew_of (pc' := 31) (fun _ => x_iload_n rfl rk_s) ?_
    refine w_icmpge (t := 44) rfl rfl (show inr ((u0_8 - u0_9)) by omega) (show inr (z9) by omega) (fun b10 => ?_) (fun b10 => ?_)
    · refine Ew_of (pc' := 45) (fun _ => x_aload_n rfl (rk_o (rfl) rfl rfl)) ?_
      refine v_g H (o := 0) (v := .ref (D 1)) rfl rfl rfl rfl rfl (vrf (pf1)) ?_
      refine Ew_of (pc' := 49) (fun _ => x_aload_n rfl (rk_o (rfl) rfl rfl)) ?_
      refine v_g H (o := 0) (v := I (u0_9)) rfl rfl rfl rfl rfl (congrArg (fun z : Int => I z) ((eu0_9) : F 0 9 = u0_9)) ?_
      refine Ew_of (pc' := 53) (fun _ => x_iload_n rfl rk_s) ?_
      refine w_stat25 rfl rfl (by rfl) (C42_Brf (D := pul [1] D) (N := pul [1] N) (HW_sub H (VS_of (show vsub V238 V42_Br [1] = true by decide +kernel))) (n1) (en1) (w1) (ew1) (show inr (u0_9) by omega) (show inr (z9) by omega) (show (z9) ≤ 0 ∨ 0 ≤ (u0_9) ∧ (u0_9) + (z9) ≤ (n1) by omega) (show 0 ≤ (z9) ∧ (z9) ≤ 8 by omega) (fun z11 σ11 F11' A11' H' O' hS11 hA11 pz11_0 pz11_1 pz11_2 => ⟨rfl, ?_⟩))
      refine v_back (c := c) (s := s) H (show vsub V238 V42_Br [1] = true by decide +kernel) H' O' (fun F11 A11 H O' eF11 eA11 => ?_)
      have O := OUT_trans O O'
      -- PackHouse.number
      have hN : z11 = nvl (ub8 ((w1))) ((u0_9)) (idB ((u0_14))).toNat := by rw [← hl1]; exact (nmb_nn pz11_2 (by omega) pz11_0).trans nvl_u
      refine Ew_of (pc' := 57) (fun _ => x_lstore_n rfl) ?_
      refine Ew_of (pc' := 58) (fun _ => x_lload_n rfl rk2_s) ?_
      refine Ew_of (pc' := 59) (fun _ => x_lconst (z := 0) rfl (by decide)) ?_
      refine w_lcmp rfl (show inrJ (z11) by omega) (show inrJ (0) by omega) (fun z12 gz12 gaz12 gbz12 => ?_)
      refine w_ifeq (t := 90) rfl rfl (show inr (z12) by omega) (fun b13 => ?_) (fun b13 => ?_)
      · refine Ew_of (pc' := 91) (fun _ => x_aload_n rfl (rk2_o (rk_o (rfl) rfl rfl) rfl rfl)) ?_
        refine Ew_of (pc' := 92) (fun _ => x_dup rfl rfl) ?_
        refine v_g H (o := 0) (v := I (u0_9)) rfl rfl rfl rfl rfl (congrArg (fun z : Int => I z) ((((show F11 0 9 = F 0 9 from (eF11 0 9))).trans (eu0_9)) : F11 0 9 = u0_9)) ?_
        refine Ew_of (pc' := 96) (fun _ => x_iload_n rfl (rk2_o (rk_s) rfl rfl)) ?_
        refine w_iadd rfl ?_
        refine v_p H (o := 0) (z := (u0_9 + z9)) (v := I ((u0_9 + z9))) rfl rfl rfl rfl rfl rfl rfl rfl (show (-2147483648 : Int) ≤ (u0_9 + z9) ∧ (u0_9 + z9) ≤ 2147483647 by omega) (fun σ H O' => ?_)
        have O := OUT_trans O O'
        refine Ew_of (pc' := 101) (fun _ => x_iconst rfl) ?_
        have : UIA (ub8 ((w1))) ((u0_8)) ((u0_9)) ((u2_2) % 4294967296) ((u0_14)) ((0)) ((u0_21)) (((u0_9 + z9))) := .inr (.inr ⟨by omega, by rw [← hN]; omega, by omega, by omega⟩)
        exact w_ireturn rfl (k (0) _ _ _ H O (SF_upd (SF_trans (SF_refl) (SF_glu (ι := [1]) hS11 eF11 (by decide +kernel)) (any_sub (l' := []) rfl)) rfl) (SA_trans (SA_refl) (SA_glu (ι := [1]) hA11 eA11 (by decide +kernel)) (any_subA (l' := []) rfl)) ((u0_9 + z9)) (rfl) (u0_21) ((((show F11 0 21 = F 0 21 from (eF11 0 21))).trans (eu0_21))) (show inr (0) by omega) (show 0 ≤ (0) ∧ (0) ≤ 17 by omega) (show 0 ≤ ((u0_9 + z9)) ∧ (u0_9) ≤ ((u0_9 + z9)) ∧ ((u0_9 + z9)) ≤ (u0_8) by omega) (show UIA (ub8 ((w1))) ((u0_8)) ((u0_9)) ((u2_2) % 4294967296) ((u0_14)) ((0)) ((u0_21)) (((u0_9 + z9))) by assumption) (show (0) ≠ 0 ∨ (u0_21) = (u0_21) by omega))
      · refine Ew_of (pc' := 64) (fun _ => x_lload_n rfl rk2_s) ?_
        refine Ew_of (pc' := 65) (fun _ => x_aload_n rfl (rk2_o (rk_o (rfl) rfl rfl) rfl rfl)) ?_
        refine v_g H (o := 0) (v := .ref (D 2)) rfl rfl rfl rfl rfl (vrf ((((show F11 0 12 = F 0 12 from (eF11 0 12)))).trans (pf2))) ?_
        refine v_g H (o := 2) (v := I (u2_2)) rfl rfl rfl rfl rfl (congrArg (fun z : Int => I z) ((((show F11 2 2 = F 2 2 from (eF11 2 2))).trans (eu2_2)) : F11 2 2 = u2_2)) ?_
        refine w_i2l rfl (show inr (u2_2) by omega) ?_
        refine Ew_of (pc' := 75) (fun _ => x_ldc2 (z := 4294967295) rfl (by decide)) ?_
        refine w_landE rfl ?_
        have g14 : inrJ (anJ (u2_2) (4294967295)) := toJ_inr _
        have han : ((anJ (u2_2) (4294967295))) = (u2_2) % 4294967296 := anJ_w (by omega)
        refine w_lcmp rfl (show inrJ (z11) by omega) (show inrJ ((anJ (u2_2) (4294967295))) by omega) (fun z15 gz15 gaz15 gbz15 => ?_)
        refine w_ifeq (t := 90) rfl rfl (show inr (z15) by omega) (fun b16 => ?_) (fun b16 => ?_)
        · refine Ew_of (pc' := 91) (fun _ => x_aload_n rfl (rk2_o (rk_o (rfl) rfl rfl) rfl rfl)) ?_
          refine Ew_of (pc' := 92) (fun _ => x_dup rfl rfl) ?_
          refine v_g H (o := 0) (v := I (u0_9)) rfl rfl rfl rfl rfl (congrArg (fun z : Int => I z) ((((show F11 0 9 = F 0 9 from (eF11 0 9))).trans (eu0_9)) : F11 0 9 = u0_9)) ?_
          refine Ew_of (pc' := 96) (fun _ => x_iload_n rfl (rk2_o (rk_s) rfl rfl)) ?_
          refine w_iadd rfl ?_
          refine v_p H (o := 0) (z := (u0_9 + z9)) (v := I ((u0_9 + z9))) rfl rfl rfl rfl rfl rfl rfl rfl (show (-2147483648 : Int) ≤ (u0_9 + z9) ∧ (u0_9 + z9) ≤ 2147483647 by omega) (fun σ H O' => ?_)
          have O := OUT_trans O O'
          refine Ew_of (pc' := 101) (fun _ => x_iconst rfl) ?_
          have : UIA (ub8 ((w1))) ((u0_8)) ((u0_9)) ((u2_2) % 4294967296) ((u0_14)) ((0)) ((u0_21)) (((u0_9 + z9))) := .inr (.inr ⟨by omega, by rw [← hN]; omega, by omega, by omega⟩)
          exact w_ireturn rfl (k (0) _ _ _ H O (SF_upd (SF_trans (SF_refl) (SF_glu (ι := [1]) hS11 eF11 (by decide +kernel)) (any_sub (l' := []) rfl)) rfl) (SA_trans (SA_refl) (SA_glu (ι := [1]) hA11 eA11 (by decide +kernel)) (any_subA (l' := []) rfl)) ((u0_9 + z9)) (rfl) (u0_21) ((((show F11 0 21 = F 0 21 from (eF11 0 21))).trans (eu0_21))) (show inr (0) by omega) (show 0 ≤ (0) ∧ (0) ≤ 17 by omega) (show 0 ≤ ((u0_9 + z9)) ∧ (u0_9) ≤ ((u0_9 + z9)) ∧ ((u0_9 + z9)) ≤ (u0_8) by omega) (show UIA (ub8 ((w1))) ((u0_8)) ((u0_9)) ((u2_2) % 4294967296) ((u0_14)) ((0)) ((u0_21)) (((u0_9 + z9))) by assumption) (show (0) ≠ 0 ∨ (u0_21) = (u0_21) by omega))
        · refine Ew_of (pc' := 81) (fun _ => x_aload_n rfl (rk2_o (rk_o (rfl) rfl rfl) rfl rfl)) ?_
          refine Ew_of (pc' := 82) (fun _ => x_iconst rfl) ?_
          refine Ew_of (pc' := 83) (fun _ => x_aload_n rfl (rk2_o (rk_o (rfl) rfl rfl) rfl rfl)) ?_
          refine v_g H (o := 0) (v := I (u0_9)) rfl rfl rfl rfl rfl (congrArg (fun z : Int => I z) ((((show F11 0 9 = F 0 9 from (eF11 0 9))).trans (eu0_9)) : F11 0 9 = u0_9)) ?_
          refine v_inv H (o := 0) rfl rfl rfl rfl rfl rfl (by rfl) (C232 (D := pul [0] D) (N := pul [0] N) (HW_sub H (VS_of (show vsub V238 V232 [0] = true by decide +kernel))) (u0_21) ((((show F11 0 21 = F 0 21 from (eF11 0 21))).trans (eu0_21))) (show inr (4) by omega) (show inr (u0_9) by omega) (fun z17 σ17 F17' A17' H' O' hS17 hA17 y17_0_21 ey17_0_21 pz17_0 pz17_1 pz17_2 => ⟨rfl, ?_⟩))
          replace ey17_0_21 := HIDm ey17_0_21
          refine v_back (c := c) (s := s) H (show vsub V238 V232 [0] = true by decide +kernel) H' O' (fun F17 A17 H O' eF17 eA17 => ?_)
          have O := OUT_trans O O'
          -- Unpacker.fail
          have r18 : (-2147483648 : Int) ≤ y17_0_21 ∧ y17_0_21 ≤ 2147483647 := by have h1 : (-2147483648 : Int) ≤ F17 0 21 ∧ F17 0 21 ≤ 2147483647 := H.krg 0 21 (by decide); rw [show F17 0 21 = y17_0_21 from ((eF17 0 21).trans ey17_0_21)] at h1; exact h1
          have : UIA (ub8 ((w1))) ((u0_8)) ((u0_9)) ((u2_2) % 4294967296) ((u0_14)) ((z17)) ((y17_0_21)) ((u0_9)) := .inr (.inl ⟨by omega, ⟨by rw [← hN]; omega, by rw [← hN]; omega⟩, by omega, by omega⟩)
          exact w_ireturn rfl (k (z17) _ _ _ H O (SF_trans (SF_trans (SF_refl) (SF_glu (ι := [1]) hS11 eF11 (by decide +kernel)) (any_sub (l' := []) rfl)) (SF_glu (ι := [0]) hS17 eF17 (by decide +kernel)) (any_sub (l' := [(0, 21)]) rfl)) (SA_trans (SA_trans (SA_refl) (SA_glu (ι := [1]) hA11 eA11 (by decide +kernel)) (any_subA (l' := []) rfl)) (SA_glu (ι := [0]) hA17 eA17 (by decide +kernel)) (any_subA (l' := []) rfl)) (u0_9) (((((show F17 0 9 = F11 0 9 from (eF17 0 9).trans (hS17 0 9 rfl))).trans ((show F11 0 9 = F 0 9 from (eF11 0 9)))).trans (eu0_9))) (y17_0_21) (((eF17 0 21).trans ey17_0_21)) (show inr (z17) by omega) (show 0 ≤ (z17) ∧ (z17) ≤ 17 by omega) (show 0 ≤ (u0_9) ∧ (u0_9) ≤ (u0_9) ∧ (u0_9) ≤ (u0_8) by omega) (show UIA (ub8 ((w1))) ((u0_8)) ((u0_9)) ((u2_2) % 4294967296) ((u0_14)) ((z17)) ((y17_0_21)) ((u0_9)) by assumption) (show (z17) ≠ 0 ∨ (y17_0_21) = (u0_21) by omega))
    · refine Ew_of (pc' := 35) (fun _ => x_aload_n rfl (rk_o (rfl) rfl rfl)) ?_
      refine Ew_of (pc' := 36) (fun _ => x_iconst rfl) ?_
      refine Ew_of (pc' := 37) (fun _ => x_aload_n rfl (rk_o (rfl) rfl rfl)) ?_
      refine v_g H (o := 0) (v := I (u0_8)) rfl rfl rfl rfl rfl (congrArg (fun z : Int => I z) ((eu0_8) : F 0 8 = u0_8)) ?_
      refine v_inv H (o := 0) rfl rfl rfl rfl rfl rfl (by rfl) (C232 (D := pul [0] D) (N := pul [0] N) (HW_sub H (VS_of (show vsub V238 V232 [0] = true by decide +kernel))) (u0_21) ((eu0_21)) (show inr (1) by omega) (show inr (u0_8) by omega) (fun z19 σ19 F19' A19' H' O' hS19 hA19 y19_0_21 ey19_0_21 pz19_0 pz19_1 pz19_2 => ⟨rfl, ?_⟩))
      replace ey19_0_21 := HIDm ey19_0_21
      refine v_back (c := c) (s := s) H (show vsub V238 V232 [0] = true by decide +kernel) H' O' (fun F19 A19 H O' eF19 eA19 => ?_)
      have O := OUT_trans O O'
      -- Unpacker.fail
      have r20 : (-2147483648 : Int) ≤ y19_0_21 ∧ y19_0_21 ≤ 2147483647 := by have h1 : (-2147483648 : Int) ≤ F19 0 21 ∧ F19 0 21 ≤ 2147483647 := H.krg 0 21 (by decide); rw [show F19 0 21 = y19_0_21 from ((eF19 0 21).trans ey19_0_21)] at h1; exact h1
      have : UIA (ub8 ((w1))) ((u0_8)) ((u0_9)) ((u2_2) % 4294967296) ((u0_14)) ((z19)) ((y19_0_21)) ((u0_9)) := .inl ⟨by omega, by omega, by omega⟩
      exact w_ireturn rfl (k (z19) _ _ _ H O (SF_trans (SF_refl) (SF_glu (ι := [0]) hS19 eF19 (by decide +kernel)) (any_sub (l' := [(0, 21)]) rfl)) (SA_trans (SA_refl) (SA_glu (ι := [0]) hA19 eA19 (by decide +kernel)) (any_subA (l' := []) rfl)) (u0_9) ((((show F19 0 9 = F 0 9 from (eF19 0 9).trans (hS19 0 9 rfl))).trans (eu0_9))) (y19_0_21) (((eF19 0 21).trans ey19_0_21)) (show inr (z19) by omega) (show 0 ≤ (z19) ∧ (z19) ≤ 17 by omega) (show 0 ≤ (u0_9) ∧ (u0_9) ≤ (u0_9) ∧ (u0_9) ≤ (u0_8) by omega) (show UIA (ub8 ((w1))) ((u0_8)) ((u0_9)) ((u2_2) % 4294967296) ((u0_14)) ((z19)) ((y19_0_21)) ((u0_9)) by assumption) (show (z19) ≠ 0 ∨ (y19_0_21) = (u0_21) by omega))
  · refine Ew_of (pc' := 11) (fun _ => x_iconst rfl) ?_
    refine Ew_of (pc' := 20) (fun _ => x_goto rfl rfl) ?_
    refine Ew_of (pc' := 21) (fun _ => x_istore_n rfl) ?_
    have hl1 : (4) = idB ((u0_14)) := by omega
    refine Ew_of (pc' := 22) (fun _ => x_aload_n rfl (rk_o (rfl) rfl rfl)) ?_
    refine v_g H (o := 0) (v := I (u0_8)) rfl rfl rfl rfl rfl (congrArg (fun z : Int => I z) ((eu0_8) : F 0 8 = u0_8)) ?_
    refine Ew_of (pc' := 26) (fun _ => x_aload_n rfl (rk_o (rfl) rfl rfl)) ?_
    refine v_g H (o := 0) (v := I (u0_9)) rfl rfl rfl rfl rfl (congrArg (fun z : Int => I z) ((eu0_9) : F 0 9 = u0_9)) ?_
    refine w_isub rfl ?_
    refine Ew_of (pc' := 31) (fun _ => x_iload_n rfl rk_s) ?_
    refine w_icmpge (t := 44) rfl rfl (show inr ((u0_8 - u0_9)) by omega) (show inr (4) by omega) (fun b21 => ?_) (fun b21 => ?_)
    · refine Ew_of (pc' := 45) (fun _ => x_aload_n rfl (rk_o (rfl) rfl rfl)) ?_
      refine v_g H (o := 0) (v := .ref (D 1)) rfl rfl rfl rfl rfl (vrf (pf1)) ?_
      refine Ew_of (pc' := 49) (fun _ => x_aload_n rfl (rk_o (rfl) rfl rfl)) ?_
      refine v_g H (o := 0) (v := I (u0_9)) rfl rfl rfl rfl rfl (congrArg (fun z : Int => I z) ((eu0_9) : F 0 9 = u0_9)) ?_
      refine Ew_of (pc' := 53) (fun _ => x_iload_n rfl rk_s) ?_
      refine w_stat25 rfl rfl (by rfl) (C42_Brf (D := pul [1] D) (N := pul [1] N) (HW_sub H (VS_of (show vsub V238 V42_Br [1] = true by decide +kernel))) (n1) (en1) (w1) (ew1) (show inr (u0_9) by omega) (show inr (4) by omega) (show (4) ≤ 0 ∨ 0 ≤ (u0_9) ∧ (u0_9) + (4) ≤ (n1) by omega) (show 0 ≤ (4) ∧ (4) ≤ 8 by omega) (fun z22 σ22 F22' A22' H' O' hS22 hA22 pz22_0 pz22_1 pz22_2 => ⟨rfl, ?_⟩))
      refine v_back (c := c) (s := s) H (show vsub V238 V42_Br [1] = true by decide +kernel) H' O' (fun F22 A22 H O' eF22 eA22 => ?_)
      have O := OUT_trans O O'
      -- PackHouse.number
      have hN : z22 = nvl (ub8 ((w1))) ((u0_9)) (idB ((u0_14))).toNat := by rw [← hl1]; exact (nmb_nn pz22_2 (by omega) pz22_0).trans nvl_u
      refine Ew_of (pc' := 57) (fun _ => x_lstore_n rfl) ?_
      refine Ew_of (pc' := 58) (fun _ => x_lload_n rfl rk2_s) ?_
      refine Ew_of (pc' := 59) (fun _ => x_lconst (z := 0) rfl (by decide)) ?_
      refine w_lcmp rfl (show inrJ (z22) by omega) (show inrJ (0) by omega) (fun z23 gz23 gaz23 gbz23 => ?_)
      refine w_ifeq (t := 90) rfl rfl (show inr (z23) by omega) (fun b24 => ?_) (fun b24 => ?_)
      · refine Ew_of (pc' := 91) (fun _ => x_aload_n rfl (rk2_o (rk_o (rfl) rfl rfl) rfl rfl)) ?_
        refine Ew_of (pc' := 92) (fun _ => x_dup rfl rfl) ?_
        refine v_g H (o := 0) (v := I (u0_9)) rfl rfl rfl rfl rfl (congrArg (fun z : Int => I z) ((((show F22 0 9 = F 0 9 from (eF22 0 9))).trans (eu0_9)) : F22 0 9 = u0_9)) ?_
        refine Ew_of (pc' := 96) (fun _ => x_iload_n rfl (rk2_o (rk_s) rfl rfl)) ?_
        refine w_iadd rfl ?_
        refine v_p H (o := 0) (z := (u0_9 + 4)) (v := I ((u0_9 + 4))) rfl rfl rfl rfl rfl rfl rfl rfl (show (-2147483648 : Int) ≤ (u0_9 + 4) ∧ (u0_9 + 4) ≤ 2147483647 by omega) (fun σ H O' => ?_)
        have O := OUT_trans O O'
        refine Ew_of (pc' := 101) (fun _ => x_iconst rfl) ?_
        have : UIA (ub8 ((w1))) ((u0_8)) ((u0_9)) ((u2_2) % 4294967296) ((u0_14)) ((0)) ((u0_21)) (((u0_9 + 4))) := .inr (.inr ⟨by omega, by rw [← hN]; omega, by omega, by omega⟩)
        exact w_ireturn rfl (k (0) _ _ _ H O (SF_upd (SF_trans (SF_refl) (SF_glu (ι := [1]) hS22 eF22 (by decide +kernel)) (any_sub (l' := []) rfl)) rfl) (SA_trans (SA_refl) (SA_glu (ι := [1]) hA22 eA22 (by decide +kernel)) (any_subA (l' := []) rfl)) ((u0_9 + 4)) (rfl) (u0_21) ((((show F22 0 21 = F 0 21 from (eF22 0 21))).trans (eu0_21))) (show inr (0) by omega) (show 0 ≤ (0) ∧ (0) ≤ 17 by omega) (show 0 ≤ ((u0_9 + 4)) ∧ (u0_9) ≤ ((u0_9 + 4)) ∧ ((u0_9 + 4)) ≤ (u0_8) by omega) (show UIA (ub8 ((w1))) ((u0_8)) ((u0_9)) ((u2_2) % 4294967296) ((u0_14)) ((0)) ((u0_21)) (((u0_9 + 4))) by assumption) (show (0) ≠ 0 ∨ (u0_21) = (u0_21) by omega))
      · refine Ew_of (pc' := 64) (fun _ => x_lload_n rfl rk2_s) ?_
        refine Ew_of (pc' := 65) (fun _ => x_aload_n rfl (rk2_o (rk_o (rfl) rfl rfl) rfl rfl)) ?_
        refine v_g H (o := 0) (v := .ref (D 2)) rfl rfl rfl rfl rfl (vrf ((((show F22 0 12 = F 0 12 from (eF22 0 12)))).trans (pf2))) ?_
        refine v_g H (o := 2) (v := I (u2_2)) rfl rfl rfl rfl rfl (congrArg (fun z : Int => I z) ((((show F22 2 2 = F 2 2 from (eF22 2 2))).trans (eu2_2)) : F22 2 2 = u2_2)) ?_
        refine w_i2l rfl (show inr (u2_2) by omega) ?_
        refine Ew_of (pc' := 75) (fun _ => x_ldc2 (z := 4294967295) rfl (by decide)) ?_
        refine w_landE rfl ?_
        have g25 : inrJ (anJ (u2_2) (4294967295)) := toJ_inr _
        have han : ((anJ (u2_2) (4294967295))) = (u2_2) % 4294967296 := anJ_w (by omega)
        refine w_lcmp rfl (show inrJ (z22) by omega) (show inrJ ((anJ (u2_2) (4294967295))) by omega) (fun z26 gz26 gaz26 gbz26 => ?_)
        refine w_ifeq (t := 90) rfl rfl (show inr (z26) by omega) (fun b27 => ?_) (fun b27 => ?_)
        · refine Ew_of (pc' := 91) (fun _ => x_aload_n rfl (rk2_o (rk_o (rfl) rfl rfl) rfl rfl)) ?_
          refine Ew_of (pc' := 92) (fun _ => x_dup rfl rfl) ?_
          refine v_g H (o := 0) (v := I (u0_9)) rfl rfl rfl rfl rfl (congrArg (fun z : Int => I z) ((((show F22 0 9 = F 0 9 from (eF22 0 9))).trans (eu0_9)) : F22 0 9 = u0_9)) ?_
          refine Ew_of (pc' := 96) (fun _ => x_iload_n rfl (rk2_o (rk_s) rfl rfl)) ?_
          refine w_iadd rfl ?_
          refine v_p H (o := 0) (z := (u0_9 + 4)) (v := I ((u0_9 + 4))) rfl rfl rfl rfl rfl rfl rfl rfl (show (-2147483648 : Int) ≤ (u0_9 + 4) ∧ (u0_9 + 4) ≤ 2147483647 by omega) (fun σ H O' => ?_)
          have O := OUT_trans O O'
          refine Ew_of (pc' := 101) (fun _ => x_iconst rfl) ?_
          have : UIA (ub8 ((w1))) ((u0_8)) ((u0_9)) ((u2_2) % 4294967296) ((u0_14)) ((0)) ((u0_21)) (((u0_9 + 4))) := .inr (.inr ⟨by omega, by rw [← hN]; omega, by omega, by omega⟩)
          exact w_ireturn rfl (k (0) _ _ _ H O (SF_upd (SF_trans (SF_refl) (SF_glu (ι := [1]) hS22 eF22 (by decide +kernel)) (any_sub (l' := []) rfl)) rfl) (SA_trans (SA_refl) (SA_glu (ι := [1]) hA22 eA22 (by decide +kernel)) (any_subA (l' := []) rfl)) ((u0_9 + 4)) (rfl) (u0_21) ((((show F22 0 21 = F 0 21 from (eF22 0 21))).trans (eu0_21))) (show inr (0) by omega) (show 0 ≤ (0) ∧ (0) ≤ 17 by omega) (show 0 ≤ ((u0_9 + 4)) ∧ (u0_9) ≤ ((u0_9 + 4)) ∧ ((u0_9 + 4)) ≤ (u0_8) by omega) (show UIA (ub8 ((w1))) ((u0_8)) ((u0_9)) ((u2_2) % 4294967296) ((u0_14)) ((0)) ((u0_21)) (((u0_9 + 4))) by assumption) (show (0) ≠ 0 ∨ (u0_21) = (u0_21) by omega))
        · refine Ew_of (pc' := 81) (fun _ => x_aload_n rfl (rk2_o (rk_o (rfl) rfl rfl) rfl rfl)) ?_
          refine Ew_of (pc' := 82) (fun _ => x_iconst rfl) ?_
          refine Ew_of (pc' := 83) (fun _ => x_aload_n rfl (rk2_o (rk_o (rfl) rfl rfl) rfl rfl)) ?_
          refine v_g H (o := 0) (v := I (u0_9)) rfl rfl rfl rfl rfl (congrArg (fun z : Int => I z) ((((show F22 0 9 = F 0 9 from (eF22 0 9))).trans (eu0_9)) : F22 0 9 = u0_9)) ?_
          refine v_inv H (o := 0) rfl rfl rfl rfl rfl rfl (by rfl) (C232 (D := pul [0] D) (N := pul [0] N) (HW_sub H (VS_of (show vsub V238 V232 [0] = true by decide +kernel))) (u0_21) ((((show F22 0 21 = F 0 21 from (eF22 0 21))).trans (eu0_21))) (show inr (4) by omega) (show inr (u0_9) by omega) (fun z28 σ28 F28' A28' H' O' hS28 hA28 y28_0_21 ey28_0_21 pz28_0 pz28_1 pz28_2 => ⟨rfl, ?_⟩))
          replace ey28_0_21 := HIDm ey28_0_21
          refine v_back (c := c) (s := s) H (show vsub V238 V232 [0] = true by decide +kernel) H' O' (fun F28 A28 H O' eF28 eA28 => ?_)
          have O := OUT_trans O O'
          -- Unpacker.fail
          have r29 : (-2147483648 : Int) ≤ y28_0_21 ∧ y28_0_21 ≤ 2147483647 := by have h1 : (-2147483648 : Int) ≤ F28 0 21 ∧ F28 0 21 ≤ 2147483647 := H.krg 0 21 (by decide); rw [show F28 0 21 = y28_0_21 from ((eF28 0 21).trans ey28_0_21)] at h1; exact h1
          have : UIA (ub8 ((w1))) ((u0_8)) ((u0_9)) ((u2_2) % 4294967296) ((u0_14)) ((z28)) ((y28_0_21)) ((u0_9)) := .inr (.inl ⟨by omega, ⟨by rw [← hN]; omega, by rw [← hN]; omega⟩, by omega, by omega⟩)
          exact w_ireturn rfl (k (z28) _ _ _ H O (SF_trans (SF_trans (SF_refl) (SF_glu (ι := [1]) hS22 eF22 (by decide +kernel)) (any_sub (l' := []) rfl)) (SF_glu (ι := [0]) hS28 eF28 (by decide +kernel)) (any_sub (l' := [(0, 21)]) rfl)) (SA_trans (SA_trans (SA_refl) (SA_glu (ι := [1]) hA22 eA22 (by decide +kernel)) (any_subA (l' := []) rfl)) (SA_glu (ι := [0]) hA28 eA28 (by decide +kernel)) (any_subA (l' := []) rfl)) (u0_9) (((((show F28 0 9 = F22 0 9 from (eF28 0 9).trans (hS28 0 9 rfl))).trans ((show F22 0 9 = F 0 9 from (eF22 0 9)))).trans (eu0_9))) (y28_0_21) (((eF28 0 21).trans ey28_0_21)) (show inr (z28) by omega) (show 0 ≤ (z28) ∧ (z28) ≤ 17 by omega) (show 0 ≤ (u0_9) ∧ (u0_9) ≤ (u0_9) ∧ (u0_9) ≤ (u0_8) by omega) (show UIA (ub8 ((w1))) ((u0_8)) ((u0_9)) ((u2_2) % 4294967296) ((u0_14)) ((z28)) ((y28_0_21)) ((u0_9)) by assumption) (show (z28) ≠ 0 ∨ (y28_0_21) = (u0_21) by omega))
    · refine Ew_of (pc' := 35) (fun _ => x_aload_n rfl (rk_o (rfl) rfl rfl)) ?_
      refine Ew_of (pc' := 36) (fun _ => x_iconst rfl) ?_
      refine Ew_of (pc' := 37) (fun _ => x_aload_n rfl (rk_o (rfl) rfl rfl)) ?_
      refine v_g H (o := 0) (v := I (u0_8)) rfl rfl rfl rfl rfl (congrArg (fun z : Int => I z) ((eu0_8) : F 0 8 = u0_8)) ?_
      refine v_inv H (o := 0) rfl rfl rfl rfl rfl rfl (by rfl) (C232 (D := pul [0] D) (N := pul [0] N) (HW_sub H (VS_of (show vsub V238 V232 [0] = true by decide +kernel))) (u0_21) ((eu0_21)) (show inr (1) by omega) (show inr (u0_8) by omega) (fun z30 σ30 F30' A30' H' O' hS30 hA30 y30_0_21 ey30_0_21 pz30_0 pz30_1 pz30_2 => ⟨rfl, ?_⟩))
      replace ey30_0_21 := HIDm ey30_0_21
      refine v_back (c := c) (s := s) H (show vsub V238 V232 [0] = true by decide +kernel) H' O' (fun F30 A30 H O' eF30 eA30 => ?_)
      have O := OUT_trans O O'
      -- Unpacker.fail
      have r31 : (-2147483648 : Int) ≤ y30_0_21 ∧ y30_0_21 ≤ 2147483647 := by have h1 : (-2147483648 : Int) ≤ F30 0 21 ∧ F30 0 21 ≤ 2147483647 := H.krg 0 21 (by decide); rw [show F30 0 21 = y30_0_21 from ((eF30 0 21).trans ey30_0_21)] at h1; exact h1
      have : UIA (ub8 ((w1))) ((u0_8)) ((u0_9)) ((u2_2) % 4294967296) ((u0_14)) ((z30)) ((y30_0_21)) ((u0_9)) := .inl ⟨by omega, by omega, by omega⟩
      exact w_ireturn rfl (k (z30) _ _ _ H O (SF_trans (SF_refl) (SF_glu (ι := [0]) hS30 eF30 (by decide +kernel)) (any_sub (l' := [(0, 21)]) rfl)) (SA_trans (SA_refl) (SA_glu (ι := [0]) hA30 eA30 (by decide +kernel)) (any_subA (l' := []) rfl)) (u0_9) ((((show F30 0 9 = F 0 9 from (eF30 0 9).trans (hS30 0 9 rfl))).trans (eu0_9))) (y30_0_21) (((eF30 0 21).trans ey30_0_21)) (show inr (z30) by omega) (show 0 ≤ (z30) ∧ (z30) ≤ 17 by omega) (show 0 ≤ (u0_9) ∧ (u0_9) ≤ (u0_9) ∧ (u0_9) ≤ (u0_8) by omega) (show UIA (ub8 ((w1))) ((u0_8)) ((u0_9)) ((u2_2) % 4294967296) ((u0_14)) ((z30)) ((y30_0_21)) ((u0_9)) by assumption) (show (z30) ≠ 0 ∨ (y30_0_21) = (u0_21) by omega))
abbrev V239 : vV := [(0, 12, [(4, 0), (4, 0), (4, 0), (4, 0), (4, 0), (4, 0), (4, 0), (4, 0), (0, 0), (0, 0), (4, 0), (0, 0), (4, 0), (4, 0), (0, 0), (2, 0), (0, 0), (0, 0), (0, 0), (0, 0), (0, 0), (0, 0)])]
/-- Unpacker.sizeBytes: this -/
theorem C239 {σE : rS} {D N : Nat → Nat} {F : hF} {A : hA} {d c s : Nat} {Q : wQ} (H : HW V239 σE D N F A)  (u0_14 : Int) (eu0_14 : F 0 14 = u0_14) (h0 : 0 ≤ (u0_14) ∧ (u0_14) ≤ 255) (k : ∀ (z : Int) (σ : rS) (F' : hF) (A' : hA), HW V239 σ D N F' A' → OUT (V239).length D N σE c s D N σ c s → SF [] F F' → SA [] A A' → (inr (z)) → (0 ≤ (z) ∧ (z) ≤ 8) → ((z) = sbt ((u0_14))) → ((z) = szB ((u0_14))) → Q (some (I z)) σ c s) : Ew 239 (d + 0) 0 (rargs 0 [.ref (D 0)]) [] σE c s Q := by
  have O := OUT_refl (n := (V239).length) (D := D) (N := N) (σ := σE) (c := c) (s := s)
  have HE := H
  have r1 : (-2147483648 : Int) ≤ u0_14 ∧ u0_14 ≤ 2147483647 := by have h1 : (-2147483648 : Int) ≤ F 0 14 ∧ F 0 14 ≤ 2147483647 := H.krg 0 14 (by decide); rw [show F 0 14 = u0_14 from (eu0_14)] at h1; exact h1
  replace eu0_14 := HIDm eu0_14
  have hbz := sbt_sz (h := (u0_14)) (by omega)
  refine Ew_of (pc' := 1) (fun _ => x_aload_n rfl rfl) ?_
  refine v_g H (o := 0) (v := I (u0_14)) rfl rfl rfl rfl rfl (congrArg (fun z : Int => I z) ((eu0_14) : F 0 14 = u0_14)) ?_
  refine Ew_of (pc' := 6) (fun _ => x_bipush (z := 6) rfl (by decide)) ?_
  refine w_ishrK 6 64 (by decide) (by decide) rfl (show inr (u0_14) by omega) (fun z2 gz2 dz2 => ?_)
  refine Ew_of (pc' := 8) (fun _ => x_istore_n rfl) ?_
  refine Ew_of (pc' := 9) (fun _ => x_iload_n rfl rk_s) ?_
  refine w_ifle (t := 18) rfl rfl (show inr (z2) by omega) (fun b3 => ?_) (fun b3 => ?_)
  · refine Ew_of (pc' := 19) (fun _ => x_aload_n rfl (rk_o (rfl) rfl rfl)) ?_
    refine v_g H (o := 0) (v := I (u0_14)) rfl rfl rfl rfl rfl (congrArg (fun z : Int => I z) ((eu0_14) : F 0 14 = u0_14)) ?_
    refine Ew_of (pc' := 24) (fun _ => x_bipush (z := 32) rfl (by decide)) ?_
    refine w_iandE rfl (show inr (u0_14) by omega) (show inr (32) by omega) (fun z4 gz4 gaz4 gbz4 gez4 => ?_)
    refine w_ifeq (t := 32) rfl rfl (show inr (z4) by omega) (fun b5 => ?_) (fun b5 => ?_)
    · refine Ew_of (pc' := 33) (fun _ => x_iconst rfl) ?_
      have hsb : ((0) : Int) = sbt ((u0_14)) := by first | exact sbt_1 (by omega) (by omega) | exact sbt_2 (by omega) (by omega) | exact sbt_3 (by omega) (by omega)
      exact w_ireturn rfl (k (0) _ _ _ H O (SF_refl) (SA_refl) (show inr (0) by omega) (show 0 ≤ (0) ∧ (0) ≤ 8 by omega) (show (0) = sbt ((u0_14)) by omega) (show (0) = szB ((u0_14)) by omega))
    · refine Ew_of (pc' := 29) (fun _ => x_iconst rfl) ?_
      refine Ew_of (pc' := 33) (fun _ => x_goto rfl rfl) ?_
      have hsb : ((1) : Int) = sbt ((u0_14)) := by first | exact sbt_1 (by omega) (by omega) | exact sbt_2 (by omega) (by omega) | exact sbt_3 (by omega) (by omega)
      exact w_ireturn rfl (k (1) _ _ _ H O (SF_refl) (SA_refl) (show inr (1) by omega) (show 0 ≤ (1) ∧ (1) ≤ 8 by omega) (show (1) = sbt ((u0_14)) by omega) (show (1) = szB ((u0_14)) by omega))
  · refine Ew_of (pc' := 13) (fun _ => x_iconst rfl) ?_
    refine Ew_of (pc' := 14) (fun _ => x_iload_n rfl rk_s) ?_
    have hp3 : p2 ((z2)) ≤ p2 3 := p2_mono (by omega)
    have hp8 : p2 3 = 8 := by decide
    have hpp := p2_pos ((z2))
    refine w_ishl1 rfl (show 0 ≤ z2 ∧ z2 ≤ 31 by omega) ?_
    refine Ew_of (pc' := 33) (fun _ => x_goto rfl rfl) ?_
    have hsb : ((p2 (z2)) : Int) = sbt ((u0_14)) := by first | exact sbt_1 (by omega) (by omega) | exact sbt_2 (by omega) (by omega) | exact sbt_3 (by omega) (by omega)
    exact w_ireturn rfl (k (p2 (z2)) _ _ _ H O (SF_refl) (SA_refl) (show inr (p2 (z2)) by omega) (show 0 ≤ (p2 (z2)) ∧ (p2 (z2)) ≤ 8 by omega) (show (p2 (z2)) = sbt ((u0_14)) by omega) (show (p2 (z2)) = szB ((u0_14)) by omega))
abbrev V240 : vV := [(0, 12, [(4, 0), (4, 0), (4, 0), (4, 0), (4, 0), (4, 0), (4, 0), (4, 0), (0, 0), (0, 0), (4, 0), (0, 0), (4, 0), (4, 0), (0, 0), (2, 0), (0, 0), (0, 0), (0, 0), (0, 0), (0, 0), (0, 0)]), (1, 0, [])]
/-- Unpacker.sizeTold: this, this.in -/
theorem C240 {σE : rS} {D N : Nat → Nat} {F : hF} {A : hA} {d c s : Nat} {Q : wQ} (H : HW V240 σE D N F A)  (pf1 : F 0 7 = (D 1 : Int)) (n1 : Int) (en1 : (N 1 : Int) = n1) (u0_14 : Int) (eu0_14 : F 0 14 = u0_14) (u0_16 : Int) (eu0_16 : F 0 16 = u0_16) (w1 : Int → Int) (ew1 : A 1 = w1) (h0 : 0 ≤ (u0_14) ∧ (u0_14) ≤ 255) (h1 : 0 ≤ (u0_16) ∧ (u0_16) + sbt ((u0_14)) ≤ (n1)) (h2 : (n1) ≤ 65536) (k : ∀ (z : Int) (σ : rS) (F' : hF) (A' : hA), HW V240 σ D N F' A' → OUT (V240).length D N σE c s D N σ c s → SF [] F F' → SA [] A A' → (inrJ (z)) → (SGD (dueF (ub8 ((w1))) ((u0_16)) (szB ((u0_14)))) ((z))) → Q (some (J z)) σ c s) : Ew 240 (d + 1) 0 (rargs 0 [.ref (D 0)]) [] σE c s Q := by
  have O := OUT_refl (n := (V240).length) (D := D) (N := N) (σ := σE) (c := c) (s := s)
  have HE := H
  have r1 : (-2147483648 : Int) ≤ u0_14 ∧ u0_14 ≤ 2147483647 := by have h1 : (-2147483648 : Int) ≤ F 0 14 ∧ F 0 14 ≤ 2147483647 := H.krg 0 14 (by decide); rw [show F 0 14 = u0_14 from (eu0_14)] at h1; exact h1
  have r2 : (-2147483648 : Int) ≤ u0_16 ∧ u0_16 ≤ 2147483647 := by have h1 : (-2147483648 : Int) ≤ F 0 16 ∧ F 0 16 ≤ 2147483647 := H.krg 0 16 (by decide); rw [show F 0 16 = u0_16 from (eu0_16)] at h1; exact h1
  replace pf1 := HIDm pf1
  replace en1 := HIDm en1
  replace eu0_14 := HIDm eu0_14
  replace eu0_16 := HIDm eu0_16
  have r3 : (0 : Int) ≤ n1 ∧ n1 ≤ 1000000 := by have h1 := H.nle 1 (by decide); have h2 : (N 1 : Int) = n1 := en1; omega
  refine Ew_of (pc' := 1) (fun _ => x_aload_n rfl rfl) ?_
  refine v_inv H (o := 0) rfl rfl rfl rfl rfl rfl (by rfl) (C239 (D := pul [0] D) (N := pul [0] N) (HW_sub H (VS_of (show vsub V240 V239 [0] = true by decide +kernel))) (u0_14) ((eu0_14)) (show 0 ≤ (u0_14) ∧ (u0_14) ≤ 255 by omega) (fun z4 σ4 F4' A4' H' O' hS4 hA4 pz4_0 pz4_1 pz4_2 pz4_3 => ⟨rfl, ?_⟩))
  refine v_back (c := c) (s := s) H (show vsub V240 V239 [0] = true by decide +kernel) H' O' (fun F4 A4 H O' eF4 eA4 => ?_)
  have O := OUT_trans O O'
  -- Unpacker.sizeBytes
  have hl1 := pz4_3
  refine Ew_of (pc' := 5) (fun _ => x_istore_n rfl) ?_
  refine Ew_of (pc' := 6) (fun _ => x_aload_n rfl (rk_o (rfl) rfl rfl)) ?_
  refine v_g H (o := 0) (v := .ref (D 1)) rfl rfl rfl rfl rfl (vrf ((((show F4 0 7 = F 0 7 from (eF4 0 7).trans (hS4 0 7 rfl)))).trans (pf1))) ?_
  refine Ew_of (pc' := 10) (fun _ => x_aload_n rfl (rk_o (rfl) rfl rfl)) ?_
  refine v_g H (o := 0) (v := I (u0_16)) rfl rfl rfl rfl rfl (congrArg (fun z : Int => I z) ((((show F4 0 16 = F 0 16 from (eF4 0 16).trans (hS4 0 16 rfl))).trans (eu0_16)) : F4 0 16 = u0_16)) ?_
  refine Ew_of (pc' := 14) (fun _ => x_iload_n rfl rk_s) ?_
  refine w_stat25 rfl rfl (by rfl) (C42_Brf (D := pul [1] D) (N := pul [1] N) (HW_sub H (VS_of (show vsub V240 V42_Br [1] = true by decide +kernel))) (n1) (en1) (w1) (((show A4 1 = A 1 from (eA4 1))).trans (ew1)) (show inr (u0_16) by omega) (show inr (z4) by omega) (show (z4) ≤ 0 ∨ 0 ≤ (u0_16) ∧ (u0_16) + (z4) ≤ (n1) by omega) (show 0 ≤ (z4) ∧ (z4) ≤ 8 by omega) (fun z5 σ5 F5' A5' H' O' hS5 hA5 pz5_0 pz5_1 pz5_2 => ⟨rfl, ?_⟩))
  refine v_back (c := c) (s := s) H (show vsub V240 V42_Br [1] = true by decide +kernel) H' O' (fun F5 A5 H O' eF5 eA5 => ?_)
  have O := OUT_trans O O'
  -- PackHouse.number
  refine Ew_of (pc' := 18) (fun _ => x_iload_n rfl rk_s) ?_
  refine Ew_of (pc' := 19) (fun _ => x_iconst rfl) ?_
  refine w_icmpne (t := 28) rfl rfl (show inr (z4) by omega) (show inr (2) by omega) (fun b6 => ?_) (fun b6 => ?_)
  · refine Ew_of (pc' := 29) (fun _ => x_iconst rfl) ?_
    refine w_i2l rfl (show inr (0) by omega) ?_
    refine w_ladd rfl ?_
    have : SGD (dueF (ub8 ((w1))) ((u0_16)) (szB ((u0_14)))) (((z5 + 0))) := by rw [← hl1]; exact SGD_of pz5_2 (by omega) pz5_0 (by omega) (by first | rfl | omega)
    exact w_lreturn rfl (k ((z5 + 0)) _ _ _ H O (SF_trans (SF_trans (SF_refl) (SF_glu (ι := [0]) hS4 eF4 (by decide +kernel)) (any_sub (l' := []) rfl)) (SF_glu (ι := [1]) hS5 eF5 (by decide +kernel)) (any_sub (l' := []) rfl)) (SA_trans (SA_trans (SA_refl) (SA_glu (ι := [0]) hA4 eA4 (by decide +kernel)) (any_subA (l' := []) rfl)) (SA_glu (ι := [1]) hA5 eA5 (by decide +kernel)) (any_subA (l' := []) rfl)) (show inrJ ((z5 + 0)) by omega) (show SGD (dueF (ub8 ((w1))) ((u0_16)) (szB ((u0_14)))) (((z5 + 0))) by assumption))
  · refine Ew_of (pc' := 25) (fun _ => x_sipush (z := 256) rfl (by decide)) ?_
    refine Ew_of (pc' := 29) (fun _ => x_goto rfl rfl) ?_
    refine w_i2l rfl (show inr (256) by omega) ?_
    refine w_ladd rfl ?_
    have : SGD (dueF (ub8 ((w1))) ((u0_16)) (szB ((u0_14)))) (((z5 + 256))) := by rw [← hl1]; exact SGD_of pz5_2 (by omega) pz5_0 (by omega) (by first | rfl | omega)
    exact w_lreturn rfl (k ((z5 + 256)) _ _ _ H O (SF_trans (SF_trans (SF_refl) (SF_glu (ι := [0]) hS4 eF4 (by decide +kernel)) (any_sub (l' := []) rfl)) (SF_glu (ι := [1]) hS5 eF5 (by decide +kernel)) (any_sub (l' := []) rfl)) (SA_trans (SA_trans (SA_refl) (SA_glu (ι := [0]) hA4 eA4 (by decide +kernel)) (any_subA (l' := []) rfl)) (SA_glu (ι := [1]) hA5 eA5 (by decide +kernel)) (any_subA (l' := []) rfl)) (show inrJ ((z5 + 256)) by omega) (show SGD (dueF (ub8 ((w1))) ((u0_16)) (szB ((u0_14)))) (((z5 + 256))) by assumption))
abbrev V241 : vV := [(0, 12, [(4, 0), (4, 0), (4, 0), (4, 0), (4, 0), (4, 0), (4, 0), (4, 0), (0, 0), (0, 0), (4, 0), (0, 0), (4, 0), (4, 0), (0, 0), (2, 0), (0, 0), (0, 0), (0, 0), (0, 0), (0, 0), (0, 0)]), (1, 0, []), (1, 1, [])]
/-- Unpacker.unpackSize: this, this.in, this.counts -/
theorem C241 {σE : rS} {D N : Nat → Nat} {F : hF} {A : hA} {d c s : Nat} {Q : wQ} (H : HW V241 σE D N F A)  (pf1 : F 0 7 = (D 1 : Int)) (pf2 : F 0 13 = (D 2 : Int)) (n1 : Int) (en1 : (N 1 : Int) = n1) (n2 : Int) (en2 : (N 2 : Int) = n2) (u0_8 : Int) (eu0_8 : F 0 8 = u0_8) (u0_9 : Int) (eu0_9 : F 0 9 = u0_9) (u0_14 : Int) (eu0_14 : F 0 14 = u0_14) (u0_15 : Int) (eu0_15 : F 0 15 = u0_15) (u0_16 : Int) (eu0_16 : F 0 16 = u0_16) (u0_21 : Int) (eu0_21 : F 0 21 = u0_21) (w1 : Int → Int) (ew1 : A 1 = w1) (w2 : Int → Int) (ew2 : A 2 = w2) (h0 : 0 ≤ (u0_9) ∧ (u0_9) ≤ (u0_8) ∧ (u0_8) ≤ (n1) ∧ (n1) ≤ 65536) (h1 : 0 ≤ (u0_14) ∧ (u0_14) ≤ 255) (h2 : (n2) = 5) (h3 : 0 ≤ (u0_15)) (k : ∀ (z : Int) (σ : rS) (F' : hF) (A' : hA), HW V241 σ D N F' A' → OUT (V241).length D N σE c s D N σ c s → SF [(0, 9), (0, 15), (0, 16), (0, 21)] F F' → SA [2] A A' → ∀ y0_9 : Int, F' 0 9 = y0_9 → ∀ y0_15 : Int, F' 0 15 = y0_15 → ∀ y0_16 : Int, F' 0 16 = y0_16 → ∀ y0_21 : Int, F' 0 21 = y0_21 → ∀ v2 : Int → Int, A' 2 = v2 → (inr (z)) → (0 ≤ (z) ∧ (z) ≤ 17) → (0 ≤ (y0_9) ∧ (u0_9) ≤ (y0_9) ∧ (y0_9) ≤ (u0_8)) → (0 ≤ (y0_15)) → ((z) ≠ 0 ∨ 0 ≤ (y0_16) ∧ (y0_16) + sbt ((u0_14)) ≤ (n1)) → (USA (ub8 ((w1))) ((u0_8)) ((u0_9)) ((u0_14)) ((u0_15)) (((w2)) 4) ((z)) ((y0_21)) ((y0_9)) ((y0_16)) ((y0_15)) (((v2)) 4)) → (((v2)) 0 = ((w2)) 0) → (((v2)) 1 = ((w2)) 1) → (((v2)) 2 = ((w2)) 2) → (((v2)) 3 = ((w2)) 3) → ((z) ≠ 0 ∨ (y0_21) = (u0_21)) → Q (some (I z)) σ c s) : Ew 241 (d + 2) 0 (rargs 0 [.ref (D 0)]) [] σE c s Q := by
  have O := OUT_refl (n := (V241).length) (D := D) (N := N) (σ := σE) (c := c) (s := s)
  have HE := H
  have r1 : (-2147483648 : Int) ≤ u0_8 ∧ u0_8 ≤ 2147483647 := by have h1 : (-2147483648 : Int) ≤ F 0 8 ∧ F 0 8 ≤ 2147483647 := H.krg 0 8 (by decide); rw [show F 0 8 = u0_8 from (eu0_8)] at h1; exact h1
  have r2 : (-2147483648 : Int) ≤ u0_9 ∧ u0_9 ≤ 2147483647 := by have h1 : (-2147483648 : Int) ≤ F 0 9 ∧ F 0 9 ≤ 2147483647 := H.krg 0 9 (by decide); rw [show F 0 9 = u0_9 from (eu0_9)] at h1; exact h1
  have r3 : (-2147483648 : Int) ≤ u0_14 ∧ u0_14 ≤ 2147483647 := by have h1 : (-2147483648 : Int) ≤ F 0 14 ∧ F 0 14 ≤ 2147483647 := H.krg 0 14 (by decide); rw [show F 0 14 = u0_14 from (eu0_14)] at h1; exact h1
  have r4 : (-9223372036854775808 : Int) ≤ u0_15 ∧ u0_15 ≤ 9223372036854775807 := by have h1 : (-9223372036854775808 : Int) ≤ F 0 15 ∧ F 0 15 ≤ 9223372036854775807 := H.krg 0 15 (by decide); rw [show F 0 15 = u0_15 from (eu0_15)] at h1; exact h1
  have r5 : (-2147483648 : Int) ≤ u0_16 ∧ u0_16 ≤ 2147483647 := by have h1 : (-2147483648 : Int) ≤ F 0 16 ∧ F 0 16 ≤ 2147483647 := H.krg 0 16 (by decide); rw [show F 0 16 = u0_16 from (eu0_16)] at h1; exact h1
  have r6 : (-2147483648 : Int) ≤ u0_21 ∧ u0_21 ≤ 2147483647 := by have h1 : (-2147483648 : Int) ≤ F 0 21 ∧ F 0 21 ≤ 2147483647 := H.krg 0 21 (by decide); rw [show F 0 21 = u0_21 from (eu0_21)] at h1; exact h1
  replace pf1 := HIDm pf1
  replace pf2 := HIDm pf2
  replace en1 := HIDm en1
  replace en2 := HIDm en2
  replace eu0_8 := HIDm eu0_8
  replace eu0_9 := HIDm eu0_9
  replace eu0_14 := HIDm eu0_14
  replace eu0_15 := HIDm eu0_15
  replace eu0_16 := HIDm eu0_16
  replace eu0_21 := HIDm eu0_21
  have r7 : (0 : Int) ≤ n1 ∧ n1 ≤ 1000000 := by have h1 := H.nle 1 (by decide); have h2 : (N 1 : Int) = n1 := en1; omega
  have r8 : (0 : Int) ≤ n2 ∧ n2 ≤ 1000000 := by have h1 := H.nle 2 (by decide); have h2 : (N 2 : Int) = n2 := en2; omega
  refine Ew_of (pc' := 1) (fun _ => x_aload_n rfl rfl) ?_
  refine v_inv H (o := 0) rfl rfl rfl rfl rfl rfl (by rfl) (C239 (D := pul [0] D) (N := pul [0] N) (HW_sub H (VS_of (show vsub V241 V239 [0] = true by decide +kernel))) (u0_14) ((eu0_14)) (show 0 ≤ (u0_14) ∧ (u0_14) ≤ 255 by omega) (fun z9 σ9 F9' A9' H' O' hS9 hA9 pz9_0 pz9_1 pz9_2 pz9_3 => ⟨rfl, ?_⟩))
  refine v_back (c := c) (s := s) H (show vsub V241 V239 [0] = true by decide +kernel) H' O' (fun F9 A9 H O' eF9 eA9 => ?_)
  have O := OUT_trans O O'
  -- Unpacker.sizeBytes
  have hl1 := pz9_3
  have h32 := andI_32 (h := (u0_14)) (by omega)
  refine Ew_of (pc' := 5) (fun _ => x_istore_n rfl) ?_
  refine Ew_of (pc' := 6) (fun _ => x_aload_n rfl (rk_o (rfl) rfl rfl)) ?_
  refine v_g H (o := 0) (v := I (u0_8)) rfl rfl rfl rfl rfl (congrArg (fun z : Int => I z) ((((show F9 0 8 = F 0 8 from (eF9 0 8).trans (hS9 0 8 rfl))).trans (eu0_8)) : F9 0 8 = u0_8)) ?_
  refine Ew_of (pc' := 10) (fun _ => x_aload_n rfl (rk_o (rfl) rfl rfl)) ?_
  refine v_g H (o := 0) (v := I (u0_9)) rfl rfl rfl rfl rfl (congrArg (fun z : Int => I z) ((((show F9 0 9 = F 0 9 from (eF9 0 9).trans (hS9 0 9 rfl))).trans (eu0_9)) : F9 0 9 = u0_9)) ?_
  refine w_isub rfl ?_
  refine Ew_of (pc' := 15) (fun _ => x_iload_n rfl rk_s) ?_
  refine w_icmpge (t := 28) rfl rfl (show inr ((u0_8 - u0_9)) by omega) (show inr (z9) by omega) (fun b10 => ?_) (fun b10 => ?_)
  · refine Ew_of (pc' := 29) (fun _ => x_aload_n rfl (rk_o (rfl) rfl rfl)) ?_
    refine Ew_of (pc' := 30) (fun _ => x_aload_n rfl (rk_o (rfl) rfl rfl)) ?_
    refine v_g H (o := 0) (v := I (u0_9)) rfl rfl rfl rfl rfl (congrArg (fun z : Int => I z) ((((show F9 0 9 = F 0 9 from (eF9 0 9).trans (hS9 0 9 rfl))).trans (eu0_9)) : F9 0 9 = u0_9)) ?_
    refine v_p H (o := 0) (z := u0_9) (v := I (u0_9)) rfl rfl rfl rfl rfl rfl rfl rfl (show (-2147483648 : Int) ≤ u0_9 ∧ u0_9 ≤ 2147483647 by omega) (fun σ H O' => ?_)
    have O := OUT_trans O O'
    have hc54 : ∀ (ls : rO) (σ : rS) (F_c54 : hF) (A_c54 : hA) , rlook ls 0 = some (.ref (D 0)) → rlook ls 1 = some (I (z9)) → HW V241 σ D N F_c54 A_c54 → OUT (V241).length D N σE c s D N σ c s → SF [(0, 15)] (updF F9 0 16 (u0_9)) F_c54 → SA [2] A9 A_c54 → ∀ yc54_0_15 : Int, F_c54 0 15 = yc54_0_15 → ∀ wc54_2 : Int → Int, A_c54 2 = wc54_2 → (0 ≤ (yc54_0_15)) → (((u0_14) / 32 % 2 = 1 ∧ (yc54_0_15) = wn8 (dueF (ub8 ((w1))) ((u0_9)) (szB ((u0_14)))) ∧ (((wc54_2)) 4) = tdF ((yc54_0_15)) ∨ (u0_14) / 32 % 2 ≠ 1 ∧ (yc54_0_15) = (u0_15) ∧ (((wc54_2)) 4) = (((w2)) 4))) → (((wc54_2)) 0 = ((w2)) 0) → (((wc54_2)) 1 = ((w2)) 1) → (((wc54_2)) 2 = ((w2)) 2) → (((wc54_2)) 3 = ((w2)) 3) → Ew 241 (d + 2) 54 ls [] σ c s Q := by
     as_aux_lemma =>
      intro  ls σ F_c54 A_c54  lc54_0 lc54_1 H O hS_c54 hA_c54   yc54_0_15 eyc54_0_15 wc54_2 ewc54_2 jc54_0 jc54_1 jc54_2 jc54_3 jc54_4 jc54_5
      replace eyc54_0_15 := HIDm eyc54_0_15
      have r11 : (-9223372036854775808 : Int) ≤ yc54_0_15 ∧ yc54_0_15 ≤ 9223372036854775807 := by have h1 : (-9223372036854775808 : Int) ≤ F_c54 0 15 ∧ F_c54 0 15 ≤ 9223372036854775807 := H.krg 0 15 (by decide); rw [show F_c54 0 15 = yc54_0_15 from (eyc54_0_15)] at h1; exact h1
      have k54 : ((u0_14) / 32 % 2 = 1 ∧ (yc54_0_15) = wn8 (dueF (ub8 ((w1))) ((u0_9)) (szB ((u0_14)))) ∧ (((wc54_2)) 4) = tdF ((yc54_0_15)) ∨ (u0_14) / 32 % 2 ≠ 1 ∧ (yc54_0_15) = (u0_15) ∧ (((wc54_2)) 4) = (((w2)) 4)) := by assumption
      refine Ew_of (pc' := 55) (fun _ => x_aload_n rfl lc54_0) ?_
      refine Ew_of (pc' := 56) (fun _ => x_dup rfl rfl) ?_
      refine v_g H (o := 0) (v := I (u0_9)) rfl rfl rfl rfl rfl (congrArg (fun z : Int => I z) ((((hS_c54 0 9 rfl).trans ((show F9 0 9 = F 0 9 from (eF9 0 9).trans (hS9 0 9 rfl)))).trans (eu0_9)) : F_c54 0 9 = u0_9)) ?_
      refine Ew_of (pc' := 60) (fun _ => x_iload_n rfl lc54_1) ?_
      refine w_iadd rfl ?_
      refine v_p H (o := 0) (z := (u0_9 + z9)) (v := I ((u0_9 + z9))) rfl rfl rfl rfl rfl rfl rfl rfl (show (-2147483648 : Int) ≤ (u0_9 + z9) ∧ (u0_9 + z9) ≤ 2147483647 by omega) (fun σ H O' => ?_)
      have O := OUT_trans O O'
      refine Ew_of (pc' := 65) (fun _ => x_iconst rfl) ?_
      have : USA (ub8 ((w1))) ((u0_8)) ((u0_9)) ((u0_14)) ((u0_15)) (((w2)) 4) ((0)) ((u0_21)) (((u0_9 + z9))) ((u0_9)) ((yc54_0_15)) (((wc54_2)) 4) := .inr ⟨by omega, by omega, by omega, by omega, k54⟩
      exact w_ireturn rfl (k (0) _ _ _ H O (SF_upd (SF_trans (SF_upd (SF_trans (SF_refl) (SF_glu (ι := [0]) hS9 eF9 (by decide +kernel)) (any_sub (l' := []) rfl)) rfl) hS_c54 (any_sub rfl)) rfl) (SA_trans (SA_trans (SA_refl) (SA_glu (ι := [0]) hA9 eA9 (by decide +kernel)) (any_subA (l' := []) rfl)) hA_c54 (any_subA rfl)) ((u0_9 + z9)) (rfl) (yc54_0_15) ((eyc54_0_15)) (u0_9) ((hS_c54 0 16 rfl)) (u0_21) ((((hS_c54 0 21 rfl).trans ((show F9 0 21 = F 0 21 from (eF9 0 21).trans (hS9 0 21 rfl)))).trans (eu0_21))) (wc54_2) (ewc54_2) (show inr (0) by omega) (show 0 ≤ (0) ∧ (0) ≤ 17 by omega) (show 0 ≤ ((u0_9 + z9)) ∧ (u0_9) ≤ ((u0_9 + z9)) ∧ ((u0_9 + z9)) ≤ (u0_8) by omega) (show 0 ≤ (yc54_0_15) by omega) (show (0) ≠ 0 ∨ 0 ≤ (u0_9) ∧ (u0_9) + sbt ((u0_14)) ≤ (n1) by omega) (show USA (ub8 ((w1))) ((u0_8)) ((u0_9)) ((u0_14)) ((u0_15)) (((w2)) 4) ((0)) ((u0_21)) (((u0_9 + z9))) ((u0_9)) ((yc54_0_15)) (((wc54_2)) 4) by assumption) (show ((wc54_2)) 0 = ((w2)) 0 by omega) (show ((wc54_2)) 1 = ((w2)) 1 by omega) (show ((wc54_2)) 2 = ((w2)) 2 by omega) (show ((wc54_2)) 3 = ((w2)) 3 by omega) (show (0) ≠ 0 ∨ (u0_21) = (u0_21) by omega))
    refine Ew_of (pc' := 37) (fun _ => x_aload_n rfl (rk_o (rfl) rfl rfl)) ?_
    refine v_g H (o := 0) (v := I (u0_14)) rfl rfl rfl rfl rfl (congrArg (fun z : Int => I z) ((((show F9 0 14 = F 0 14 from (eF9 0 14).trans (hS9 0 14 rfl))).trans (eu0_14)) : (updF F9 0 16 (u0_9)) 0 14 = u0_14)) ?_
    refine Ew_of (pc' := 42) (fun _ => x_bipush (z := 32) rfl (by decide)) ?_
    refine w_iandE rfl (show inr (u0_14) by omega) (show inr (32) by omega) (fun z12 gz12 gaz12 gbz12 gez12 => ?_)
    refine w_ifeq (t := 54) rfl rfl (show inr (z12) by omega) (fun b13 => ?_) (fun b13 => ?_)
    · have : ((u0_14) / 32 % 2 = 1 ∧ (u0_15) = wn8 (dueF (ub8 ((w1))) ((u0_9)) (szB ((u0_14)))) ∧ (((w2)) 4) = tdF ((u0_15)) ∨ (u0_14) / 32 % 2 ≠ 1 ∧ (u0_15) = (u0_15) ∧ (((w2)) 4) = (((w2)) 4)) := by first | exact .inr ⟨by omega, rfl, rfl⟩ | exact .inl ⟨by omega, by rw [← hsg]; exact pNONE_1, by rw [pNONE_1]; exact pNONE_2⟩
      exact hc54  _ _ _ _  (rk_o (rfl) rfl rfl) (rk_s) H O (SF_refl) (SA_refl)   (u0_15) ((((show F9 0 15 = F 0 15 from (eF9 0 15).trans (hS9 0 15 rfl))).trans (eu0_15))) (w2) (((show A9 2 = A 2 from (eA9 2))).trans (ew2)) (show 0 ≤ (u0_15) by omega) (show ((u0_14) / 32 % 2 = 1 ∧ (u0_15) = wn8 (dueF (ub8 ((w1))) ((u0_9)) (szB ((u0_14)))) ∧ (((w2)) 4) = tdF ((u0_15)) ∨ (u0_14) / 32 % 2 ≠ 1 ∧ (u0_15) = (u0_15) ∧ (((w2)) 4) = (((w2)) 4)) by assumption) (show ((w2)) 0 = ((w2)) 0 by omega) (show ((w2)) 1 = ((w2)) 1 by omega) (show ((w2)) 2 = ((w2)) 2 by omega) (show ((w2)) 3 = ((w2)) 3 by omega)
    · refine Ew_of (pc' := 47) (fun _ => x_aload_n rfl (rk_o (rfl) rfl rfl)) ?_
      refine Ew_of (pc' := 48) (fun _ => x_aload_n rfl (rk_o (rfl) rfl rfl)) ?_
      refine v_inv H (o := 0) rfl rfl rfl rfl rfl rfl (by rfl) (C240 (D := pul [0, 1] D) (N := pul [0, 1] N) (HW_sub H (VS_of (show vsub V241 V240 [0, 1] = true by decide +kernel))) ((((show F9 0 7 = F 0 7 from (eF9 0 7).trans (hS9 0 7 rfl)))).trans (pf1)) (n1) (en1) (u0_14) ((((show F9 0 14 = F 0 14 from (eF9 0 14).trans (hS9 0 14 rfl))).trans (eu0_14))) (u0_9) (rfl) (w1) (((show A9 1 = A 1 from (eA9 1))).trans (ew1)) (show 0 ≤ (u0_14) ∧ (u0_14) ≤ 255 by omega) (show 0 ≤ (u0_9) ∧ (u0_9) + sbt ((u0_14)) ≤ (n1) by omega) (show (n1) ≤ 65536 by omega) (fun z14 σ14 F14' A14' H' O' hS14 hA14 pz14_0 pz14_1 => ⟨rfl, ?_⟩))
      refine v_back (c := c) (s := s) H (show vsub V241 V240 [0, 1] = true by decide +kernel) H' O' (fun F14 A14 H O' eF14 eA14 => ?_)
      have O := OUT_trans O O'
      -- Unpacker.sizeTold
      have hsg := wnF_8 pz14_1
      refine v_inv H (o := 0) rfl rfl rfl rfl rfl rfl (by rfl) (C236 (D := pul [0, 2] D) (N := pul [0, 2] N) (HW_sub H (VS_of (show vsub V241 V236 [0, 2] = true by decide +kernel))) (((((show F14 0 13 = (updF F9 0 16 (u0_9)) 0 13 from (eF14 0 13).trans (hS14 0 13 rfl))).trans ((show F9 0 13 = F 0 13 from (eF9 0 13).trans (hS9 0 13 rfl))))).trans (pf2)) (n2) (en2) (u0_15) (((((show F14 0 15 = (updF F9 0 16 (u0_9)) 0 15 from (eF14 0 15).trans (hS14 0 15 rfl))).trans ((show F9 0 15 = F 0 15 from (eF9 0 15).trans (hS9 0 15 rfl)))).trans (eu0_15))) (w2) (((show A14 2 = A9 2 from (eA14 2))).trans (((show A9 2 = A 2 from (eA9 2))).trans (ew2))) (show inrJ (z14) by omega) (show (n2) = 5 by omega) (fun σ15 F15' A15' H' O' hS15 hA15 y15_0_15 ey15_0_15 w15_1 ew15_1 pz15_0 pz15_1 pz15_2 pz15_3 pz15_4 pz15_5 pz15_6 => ⟨rfl, ?_⟩))
      replace ey15_0_15 := HIDm ey15_0_15
      refine v_back (c := c) (s := s) H (show vsub V241 V236 [0, 2] = true by decide +kernel) H' O' (fun F15 A15 H O' eF15 eA15 => ?_)
      have O := OUT_trans O O'
      -- Unpacker.tellWindow
      have r16 : (-9223372036854775808 : Int) ≤ y15_0_15 ∧ y15_0_15 ≤ 9223372036854775807 := by have h1 : (-9223372036854775808 : Int) ≤ F15 0 15 ∧ F15 0 15 ≤ 9223372036854775807 := H.krg 0 15 (by decide); rw [show F15 0 15 = y15_0_15 from ((eF15 0 15).trans ey15_0_15)] at h1; exact h1
      have : ((u0_14) / 32 % 2 = 1 ∧ (y15_0_15) = wn8 (dueF (ub8 ((w1))) ((u0_9)) (szB ((u0_14)))) ∧ (((w15_1)) 4) = tdF ((y15_0_15)) ∨ (u0_14) / 32 % 2 ≠ 1 ∧ (y15_0_15) = (u0_15) ∧ (((w15_1)) 4) = (((w2)) 4)) := by first | exact .inr ⟨by omega, rfl, rfl⟩ | exact .inl ⟨by omega, by rw [← hsg]; exact pz15_1, by rw [pz15_1]; exact pz15_2⟩
      exact hc54  _ _ _ _  (rk_o (rfl) rfl rfl) (rk_s) H O (SF_trans (SF_trans (SF_refl) (SF_glu (ι := [0, 1]) hS14 eF14 (by decide +kernel)) (any_sub (l' := []) rfl)) (SF_glu (ι := [0, 2]) hS15 eF15 (by decide +kernel)) (any_sub (l' := [(0, 15)]) rfl)) (SA_trans (SA_trans (SA_refl) (SA_glu (ι := [0, 1]) hA14 eA14 (by decide +kernel)) (any_subA (l' := []) rfl)) (SA_glu (ι := [0, 2]) hA15 eA15 (by decide +kernel)) (any_subA (l' := [2]) rfl))   (y15_0_15) (((eF15 0 15).trans ey15_0_15)) (w15_1) ((eA15 2).trans ew15_1) (show 0 ≤ (y15_0_15) by omega) (show ((u0_14) / 32 % 2 = 1 ∧ (y15_0_15) = wn8 (dueF (ub8 ((w1))) ((u0_9)) (szB ((u0_14)))) ∧ (((w15_1)) 4) = tdF ((y15_0_15)) ∨ (u0_14) / 32 % 2 ≠ 1 ∧ (y15_0_15) = (u0_15) ∧ (((w15_1)) 4) = (((w2)) 4)) by assumption) (show ((w15_1)) 0 = ((w2)) 0 by omega) (show ((w15_1)) 1 = ((w2)) 1 by omega) (show ((w15_1)) 2 = ((w2)) 2 by omega) (show ((w15_1)) 3 = ((w2)) 3 by omega)
  · refine Ew_of (pc' := 19) (fun _ => x_aload_n rfl (rk_o (rfl) rfl rfl)) ?_
    refine Ew_of (pc' := 20) (fun _ => x_iconst rfl) ?_
    refine Ew_of (pc' := 21) (fun _ => x_aload_n rfl (rk_o (rfl) rfl rfl)) ?_
    refine v_g H (o := 0) (v := I (u0_8)) rfl rfl rfl rfl rfl (congrArg (fun z : Int => I z) ((((show F9 0 8 = F 0 8 from (eF9 0 8).trans (hS9 0 8 rfl))).trans (eu0_8)) : F9 0 8 = u0_8)) ?_
    refine v_inv H (o := 0) rfl rfl rfl rfl rfl rfl (by rfl) (C232 (D := pul [0] D) (N := pul [0] N) (HW_sub H (VS_of (show vsub V241 V232 [0] = true by decide +kernel))) (u0_21) ((((show F9 0 21 = F 0 21 from (eF9 0 21).trans (hS9 0 21 rfl))).trans (eu0_21))) (show inr (1) by omega) (show inr (u0_8) by omega) (fun z17 σ17 F17' A17' H' O' hS17 hA17 y17_0_21 ey17_0_21 pz17_0 pz17_1 pz17_2 => ⟨rfl, ?_⟩))
    replace ey17_0_21 := HIDm ey17_0_21
    refine v_back (c := c) (s := s) H (show vsub V241 V232 [0] = true by decide +kernel) H' O' (fun F17 A17 H O' eF17 eA17 => ?_)
    have O := OUT_trans O O'
    -- Unpacker.fail
    have r18 : (-2147483648 : Int) ≤ y17_0_21 ∧ y17_0_21 ≤ 2147483647 := by have h1 : (-2147483648 : Int) ≤ F17 0 21 ∧ F17 0 21 ≤ 2147483647 := H.krg 0 21 (by decide); rw [show F17 0 21 = y17_0_21 from ((eF17 0 21).trans ey17_0_21)] at h1; exact h1
    have : USA (ub8 ((w1))) ((u0_8)) ((u0_9)) ((u0_14)) ((u0_15)) (((w2)) 4) ((z17)) ((y17_0_21)) ((u0_9)) ((u0_16)) ((u0_15)) (((w2)) 4) := .inl ⟨by omega, by omega, by omega, rfl⟩
    exact w_ireturn rfl (k (z17) _ _ _ H O (SF_trans (SF_trans (SF_refl) (SF_glu (ι := [0]) hS9 eF9 (by decide +kernel)) (any_sub (l' := []) rfl)) (SF_glu (ι := [0]) hS17 eF17 (by decide +kernel)) (any_sub (l' := [(0, 21)]) rfl)) (SA_trans (SA_trans (SA_refl) (SA_glu (ι := [0]) hA9 eA9 (by decide +kernel)) (any_subA (l' := []) rfl)) (SA_glu (ι := [0]) hA17 eA17 (by decide +kernel)) (any_subA (l' := []) rfl)) (u0_9) (((((show F17 0 9 = F9 0 9 from (eF17 0 9).trans (hS17 0 9 rfl))).trans ((show F9 0 9 = F 0 9 from (eF9 0 9).trans (hS9 0 9 rfl)))).trans (eu0_9))) (u0_15) (((((show F17 0 15 = F9 0 15 from (eF17 0 15).trans (hS17 0 15 rfl))).trans ((show F9 0 15 = F 0 15 from (eF9 0 15).trans (hS9 0 15 rfl)))).trans (eu0_15))) (u0_16) (((((show F17 0 16 = F9 0 16 from (eF17 0 16).trans (hS17 0 16 rfl))).trans ((show F9 0 16 = F 0 16 from (eF9 0 16).trans (hS9 0 16 rfl)))).trans (eu0_16))) (y17_0_21) (((eF17 0 21).trans ey17_0_21)) (w2) (((show A17 2 = A9 2 from (eA17 2))).trans (((show A9 2 = A 2 from (eA9 2))).trans (ew2))) (show inr (z17) by omega) (show 0 ≤ (z17) ∧ (z17) ≤ 17 by omega) (show 0 ≤ (u0_9) ∧ (u0_9) ≤ (u0_9) ∧ (u0_9) ≤ (u0_8) by omega) (show 0 ≤ (u0_15) by omega) (show (z17) ≠ 0 ∨ 0 ≤ (u0_16) ∧ (u0_16) + sbt ((u0_14)) ≤ (n1) by omega) (show USA (ub8 ((w1))) ((u0_8)) ((u0_9)) ((u0_14)) ((u0_15)) (((w2)) 4) ((z17)) ((y17_0_21)) ((u0_9)) ((u0_16)) ((u0_15)) (((w2)) 4) by assumption) (show ((w2)) 0 = ((w2)) 0 by omega) (show ((w2)) 1 = ((w2)) 1 by omega) (show ((w2)) 2 = ((w2)) 2 by omega) (show ((w2)) 3 = ((w2)) 3 by omega) (show (z17) ≠ 0 ∨ (y17_0_21) = (u0_21) by omega))
abbrev V242 : vV := [(0, 12, [(4, 0), (4, 0), (4, 0), (4, 0), (4, 0), (4, 0), (4, 0), (4, 0), (0, 0), (0, 0), (4, 0), (0, 0), (4, 0), (4, 0), (0, 0), (2, 0), (0, 0), (0, 0), (0, 0), (0, 0), (0, 0), (0, 0)]), (1, 0, []), (0, 7, [(4, 0), (0, 0), (1, 0), (0, 0), (0, 0)]), (1, 0, [])]
/-- Unpacker.unpackEnd: this, this.in, this.result, this.result.bytes -/
theorem C242 {σE : rS} {D N : Nat → Nat} {F : hF} {A : hA} {d c s : Nat} {Q : wQ} (H : HW V242 σE D N F A)  (pf1 : F 0 7 = (D 1 : Int)) (pf2 : F 0 10 = (D 2 : Int)) (pf3 : F 2 0 = (D 3 : Int)) (n1 : Int) (en1 : (N 1 : Int) = n1) (n3 : Int) (en3 : (N 3 : Int) = n3) (u0_8 : Int) (eu0_8 : F 0 8 = u0_8) (u0_9 : Int) (eu0_9 : F 0 9 = u0_9) (u0_14 : Int) (eu0_14 : F 0 14 = u0_14) (u0_16 : Int) (eu0_16 : F 0 16 = u0_16) (u0_17 : Int) (eu0_17 : F 0 17 = u0_17) (u0_21 : Int) (eu0_21 : F 0 21 = u0_21) (u2_1 : Int) (eu2_1 : F 2 1 = u2_1) (w1 : Int → Int) (ew1 : A 1 = w1) (w3 : Int → Int) (ew3 : A 3 = w3) (h0 : 0 ≤ (u0_9) ∧ (u0_9) ≤ (u0_8) ∧ (u0_8) ≤ (n1) ∧ (n1) ≤ 65536) (h1 : 0 ≤ (u0_14) ∧ (u0_14) ≤ 255) (h2 : 0 ≤ (u0_16) ∧ (u0_16) + sbt ((u0_14)) ≤ (n1)) (h3 : 0 ≤ (u2_1) ∧ (u2_1) ≤ (n3) ∧ (n3) ≤ 65536) (h4 : 0 ≤ (u0_17) ∧ (u0_17) ≤ (u2_1)) (k : ∀ (z : Int) (σ : rS) (F' : hF) (A' : hA), HW V242 σ D N F' A' → OUT (V242).length D N σE c s D N σ c s → SF [(0, 9), (0, 21)] F F' → SA [] A A' → ∀ y0_9 : Int, F' 0 9 = y0_9 → ∀ y0_21 : Int, F' 0 21 = y0_21 → (inr (z)) → (0 ≤ (z) ∧ (z) ≤ 17) → (0 ≤ (y0_9) ∧ (u0_9) ≤ (y0_9) ∧ (y0_9) ≤ (u0_8)) → (UEA (ub8 ((w1))) ((u0_8)) ((u0_14)) ((u0_16)) (szB ((u0_14))) (dueF (ub8 ((w1))) ((u0_16)) (szB ((u0_14)))) (sc ((w3)) ((u0_17)) ((u2_1))) ((u0_9)) ((z)) ((y0_21)) ((y0_9))) → ((z) ≠ 0 ∨ (y0_21) = (u0_21)) → Q (some (I z)) σ c s) : Ew 242 (d + 4) 0 (rargs 0 [.ref (D 0)]) [] σE c s Q := by
  have O := OUT_refl (n := (V242).length) (D := D) (N := N) (σ := σE) (c := c) (s := s)
  have HE := H
  have r1 : (-2147483648 : Int) ≤ u0_8 ∧ u0_8 ≤ 2147483647 := by have h1 : (-2147483648 : Int) ≤ F 0 8 ∧ F 0 8 ≤ 2147483647 := H.krg 0 8 (by decide); rw [show F 0 8 = u0_8 from (eu0_8)] at h1; exact h1
  have r2 : (-2147483648 : Int) ≤ u0_9 ∧ u0_9 ≤ 2147483647 := by have h1 : (-2147483648 : Int) ≤ F 0 9 ∧ F 0 9 ≤ 2147483647 := H.krg 0 9 (by decide); rw [show F 0 9 = u0_9 from (eu0_9)] at h1; exact h1
  have r3 : (-2147483648 : Int) ≤ u0_14 ∧ u0_14 ≤ 2147483647 := by have h1 : (-2147483648 : Int) ≤ F 0 14 ∧ F 0 14 ≤ 2147483647 := H.krg 0 14 (by decide); rw [show F 0 14 = u0_14 from (eu0_14)] at h1; exact h1
  have r4 : (-2147483648 : Int) ≤ u0_16 ∧ u0_16 ≤ 2147483647 := by have h1 : (-2147483648 : Int) ≤ F 0 16 ∧ F 0 16 ≤ 2147483647 := H.krg 0 16 (by decide); rw [show F 0 16 = u0_16 from (eu0_16)] at h1; exact h1
  have r5 : (-2147483648 : Int) ≤ u0_17 ∧ u0_17 ≤ 2147483647 := by have h1 : (-2147483648 : Int) ≤ F 0 17 ∧ F 0 17 ≤ 2147483647 := H.krg 0 17 (by decide); rw [show F 0 17 = u0_17 from (eu0_17)] at h1; exact h1
  have r6 : (-2147483648 : Int) ≤ u0_21 ∧ u0_21 ≤ 2147483647 := by have h1 : (-2147483648 : Int) ≤ F 0 21 ∧ F 0 21 ≤ 2147483647 := H.krg 0 21 (by decide); rw [show F 0 21 = u0_21 from (eu0_21)] at h1; exact h1
  have r7 : (-2147483648 : Int) ≤ u2_1 ∧ u2_1 ≤ 2147483647 := by have h1 : (-2147483648 : Int) ≤ F 2 1 ∧ F 2 1 ≤ 2147483647 := H.krg 2 1 (by decide); rw [show F 2 1 = u2_1 from (eu2_1)] at h1; exact h1
  replace pf1 := HIDm pf1
  replace pf2 := HIDm pf2
  replace pf3 := HIDm pf3
  replace en1 := HIDm en1
  replace en3 := HIDm en3
  replace eu0_8 := HIDm eu0_8
  replace eu0_9 := HIDm eu0_9
  replace eu0_14 := HIDm eu0_14
  replace eu0_16 := HIDm eu0_16
  replace eu0_17 := HIDm eu0_17
  replace eu0_21 := HIDm eu0_21
  replace eu2_1 := HIDm eu2_1
  have r8 : (0 : Int) ≤ n1 ∧ n1 ≤ 1000000 := by have h1 := H.nle 1 (by decide); have h2 : (N 1 : Int) = n1 := en1; omega
  have r9 : (0 : Int) ≤ n3 ∧ n3 ≤ 1000000 := by have h1 := H.nle 3 (by decide); have h2 : (N 3 : Int) = n3 := en3; omega
  have hc90 : ∀ (ls : rO) (σ : rS) (F_c90 : hF) (A_c90 : hA) , rlook ls 0 = some (.ref (D 0)) → HW V242 σ D N F_c90 A_c90 → OUT (V242).length D N σE c s D N σ c s → SF [(0, 9)] F F_c90 → SA [] A A_c90 → ∀ yc90_0_9 : Int, F_c90 0 9 = yc90_0_9 → (0 ≤ (yc90_0_9) ∧ (yc90_0_9) ≤ (u0_8) ∧ (u0_8) ≤ (n1) ∧ (n1) ≤ 65536) → ((u0_9) ≤ (yc90_0_9)) → (((u0_14) / 4 % 2 ≠ 1 ∧ (yc90_0_9) = (u0_9) ∨ (u0_14) / 4 % 2 = 1 ∧ 4 ≤ (u0_8) - (u0_9) ∧ nvl (ub8 ((w1))) ((u0_9)) 4 = WDL (sc ((w3)) ((u0_17)) ((u2_1))) % 4294967296 ∧ (yc90_0_9) = (u0_9) + 4)) → ((u0_21) = (u0_21)) → Ew 242 (d + 4) 90 ls [] σ c s Q := by
   as_aux_lemma =>
    intro  ls σ F_c90 A_c90  lc90_0 H O hS_c90 hA_c90   yc90_0_9 eyc90_0_9  jc90_0 jc90_1 jc90_2 jc90_3
    replace eyc90_0_9 := HIDm eyc90_0_9
    have r10 : (-2147483648 : Int) ≤ yc90_0_9 ∧ yc90_0_9 ≤ 2147483647 := by have h1 : (-2147483648 : Int) ≤ F_c90 0 9 ∧ F_c90 0 9 ≤ 2147483647 := H.krg 0 9 (by decide); rw [show F_c90 0 9 = yc90_0_9 from (eyc90_0_9)] at h1; exact h1
    have k90 : ((u0_14) / 4 % 2 ≠ 1 ∧ (yc90_0_9) = (u0_9) ∨ (u0_14) / 4 % 2 = 1 ∧ 4 ≤ (u0_8) - (u0_9) ∧ nvl (ub8 ((w1))) ((u0_9)) 4 = WDL (sc ((w3)) ((u0_17)) ((u2_1))) % 4294967296 ∧ (yc90_0_9) = (u0_9) + 4) := by assumption
    have hFl : ((sc ((w3)) ((u0_17)) ((u2_1))).length : Int) = (u2_1) - (u0_17) := by rw [sc_lenI (by omega)]
    refine Ew_of (pc' := 91) (fun _ => x_aload_n rfl lc90_0) ?_
    refine v_inv H (o := 0) rfl rfl rfl rfl rfl rfl (by rfl) (C239 (D := pul [0] D) (N := pul [0] N) (HW_sub H (VS_of (show vsub V242 V239 [0] = true by decide +kernel))) (u0_14) (((hS_c90 0 14 rfl).trans (eu0_14))) (show 0 ≤ (u0_14) ∧ (u0_14) ≤ 255 by omega) (fun z11 σ11 F11' A11' H' O' hS11 hA11 pz11_0 pz11_1 pz11_2 pz11_3 => ⟨rfl, ?_⟩))
    refine v_back (c := c) (s := s) H (show vsub V242 V239 [0] = true by decide +kernel) H' O' (fun F11 A11 H O' eF11 eA11 => ?_)
    have O := OUT_trans O O'
    -- Unpacker.sizeBytes
    have hsb := pz11_3
    refine w_ifle (t := 131) rfl rfl (show inr (z11) by omega) (fun b12 => ?_) (fun b12 => ?_)
    · refine Ew_of (pc' := 132) (fun _ => x_iconst rfl) ?_
      have : UEA (ub8 ((w1))) ((u0_8)) ((u0_14)) ((u0_16)) (szB ((u0_14))) (dueF (ub8 ((w1))) ((u0_16)) (szB ((u0_14)))) (sc ((w3)) ((u0_17)) ((u2_1))) ((u0_9)) ((0)) ((u0_21)) ((yc90_0_9)) := .inr (.inr ⟨k90, by first | exact .inl ⟨⟨by omega, by rw [hFl]; omega⟩, by omega, by omega⟩ | exact .inr ⟨fun w => by have w1 := w.1; omega, by omega⟩ | exact .inr ⟨fun w => by have w2 := w.2; rw [hFl] at w2; omega, by omega⟩⟩)
      exact w_ireturn rfl (k (0) _ _ _ H O (SF_trans (SF_trans (SF_refl) hS_c90 (any_sub rfl)) (SF_glu (ι := [0]) hS11 eF11 (by decide +kernel)) (any_sub (l' := []) rfl)) (SA_trans (SA_trans (SA_refl) hA_c90 (any_subA rfl)) (SA_glu (ι := [0]) hA11 eA11 (by decide +kernel)) (any_subA (l' := []) rfl)) (yc90_0_9) ((((show F11 0 9 = F_c90 0 9 from (eF11 0 9).trans (hS11 0 9 rfl))).trans (eyc90_0_9))) (u0_21) (((((show F11 0 21 = F_c90 0 21 from (eF11 0 21).trans (hS11 0 21 rfl))).trans (hS_c90 0 21 rfl)).trans (eu0_21))) (show inr (0) by omega) (show 0 ≤ (0) ∧ (0) ≤ 17 by omega) (show 0 ≤ (yc90_0_9) ∧ (u0_9) ≤ (yc90_0_9) ∧ (yc90_0_9) ≤ (u0_8) by omega) (show UEA (ub8 ((w1))) ((u0_8)) ((u0_14)) ((u0_16)) (szB ((u0_14))) (dueF (ub8 ((w1))) ((u0_16)) (szB ((u0_14)))) (sc ((w3)) ((u0_17)) ((u2_1))) ((u0_9)) ((0)) ((u0_21)) ((yc90_0_9)) by assumption) (show (0) ≠ 0 ∨ (u0_21) = (u0_21) by omega))
    · refine Ew_of (pc' := 98) (fun _ => x_aload_n rfl lc90_0) ?_
      refine v_inv H (o := 0) rfl rfl rfl rfl rfl rfl (by rfl) (C240 (D := pul [0, 1] D) (N := pul [0, 1] N) (HW_sub H (VS_of (show vsub V242 V240 [0, 1] = true by decide +kernel))) (((((show F11 0 7 = F_c90 0 7 from (eF11 0 7).trans (hS11 0 7 rfl))).trans (hS_c90 0 7 rfl))).trans (pf1)) (n1) (en1) (u0_14) (((((show F11 0 14 = F_c90 0 14 from (eF11 0 14).trans (hS11 0 14 rfl))).trans (hS_c90 0 14 rfl)).trans (eu0_14))) (u0_16) (((((show F11 0 16 = F_c90 0 16 from (eF11 0 16).trans (hS11 0 16 rfl))).trans (hS_c90 0 16 rfl)).trans (eu0_16))) (w1) (((show A11 1 = A_c90 1 from (eA11 1))).trans ((funext (hA_c90 1 rfl)).trans (ew1))) (show 0 ≤ (u0_14) ∧ (u0_14) ≤ 255 by omega) (show 0 ≤ (u0_16) ∧ (u0_16) + sbt ((u0_14)) ≤ (n1) by omega) (show (n1) ≤ 65536 by omega) (fun z13 σ13 F13' A13' H' O' hS13 hA13 pz13_0 pz13_1 => ⟨rfl, ?_⟩))
      refine v_back (c := c) (s := s) H (show vsub V242 V240 [0, 1] = true by decide +kernel) H' O' (fun F13 A13 H O' eF13 eA13 => ?_)
      have O := OUT_trans O O'
      -- Unpacker.sizeTold
      have hsg := pz13_1
      have hsg2 := hsg.2.1
      have hsg1 := hsg.1
      refine Ew_of (pc' := 102) (fun _ => x_aload_n rfl lc90_0) ?_
      refine v_g H (o := 0) (v := .ref (D 2)) rfl rfl rfl rfl rfl (vrf ((((((show F13 0 10 = F11 0 10 from (eF13 0 10).trans (hS13 0 10 rfl))).trans ((show F11 0 10 = F_c90 0 10 from (eF11 0 10).trans (hS11 0 10 rfl)))).trans (hS_c90 0 10 rfl))).trans (pf2))) ?_
      refine v_g H (o := 2) (v := I (u2_1)) rfl rfl rfl rfl rfl (congrArg (fun z : Int => I z) ((((((show F13 2 1 = F11 2 1 from (eF13 2 1))).trans ((show F11 2 1 = F_c90 2 1 from (eF11 2 1)))).trans (hS_c90 2 1 rfl)).trans (eu2_1)) : F13 2 1 = u2_1)) ?_
      refine Ew_of (pc' := 109) (fun _ => x_aload_n rfl lc90_0) ?_
      refine v_g H (o := 0) (v := I (u0_17)) rfl rfl rfl rfl rfl (congrArg (fun z : Int => I z) ((((((show F13 0 17 = F11 0 17 from (eF13 0 17).trans (hS13 0 17 rfl))).trans ((show F11 0 17 = F_c90 0 17 from (eF11 0 17).trans (hS11 0 17 rfl)))).trans (hS_c90 0 17 rfl)).trans (eu0_17)) : F13 0 17 = u0_17)) ?_
      refine w_isub rfl ?_
      refine w_i2l rfl (show inr ((u2_1 - u0_17)) by omega) ?_
      refine w_lcmp rfl (show inrJ (z13) by omega) (show inrJ ((u2_1 - u0_17)) by omega) (fun z14 gz14 gaz14 gbz14 => ?_)
      refine w_ifeq (t := 131) rfl rfl (show inr (z14) by omega) (fun b15 => ?_) (fun b15 => ?_)
      · refine Ew_of (pc' := 132) (fun _ => x_iconst rfl) ?_
        have : UEA (ub8 ((w1))) ((u0_8)) ((u0_14)) ((u0_16)) (szB ((u0_14))) (dueF (ub8 ((w1))) ((u0_16)) (szB ((u0_14)))) (sc ((w3)) ((u0_17)) ((u2_1))) ((u0_9)) ((0)) ((u0_21)) ((yc90_0_9)) := .inr (.inr ⟨k90, by first | exact .inl ⟨⟨by omega, by rw [hFl]; omega⟩, by omega, by omega⟩ | exact .inr ⟨fun w => by have w1 := w.1; omega, by omega⟩ | exact .inr ⟨fun w => by have w2 := w.2; rw [hFl] at w2; omega, by omega⟩⟩)
        exact w_ireturn rfl (k (0) _ _ _ H O (SF_trans (SF_trans (SF_trans (SF_refl) hS_c90 (any_sub rfl)) (SF_glu (ι := [0]) hS11 eF11 (by decide +kernel)) (any_sub (l' := []) rfl)) (SF_glu (ι := [0, 1]) hS13 eF13 (by decide +kernel)) (any_sub (l' := []) rfl)) (SA_trans (SA_trans (SA_trans (SA_refl) hA_c90 (any_subA rfl)) (SA_glu (ι := [0]) hA11 eA11 (by decide +kernel)) (any_subA (l' := []) rfl)) (SA_glu (ι := [0, 1]) hA13 eA13 (by decide +kernel)) (any_subA (l' := []) rfl)) (yc90_0_9) (((((show F13 0 9 = F11 0 9 from (eF13 0 9).trans (hS13 0 9 rfl))).trans ((show F11 0 9 = F_c90 0 9 from (eF11 0 9).trans (hS11 0 9 rfl)))).trans (eyc90_0_9))) (u0_21) ((((((show F13 0 21 = F11 0 21 from (eF13 0 21).trans (hS13 0 21 rfl))).trans ((show F11 0 21 = F_c90 0 21 from (eF11 0 21).trans (hS11 0 21 rfl)))).trans (hS_c90 0 21 rfl)).trans (eu0_21))) (show inr (0) by omega) (show 0 ≤ (0) ∧ (0) ≤ 17 by omega) (show 0 ≤ (yc90_0_9) ∧ (u0_9) ≤ (yc90_0_9) ∧ (yc90_0_9) ≤ (u0_8) by omega) (show UEA (ub8 ((w1))) ((u0_8)) ((u0_14)) ((u0_16)) (szB ((u0_14))) (dueF (ub8 ((w1))) ((u0_16)) (szB ((u0_14)))) (sc ((w3)) ((u0_17)) ((u2_1))) ((u0_9)) ((0)) ((u0_21)) ((yc90_0_9)) by assumption) (show (0) ≠ 0 ∨ (u0_21) = (u0_21) by omega))
      · refine Ew_of (pc' := 119) (fun _ => x_aload_n rfl lc90_0) ?_
        refine Ew_of (pc' := 121) (fun _ => x_bipush (z := 9) rfl (by decide)) ?_
        refine Ew_of (pc' := 122) (fun _ => x_aload_n rfl lc90_0) ?_
        refine v_g H (o := 0) (v := I (u0_16)) rfl rfl rfl rfl rfl (congrArg (fun z : Int => I z) ((((((show F13 0 16 = F11 0 16 from (eF13 0 16).trans (hS13 0 16 rfl))).trans ((show F11 0 16 = F_c90 0 16 from (eF11 0 16).trans (hS11 0 16 rfl)))).trans (hS_c90 0 16 rfl)).trans (eu0_16)) : F13 0 16 = u0_16)) ?_
        refine v_inv H (o := 0) rfl rfl rfl rfl rfl rfl (by rfl) (C232 (D := pul [0] D) (N := pul [0] N) (HW_sub H (VS_of (show vsub V242 V232 [0] = true by decide +kernel))) (u0_21) ((((((show F13 0 21 = F11 0 21 from (eF13 0 21).trans (hS13 0 21 rfl))).trans ((show F11 0 21 = F_c90 0 21 from (eF11 0 21).trans (hS11 0 21 rfl)))).trans (hS_c90 0 21 rfl)).trans (eu0_21))) (show inr (9) by omega) (show inr (u0_16) by omega) (fun z16 σ16 F16' A16' H' O' hS16 hA16 y16_0_21 ey16_0_21 pz16_0 pz16_1 pz16_2 => ⟨rfl, ?_⟩))
        replace ey16_0_21 := HIDm ey16_0_21
        refine v_back (c := c) (s := s) H (show vsub V242 V232 [0] = true by decide +kernel) H' O' (fun F16 A16 H O' eF16 eA16 => ?_)
        have O := OUT_trans O O'
        -- Unpacker.fail
        have r17 : (-2147483648 : Int) ≤ y16_0_21 ∧ y16_0_21 ≤ 2147483647 := by have h1 : (-2147483648 : Int) ≤ F16 0 21 ∧ F16 0 21 ≤ 2147483647 := H.krg 0 21 (by decide); rw [show F16 0 21 = y16_0_21 from ((eF16 0 21).trans ey16_0_21)] at h1; exact h1
        refine Ew_of (pc' := 132) (fun _ => x_goto rfl rfl) ?_
        have : UEA (ub8 ((w1))) ((u0_8)) ((u0_14)) ((u0_16)) (szB ((u0_14))) (dueF (ub8 ((w1))) ((u0_16)) (szB ((u0_14)))) (sc ((w3)) ((u0_17)) ((u2_1))) ((u0_9)) ((z16)) ((y16_0_21)) ((yc90_0_9)) := .inr (.inr ⟨k90, by first | exact .inl ⟨⟨by omega, by rw [hFl]; omega⟩, by omega, by omega⟩ | exact .inr ⟨fun w => by have w1 := w.1; omega, by omega⟩ | exact .inr ⟨fun w => by have w2 := w.2; rw [hFl] at w2; omega, by omega⟩⟩)
        exact w_ireturn rfl (k (z16) _ _ _ H O (SF_trans (SF_trans (SF_trans (SF_trans (SF_refl) hS_c90 (any_sub rfl)) (SF_glu (ι := [0]) hS11 eF11 (by decide +kernel)) (any_sub (l' := []) rfl)) (SF_glu (ι := [0, 1]) hS13 eF13 (by decide +kernel)) (any_sub (l' := []) rfl)) (SF_glu (ι := [0]) hS16 eF16 (by decide +kernel)) (any_sub (l' := [(0, 21)]) rfl)) (SA_trans (SA_trans (SA_trans (SA_trans (SA_refl) hA_c90 (any_subA rfl)) (SA_glu (ι := [0]) hA11 eA11 (by decide +kernel)) (any_subA (l' := []) rfl)) (SA_glu (ι := [0, 1]) hA13 eA13 (by decide +kernel)) (any_subA (l' := []) rfl)) (SA_glu (ι := [0]) hA16 eA16 (by decide +kernel)) (any_subA (l' := []) rfl)) (yc90_0_9) ((((((show F16 0 9 = F13 0 9 from (eF16 0 9).trans (hS16 0 9 rfl))).trans ((show F13 0 9 = F11 0 9 from (eF13 0 9).trans (hS13 0 9 rfl)))).trans ((show F11 0 9 = F_c90 0 9 from (eF11 0 9).trans (hS11 0 9 rfl)))).trans (eyc90_0_9))) (y16_0_21) (((eF16 0 21).trans ey16_0_21)) (show inr (z16) by omega) (show 0 ≤ (z16) ∧ (z16) ≤ 17 by omega) (show 0 ≤ (yc90_0_9) ∧ (u0_9) ≤ (yc90_0_9) ∧ (yc90_0_9) ≤ (u0_8) by omega) (show UEA (ub8 ((w1))) ((u0_8)) ((u0_14)) ((u0_16)) (szB ((u0_14))) (dueF (ub8 ((w1))) ((u0_16)) (szB ((u0_14)))) (sc ((w3)) ((u0_17)) ((u2_1))) ((u0_9)) ((z16)) ((y16_0_21)) ((yc90_0_9)) by assumption) (show (z16) ≠ 0 ∨ (y16_0_21) = (u0_21) by omega))
  refine Ew_of (pc' := 1) (fun _ => x_aload_n rfl rfl) ?_
  refine v_g H (o := 0) (v := I (u0_14)) rfl rfl rfl rfl rfl (congrArg (fun z : Int => I z) ((eu0_14) : F 0 14 = u0_14)) ?_
  refine Ew_of (pc' := 5) (fun _ => x_iconst rfl) ?_
  refine w_iandE rfl (show inr (u0_14) by omega) (show inr (4) by omega) (fun z18 gz18 gaz18 gbz18 gez18 => ?_)
  refine w_ifeq (t := 90) rfl rfl (show inr (z18) by omega) (fun b19 => ?_) (fun b19 => ?_)
  · have : ((u0_14) / 4 % 2 ≠ 1 ∧ (u0_9) = (u0_9) ∨ (u0_14) / 4 % 2 = 1 ∧ 4 ≤ (u0_8) - (u0_9) ∧ nvl (ub8 ((w1))) ((u0_9)) 4 = WDL (sc ((w3)) ((u0_17)) ((u2_1))) % 4294967296 ∧ (u0_9) = (u0_9) + 4) := by first | exact .inl ⟨by omega, rfl⟩ | exact .inr ⟨by omega, by omega, hqy (by omega), by omega⟩
    exact hc90  _ _ _ _  (rfl) H O (SF_refl) (SA_refl)   (u0_9) ((eu0_9))  (show 0 ≤ (u0_9) ∧ (u0_9) ≤ (u0_8) ∧ (u0_8) ≤ (n1) ∧ (n1) ≤ 65536 by omega) (show (u0_9) ≤ (u0_9) by omega) (show ((u0_14) / 4 % 2 ≠ 1 ∧ (u0_9) = (u0_9) ∨ (u0_14) / 4 % 2 = 1 ∧ 4 ≤ (u0_8) - (u0_9) ∧ nvl (ub8 ((w1))) ((u0_9)) 4 = WDL (sc ((w3)) ((u0_17)) ((u2_1))) % 4294967296 ∧ (u0_9) = (u0_9) + 4) by assumption) (show (u0_21) = (u0_21) by omega)
  · have h4_ := andI_4 (h := (u0_14)) (by omega)
    refine Ew_of (pc' := 10) (fun _ => x_aload_n rfl rfl) ?_
    refine v_g H (o := 0) (v := I (u0_8)) rfl rfl rfl rfl rfl (congrArg (fun z : Int => I z) ((eu0_8) : F 0 8 = u0_8)) ?_
    refine Ew_of (pc' := 14) (fun _ => x_aload_n rfl rfl) ?_
    refine v_g H (o := 0) (v := I (u0_9)) rfl rfl rfl rfl rfl (congrArg (fun z : Int => I z) ((eu0_9) : F 0 9 = u0_9)) ?_
    refine w_isub rfl ?_
    refine Ew_of (pc' := 19) (fun _ => x_iconst rfl) ?_
    refine w_icmpge (t := 32) rfl rfl (show inr ((u0_8 - u0_9)) by omega) (show inr (4) by omega) (fun b20 => ?_) (fun b20 => ?_)
    · refine Ew_of (pc' := 33) (fun _ => x_aload_n rfl rfl) ?_
      refine v_g H (o := 0) (v := .ref (D 1)) rfl rfl rfl rfl rfl (vrf (pf1)) ?_
      refine Ew_of (pc' := 37) (fun _ => x_aload_n rfl rfl) ?_
      refine v_g H (o := 0) (v := I (u0_9)) rfl rfl rfl rfl rfl (congrArg (fun z : Int => I z) ((eu0_9) : F 0 9 = u0_9)) ?_
      refine w_stat25 rfl rfl (by rfl) (C41_Br (D := pul [1] D) (N := pul [1] N) (HW_sub H (VS_of (show vsub V242 V41_Br [1] = true by decide +kernel))) (n1) (en1) (w1) (ew1) (show inr (u0_9) by omega) (show 0 ≤ (u0_9) ∧ (u0_9) + 4 ≤ (n1) by omega) (fun z21 σ21 F21' A21' H' O' hS21 hA21 pz21_0 pz21_1 => ⟨rfl, ?_⟩))
      refine v_back (c := c) (s := s) H (show vsub V242 V41_Br [1] = true by decide +kernel) H' O' (fun F21 A21 H O' eF21 eA21 => ?_)
      have O := OUT_trans O O'
      -- PackHouse.word
      have hwd := pz21_1
      refine Ew_of (pc' := 44) (fun _ => x_aload_n rfl rfl) ?_
      refine v_g H (o := 0) (v := .ref (D 2)) rfl rfl rfl rfl rfl (vrf ((((show F21 0 10 = F 0 10 from (eF21 0 10)))).trans (pf2))) ?_
      refine v_g H (o := 2) (v := .ref (D 3)) rfl rfl rfl rfl rfl (vrf ((((show F21 2 0 = F 2 0 from (eF21 2 0)))).trans (pf3))) ?_
      refine Ew_of (pc' := 51) (fun _ => x_aload_n rfl rfl) ?_
      refine v_g H (o := 0) (v := I (u0_17)) rfl rfl rfl rfl rfl (congrArg (fun z : Int => I z) ((((show F21 0 17 = F 0 17 from (eF21 0 17))).trans (eu0_17)) : F21 0 17 = u0_17)) ?_
      refine Ew_of (pc' := 55) (fun _ => x_aload_n rfl rfl) ?_
      refine v_g H (o := 0) (v := .ref (D 2)) rfl rfl rfl rfl rfl (vrf ((((show F21 0 10 = F 0 10 from (eF21 0 10)))).trans (pf2))) ?_
      refine v_g H (o := 2) (v := I (u2_1)) rfl rfl rfl rfl rfl (congrArg (fun z : Int => I z) ((((show F21 2 1 = F 2 1 from (eF21 2 1))).trans (eu2_1)) : F21 2 1 = u2_1)) ?_
      refine Ew_of (pc' := 62) (fun _ => x_lconst (z := 0) rfl (by decide)) ?_
      refine w_stat25 rfl rfl (by rfl) (C51_Br (D := pul [3] D) (N := pul [3] N) (HW_sub H (VS_of (show vsub V242 V51_Br [3] = true by decide +kernel))) (n3) (en3) (w3) (((show A21 3 = A 3 from (eA21 3))).trans (ew3)) (show inr (u0_17) by omega) (show inr (u2_1) by omega) (show inrJ (0) by omega) (show 0 ≤ (u0_17) ∧ (u0_17) ≤ (u2_1) ∧ (u2_1) ≤ (n3) by omega) (fun z22 σ22 F22' A22' H' O' hS22 hA22 pz22_0 pz22_1 => ⟨rfl, ?_⟩))
      refine v_back (c := c) (s := s) H (show vsub V242 V51_Br [3] = true by decide +kernel) H' O' (fun F22 A22 H O' eF22 eA22 => ?_)
      have O := OUT_trans O O'
      -- PackHouse.wideSum
      have hws : z22 = WDL (sc ((w3)) ((u0_17)) ((u2_1))) := by rw [pz22_1]; exact WDS_L (by omega) (by omega)
      refine w_l2iW rfl ?_
      have g23 : inr (w32 (z22)) := w32_r _
      have hqq := wd_q (w := z22) hwd
      rw [hws] at hqq
      have hqn : (z21) ≠ ((w32 (z22))) → nvl (ub8 ((w1))) ((u0_9)) 4 ≠ WDL (sc ((w3)) ((u0_17)) ((u2_1))) % 4294967296 := fun w q => w (by rw [hws]; exact hqq.mpr q)
      have hqy : (z21) = ((w32 (z22))) → nvl (ub8 ((w1))) ((u0_9)) 4 = WDL (sc ((w3)) ((u0_17)) ((u2_1))) % 4294967296 := fun w => hqq.mp (by rw [← hws]; exact w)
      refine w_icmpeq (t := 80) rfl rfl (show inr (z21) by omega) (show inr ((w32 (z22))) by omega) (fun b24 => ?_) (fun b24 => ?_)
      · refine Ew_of (pc' := 81) (fun _ => x_aload_n rfl rfl) ?_
        refine Ew_of (pc' := 82) (fun _ => x_dup rfl rfl) ?_
        refine v_g H (o := 0) (v := I (u0_9)) rfl rfl rfl rfl rfl (congrArg (fun z : Int => I z) (((((show F22 0 9 = F21 0 9 from (eF22 0 9))).trans ((show F21 0 9 = F 0 9 from (eF21 0 9)))).trans (eu0_9)) : F22 0 9 = u0_9)) ?_
        refine Ew_of (pc' := 86) (fun _ => x_iconst rfl) ?_
        refine w_iadd rfl ?_
        refine v_p H (o := 0) (z := (u0_9 + 4)) (v := I ((u0_9 + 4))) rfl rfl rfl rfl rfl rfl rfl rfl (show (-2147483648 : Int) ≤ (u0_9 + 4) ∧ (u0_9 + 4) ≤ 2147483647 by omega) (fun σ H O' => ?_)
        have O := OUT_trans O O'
        have : ((u0_14) / 4 % 2 ≠ 1 ∧ ((u0_9 + 4)) = (u0_9) ∨ (u0_14) / 4 % 2 = 1 ∧ 4 ≤ (u0_8) - (u0_9) ∧ nvl (ub8 ((w1))) ((u0_9)) 4 = WDL (sc ((w3)) ((u0_17)) ((u2_1))) % 4294967296 ∧ ((u0_9 + 4)) = (u0_9) + 4) := by first | exact .inl ⟨by omega, rfl⟩ | exact .inr ⟨by omega, by omega, hqy (by omega), by omega⟩
        exact hc90  _ _ _ _  (rfl) H O (SF_upd (SF_trans (SF_trans (SF_refl) (SF_glu (ι := [1]) hS21 eF21 (by decide +kernel)) (any_sub (l' := []) rfl)) (SF_glu (ι := [3]) hS22 eF22 (by decide +kernel)) (any_sub (l' := []) rfl)) rfl) (SA_trans (SA_trans (SA_refl) (SA_glu (ι := [1]) hA21 eA21 (by decide +kernel)) (any_subA (l' := []) rfl)) (SA_glu (ι := [3]) hA22 eA22 (by decide +kernel)) (any_subA (l' := []) rfl))   ((u0_9 + 4)) (rfl)  (show 0 ≤ ((u0_9 + 4)) ∧ ((u0_9 + 4)) ≤ (u0_8) ∧ (u0_8) ≤ (n1) ∧ (n1) ≤ 65536 by omega) (show (u0_9) ≤ ((u0_9 + 4)) by omega) (show ((u0_14) / 4 % 2 ≠ 1 ∧ ((u0_9 + 4)) = (u0_9) ∨ (u0_14) / 4 % 2 = 1 ∧ 4 ≤ (u0_8) - (u0_9) ∧ nvl (ub8 ((w1))) ((u0_9)) 4 = WDL (sc ((w3)) ((u0_17)) ((u2_1))) % 4294967296 ∧ ((u0_9 + 4)) = (u0_9) + 4) by assumption) (show (u0_21) = (u0_21) by omega)
      · refine Ew_of (pc' := 70) (fun _ => x_aload_n rfl rfl) ?_
        refine Ew_of (pc' := 72) (fun _ => x_bipush (z := 8) rfl (by decide)) ?_
        refine Ew_of (pc' := 73) (fun _ => x_aload_n rfl rfl) ?_
        refine v_g H (o := 0) (v := I (u0_9)) rfl rfl rfl rfl rfl (congrArg (fun z : Int => I z) (((((show F22 0 9 = F21 0 9 from (eF22 0 9))).trans ((show F21 0 9 = F 0 9 from (eF21 0 9)))).trans (eu0_9)) : F22 0 9 = u0_9)) ?_
        refine v_inv H (o := 0) rfl rfl rfl rfl rfl rfl (by rfl) (C232 (D := pul [0] D) (N := pul [0] N) (HW_sub H (VS_of (show vsub V242 V232 [0] = true by decide +kernel))) (u0_21) (((((show F22 0 21 = F21 0 21 from (eF22 0 21))).trans ((show F21 0 21 = F 0 21 from (eF21 0 21)))).trans (eu0_21))) (show inr (8) by omega) (show inr (u0_9) by omega) (fun z25 σ25 F25' A25' H' O' hS25 hA25 y25_0_21 ey25_0_21 pz25_0 pz25_1 pz25_2 => ⟨rfl, ?_⟩))
        replace ey25_0_21 := HIDm ey25_0_21
        refine v_back (c := c) (s := s) H (show vsub V242 V232 [0] = true by decide +kernel) H' O' (fun F25 A25 H O' eF25 eA25 => ?_)
        have O := OUT_trans O O'
        -- Unpacker.fail
        have r26 : (-2147483648 : Int) ≤ y25_0_21 ∧ y25_0_21 ≤ 2147483647 := by have h1 : (-2147483648 : Int) ≤ F25 0 21 ∧ F25 0 21 ≤ 2147483647 := H.krg 0 21 (by decide); rw [show F25 0 21 = y25_0_21 from ((eF25 0 21).trans ey25_0_21)] at h1; exact h1
        have : UEA (ub8 ((w1))) ((u0_8)) ((u0_14)) ((u0_16)) (szB ((u0_14))) (dueF (ub8 ((w1))) ((u0_16)) (szB ((u0_14)))) (sc ((w3)) ((u0_17)) ((u2_1))) ((u0_9)) ((z25)) ((y25_0_21)) ((u0_9)) := .inr (.inl ⟨by omega, by omega, hqn (by omega), by omega, by omega⟩)
        exact w_ireturn rfl (k (z25) _ _ _ H O (SF_trans (SF_trans (SF_trans (SF_refl) (SF_glu (ι := [1]) hS21 eF21 (by decide +kernel)) (any_sub (l' := []) rfl)) (SF_glu (ι := [3]) hS22 eF22 (by decide +kernel)) (any_sub (l' := []) rfl)) (SF_glu (ι := [0]) hS25 eF25 (by decide +kernel)) (any_sub (l' := [(0, 21)]) rfl)) (SA_trans (SA_trans (SA_trans (SA_refl) (SA_glu (ι := [1]) hA21 eA21 (by decide +kernel)) (any_subA (l' := []) rfl)) (SA_glu (ι := [3]) hA22 eA22 (by decide +kernel)) (any_subA (l' := []) rfl)) (SA_glu (ι := [0]) hA25 eA25 (by decide +kernel)) (any_subA (l' := []) rfl)) (u0_9) ((((((show F25 0 9 = F22 0 9 from (eF25 0 9).trans (hS25 0 9 rfl))).trans ((show F22 0 9 = F21 0 9 from (eF22 0 9)))).trans ((show F21 0 9 = F 0 9 from (eF21 0 9)))).trans (eu0_9))) (y25_0_21) (((eF25 0 21).trans ey25_0_21)) (show inr (z25) by omega) (show 0 ≤ (z25) ∧ (z25) ≤ 17 by omega) (show 0 ≤ (u0_9) ∧ (u0_9) ≤ (u0_9) ∧ (u0_9) ≤ (u0_8) by omega) (show UEA (ub8 ((w1))) ((u0_8)) ((u0_14)) ((u0_16)) (szB ((u0_14))) (dueF (ub8 ((w1))) ((u0_16)) (szB ((u0_14)))) (sc ((w3)) ((u0_17)) ((u2_1))) ((u0_9)) ((z25)) ((y25_0_21)) ((u0_9)) by assumption) (show (z25) ≠ 0 ∨ (y25_0_21) = (u0_21) by omega))
    · refine Ew_of (pc' := 23) (fun _ => x_aload_n rfl rfl) ?_
      refine Ew_of (pc' := 24) (fun _ => x_iconst rfl) ?_
      refine Ew_of (pc' := 25) (fun _ => x_aload_n rfl rfl) ?_
      refine v_g H (o := 0) (v := I (u0_8)) rfl rfl rfl rfl rfl (congrArg (fun z : Int => I z) ((eu0_8) : F 0 8 = u0_8)) ?_
      refine v_inv H (o := 0) rfl rfl rfl rfl rfl rfl (by rfl) (C232 (D := pul [0] D) (N := pul [0] N) (HW_sub H (VS_of (show vsub V242 V232 [0] = true by decide +kernel))) (u0_21) ((eu0_21)) (show inr (1) by omega) (show inr (u0_8) by omega) (fun z27 σ27 F27' A27' H' O' hS27 hA27 y27_0_21 ey27_0_21 pz27_0 pz27_1 pz27_2 => ⟨rfl, ?_⟩))
      replace ey27_0_21 := HIDm ey27_0_21
      refine v_back (c := c) (s := s) H (show vsub V242 V232 [0] = true by decide +kernel) H' O' (fun F27 A27 H O' eF27 eA27 => ?_)
      have O := OUT_trans O O'
      -- Unpacker.fail
      have r28 : (-2147483648 : Int) ≤ y27_0_21 ∧ y27_0_21 ≤ 2147483647 := by have h1 : (-2147483648 : Int) ≤ F27 0 21 ∧ F27 0 21 ≤ 2147483647 := H.krg 0 21 (by decide); rw [show F27 0 21 = y27_0_21 from ((eF27 0 21).trans ey27_0_21)] at h1; exact h1
      have : UEA (ub8 ((w1))) ((u0_8)) ((u0_14)) ((u0_16)) (szB ((u0_14))) (dueF (ub8 ((w1))) ((u0_16)) (szB ((u0_14)))) (sc ((w3)) ((u0_17)) ((u2_1))) ((u0_9)) ((z27)) ((y27_0_21)) ((u0_9)) := .inl ⟨by omega, by omega, by omega, by omega⟩
      exact w_ireturn rfl (k (z27) _ _ _ H O (SF_trans (SF_refl) (SF_glu (ι := [0]) hS27 eF27 (by decide +kernel)) (any_sub (l' := [(0, 21)]) rfl)) (SA_trans (SA_refl) (SA_glu (ι := [0]) hA27 eA27 (by decide +kernel)) (any_subA (l' := []) rfl)) (u0_9) ((((show F27 0 9 = F 0 9 from (eF27 0 9).trans (hS27 0 9 rfl))).trans (eu0_9))) (y27_0_21) (((eF27 0 21).trans ey27_0_21)) (show inr (z27) by omega) (show 0 ≤ (z27) ∧ (z27) ≤ 17 by omega) (show 0 ≤ (u0_9) ∧ (u0_9) ≤ (u0_9) ∧ (u0_9) ≤ (u0_8) by omega) (show UEA (ub8 ((w1))) ((u0_8)) ((u0_14)) ((u0_16)) (szB ((u0_14))) (dueF (ub8 ((w1))) ((u0_16)) (szB ((u0_14)))) (sc ((w3)) ((u0_17)) ((u2_1))) ((u0_9)) ((z27)) ((y27_0_21)) ((u0_9)) by assumption) (show (z27) ≠ 0 ∨ (y27_0_21) = (u0_21) by omega))
abbrev V243 : vV := [(0, 12, [(4, 0), (4, 0), (4, 0), (4, 0), (4, 0), (4, 0), (4, 0), (4, 0), (0, 0), (0, 0), (4, 0), (0, 0), (4, 0), (4, 0), (0, 0), (2, 0), (0, 0), (0, 0), (0, 0), (0, 0), (0, 0), (0, 0)]), (1, 0, []), (0, 7, [(4, 0), (0, 0), (1, 0), (0, 0), (0, 0)]), (1, 0, []), (1, 1, [])]
set_option maxHeartbeats 16000000 in
/-- Unpacker.unpackBlockHead: this, this.in, this.result, this.result.bytes, this.counts -/
theorem C243 {σE : rS} {D N : Nat → Nat} {F : hF} {A : hA} {d c s : Nat} {Q : wQ} (H : HW V243 σE D N F A)  (pf1 : F 0 7 = (D 1 : Int)) (pf2 : F 0 10 = (D 2 : Int)) (pf3 : F 2 0 = (D 3 : Int)) (pf4 : F 0 13 = (D 4 : Int)) (n1 : Int) (en1 : (N 1 : Int) = n1) (n3 : Int) (en3 : (N 3 : Int) = n3) (n4 : Int) (en4 : (N 4 : Int) = n4) (u0_8 : Int) (eu0_8 : F 0 8 = u0_8) (u0_9 : Int) (eu0_9 : F 0 9 = u0_9) (u0_11 : Int) (eu0_11 : F 0 11 = u0_11) (u0_15 : Int) (eu0_15 : F 0 15 = u0_15) (u0_18 : Int) (eu0_18 : F 0 18 = u0_18) (u0_21 : Int) (eu0_21 : F 0 21 = u0_21) (u2_1 : Int) (eu2_1 : F 2 1 = u2_1) (u2_2 : Int) (eu2_2 : F 2 2 = u2_2) (w1 : Int → Int) (ew1 : A 1 = w1) (w3 : Int → Int) (ew3 : A 3 = w3) (w4 : Int → Int) (ew4 : A 4 = w4) (h0 : 0 ≤ (u0_9) ∧ (u0_9) ≤ (u0_8) ∧ (u0_8) ≤ (n1) ∧ (n1) ≤ 65536) (h1 : 0 ≤ (u2_1) ∧ (u2_1) ≤ (n3) ∧ (n3) ≤ 65536) (h2 : 0 ≤ (u0_11) ∧ (u0_11) ≤ 65536 ∧ (u2_1) ≤ (u0_11)) (h3 : (n4) = 5) (h4 : 0 ≤ (u0_15)) (h5 : (u2_2) = 0) (h6 : 0 ≤ ((w4)) 1 ∧ ((w4)) 1 ≤ (u0_9)) (k : ∀ (z : Int) (σ : rS) (D' N' : Nat → Nat) (F' : hF) (A' : hA) (c' s' : Nat), HW V243 σ D' N' F' A' → OUT (V243).length D N σE c s D' N' σ c' s' → SD [3] D D' → SD [3] N N' → SF [(0, 9), (0, 18), (0, 21), (2, 0), (2, 1), (2, 2)] F F' → SA [3, 4] A A' → F' 2 0 = (D' 3 : Int) → ∀ m3 : Int, (N' 3 : Int) = m3 → ∀ y0_9 : Int, F' 0 9 = y0_9 → ∀ y0_18 : Int, F' 0 18 = y0_18 → ∀ y0_21 : Int, F' 0 21 = y0_21 → ∀ y2_1 : Int, F' 2 1 = y2_1 → ∀ y2_2 : Int, F' 2 2 = y2_2 → ∀ v3 : Int → Int, A' 3 = v3 → ∀ v4 : Int → Int, A' 4 = v4 → (inr (z)) → (0 ≤ (z) ∧ (z) ≤ 17) → (0 ≤ (y0_9) ∧ (u0_9) ≤ (y0_9) ∧ (y0_9) ≤ (u0_8)) → (0 ≤ (y2_1) ∧ (y2_1) ≤ (m3) ∧ (m3) ≤ 65536) → ((u2_1) ≤ (y2_1) ∧ (y2_1) ≤ (u0_11)) → ((y0_18) = 0 ∨ (y0_9) ≤ (y0_18) ∧ (y0_18) ≤ (u0_8)) → (UBA (ub8 ((w1))) ((u0_8)) (moF ((u0_15))) ((u0_11) - (u2_1)) ((u0_9)) ((z)) ((y0_21)) ((y0_9)) ((y0_18)) (sc ((v3)) ((u2_1)) ((y2_1)))) → (sc ((v3)) 0 ((u2_1)) = sc ((w3)) 0 ((u2_1))) → ((y2_2) = 0) → (3 ≤ (u0_8) - (u0_9) ∧ ((v4)) 1 = ((w4)) 1 + 1 ∨ (u0_8) - (u0_9) < 3 ∧ ((v4)) 1 = ((w4)) 1) → (((v4)) 0 = ((w4)) 0) → (((v4)) 2 = ((w4)) 2) → (((v4)) 3 = ((w4)) 3) → (((v4)) 4 = ((w4)) 4) → ((z) ≠ 0 ∨ (y0_21) = (u0_21)) → Q (some (I z)) σ c' s') : Ew 243 (d + 3) 0 (rargs 0 [.ref (D 0)]) [] σE c s Q := by
  have O := OUT_refl (n := (V243).length) (D := D) (N := N) (σ := σE) (c := c) (s := s)
  have HE := H
  have r1 : (-2147483648 : Int) ≤ u0_8 ∧ u0_8 ≤ 2147483647 := by have h1 : (-2147483648 : Int) ≤ F 0 8 ∧ F 0 8 ≤ 2147483647 := H.krg 0 8 (by decide); rw [show F 0 8 = u0_8 from (eu0_8)] at h1; exact h1
  have r2 : (-2147483648 : Int) ≤ u0_9 ∧ u0_9 ≤ 2147483647 := by have h1 : (-2147483648 : Int) ≤ F 0 9 ∧ F 0 9 ≤ 2147483647 := H.krg 0 9 (by decide); rw [show F 0 9 = u0_9 from (eu0_9)] at h1; exact h1
  have r3 : (-2147483648 : Int) ≤ u0_11 ∧ u0_11 ≤ 2147483647 := by have h1 : (-2147483648 : Int) ≤ F 0 11 ∧ F 0 11 ≤ 2147483647 := H.krg 0 11 (by decide); rw [show F 0 11 = u0_11 from (eu0_11)] at h1; exact h1
  have r4 : (-9223372036854775808 : Int) ≤ u0_15 ∧ u0_15 ≤ 9223372036854775807 := by have h1 : (-9223372036854775808 : Int) ≤ F 0 15 ∧ F 0 15 ≤ 9223372036854775807 := H.krg 0 15 (by decide); rw [show F 0 15 = u0_15 from (eu0_15)] at h1; exact h1
  have r5 : (-2147483648 : Int) ≤ u0_18 ∧ u0_18 ≤ 2147483647 := by have h1 : (-2147483648 : Int) ≤ F 0 18 ∧ F 0 18 ≤ 2147483647 := H.krg 0 18 (by decide); rw [show F 0 18 = u0_18 from (eu0_18)] at h1; exact h1
  have r6 : (-2147483648 : Int) ≤ u0_21 ∧ u0_21 ≤ 2147483647 := by have h1 : (-2147483648 : Int) ≤ F 0 21 ∧ F 0 21 ≤ 2147483647 := H.krg 0 21 (by decide); rw [show F 0 21 = u0_21 from (eu0_21)] at h1; exact h1
  have r7 : (-2147483648 : Int) ≤ u2_1 ∧ u2_1 ≤ 2147483647 := by have h1 : (-2147483648 : Int) ≤ F 2 1 ∧ F 2 1 ≤ 2147483647 := H.krg 2 1 (by decide); rw [show F 2 1 = u2_1 from (eu2_1)] at h1; exact h1
  have r8 : (0 : Int) ≤ u2_2 ∧ u2_2 ≤ 1 := by have h1 : (0 : Int) ≤ F 2 2 ∧ F 2 2 ≤ 1 := H.krg 2 2 (by decide); rw [show F 2 2 = u2_2 from (eu2_2)] at h1; exact h1
  replace pf1 := HIDm pf1
  replace pf2 := HIDm pf2
  replace pf3 := HIDm pf3
  replace pf4 := HIDm pf4
  replace en1 := HIDm en1
  replace en3 := HIDm en3
  replace en4 := HIDm en4
  replace eu0_8 := HIDm eu0_8
  replace eu0_9 := HIDm eu0_9
  replace eu0_11 := HIDm eu0_11
  replace eu0_15 := HIDm eu0_15
  replace eu0_18 := HIDm eu0_18
  replace eu0_21 := HIDm eu0_21
  replace eu2_1 := HIDm eu2_1
  replace eu2_2 := HIDm eu2_2
  have r9 : (0 : Int) ≤ n1 ∧ n1 ≤ 1000000 := by have h1 := H.nle 1 (by decide); have h2 : (N 1 : Int) = n1 := en1; omega
  have r10 : (0 : Int) ≤ n3 ∧ n3 ≤ 1000000 := by have h1 := H.nle 3 (by decide); have h2 : (N 3 : Int) = n3 := en3; omega
  have r11 : (0 : Int) ≤ n4 ∧ n4 ≤ 1000000 := by have h1 := H.nle 4 (by decide); have h2 : (N 4 : Int) = n4 := en4; omega
  refine Ew_of (pc' := 1) (fun _ => x_aload_n rfl rfl) ?_
  refine Ew_of (pc' := 2) (fun _ => x_iconst rfl) ?_
  refine v_p H (o := 0) (z := 0) (v := I (0)) rfl rfl rfl rfl rfl rfl rfl rfl (show (-2147483648 : Int) ≤ 0 ∧ 0 ≤ 2147483647 by omega) (fun σ H O' => ?_)
  have O := OUT_trans O O'
  refine Ew_of (pc' := 6) (fun _ => x_aload_n rfl rfl) ?_
  refine v_g H (o := 0) (v := I (u0_8)) rfl rfl rfl rfl rfl (congrArg (fun z : Int => I z) ((eu0_8) : (updF F 0 18 (0)) 0 8 = u0_8)) ?_
  refine Ew_of (pc' := 10) (fun _ => x_aload_n rfl rfl) ?_
  refine v_g H (o := 0) (v := I (u0_9)) rfl rfl rfl rfl rfl (congrArg (fun z : Int => I z) ((eu0_9) : (updF F 0 18 (0)) 0 9 = u0_9)) ?_
  refine w_isub rfl ?_
  refine Ew_of (pc' := 15) (fun _ => x_iconst rfl) ?_
  refine w_icmpge (t := 28) rfl rfl (show inr ((u0_8 - u0_9)) by omega) (show inr (3) by omega) (fun b12 => ?_) (fun b12 => ?_)
  · refine Ew_of (pc' := 29) (fun _ => x_aload_n rfl rfl) ?_
    refine v_g H (o := 0) (v := .ref (D 4)) rfl rfl rfl rfl rfl (vrf (pf4)) ?_
    refine Ew_of (pc' := 33) (fun _ => x_iconst rfl) ?_
    refine Ew_of (pc' := 34) (fun _ => x_dup2 rfl rfl rfl) ?_
    refine v_lI H (o := 4) rfl rfl rfl rfl (n := n4) (en4) (show 0 ≤ 1 ∧ 1 < n4 by omega) (fun v13 ev13 qv13 => ?_)
    have ev13 : (w4) (1) = v13 := (congrFun (ew4) (1)).symm.trans ev13
    refine Ew_of (pc' := 36) (fun _ => x_iconst rfl) ?_
    refine w_iadd rfl ?_
    refine v_sI H (o := 4) (z := (v13 + 1)) rfl rfl rfl rfl (n := n4) (en4) (show 0 ≤ 1 ∧ 1 < n4 by omega) (show inr ((v13 + 1)) by omega) (fun σ H O' => ?_)
    have O := OUT_trans O O'
    refine Ew_of (pc' := 39) (fun _ => x_aload_n rfl rfl) ?_
    have hc1 : ((upd1 (w4) (1) ((v13 + 1)))) 1 = ((w4)) 1 + 1 := by rw [upd1_s]; omega
    have hck0 : ((upd1 (w4) (1) ((v13 + 1)))) 0 = ((w4)) 0 := upd1_o (by decide)
    have hck2 : ((upd1 (w4) (1) ((v13 + 1)))) 2 = ((w4)) 2 := upd1_o (by decide)
    have hck3 : ((upd1 (w4) (1) ((v13 + 1)))) 3 = ((w4)) 3 := upd1_o (by decide)
    have hck4 : ((upd1 (w4) (1) ((v13 + 1)))) 4 = ((w4)) 4 := upd1_o (by decide)
    refine v_g H (o := 0) (v := .ref (D 1)) rfl rfl rfl rfl rfl (vrf (pf1)) ?_
    refine Ew_of (pc' := 43) (fun _ => x_aload_n rfl rfl) ?_
    refine v_g H (o := 0) (v := I (u0_9)) rfl rfl rfl rfl rfl (congrArg (fun z : Int => I z) ((eu0_9) : (updF F 0 18 (0)) 0 9 = u0_9)) ?_
    refine Ew_of (pc' := 47) (fun _ => x_iconst rfl) ?_
    refine w_stat25 rfl rfl (by rfl) (C42_Brf (D := pul [1] D) (N := pul [1] N) (HW_sub H (VS_of (show vsub V243 V42_Br [1] = true by decide +kernel))) (n1) (en1) (w1) (ew1) (show inr (u0_9) by omega) (show inr (3) by omega) (show (3) ≤ 0 ∨ 0 ≤ (u0_9) ∧ (u0_9) + (3) ≤ (n1) by omega) (show 0 ≤ (3) ∧ (3) ≤ 8 by omega) (fun z14 σ14 F14' A14' H' O' hS14 hA14 pz14_0 pz14_1 pz14_2 => ⟨rfl, ?_⟩))
    refine v_back (c := c) (s := s) H (show vsub V243 V42_Br [1] = true by decide +kernel) H' O' (fun F14 A14 H O' eF14 eA14 => ?_)
    have O := OUT_trans O O'
    -- PackHouse.number
    have hnb := nb3 pz14_1
    have hN3 : z14 = nvl (ub8 ((w1))) ((u0_9)) 3 := (nmb_nn pz14_2 (by omega) pz14_0).trans nvl_u
    refine w_l2i rfl ?_
    refine Ew_of (pc' := 52) (fun _ => x_istore_n rfl) ?_
    refine Ew_of (pc' := 53) (fun _ => x_iload_n rfl rk_s) ?_
    refine Ew_of (pc' := 54) (fun _ => x_iconst rfl) ?_
    refine w_ishrK 1 2 (by decide) (by decide) rfl (show inr (z14) by omega) (fun z15 gz15 dz15 => ?_)
    refine Ew_of (pc' := 56) (fun _ => x_iconst rfl) ?_
    refine w_iandE rfl (show inr (z15) by omega) (show inr (3) by omega) (fun z16 gz16 gaz16 gbz16 gez16 => ?_)
    refine Ew_of (pc' := 58) (fun _ => x_istore_n rfl) ?_
    refine Ew_of (pc' := 59) (fun _ => x_iload_n rfl (rk_o (rk_s) rfl rfl)) ?_
    refine Ew_of (pc' := 60) (fun _ => x_iconst rfl) ?_
    refine w_ishrK 3 8 (by decide) (by decide) rfl (show inr (z14) by omega) (fun z17 gz17 dz17 => ?_)
    refine Ew_of (pc' := 62) (fun _ => x_istore_n rfl) ?_
    have hkk : (z16) = bkK (ub8 ((w1))) ((u0_9)) := by unfold bkK; rw [← hN3]; have := andI_3 ((z14) / 2); omega
    have hkn : (z17) = bkN (ub8 ((w1))) ((u0_9)) := by unfold bkN; rw [← hN3]; omega
    have hbb : bkB (ub8 ((w1))) ((u0_9)) = (if bkK (ub8 ((w1))) ((u0_9)) = 1 then 1 else bkN (ub8 ((w1))) ((u0_9))) := rfl
    refine Ew_of (pc' := 63) (fun _ => x_iload_n rfl (rk_o (rk_s) rfl rfl)) ?_
    refine Ew_of (pc' := 64) (fun _ => x_iconst rfl) ?_
    refine w_icmpne (t := 77) rfl rfl (show inr (z16) by omega) (show inr (3) by omega) (fun b18 => ?_) (fun b18 => ?_)
    · refine Ew_of (pc' := 78) (fun _ => x_iload_n rfl rk_s) ?_
      refine Ew_of (pc' := 79) (fun _ => x_aload_n rfl (rk_o (rk_o (rk_o (rfl) rfl rfl) rfl rfl) rfl rfl)) ?_
      refine v_inv H (o := 0) rfl rfl rfl rfl rfl rfl (by rfl) (C234 (D := pul [0] D) (N := pul [0] N) (HW_sub H (VS_of (show vsub V243 V234 [0] = true by decide +kernel))) (u0_15) ((((show F14 0 15 = (updF F 0 18 (0)) 0 15 from (eF14 0 15))).trans (eu0_15))) (show 0 ≤ (u0_15) by omega) (fun z19 σ19 F19' A19' H' O' hS19 hA19 pz19_0 pz19_1 pz19_2 => ⟨rfl, ?_⟩))
      refine v_back (c := c) (s := s) H (show vsub V243 V234 [0] = true by decide +kernel) H' O' (fun F19 A19 H O' eF19 eA19 => ?_)
      have O := OUT_trans O O'
      -- Unpacker.blockMost
      have hmo := pz19_2
      refine w_icmple (t := 96) rfl rfl (show inr (z17) by omega) (show inr (z19) by omega) (fun b20 => ?_) (fun b20 => ?_)
      · refine Ew_of (pc' := 97) (fun _ => x_iload_n rfl (rk_o (rk_s) rfl rfl)) ?_
        refine Ew_of (pc' := 98) (fun _ => x_iconst rfl) ?_
        have hc106 : ∀ (tc106_0 : Int), ∀ (ls : rO) (σ : rS) (F_c106 : hF) (A_c106 : hA) , rlook ls 0 = some (.ref (D 0)) → rlook ls 2 = some (I (z16)) → rlook ls 3 = some (I (z17)) → HW V243 σ D N F_c106 A_c106 → OUT (V243).length D N σE c s D N σ c s → SF [] F19 F_c106 → SA [] A19 A_c106 → (inr (tc106_0)) → (((z16) ≠ (1) ∧ (tc106_0) = (z17)) ∨ ((z16) = (1) ∧ (tc106_0) = (1))) → Ew 243 (d + 3) 106 ls [I (tc106_0)] σ c s Q := by
         as_aux_lemma =>
          intro tc106_0 ls σ F_c106 A_c106  lc106_0 lc106_2 lc106_3 H O hS_c106 hA_c106     jc106_0 jc106_1
          refine Ew_of (pc' := 108) (fun _ => x_istore rfl) ?_
          refine Ew_of (pc' := 109) (fun _ => x_aload_n rfl (rk_o (lc106_0) rfl rfl)) ?_
          refine v_g H (o := 0) (v := I (u0_8)) rfl rfl rfl rfl rfl (congrArg (fun z : Int => I z) (((((hS_c106 0 8 rfl).trans ((show F19 0 8 = F14 0 8 from (eF19 0 8).trans (hS19 0 8 rfl)))).trans ((show F14 0 8 = (updF F 0 18 (0)) 0 8 from (eF14 0 8)))).trans (eu0_8)) : F_c106 0 8 = u0_8)) ?_
          refine Ew_of (pc' := 113) (fun _ => x_aload_n rfl (rk_o (lc106_0) rfl rfl)) ?_
          refine v_g H (o := 0) (v := I (u0_9)) rfl rfl rfl rfl rfl (congrArg (fun z : Int => I z) (((((hS_c106 0 9 rfl).trans ((show F19 0 9 = F14 0 9 from (eF19 0 9).trans (hS19 0 9 rfl)))).trans ((show F14 0 9 = (updF F 0 18 (0)) 0 9 from (eF14 0 9)))).trans (eu0_9)) : F_c106 0 9 = u0_9)) ?_
          refine w_isub rfl ?_
          refine Ew_of (pc' := 118) (fun _ => x_iconst rfl) ?_
          refine w_isub rfl ?_
          refine Ew_of (pc' := 121) (fun _ => x_iload rfl rk_s) ?_
          refine w_icmpge (t := 134) rfl rfl (show inr (((u0_8 - u0_9) - 3)) by omega) (show inr (tc106_0) by omega) (fun b21 => ?_) (fun b21 => ?_)
          · refine Ew_of (pc' := 135) (fun _ => x_iload_n rfl (rk_o (lc106_2) rfl rfl)) ?_
            refine Ew_of (pc' := 136) (fun _ => x_iconst rfl) ?_
            have hc166 : ∀ (ls : rO) (σ : rS) (F_c166 : hF) (A_c166 : hA) , rlook ls 0 = some (.ref (D 0)) → rlook ls 2 = some (I (z16)) → rlook ls 3 = some (I (z17)) → rlook ls 4 = some (I (tc106_0)) → HW V243 σ D N F_c166 A_c166 → OUT (V243).length D N σE c s D N σ c s → SF [] F_c106 F_c166 → SA [] A_c106 A_c166 → (((z16) = (2)) ∨ ((z16) ≠ (2) ∧ (z17) ≤ ((u0_11 - u2_1)))) → Ew 243 (d + 3) 166 ls [] σ c s Q := by
             as_aux_lemma =>
              intro  ls σ F_c166 A_c166  lc166_0 lc166_2 lc166_3 lc166_4 H O hS_c166 hA_c166     jc166_0
              refine Ew_of (pc' := 167) (fun _ => x_aload_n rfl lc166_0) ?_
              refine Ew_of (pc' := 168) (fun _ => x_dup rfl rfl) ?_
              refine v_g H (o := 0) (v := I (u0_9)) rfl rfl rfl rfl rfl (congrArg (fun z : Int => I z) ((((((hS_c166 0 9 rfl).trans (hS_c106 0 9 rfl)).trans ((show F19 0 9 = F14 0 9 from (eF19 0 9).trans (hS19 0 9 rfl)))).trans ((show F14 0 9 = (updF F 0 18 (0)) 0 9 from (eF14 0 9)))).trans (eu0_9)) : F_c166 0 9 = u0_9)) ?_
              refine Ew_of (pc' := 172) (fun _ => x_iconst rfl) ?_
              refine w_iadd rfl ?_
              refine v_p H (o := 0) (z := (u0_9 + 3)) (v := I ((u0_9 + 3))) rfl rfl rfl rfl rfl rfl rfl rfl (show (-2147483648 : Int) ≤ (u0_9 + 3) ∧ (u0_9 + 3) ≤ 2147483647 by omega) (fun σ H O' => ?_)
              have O := OUT_trans O O'
              refine Ew_of (pc' := 177) (fun _ => x_iload_n rfl lc166_2) ?_
              refine Ew_of (pc' := 178) (fun _ => x_iconst rfl) ?_
              refine w_icmpne (t := 193) rfl rfl (show inr (z16) by omega) (show inr (2) by omega) (fun b22 => ?_) (fun b22 => ?_)
              · have hc234 : ∀ (ls : rO) (σ : rS) (D_c234 N_c234 : Nat → Nat) (c_c234 s_c234 : Nat) (F_c234 : hF) (A_c234 : hA) , rlook ls 0 = some (.ref (D_c234 0)) → rlook ls 4 = some (I (tc106_0)) → HW V243 σ D_c234 N_c234 F_c234 A_c234 → OUT (V243).length D N σE c s D_c234 N_c234 σ c_c234 s_c234 → SD [3] D D_c234 → SD [3] N N_c234 → SF [(2, 0), (2, 1), (2, 2)] (updF F_c166 0 9 ((u0_9 + 3))) F_c234 → SA [3] A_c166 A_c234 → F_c234 2 0 = (D_c234 3 : Int) → ∀ mc234_3 : Int, (N_c234 3 : Int) = mc234_3 → ∀ yc234_2_1 : Int, F_c234 2 1 = yc234_2_1 → ∀ yc234_2_2 : Int, F_c234 2 2 = yc234_2_2 → ∀ wc234_3 : Int → Int, A_c234 3 = wc234_3 → (0 ≤ (yc234_2_1) ∧ (yc234_2_1) ≤ (mc234_3) ∧ (mc234_3) ≤ 65536) → ((u2_1) ≤ (yc234_2_1) ∧ (yc234_2_1) ≤ (u0_11)) → ((yc234_2_2) = 0) → (sc ((wc234_3)) ((u2_1)) ((yc234_2_1)) = (if bkK (ub8 ((w1))) ((u0_9)) = 1 then List.replicate (bkN (ub8 ((w1))) ((u0_9))).toNat ((ub8 ((w1))) ((u0_9) + 3)) else sc (ub8 ((w1))) ((u0_9) + 3) ((u0_9) + 3 + bkN (ub8 ((w1))) ((u0_9))))) → (sc ((wc234_3)) 0 ((u2_1)) = sc ((w3)) 0 ((u2_1))) → Ew 243 (d + 3) 234 ls [] σ c_c234 s_c234 Q := by
                 as_aux_lemma =>
                  intro  ls σ D_c234 N_c234 c_c234 s_c234 F_c234 A_c234  lc234_0 lc234_4 H O hD_c234 hN_c234 hS_c234 hA_c234 pmc234_3 mc234_3 emc234_3 yc234_2_1 eyc234_2_1 yc234_2_2 eyc234_2_2 wc234_3 ewc234_3 jc234_0 jc234_1 jc234_2 jc234_3 jc234_4
                  replace pmc234_3 := HIDm pmc234_3
                  replace emc234_3 := HIDm emc234_3
                  replace eyc234_2_1 := HIDm eyc234_2_1
                  replace eyc234_2_2 := HIDm eyc234_2_2
                  try clear jc166_0
                  have pf_c234_0_10 : HID (F_c234 0 10 = (D_c234 2 : Int)) := (hS_c234 0 10 rfl).trans (((((((hS_c166 0 10 rfl).trans (hS_c106 0 10 rfl)).trans ((show F19 0 10 = F14 0 10 from (eF19 0 10).trans (hS19 0 10 rfl)))).trans ((show F14 0 10 = (updF F 0 18 (0)) 0 10 from (eF14 0 10))))).trans (pf2)).trans (congrArg (fun q : Nat => (q : Int)) (hD_c234 2 rfl).symm))
                  have pf_c234_0_13 : HID (F_c234 0 13 = (D_c234 4 : Int)) := (hS_c234 0 13 rfl).trans (((((((hS_c166 0 13 rfl).trans (hS_c106 0 13 rfl)).trans ((show F19 0 13 = F14 0 13 from (eF19 0 13).trans (hS19 0 13 rfl)))).trans ((show F14 0 13 = (updF F 0 18 (0)) 0 13 from (eF14 0 13))))).trans (pf4)).trans (congrArg (fun q : Nat => (q : Int)) (hD_c234 4 rfl).symm))
                  have pf_c234_0_7 : HID (F_c234 0 7 = (D_c234 1 : Int)) := (hS_c234 0 7 rfl).trans (((((((hS_c166 0 7 rfl).trans (hS_c106 0 7 rfl)).trans ((show F19 0 7 = F14 0 7 from (eF19 0 7).trans (hS19 0 7 rfl)))).trans ((show F14 0 7 = (updF F 0 18 (0)) 0 7 from (eF14 0 7))))).trans (pf1)).trans (congrArg (fun q : Nat => (q : Int)) (hD_c234 1 rfl).symm))
                  have r23 : (0 : Int) ≤ mc234_3 ∧ mc234_3 ≤ 1000000 := by have h1 := H.nle 3 (by decide); have h2 : (N_c234 3 : Int) = mc234_3 := emc234_3; omega
                  have r24 : (-2147483648 : Int) ≤ yc234_2_1 ∧ yc234_2_1 ≤ 2147483647 := by have h1 : (-2147483648 : Int) ≤ F_c234 2 1 ∧ F_c234 2 1 ≤ 2147483647 := H.krg 2 1 (by decide); rw [show F_c234 2 1 = yc234_2_1 from (eyc234_2_1)] at h1; exact h1
                  have r25 : (0 : Int) ≤ yc234_2_2 ∧ yc234_2_2 ≤ 1 := by have h1 : (0 : Int) ≤ F_c234 2 2 ∧ F_c234 2 2 ≤ 1 := H.krg 2 2 (by decide); rw [show F_c234 2 2 = yc234_2_2 from (eyc234_2_2)] at h1; exact h1
                  have k234 : sc ((wc234_3)) ((u2_1)) ((yc234_2_1)) = (if bkK (ub8 ((w1))) ((u0_9)) = 1 then List.replicate (bkN (ub8 ((w1))) ((u0_9))).toNat ((ub8 ((w1))) ((u0_9) + 3)) else sc (ub8 ((w1))) ((u0_9) + 3) ((u0_9) + 3 + bkN (ub8 ((w1))) ((u0_9)))) := by assumption
                  have k234b : sc ((wc234_3)) 0 ((u2_1)) = sc ((w3)) 0 ((u2_1)) := by assumption
                  refine Ew_of (pc' := 235) (fun _ => x_aload_n rfl lc234_0) ?_
                  refine Ew_of (pc' := 236) (fun _ => x_dup rfl rfl) ?_
                  refine v_g H (o := 0) (v := I ((u0_9 + 3))) rfl rfl rfl rfl rfl (congrArg (fun z : Int => I z) ((hS_c234 0 9 rfl) : F_c234 0 9 = (u0_9 + 3))) ?_
                  refine Ew_of (pc' := 241) (fun _ => x_iload rfl lc234_4) ?_
                  refine w_iadd rfl ?_
                  refine v_p H (o := 0) (z := ((u0_9 + 3) + tc106_0)) (v := I (((u0_9 + 3) + tc106_0))) rfl rfl rfl rfl rfl rfl rfl rfl (show (-2147483648 : Int) ≤ ((u0_9 + 3) + tc106_0) ∧ ((u0_9 + 3) + tc106_0) ≤ 2147483647 by omega) (fun σ H O' => ?_)
                  have O := OUT_trans O O'
                  refine Ew_of (pc' := 246) (fun _ => x_iconst rfl) ?_
                  have hl4 : (tc106_0) = bkB (ub8 ((w1))) ((u0_9)) := by rw [hbb]; split <;> omega
                  have : UBA (ub8 ((w1))) ((u0_8)) (moF ((u0_15))) ((u0_11) - (u2_1)) ((u0_9)) ((0)) ((u0_21)) ((((u0_9 + 3) + tc106_0))) ((0)) (sc ((wc234_3)) ((u2_1)) ((yc234_2_1))) := .inr ⟨by omega, .inr (.inl ⟨by omega, by omega, by omega, fun ds wd W C X r0 r1 r2 => BL_0 (b := (tc106_0)) ⟨by omega, by omega⟩ (by omega) (by by_cases z : bkK (ub8 ((w1))) ((u0_9)) = 1; (exact .inl ⟨z, by rw [hl4, hbb, if_pos z], by rw [k234, if_pos z]⟩); (exact .inr ⟨z, by rw [hl4, hbb, if_neg z], by rw [k234, if_neg z]⟩)) (by omega) (by omega)⟩)⟩
                  exact w_ireturn rfl (k (0) _ _ _ _ _ _ _ H O (SD_trans (SD_refl) hD_c234 (any_subA rfl)) (SD_trans (SD_refl) hN_c234 (any_subA rfl)) (SF_upd (SF_trans (SF_upd (SF_trans (SF_trans (SF_trans (SF_trans (SF_upd (SF_refl) rfl) (SF_glu (ι := [1]) hS14 eF14 (by decide +kernel)) (any_sub (l' := []) rfl)) (SF_glu (ι := [0]) hS19 eF19 (by decide +kernel)) (any_sub (l' := []) rfl)) hS_c106 (any_sub rfl)) hS_c166 (any_sub rfl)) rfl) hS_c234 (any_sub rfl)) rfl) (SA_trans (SA_trans (SA_trans (SA_trans (SA_trans (SA_upd (SA_refl) rfl) (SA_glu (ι := [1]) hA14 eA14 (by decide +kernel)) (any_subA (l' := []) rfl)) (SA_glu (ι := [0]) hA19 eA19 (by decide +kernel)) (any_subA (l' := []) rfl)) hA_c106 (any_subA rfl)) hA_c166 (any_subA rfl)) hA_c234 (any_subA rfl)) (pmc234_3) (mc234_3) (emc234_3) (((u0_9 + 3) + tc106_0)) (rfl) (0) ((((((hS_c234 0 18 rfl).trans (hS_c166 0 18 rfl)).trans (hS_c106 0 18 rfl)).trans ((show F19 0 18 = F14 0 18 from (eF19 0 18).trans (hS19 0 18 rfl)))).trans ((show F14 0 18 = (updF F 0 18 (0)) 0 18 from (eF14 0 18))))) (u0_21) (((((((hS_c234 0 21 rfl).trans (hS_c166 0 21 rfl)).trans (hS_c106 0 21 rfl)).trans ((show F19 0 21 = F14 0 21 from (eF19 0 21).trans (hS19 0 21 rfl)))).trans ((show F14 0 21 = (updF F 0 18 (0)) 0 21 from (eF14 0 21)))).trans (eu0_21))) (yc234_2_1) ((eyc234_2_1)) (yc234_2_2) ((eyc234_2_2)) (wc234_3) (ewc234_3) (upd1 (w4) (1) ((v13 + 1))) ((funext (hA_c234 4 rfl)).trans ((funext (hA_c166 4 rfl)).trans ((funext (hA_c106 4 rfl)).trans (((show A19 4 = A14 4 from (eA19 4))).trans (((show A14 4 = (updA A 4 (1) ((v13 + 1))) 4 from (eA14 4))).trans (congrArg (fun q => upd1 q (1) ((v13 + 1))) (ew4))))))) (show inr (0) by omega) (show 0 ≤ (0) ∧ (0) ≤ 17 by omega) (show 0 ≤ (((u0_9 + 3) + tc106_0)) ∧ (u0_9) ≤ (((u0_9 + 3) + tc106_0)) ∧ (((u0_9 + 3) + tc106_0)) ≤ (u0_8) by omega) (show 0 ≤ (yc234_2_1) ∧ (yc234_2_1) ≤ (mc234_3) ∧ (mc234_3) ≤ 65536 by omega) (show (u2_1) ≤ (yc234_2_1) ∧ (yc234_2_1) ≤ (u0_11) by omega) (show (0) = 0 ∨ (((u0_9 + 3) + tc106_0)) ≤ (0) ∧ (0) ≤ (u0_8) by omega) (show UBA (ub8 ((w1))) ((u0_8)) (moF ((u0_15))) ((u0_11) - (u2_1)) ((u0_9)) ((0)) ((u0_21)) ((((u0_9 + 3) + tc106_0))) ((0)) (sc ((wc234_3)) ((u2_1)) ((yc234_2_1))) by assumption) (show sc ((wc234_3)) 0 ((u2_1)) = sc ((w3)) 0 ((u2_1)) by assumption) (show (yc234_2_2) = 0 by omega) (show 3 ≤ (u0_8) - (u0_9) ∧ ((upd1 (w4) (1) ((v13 + 1)))) 1 = ((w4)) 1 + 1 ∨ (u0_8) - (u0_9) < 3 ∧ ((upd1 (w4) (1) ((v13 + 1)))) 1 = ((w4)) 1 by omega) (show ((upd1 (w4) (1) ((v13 + 1)))) 0 = ((w4)) 0 by omega) (show ((upd1 (w4) (1) ((v13 + 1)))) 2 = ((w4)) 2 by omega) (show ((upd1 (w4) (1) ((v13 + 1)))) 3 = ((w4)) 3 by omega) (show ((upd1 (w4) (1) ((v13 + 1)))) 4 = ((w4)) 4 by omega) (show (0) ≠ 0 ∨ (u0_21) = (u0_21) by omega))
                refine Ew_of (pc' := 194) (fun _ => x_iload_n rfl lc166_2) ?_
                refine Ew_of (pc' := 195) (fun _ => x_iconst rfl) ?_
                refine w_icmpne (t := 218) rfl rfl (show inr (z16) by omega) (show inr (1) by omega) (fun b26 => ?_) (fun b26 => ?_)
                · refine Ew_of (pc' := 219) (fun _ => x_aload_n rfl lc166_0) ?_
                  refine v_g H (o := 0) (v := .ref (D 2)) rfl rfl rfl rfl rfl (vrf ((((((hS_c166 0 10 rfl).trans (hS_c106 0 10 rfl)).trans ((show F19 0 10 = F14 0 10 from (eF19 0 10).trans (hS19 0 10 rfl)))).trans ((show F14 0 10 = (updF F 0 18 (0)) 0 10 from (eF14 0 10))))).trans (pf2))) ?_
                  refine Ew_of (pc' := 223) (fun _ => x_aload_n rfl lc166_0) ?_
                  refine v_g H (o := 0) (v := .ref (D 1)) rfl rfl rfl rfl rfl (vrf ((((((hS_c166 0 7 rfl).trans (hS_c106 0 7 rfl)).trans ((show F19 0 7 = F14 0 7 from (eF19 0 7).trans (hS19 0 7 rfl)))).trans ((show F14 0 7 = (updF F 0 18 (0)) 0 7 from (eF14 0 7))))).trans (pf1))) ?_
                  refine Ew_of (pc' := 227) (fun _ => x_aload_n rfl lc166_0) ?_
                  refine v_g H (o := 0) (v := I ((u0_9 + 3))) rfl rfl rfl rfl rfl (congrArg (fun z : Int => I z) (rfl : (updF F_c166 0 9 ((u0_9 + 3))) 0 9 = (u0_9 + 3))) ?_
                  refine Ew_of (pc' := 231) (fun _ => x_iload_n rfl lc166_3) ?_
                  refine v_inv H (o := 2) rfl rfl rfl rfl rfl rfl (by rfl) (C161_Br (D := pul [2, 1, 3] D) (N := pul [2, 1, 3] N) (HW_sub H (VS_of (show vsub V243 V161_Br [2, 1, 3] = true by decide +kernel))) ((((((hS_c166 2 0 rfl).trans (hS_c106 2 0 rfl)).trans ((show F19 2 0 = F14 2 0 from (eF19 2 0)))).trans ((show F14 2 0 = (updF F 0 18 (0)) 2 0 from (eF14 2 0))))).trans (pf3)) (n1) (en1) (n3) (en3) (u2_1) ((((((hS_c166 2 1 rfl).trans (hS_c106 2 1 rfl)).trans ((show F19 2 1 = F14 2 1 from (eF19 2 1)))).trans ((show F14 2 1 = (updF F 0 18 (0)) 2 1 from (eF14 2 1)))).trans (eu2_1))) (u2_2) ((((((hS_c166 2 2 rfl).trans (hS_c106 2 2 rfl)).trans ((show F19 2 2 = F14 2 2 from (eF19 2 2)))).trans ((show F14 2 2 = (updF F 0 18 (0)) 2 2 from (eF14 2 2)))).trans (eu2_2))) (w1) ((funext (hA_c166 1 rfl)).trans ((funext (hA_c106 1 rfl)).trans (((show A19 1 = A14 1 from (eA19 1))).trans (((show A14 1 = (updA A 4 (1) ((v13 + 1))) 1 from (eA14 1).trans (funext (hA14 0 rfl)))).trans (ew1))))) (w3) ((funext (hA_c166 3 rfl)).trans ((funext (hA_c106 3 rfl)).trans (((show A19 3 = A14 3 from (eA19 3))).trans (((show A14 3 = (updA A 4 (1) ((v13 + 1))) 3 from (eA14 3))).trans (ew3))))) (show inr ((u0_9 + 3)) by omega) (show inr (z17) by omega) (show 0 ≤ (u2_1) ∧ (u2_1) ≤ (n3) ∧ (n3) ≤ 65536 by omega) (show (z17) < 0 ∨ 0 ≤ ((u0_9 + 3)) ∧ ((u0_9 + 3)) + (z17) ≤ (n1) by omega) (fun σ27 D27' N27' F27' A27' c27 s27 H' O' hD27 hN27 hS27 hA27 pm27_2 m27_2 em27_2 y27_0_1 ey27_0_1 y27_0_2 ey27_0_2 w27_2 ew27_2 pz27_0 pz27_1 pz27_2 pz27_3 => ⟨rfl, ?_⟩))
                  replace pm27_2 := HIDm pm27_2
                  replace em27_2 := HIDm em27_2
                  replace ey27_0_1 := HIDm ey27_0_1
                  replace ey27_0_2 := HIDm ey27_0_2
                  refine v_backM (c := c) (s := s) H (show vsub V243 V161_Br [2, 1, 3] = true by decide +kernel) H' O' hD27 (show vmov V243 [2, 1, 3] [2] = true by decide +kernel) (fun D27 N27 F27 A27 H O' eD27 eN27 eF27 eA27 => ?_)
                  have O := OUT_trans O O'
                  -- Row.addPart
                  have pf27_0_10 : HID (F27 0 10 = (D27 2 : Int)) := ((show F27 0 10 = (updF F_c166 0 9 ((u0_9 + 3))) 0 10 from (eF27 0 10))).trans (((((((hS_c166 0 10 rfl).trans (hS_c106 0 10 rfl)).trans ((show F19 0 10 = F14 0 10 from (eF19 0 10).trans (hS19 0 10 rfl)))).trans ((show F14 0 10 = (updF F 0 18 (0)) 0 10 from (eF14 0 10))))).trans (pf2)).trans (congrArg (fun q : Nat => (q : Int)) ((show D27 2 = D 2 from (eD27 2).trans (hD27 0 rfl))).symm))
                  have pf27_0_13 : HID (F27 0 13 = (D27 4 : Int)) := ((show F27 0 13 = (updF F_c166 0 9 ((u0_9 + 3))) 0 13 from (eF27 0 13))).trans (((((((hS_c166 0 13 rfl).trans (hS_c106 0 13 rfl)).trans ((show F19 0 13 = F14 0 13 from (eF19 0 13).trans (hS19 0 13 rfl)))).trans ((show F14 0 13 = (updF F 0 18 (0)) 0 13 from (eF14 0 13))))).trans (pf4)).trans (congrArg (fun q : Nat => (q : Int)) ((show D27 4 = D 4 from (eD27 4))).symm))
                  have pf27_0_7 : HID (F27 0 7 = (D27 1 : Int)) := ((show F27 0 7 = (updF F_c166 0 9 ((u0_9 + 3))) 0 7 from (eF27 0 7))).trans (((((((hS_c166 0 7 rfl).trans (hS_c106 0 7 rfl)).trans ((show F19 0 7 = F14 0 7 from (eF19 0 7).trans (hS19 0 7 rfl)))).trans ((show F14 0 7 = (updF F 0 18 (0)) 0 7 from (eF14 0 7))))).trans (pf1)).trans (congrArg (fun q : Nat => (q : Int)) ((show D27 1 = D 1 from (eD27 1).trans (hD27 1 rfl))).symm))
                  have pf27_2_0 : HID (F27 2 0 = (D27 3 : Int)) := (eF27 2 0).trans (pm27_2.trans (congrArg (fun q : Nat => (q : Int)) (eD27 3).symm))
                  have r28 : (0 : Int) ≤ m27_2 ∧ m27_2 ≤ 1000000 := by have h1 := H.nle 3 (by decide); have h2 : (N27 3 : Int) = m27_2 := (congrArg (fun q : Nat => (q : Int)) (eN27 3)).trans em27_2; omega
                  have r29 : (-2147483648 : Int) ≤ y27_0_1 ∧ y27_0_1 ≤ 2147483647 := by have h1 : (-2147483648 : Int) ≤ F27 2 1 ∧ F27 2 1 ≤ 2147483647 := H.krg 2 1 (by decide); rw [show F27 2 1 = y27_0_1 from ((eF27 2 1).trans ey27_0_1)] at h1; exact h1
                  have r30 : (0 : Int) ≤ y27_0_2 ∧ y27_0_2 ≤ 1 := by have h1 : (0 : Int) ≤ F27 2 2 ∧ F27 2 2 ≤ 1 := H.krg 2 2 (by decide); rw [show F27 2 2 = y27_0_2 from ((eF27 2 2).trans ey27_0_2)] at h1; exact h1
                  have : sc ((w27_2)) ((u2_1)) ((y27_0_1)) = (if bkK (ub8 ((w1))) ((u0_9)) = 1 then List.replicate (bkN (ub8 ((w1))) ((u0_9))).toNat ((ub8 ((w1))) ((u0_9) + 3)) else sc (ub8 ((w1))) ((u0_9) + 3) ((u0_9) + 3 + bkN (ub8 ((w1))) ((u0_9)))) := by first | (rw [if_pos (by omega), hap.2, sc_nil (Int.le_refl _), List.nil_append, ← hkn, hvu]) | (have h := (RAP_from (a := (u2_1)) (pz27_3 (by omega)) (by omega) (by omega) (by rw [sc_lenI (by omega)]; omega) (by omega)).2; rw [if_neg (by omega), h, sc_nil (Int.le_refl _), List.nil_append, sc_u, ← hkn, show ((u0_9 + 3)) = (u0_9) + 3 by omega])
                  have : (y27_0_2) = 0 := by first | exact hap.1 | exact (RAP_from (a := 0) (pz27_3 (by omega)) (by omega) (by omega) (by rw [sc_lenI (by omega)]; omega) (by omega)).1
                  have : sc ((w27_2)) 0 ((u2_1)) = sc ((w3)) 0 ((u2_1)) := by first | exact SMx_of hsm.2 (by omega) | exact sc_same (fun i x y => pz27_2 i x (by omega))
                  exact hc234  _ _ _ _ _ _ _ _  ((lc166_0).trans (congrArg (fun q : Nat => some (Value.ref q)) (((show D27 0 = D 0 from (eD27 0)))).symm)) (lc166_4) H O (SD_trans (SD_refl) (SD_glu (ι := [2, 1, 3]) hD27 eD27 (by decide +kernel)) (any_subA (l' := [3]) rfl)) (SD_trans (SD_refl) (SD_glu (ι := [2, 1, 3]) hN27 eN27 (by decide +kernel)) (any_subA (l' := [3]) rfl)) (SF_trans (SF_refl) (SF_glu (ι := [2, 1, 3]) hS27 eF27 (by decide +kernel)) (any_sub (l' := [(2, 0), (2, 1), (2, 2)]) rfl)) (SA_trans (SA_refl) (SA_glu (ι := [2, 1, 3]) hA27 eA27 (by decide +kernel)) (any_subA (l' := [3]) rfl)) (pf27_2_0) (m27_2) ((congrArg (fun q : Nat => (q : Int)) (eN27 3)).trans em27_2) (y27_0_1) (((eF27 2 1).trans ey27_0_1)) (y27_0_2) (((eF27 2 2).trans ey27_0_2)) (w27_2) ((eA27 3).trans ew27_2) (show 0 ≤ (y27_0_1) ∧ (y27_0_1) ≤ (m27_2) ∧ (m27_2) ≤ 65536 by omega) (show (u2_1) ≤ (y27_0_1) ∧ (y27_0_1) ≤ (u0_11) by omega) (show (y27_0_2) = 0 by omega) (show sc ((w27_2)) ((u2_1)) ((y27_0_1)) = (if bkK (ub8 ((w1))) ((u0_9)) = 1 then List.replicate (bkN (ub8 ((w1))) ((u0_9))).toNat ((ub8 ((w1))) ((u0_9) + 3)) else sc (ub8 ((w1))) ((u0_9) + 3) ((u0_9) + 3 + bkN (ub8 ((w1))) ((u0_9)))) by assumption) (show sc ((w27_2)) 0 ((u2_1)) = sc ((w3)) 0 ((u2_1)) by assumption)
                · refine Ew_of (pc' := 199) (fun _ => x_aload_n rfl lc166_0) ?_
                  refine v_g H (o := 0) (v := .ref (D 2)) rfl rfl rfl rfl rfl (vrf ((((((hS_c166 0 10 rfl).trans (hS_c106 0 10 rfl)).trans ((show F19 0 10 = F14 0 10 from (eF19 0 10).trans (hS19 0 10 rfl)))).trans ((show F14 0 10 = (updF F 0 18 (0)) 0 10 from (eF14 0 10))))).trans (pf2))) ?_
                  refine Ew_of (pc' := 203) (fun _ => x_aload_n rfl lc166_0) ?_
                  refine v_g H (o := 0) (v := .ref (D 1)) rfl rfl rfl rfl rfl (vrf ((((((hS_c166 0 7 rfl).trans (hS_c106 0 7 rfl)).trans ((show F19 0 7 = F14 0 7 from (eF19 0 7).trans (hS19 0 7 rfl)))).trans ((show F14 0 7 = (updF F 0 18 (0)) 0 7 from (eF14 0 7))))).trans (pf1))) ?_
                  refine Ew_of (pc' := 207) (fun _ => x_aload_n rfl lc166_0) ?_
                  refine v_g H (o := 0) (v := I ((u0_9 + 3))) rfl rfl rfl rfl rfl (congrArg (fun z : Int => I z) (rfl : (updF F_c166 0 9 ((u0_9 + 3))) 0 9 = (u0_9 + 3))) ?_
                  refine v_lB H (o := 1) rfl rfl rfl rfl (n := n1) (en1) (show 0 ≤ (u0_9 + 3) ∧ (u0_9 + 3) < n1 by omega) (fun v31 ev31 qv31 => ?_)
                  have ev31 : (w1) ((u0_9 + 3)) = v31 := (congrFun ((funext (hA_c166 1 rfl)).trans ((funext (hA_c106 1 rfl)).trans (((show A19 1 = A14 1 from (eA19 1))).trans (((show A14 1 = (updA A 4 (1) ((v13 + 1))) 1 from (eA14 1).trans (funext (hA14 0 rfl)))).trans (ew1))))) ((u0_9 + 3))).symm.trans ev31
                  have hvv := ev31
                  have hvu : (ub8 ((w1))) ((u0_9) + 3) = u8 ((v31)) := by show u8 _ = _; rw [← hvv]; congr 2; omega
                  refine Ew_of (pc' := 212) (fun _ => x_iload_n rfl lc166_3) ?_
                  refine v_inv H (o := 2) rfl rfl rfl rfl rfl rfl (by rfl) (C162 (D := pul [2, 3] D) (N := pul [2, 3] N) (HW_sub H (VS_of (show vsub V243 V162 [2, 3] = true by decide +kernel))) ((((((hS_c166 2 0 rfl).trans (hS_c106 2 0 rfl)).trans ((show F19 2 0 = F14 2 0 from (eF19 2 0)))).trans ((show F14 2 0 = (updF F 0 18 (0)) 2 0 from (eF14 2 0))))).trans (pf3)) (n3) (en3) (u2_1) ((((((hS_c166 2 1 rfl).trans (hS_c106 2 1 rfl)).trans ((show F19 2 1 = F14 2 1 from (eF19 2 1)))).trans ((show F14 2 1 = (updF F 0 18 (0)) 2 1 from (eF14 2 1)))).trans (eu2_1))) (u2_2) ((((((hS_c166 2 2 rfl).trans (hS_c106 2 2 rfl)).trans ((show F19 2 2 = F14 2 2 from (eF19 2 2)))).trans ((show F14 2 2 = (updF F 0 18 (0)) 2 2 from (eF14 2 2)))).trans (eu2_2))) (w3) ((funext (hA_c166 3 rfl)).trans ((funext (hA_c106 3 rfl)).trans (((show A19 3 = A14 3 from (eA19 3))).trans (((show A14 3 = (updA A 4 (1) ((v13 + 1))) 3 from (eA14 3))).trans (ew3))))) (show inr (v31) by omega) (show inr (z17) by omega) (show 0 ≤ (u2_1) ∧ (u2_1) ≤ (n3) ∧ (n3) ≤ 65536 by omega) (fun σ32 D32' N32' F32' A32' c32 s32 H' O' hD32 hN32 hS32 hA32 pm32_1 m32_1 em32_1 y32_0_1 ey32_0_1 y32_0_2 ey32_0_2 w32_1 ew32_1 pz32_0 pz32_1 pz32_2 => ⟨rfl, ?_⟩))
                  replace pm32_1 := HIDm pm32_1
                  replace em32_1 := HIDm em32_1
                  replace ey32_0_1 := HIDm ey32_0_1
                  replace ey32_0_2 := HIDm ey32_0_2
                  refine v_backM (c := c) (s := s) H (show vsub V243 V162 [2, 3] = true by decide +kernel) H' O' hD32 (show vmov V243 [2, 3] [1] = true by decide +kernel) (fun D32 N32 F32 A32 H O' eD32 eN32 eF32 eA32 => ?_)
                  have O := OUT_trans O O'
                  -- Row.addSame
                  have pf32_0_10 : HID (F32 0 10 = (D32 2 : Int)) := ((show F32 0 10 = (updF F_c166 0 9 ((u0_9 + 3))) 0 10 from (eF32 0 10))).trans (((((((hS_c166 0 10 rfl).trans (hS_c106 0 10 rfl)).trans ((show F19 0 10 = F14 0 10 from (eF19 0 10).trans (hS19 0 10 rfl)))).trans ((show F14 0 10 = (updF F 0 18 (0)) 0 10 from (eF14 0 10))))).trans (pf2)).trans (congrArg (fun q : Nat => (q : Int)) ((show D32 2 = D 2 from (eD32 2).trans (hD32 0 rfl))).symm))
                  have pf32_0_13 : HID (F32 0 13 = (D32 4 : Int)) := ((show F32 0 13 = (updF F_c166 0 9 ((u0_9 + 3))) 0 13 from (eF32 0 13))).trans (((((((hS_c166 0 13 rfl).trans (hS_c106 0 13 rfl)).trans ((show F19 0 13 = F14 0 13 from (eF19 0 13).trans (hS19 0 13 rfl)))).trans ((show F14 0 13 = (updF F 0 18 (0)) 0 13 from (eF14 0 13))))).trans (pf4)).trans (congrArg (fun q : Nat => (q : Int)) ((show D32 4 = D 4 from (eD32 4))).symm))
                  have pf32_0_7 : HID (F32 0 7 = (D32 1 : Int)) := ((show F32 0 7 = (updF F_c166 0 9 ((u0_9 + 3))) 0 7 from (eF32 0 7))).trans (((((((hS_c166 0 7 rfl).trans (hS_c106 0 7 rfl)).trans ((show F19 0 7 = F14 0 7 from (eF19 0 7).trans (hS19 0 7 rfl)))).trans ((show F14 0 7 = (updF F 0 18 (0)) 0 7 from (eF14 0 7))))).trans (pf1)).trans (congrArg (fun q : Nat => (q : Int)) ((show D32 1 = D 1 from (eD32 1))).symm))
                  have pf32_2_0 : HID (F32 2 0 = (D32 3 : Int)) := (eF32 2 0).trans (pm32_1.trans (congrArg (fun q : Nat => (q : Int)) (eD32 3).symm))
                  have r33 : (0 : Int) ≤ m32_1 ∧ m32_1 ≤ 1000000 := by have h1 := H.nle 3 (by decide); have h2 : (N32 3 : Int) = m32_1 := (congrArg (fun q : Nat => (q : Int)) (eN32 3)).trans em32_1; omega
                  have r34 : (-2147483648 : Int) ≤ y32_0_1 ∧ y32_0_1 ≤ 2147483647 := by have h1 : (-2147483648 : Int) ≤ F32 2 1 ∧ F32 2 1 ≤ 2147483647 := H.krg 2 1 (by decide); rw [show F32 2 1 = y32_0_1 from ((eF32 2 1).trans ey32_0_1)] at h1; exact h1
                  have r35 : (0 : Int) ≤ y32_0_2 ∧ y32_0_2 ≤ 1 := by have h1 : (0 : Int) ≤ F32 2 2 ∧ F32 2 2 ≤ 1 := H.krg 2 2 (by decide); rw [show F32 2 2 = y32_0_2 from ((eF32 2 2).trans ey32_0_2)] at h1; exact h1
                  have hap := RAP_from (a := (u2_1)) (pz32_2 (by omega)) (by omega) (by omega) (by rw [List.length_replicate]; omega) (by omega)
                  have hsm := RAP_from (a := 0) (pz32_2 (by omega)) (by omega) (by omega) (by rw [List.length_replicate]; omega) (by omega)
                  refine Ew_of (pc' := 234) (fun _ => x_goto rfl rfl) ?_
                  have : sc ((w32_1)) ((u2_1)) ((y32_0_1)) = (if bkK (ub8 ((w1))) ((u0_9)) = 1 then List.replicate (bkN (ub8 ((w1))) ((u0_9))).toNat ((ub8 ((w1))) ((u0_9) + 3)) else sc (ub8 ((w1))) ((u0_9) + 3) ((u0_9) + 3 + bkN (ub8 ((w1))) ((u0_9)))) := by first | (rw [if_pos (by omega), hap.2, sc_nil (Int.le_refl _), List.nil_append, ← hkn, hvu]) | (have h := (RAP_from (a := (u2_1)) (pz27_3 (by omega)) (by omega) (by omega) (by rw [sc_lenI (by omega)]; omega) (by omega)).2; rw [if_neg (by omega), h, sc_nil (Int.le_refl _), List.nil_append, sc_u, ← hkn, show ((u0_9 + 3)) = (u0_9) + 3 by omega])
                  have : (y32_0_2) = 0 := by first | exact hap.1 | exact (RAP_from (a := 0) (pz27_3 (by omega)) (by omega) (by omega) (by rw [sc_lenI (by omega)]; omega) (by omega)).1
                  have : sc ((w32_1)) 0 ((u2_1)) = sc ((w3)) 0 ((u2_1)) := by first | exact SMx_of hsm.2 (by omega) | exact sc_same (fun i x y => pz27_2 i x (by omega))
                  exact hc234  _ _ _ _ _ _ _ _  ((lc166_0).trans (congrArg (fun q : Nat => some (Value.ref q)) (((show D32 0 = D 0 from (eD32 0)))).symm)) (lc166_4) H O (SD_trans (SD_refl) (SD_glu (ι := [2, 3]) hD32 eD32 (by decide +kernel)) (any_subA (l' := [3]) rfl)) (SD_trans (SD_refl) (SD_glu (ι := [2, 3]) hN32 eN32 (by decide +kernel)) (any_subA (l' := [3]) rfl)) (SF_trans (SF_refl) (SF_glu (ι := [2, 3]) hS32 eF32 (by decide +kernel)) (any_sub (l' := [(2, 0), (2, 1), (2, 2)]) rfl)) (SA_trans (SA_refl) (SA_glu (ι := [2, 3]) hA32 eA32 (by decide +kernel)) (any_subA (l' := [3]) rfl)) (pf32_2_0) (m32_1) ((congrArg (fun q : Nat => (q : Int)) (eN32 3)).trans em32_1) (y32_0_1) (((eF32 2 1).trans ey32_0_1)) (y32_0_2) (((eF32 2 2).trans ey32_0_2)) (w32_1) ((eA32 3).trans ew32_1) (show 0 ≤ (y32_0_1) ∧ (y32_0_1) ≤ (m32_1) ∧ (m32_1) ≤ 65536 by omega) (show (u2_1) ≤ (y32_0_1) ∧ (y32_0_1) ≤ (u0_11) by omega) (show (y32_0_2) = 0 by omega) (show sc ((w32_1)) ((u2_1)) ((y32_0_1)) = (if bkK (ub8 ((w1))) ((u0_9)) = 1 then List.replicate (bkN (ub8 ((w1))) ((u0_9))).toNat ((ub8 ((w1))) ((u0_9) + 3)) else sc (ub8 ((w1))) ((u0_9) + 3) ((u0_9) + 3 + bkN (ub8 ((w1))) ((u0_9)))) by assumption) (show sc ((w32_1)) 0 ((u2_1)) = sc ((w3)) 0 ((u2_1)) by assumption)
              · refine Ew_of (pc' := 182) (fun _ => x_aload_n rfl lc166_0) ?_
                refine Ew_of (pc' := 183) (fun _ => x_aload_n rfl lc166_0) ?_
                refine v_g H (o := 0) (v := I ((u0_9 + 3))) rfl rfl rfl rfl rfl (congrArg (fun z : Int => I z) (rfl : (updF F_c166 0 9 ((u0_9 + 3))) 0 9 = (u0_9 + 3))) ?_
                refine Ew_of (pc' := 187) (fun _ => x_iload_n rfl lc166_3) ?_
                refine w_iadd rfl ?_
                refine v_p H (o := 0) (z := ((u0_9 + 3) + z17)) (v := I (((u0_9 + 3) + z17))) rfl rfl rfl rfl rfl rfl rfl rfl (show (-2147483648 : Int) ≤ ((u0_9 + 3) + z17) ∧ ((u0_9 + 3) + z17) ≤ 2147483647 by omega) (fun σ H O' => ?_)
                have O := OUT_trans O O'
                refine Ew_of (pc' := 192) (fun _ => x_iconst rfl) ?_
                have hb2 : bkB (ub8 ((w1))) ((u0_9)) = (z17) := by rw [hbb, if_neg (by omega)]; omega
                have : UBA (ub8 ((w1))) ((u0_8)) (moF ((u0_15))) ((u0_11) - (u2_1)) ((u0_9)) ((0)) ((u0_21)) (((u0_9 + 3))) ((((u0_9 + 3) + z17))) (sc ((w3)) ((u2_1)) ((u2_1))) := .inr ⟨by omega, .inr (.inr ⟨by omega, sc_nil (Int.le_refl _), by omega, by omega, by omega, fun ds wd W C X r0 r1 r2 => by rw [show ((u0_9 + 3)) = (u0_9) + 3 by omega]; exact BL_2 (by omega) (by omega) (by omega) (by omega)⟩)⟩
                have : sc ((w3)) 0 ((u2_1)) = sc ((w3)) 0 ((u2_1)) := rfl
                exact w_ireturn rfl (k (0) _ _ _ _ _ _ _ H O (SD_refl) (SD_refl) (SF_upd (SF_upd (SF_trans (SF_trans (SF_trans (SF_trans (SF_upd (SF_refl) rfl) (SF_glu (ι := [1]) hS14 eF14 (by decide +kernel)) (any_sub (l' := []) rfl)) (SF_glu (ι := [0]) hS19 eF19 (by decide +kernel)) (any_sub (l' := []) rfl)) hS_c106 (any_sub rfl)) hS_c166 (any_sub rfl)) rfl) rfl) (SA_trans (SA_trans (SA_trans (SA_trans (SA_upd (SA_refl) rfl) (SA_glu (ι := [1]) hA14 eA14 (by decide +kernel)) (any_subA (l' := []) rfl)) (SA_glu (ι := [0]) hA19 eA19 (by decide +kernel)) (any_subA (l' := []) rfl)) hA_c106 (any_subA rfl)) hA_c166 (any_subA rfl)) ((((((hS_c166 2 0 rfl).trans (hS_c106 2 0 rfl)).trans ((show F19 2 0 = F14 2 0 from (eF19 2 0)))).trans ((show F14 2 0 = (updF F 0 18 (0)) 2 0 from (eF14 2 0))))).trans (pf3)) (n3) (en3) ((u0_9 + 3)) (rfl) (((u0_9 + 3) + z17)) (rfl) (u0_21) ((((((hS_c166 0 21 rfl).trans (hS_c106 0 21 rfl)).trans ((show F19 0 21 = F14 0 21 from (eF19 0 21).trans (hS19 0 21 rfl)))).trans ((show F14 0 21 = (updF F 0 18 (0)) 0 21 from (eF14 0 21)))).trans (eu0_21))) (u2_1) ((((((hS_c166 2 1 rfl).trans (hS_c106 2 1 rfl)).trans ((show F19 2 1 = F14 2 1 from (eF19 2 1)))).trans ((show F14 2 1 = (updF F 0 18 (0)) 2 1 from (eF14 2 1)))).trans (eu2_1))) (u2_2) ((((((hS_c166 2 2 rfl).trans (hS_c106 2 2 rfl)).trans ((show F19 2 2 = F14 2 2 from (eF19 2 2)))).trans ((show F14 2 2 = (updF F 0 18 (0)) 2 2 from (eF14 2 2)))).trans (eu2_2))) (w3) ((funext (hA_c166 3 rfl)).trans ((funext (hA_c106 3 rfl)).trans (((show A19 3 = A14 3 from (eA19 3))).trans (((show A14 3 = (updA A 4 (1) ((v13 + 1))) 3 from (eA14 3))).trans (ew3))))) (upd1 (w4) (1) ((v13 + 1))) ((funext (hA_c166 4 rfl)).trans ((funext (hA_c106 4 rfl)).trans (((show A19 4 = A14 4 from (eA19 4))).trans (((show A14 4 = (updA A 4 (1) ((v13 + 1))) 4 from (eA14 4))).trans (congrArg (fun q => upd1 q (1) ((v13 + 1))) (ew4)))))) (show inr (0) by omega) (show 0 ≤ (0) ∧ (0) ≤ 17 by omega) (show 0 ≤ ((u0_9 + 3)) ∧ (u0_9) ≤ ((u0_9 + 3)) ∧ ((u0_9 + 3)) ≤ (u0_8) by omega) (show 0 ≤ (u2_1) ∧ (u2_1) ≤ (n3) ∧ (n3) ≤ 65536 by omega) (show (u2_1) ≤ (u2_1) ∧ (u2_1) ≤ (u0_11) by omega) (show (((u0_9 + 3) + z17)) = 0 ∨ ((u0_9 + 3)) ≤ (((u0_9 + 3) + z17)) ∧ (((u0_9 + 3) + z17)) ≤ (u0_8) by omega) (show UBA (ub8 ((w1))) ((u0_8)) (moF ((u0_15))) ((u0_11) - (u2_1)) ((u0_9)) ((0)) ((u0_21)) (((u0_9 + 3))) ((((u0_9 + 3) + z17))) (sc ((w3)) ((u2_1)) ((u2_1))) by assumption) (show sc ((w3)) 0 ((u2_1)) = sc ((w3)) 0 ((u2_1)) by assumption) (show (u2_2) = 0 by omega) (show 3 ≤ (u0_8) - (u0_9) ∧ ((upd1 (w4) (1) ((v13 + 1)))) 1 = ((w4)) 1 + 1 ∨ (u0_8) - (u0_9) < 3 ∧ ((upd1 (w4) (1) ((v13 + 1)))) 1 = ((w4)) 1 by omega) (show ((upd1 (w4) (1) ((v13 + 1)))) 0 = ((w4)) 0 by omega) (show ((upd1 (w4) (1) ((v13 + 1)))) 2 = ((w4)) 2 by omega) (show ((upd1 (w4) (1) ((v13 + 1)))) 3 = ((w4)) 3 by omega) (show ((upd1 (w4) (1) ((v13 + 1)))) 4 = ((w4)) 4 by omega) (show (0) ≠ 0 ∨ (u0_21) = (u0_21) by omega))
            refine w_icmpeq (t := 166) rfl rfl (show inr (z16) by omega) (show inr (2) by omega) (fun b36 => ?_) (fun b36 => ?_)
            · exact hc166  _ _ _ _  (rk_o (lc106_0) rfl rfl) (rk_o (lc106_2) rfl rfl) (rk_o (lc106_3) rfl rfl) (rk_s) H O (SF_refl) (SA_refl)     (show ((z16) = (2)) ∨ ((z16) ≠ (2) ∧ (z17) ≤ ((u0_11 - u2_1))) by omega)
            · refine Ew_of (pc' := 140) (fun _ => x_iload_n rfl (rk_o (lc106_3) rfl rfl)) ?_
              refine Ew_of (pc' := 141) (fun _ => x_aload_n rfl (rk_o (lc106_0) rfl rfl)) ?_
              refine v_g H (o := 0) (v := I (u0_11)) rfl rfl rfl rfl rfl (congrArg (fun z : Int => I z) (((((hS_c106 0 11 rfl).trans ((show F19 0 11 = F14 0 11 from (eF19 0 11).trans (hS19 0 11 rfl)))).trans ((show F14 0 11 = (updF F 0 18 (0)) 0 11 from (eF14 0 11)))).trans (eu0_11)) : F_c106 0 11 = u0_11)) ?_
              refine Ew_of (pc' := 145) (fun _ => x_aload_n rfl (rk_o (lc106_0) rfl rfl)) ?_
              refine v_g H (o := 0) (v := .ref (D 2)) rfl rfl rfl rfl rfl (vrf (((((hS_c106 0 10 rfl).trans ((show F19 0 10 = F14 0 10 from (eF19 0 10).trans (hS19 0 10 rfl)))).trans ((show F14 0 10 = (updF F 0 18 (0)) 0 10 from (eF14 0 10))))).trans (pf2))) ?_
              refine v_g H (o := 2) (v := I (u2_1)) rfl rfl rfl rfl rfl (congrArg (fun z : Int => I z) (((((hS_c106 2 1 rfl).trans ((show F19 2 1 = F14 2 1 from (eF19 2 1)))).trans ((show F14 2 1 = (updF F 0 18 (0)) 2 1 from (eF14 2 1)))).trans (eu2_1)) : F_c106 2 1 = u2_1)) ?_
              refine w_isub rfl ?_
              refine w_icmple (t := 166) rfl rfl (show inr (z17) by omega) (show inr ((u0_11 - u2_1)) by omega) (fun b37 => ?_) (fun b37 => ?_)
              · exact hc166  _ _ _ _  (rk_o (lc106_0) rfl rfl) (rk_o (lc106_2) rfl rfl) (rk_o (lc106_3) rfl rfl) (rk_s) H O (SF_refl) (SA_refl)     (show ((z16) = (2)) ∨ ((z16) ≠ (2) ∧ (z17) ≤ ((u0_11 - u2_1))) by omega)
              · refine Ew_of (pc' := 156) (fun _ => x_aload_n rfl (rk_o (lc106_0) rfl rfl)) ?_
                refine Ew_of (pc' := 158) (fun _ => x_bipush (z := 7) rfl (by decide)) ?_
                refine Ew_of (pc' := 159) (fun _ => x_aload_n rfl (rk_o (lc106_0) rfl rfl)) ?_
                refine v_g H (o := 0) (v := I (u0_9)) rfl rfl rfl rfl rfl (congrArg (fun z : Int => I z) (((((hS_c106 0 9 rfl).trans ((show F19 0 9 = F14 0 9 from (eF19 0 9).trans (hS19 0 9 rfl)))).trans ((show F14 0 9 = (updF F 0 18 (0)) 0 9 from (eF14 0 9)))).trans (eu0_9)) : F_c106 0 9 = u0_9)) ?_
                refine v_inv H (o := 0) rfl rfl rfl rfl rfl rfl (by rfl) (C232 (D := pul [0] D) (N := pul [0] N) (HW_sub H (VS_of (show vsub V243 V232 [0] = true by decide +kernel))) (u0_21) (((((hS_c106 0 21 rfl).trans ((show F19 0 21 = F14 0 21 from (eF19 0 21).trans (hS19 0 21 rfl)))).trans ((show F14 0 21 = (updF F 0 18 (0)) 0 21 from (eF14 0 21)))).trans (eu0_21))) (show inr (7) by omega) (show inr (u0_9) by omega) (fun z38 σ38 F38' A38' H' O' hS38 hA38 y38_0_21 ey38_0_21 pz38_0 pz38_1 pz38_2 => ⟨rfl, ?_⟩))
                replace ey38_0_21 := HIDm ey38_0_21
                refine v_back (c := c) (s := s) H (show vsub V243 V232 [0] = true by decide +kernel) H' O' (fun F38 A38 H O' eF38 eA38 => ?_)
                have O := OUT_trans O O'
                -- Unpacker.fail
                have r39 : (-2147483648 : Int) ≤ y38_0_21 ∧ y38_0_21 ≤ 2147483647 := by have h1 : (-2147483648 : Int) ≤ F38 0 21 ∧ F38 0 21 ≤ 2147483647 := H.krg 0 21 (by decide); rw [show F38 0 21 = y38_0_21 from ((eF38 0 21).trans ey38_0_21)] at h1; exact h1
                have hrt : ((z38) : Int) = 7 := by omega
                have hpl : (y38_0_21) = (u0_9) := by omega
                have : UBA (ub8 ((w1))) ((u0_8)) (moF ((u0_15))) ((u0_11) - (u2_1)) ((u0_9)) ((z38)) ((y38_0_21)) ((u0_9)) ((0)) (sc ((w3)) ((u2_1)) ((u2_1))) := .inr ⟨by omega, .inl ⟨by omega, sc_nil (Int.le_refl _), fun ds wd W C X r0 r1 r2 => by rw [show ((z38) : Int) = _ from hrt, show (y38_0_21) = _ from hpl]; exact BL_7 (b := (tc106_0)) (by omega) (by omega) (by omega) (by omega) (by omega)⟩⟩
                have : sc ((w3)) 0 ((u2_1)) = sc ((w3)) 0 ((u2_1)) := rfl
                exact w_ireturn rfl (k (z38) _ _ _ _ _ _ _ H O (SD_refl) (SD_refl) (SF_trans (SF_trans (SF_trans (SF_trans (SF_upd (SF_refl) rfl) (SF_glu (ι := [1]) hS14 eF14 (by decide +kernel)) (any_sub (l' := []) rfl)) (SF_glu (ι := [0]) hS19 eF19 (by decide +kernel)) (any_sub (l' := []) rfl)) hS_c106 (any_sub rfl)) (SF_glu (ι := [0]) hS38 eF38 (by decide +kernel)) (any_sub (l' := [(0, 21)]) rfl)) (SA_trans (SA_trans (SA_trans (SA_trans (SA_upd (SA_refl) rfl) (SA_glu (ι := [1]) hA14 eA14 (by decide +kernel)) (any_subA (l' := []) rfl)) (SA_glu (ι := [0]) hA19 eA19 (by decide +kernel)) (any_subA (l' := []) rfl)) hA_c106 (any_subA rfl)) (SA_glu (ι := [0]) hA38 eA38 (by decide +kernel)) (any_subA (l' := []) rfl)) (((((((show F38 2 0 = F_c106 2 0 from (eF38 2 0))).trans (hS_c106 2 0 rfl)).trans ((show F19 2 0 = F14 2 0 from (eF19 2 0)))).trans ((show F14 2 0 = (updF F 0 18 (0)) 2 0 from (eF14 2 0))))).trans (pf3)) (n3) (en3) (u0_9) (((((((show F38 0 9 = F_c106 0 9 from (eF38 0 9).trans (hS38 0 9 rfl))).trans (hS_c106 0 9 rfl)).trans ((show F19 0 9 = F14 0 9 from (eF19 0 9).trans (hS19 0 9 rfl)))).trans ((show F14 0 9 = (updF F 0 18 (0)) 0 9 from (eF14 0 9)))).trans (eu0_9))) (0) ((((((show F38 0 18 = F_c106 0 18 from (eF38 0 18).trans (hS38 0 18 rfl))).trans (hS_c106 0 18 rfl)).trans ((show F19 0 18 = F14 0 18 from (eF19 0 18).trans (hS19 0 18 rfl)))).trans ((show F14 0 18 = (updF F 0 18 (0)) 0 18 from (eF14 0 18))))) (y38_0_21) (((eF38 0 21).trans ey38_0_21)) (u2_1) (((((((show F38 2 1 = F_c106 2 1 from (eF38 2 1))).trans (hS_c106 2 1 rfl)).trans ((show F19 2 1 = F14 2 1 from (eF19 2 1)))).trans ((show F14 2 1 = (updF F 0 18 (0)) 2 1 from (eF14 2 1)))).trans (eu2_1))) (u2_2) (((((((show F38 2 2 = F_c106 2 2 from (eF38 2 2))).trans (hS_c106 2 2 rfl)).trans ((show F19 2 2 = F14 2 2 from (eF19 2 2)))).trans ((show F14 2 2 = (updF F 0 18 (0)) 2 2 from (eF14 2 2)))).trans (eu2_2))) (w3) (((show A38 3 = A_c106 3 from (eA38 3))).trans ((funext (hA_c106 3 rfl)).trans (((show A19 3 = A14 3 from (eA19 3))).trans (((show A14 3 = (updA A 4 (1) ((v13 + 1))) 3 from (eA14 3))).trans (ew3))))) (upd1 (w4) (1) ((v13 + 1))) (((show A38 4 = A_c106 4 from (eA38 4))).trans ((funext (hA_c106 4 rfl)).trans (((show A19 4 = A14 4 from (eA19 4))).trans (((show A14 4 = (updA A 4 (1) ((v13 + 1))) 4 from (eA14 4))).trans (congrArg (fun q => upd1 q (1) ((v13 + 1))) (ew4)))))) (show inr (z38) by omega) (show 0 ≤ (z38) ∧ (z38) ≤ 17 by omega) (show 0 ≤ (u0_9) ∧ (u0_9) ≤ (u0_9) ∧ (u0_9) ≤ (u0_8) by omega) (show 0 ≤ (u2_1) ∧ (u2_1) ≤ (n3) ∧ (n3) ≤ 65536 by omega) (show (u2_1) ≤ (u2_1) ∧ (u2_1) ≤ (u0_11) by omega) (show (0) = 0 ∨ (u0_9) ≤ (0) ∧ (0) ≤ (u0_8) by omega) (show UBA (ub8 ((w1))) ((u0_8)) (moF ((u0_15))) ((u0_11) - (u2_1)) ((u0_9)) ((z38)) ((y38_0_21)) ((u0_9)) ((0)) (sc ((w3)) ((u2_1)) ((u2_1))) by assumption) (show sc ((w3)) 0 ((u2_1)) = sc ((w3)) 0 ((u2_1)) by assumption) (show (u2_2) = 0 by omega) (show 3 ≤ (u0_8) - (u0_9) ∧ ((upd1 (w4) (1) ((v13 + 1)))) 1 = ((w4)) 1 + 1 ∨ (u0_8) - (u0_9) < 3 ∧ ((upd1 (w4) (1) ((v13 + 1)))) 1 = ((w4)) 1 by omega) (show ((upd1 (w4) (1) ((v13 + 1)))) 0 = ((w4)) 0 by omega) (show ((upd1 (w4) (1) ((v13 + 1)))) 2 = ((w4)) 2 by omega) (show ((upd1 (w4) (1) ((v13 + 1)))) 3 = ((w4)) 3 by omega) (show ((upd1 (w4) (1) ((v13 + 1)))) 4 = ((w4)) 4 by omega) (show (z38) ≠ 0 ∨ (y38_0_21) = (u0_21) by omega))
          · refine Ew_of (pc' := 125) (fun _ => x_aload_n rfl (rk_o (lc106_0) rfl rfl)) ?_
            refine Ew_of (pc' := 126) (fun _ => x_iconst rfl) ?_
            refine Ew_of (pc' := 127) (fun _ => x_aload_n rfl (rk_o (lc106_0) rfl rfl)) ?_
            refine v_g H (o := 0) (v := I (u0_8)) rfl rfl rfl rfl rfl (congrArg (fun z : Int => I z) (((((hS_c106 0 8 rfl).trans ((show F19 0 8 = F14 0 8 from (eF19 0 8).trans (hS19 0 8 rfl)))).trans ((show F14 0 8 = (updF F 0 18 (0)) 0 8 from (eF14 0 8)))).trans (eu0_8)) : F_c106 0 8 = u0_8)) ?_
            refine v_inv H (o := 0) rfl rfl rfl rfl rfl rfl (by rfl) (C232 (D := pul [0] D) (N := pul [0] N) (HW_sub H (VS_of (show vsub V243 V232 [0] = true by decide +kernel))) (u0_21) (((((hS_c106 0 21 rfl).trans ((show F19 0 21 = F14 0 21 from (eF19 0 21).trans (hS19 0 21 rfl)))).trans ((show F14 0 21 = (updF F 0 18 (0)) 0 21 from (eF14 0 21)))).trans (eu0_21))) (show inr (1) by omega) (show inr (u0_8) by omega) (fun z40 σ40 F40' A40' H' O' hS40 hA40 y40_0_21 ey40_0_21 pz40_0 pz40_1 pz40_2 => ⟨rfl, ?_⟩))
            replace ey40_0_21 := HIDm ey40_0_21
            refine v_back (c := c) (s := s) H (show vsub V243 V232 [0] = true by decide +kernel) H' O' (fun F40 A40 H O' eF40 eA40 => ?_)
            have O := OUT_trans O O'
            -- Unpacker.fail
            have r41 : (-2147483648 : Int) ≤ y40_0_21 ∧ y40_0_21 ≤ 2147483647 := by have h1 : (-2147483648 : Int) ≤ F40 0 21 ∧ F40 0 21 ≤ 2147483647 := H.krg 0 21 (by decide); rw [show F40 0 21 = y40_0_21 from ((eF40 0 21).trans ey40_0_21)] at h1; exact h1
            have hrt : ((z40) : Int) = 1 := by omega
            have hpl : (y40_0_21) = (u0_8) := by omega
            have : UBA (ub8 ((w1))) ((u0_8)) (moF ((u0_15))) ((u0_11) - (u2_1)) ((u0_9)) ((z40)) ((y40_0_21)) ((u0_9)) ((0)) (sc ((w3)) ((u2_1)) ((u2_1))) := .inr ⟨by omega, .inl ⟨by omega, sc_nil (Int.le_refl _), fun ds wd W C X r0 r1 r2 => by rw [show ((z40) : Int) = _ from hrt, show (y40_0_21) = _ from hpl]; exact BL_1 (b := (tc106_0)) (by omega) (by omega) (by omega) (by omega)⟩⟩
            have : sc ((w3)) 0 ((u2_1)) = sc ((w3)) 0 ((u2_1)) := rfl
            exact w_ireturn rfl (k (z40) _ _ _ _ _ _ _ H O (SD_refl) (SD_refl) (SF_trans (SF_trans (SF_trans (SF_trans (SF_upd (SF_refl) rfl) (SF_glu (ι := [1]) hS14 eF14 (by decide +kernel)) (any_sub (l' := []) rfl)) (SF_glu (ι := [0]) hS19 eF19 (by decide +kernel)) (any_sub (l' := []) rfl)) hS_c106 (any_sub rfl)) (SF_glu (ι := [0]) hS40 eF40 (by decide +kernel)) (any_sub (l' := [(0, 21)]) rfl)) (SA_trans (SA_trans (SA_trans (SA_trans (SA_upd (SA_refl) rfl) (SA_glu (ι := [1]) hA14 eA14 (by decide +kernel)) (any_subA (l' := []) rfl)) (SA_glu (ι := [0]) hA19 eA19 (by decide +kernel)) (any_subA (l' := []) rfl)) hA_c106 (any_subA rfl)) (SA_glu (ι := [0]) hA40 eA40 (by decide +kernel)) (any_subA (l' := []) rfl)) (((((((show F40 2 0 = F_c106 2 0 from (eF40 2 0))).trans (hS_c106 2 0 rfl)).trans ((show F19 2 0 = F14 2 0 from (eF19 2 0)))).trans ((show F14 2 0 = (updF F 0 18 (0)) 2 0 from (eF14 2 0))))).trans (pf3)) (n3) (en3) (u0_9) (((((((show F40 0 9 = F_c106 0 9 from (eF40 0 9).trans (hS40 0 9 rfl))).trans (hS_c106 0 9 rfl)).trans ((show F19 0 9 = F14 0 9 from (eF19 0 9).trans (hS19 0 9 rfl)))).trans ((show F14 0 9 = (updF F 0 18 (0)) 0 9 from (eF14 0 9)))).trans (eu0_9))) (0) ((((((show F40 0 18 = F_c106 0 18 from (eF40 0 18).trans (hS40 0 18 rfl))).trans (hS_c106 0 18 rfl)).trans ((show F19 0 18 = F14 0 18 from (eF19 0 18).trans (hS19 0 18 rfl)))).trans ((show F14 0 18 = (updF F 0 18 (0)) 0 18 from (eF14 0 18))))) (y40_0_21) (((eF40 0 21).trans ey40_0_21)) (u2_1) (((((((show F40 2 1 = F_c106 2 1 from (eF40 2 1))).trans (hS_c106 2 1 rfl)).trans ((show F19 2 1 = F14 2 1 from (eF19 2 1)))).trans ((show F14 2 1 = (updF F 0 18 (0)) 2 1 from (eF14 2 1)))).trans (eu2_1))) (u2_2) (((((((show F40 2 2 = F_c106 2 2 from (eF40 2 2))).trans (hS_c106 2 2 rfl)).trans ((show F19 2 2 = F14 2 2 from (eF19 2 2)))).trans ((show F14 2 2 = (updF F 0 18 (0)) 2 2 from (eF14 2 2)))).trans (eu2_2))) (w3) (((show A40 3 = A_c106 3 from (eA40 3))).trans ((funext (hA_c106 3 rfl)).trans (((show A19 3 = A14 3 from (eA19 3))).trans (((show A14 3 = (updA A 4 (1) ((v13 + 1))) 3 from (eA14 3))).trans (ew3))))) (upd1 (w4) (1) ((v13 + 1))) (((show A40 4 = A_c106 4 from (eA40 4))).trans ((funext (hA_c106 4 rfl)).trans (((show A19 4 = A14 4 from (eA19 4))).trans (((show A14 4 = (updA A 4 (1) ((v13 + 1))) 4 from (eA14 4))).trans (congrArg (fun q => upd1 q (1) ((v13 + 1))) (ew4)))))) (show inr (z40) by omega) (show 0 ≤ (z40) ∧ (z40) ≤ 17 by omega) (show 0 ≤ (u0_9) ∧ (u0_9) ≤ (u0_9) ∧ (u0_9) ≤ (u0_8) by omega) (show 0 ≤ (u2_1) ∧ (u2_1) ≤ (n3) ∧ (n3) ≤ 65536 by omega) (show (u2_1) ≤ (u2_1) ∧ (u2_1) ≤ (u0_11) by omega) (show (0) = 0 ∨ (u0_9) ≤ (0) ∧ (0) ≤ (u0_8) by omega) (show UBA (ub8 ((w1))) ((u0_8)) (moF ((u0_15))) ((u0_11) - (u2_1)) ((u0_9)) ((z40)) ((y40_0_21)) ((u0_9)) ((0)) (sc ((w3)) ((u2_1)) ((u2_1))) by assumption) (show sc ((w3)) 0 ((u2_1)) = sc ((w3)) 0 ((u2_1)) by assumption) (show (u2_2) = 0 by omega) (show 3 ≤ (u0_8) - (u0_9) ∧ ((upd1 (w4) (1) ((v13 + 1)))) 1 = ((w4)) 1 + 1 ∨ (u0_8) - (u0_9) < 3 ∧ ((upd1 (w4) (1) ((v13 + 1)))) 1 = ((w4)) 1 by omega) (show ((upd1 (w4) (1) ((v13 + 1)))) 0 = ((w4)) 0 by omega) (show ((upd1 (w4) (1) ((v13 + 1)))) 2 = ((w4)) 2 by omega) (show ((upd1 (w4) (1) ((v13 + 1)))) 3 = ((w4)) 3 by omega) (show ((upd1 (w4) (1) ((v13 + 1)))) 4 = ((w4)) 4 by omega) (show (z40) ≠ 0 ∨ (y40_0_21) = (u0_21) by omega))
        refine w_icmpne (t := 105) rfl rfl (show inr (z16) by omega) (show inr (1) by omega) (fun b42 => ?_) (fun b42 => ?_)
        · refine Ew_of (pc' := 106) (fun _ => x_iload_n rfl rk_s) ?_
          exact hc106 (z17) _ _ _ _  (rk_o (rk_o (rk_o (rfl) rfl rfl) rfl rfl) rfl rfl) (rk_o (rk_s) rfl rfl) (rk_s) H O (SF_refl) (SA_refl)     (show inr (z17) by omega) (show ((z16) ≠ (1) ∧ (z17) = (z17)) ∨ ((z16) = (1) ∧ (z17) = (1)) by omega)
        · refine Ew_of (pc' := 102) (fun _ => x_iconst rfl) ?_
          refine Ew_of (pc' := 106) (fun _ => x_goto rfl rfl) ?_
          exact hc106 (1) _ _ _ _  (rk_o (rk_o (rk_o (rfl) rfl rfl) rfl rfl) rfl rfl) (rk_o (rk_s) rfl rfl) (rk_s) H O (SF_refl) (SA_refl)     (show inr (1) by omega) (show ((z16) ≠ (1) ∧ (1) = (z17)) ∨ ((z16) = (1) ∧ (1) = (1)) by omega)
      · refine Ew_of (pc' := 86) (fun _ => x_aload_n rfl (rk_o (rk_o (rk_o (rfl) rfl rfl) rfl rfl) rfl rfl)) ?_
        refine Ew_of (pc' := 88) (fun _ => x_bipush (z := 6) rfl (by decide)) ?_
        refine Ew_of (pc' := 89) (fun _ => x_aload_n rfl (rk_o (rk_o (rk_o (rfl) rfl rfl) rfl rfl) rfl rfl)) ?_
        refine v_g H (o := 0) (v := I (u0_9)) rfl rfl rfl rfl rfl (congrArg (fun z : Int => I z) (((((show F19 0 9 = F14 0 9 from (eF19 0 9).trans (hS19 0 9 rfl))).trans ((show F14 0 9 = (updF F 0 18 (0)) 0 9 from (eF14 0 9)))).trans (eu0_9)) : F19 0 9 = u0_9)) ?_
        refine v_inv H (o := 0) rfl rfl rfl rfl rfl rfl (by rfl) (C232 (D := pul [0] D) (N := pul [0] N) (HW_sub H (VS_of (show vsub V243 V232 [0] = true by decide +kernel))) (u0_21) (((((show F19 0 21 = F14 0 21 from (eF19 0 21).trans (hS19 0 21 rfl))).trans ((show F14 0 21 = (updF F 0 18 (0)) 0 21 from (eF14 0 21)))).trans (eu0_21))) (show inr (6) by omega) (show inr (u0_9) by omega) (fun z43 σ43 F43' A43' H' O' hS43 hA43 y43_0_21 ey43_0_21 pz43_0 pz43_1 pz43_2 => ⟨rfl, ?_⟩))
        replace ey43_0_21 := HIDm ey43_0_21
        refine v_back (c := c) (s := s) H (show vsub V243 V232 [0] = true by decide +kernel) H' O' (fun F43 A43 H O' eF43 eA43 => ?_)
        have O := OUT_trans O O'
        -- Unpacker.fail
        have r44 : (-2147483648 : Int) ≤ y43_0_21 ∧ y43_0_21 ≤ 2147483647 := by have h1 : (-2147483648 : Int) ≤ F43 0 21 ∧ F43 0 21 ≤ 2147483647 := H.krg 0 21 (by decide); rw [show F43 0 21 = y43_0_21 from ((eF43 0 21).trans ey43_0_21)] at h1; exact h1
        have hrt : ((z43) : Int) = 6 := by omega
        have hpl : (y43_0_21) = (u0_9) := by omega
        have : UBA (ub8 ((w1))) ((u0_8)) (moF ((u0_15))) ((u0_11) - (u2_1)) ((u0_9)) ((z43)) ((y43_0_21)) ((u0_9)) ((0)) (sc ((w3)) ((u2_1)) ((u2_1))) := .inr ⟨by omega, .inl ⟨by omega, sc_nil (Int.le_refl _), fun ds wd W C X r0 r1 r2 => by rw [show ((z43) : Int) = _ from hrt, show (y43_0_21) = _ from hpl]; exact BL_6 (by omega) (by omega)⟩⟩
        have : sc ((w3)) 0 ((u2_1)) = sc ((w3)) 0 ((u2_1)) := rfl
        exact w_ireturn rfl (k (z43) _ _ _ _ _ _ _ H O (SD_refl) (SD_refl) (SF_trans (SF_trans (SF_trans (SF_upd (SF_refl) rfl) (SF_glu (ι := [1]) hS14 eF14 (by decide +kernel)) (any_sub (l' := []) rfl)) (SF_glu (ι := [0]) hS19 eF19 (by decide +kernel)) (any_sub (l' := []) rfl)) (SF_glu (ι := [0]) hS43 eF43 (by decide +kernel)) (any_sub (l' := [(0, 21)]) rfl)) (SA_trans (SA_trans (SA_trans (SA_upd (SA_refl) rfl) (SA_glu (ι := [1]) hA14 eA14 (by decide +kernel)) (any_subA (l' := []) rfl)) (SA_glu (ι := [0]) hA19 eA19 (by decide +kernel)) (any_subA (l' := []) rfl)) (SA_glu (ι := [0]) hA43 eA43 (by decide +kernel)) (any_subA (l' := []) rfl)) ((((((show F43 2 0 = F19 2 0 from (eF43 2 0))).trans ((show F19 2 0 = F14 2 0 from (eF19 2 0)))).trans ((show F14 2 0 = (updF F 0 18 (0)) 2 0 from (eF14 2 0))))).trans (pf3)) (n3) (en3) (u0_9) ((((((show F43 0 9 = F19 0 9 from (eF43 0 9).trans (hS43 0 9 rfl))).trans ((show F19 0 9 = F14 0 9 from (eF19 0 9).trans (hS19 0 9 rfl)))).trans ((show F14 0 9 = (updF F 0 18 (0)) 0 9 from (eF14 0 9)))).trans (eu0_9))) (0) (((((show F43 0 18 = F19 0 18 from (eF43 0 18).trans (hS43 0 18 rfl))).trans ((show F19 0 18 = F14 0 18 from (eF19 0 18).trans (hS19 0 18 rfl)))).trans ((show F14 0 18 = (updF F 0 18 (0)) 0 18 from (eF14 0 18))))) (y43_0_21) (((eF43 0 21).trans ey43_0_21)) (u2_1) ((((((show F43 2 1 = F19 2 1 from (eF43 2 1))).trans ((show F19 2 1 = F14 2 1 from (eF19 2 1)))).trans ((show F14 2 1 = (updF F 0 18 (0)) 2 1 from (eF14 2 1)))).trans (eu2_1))) (u2_2) ((((((show F43 2 2 = F19 2 2 from (eF43 2 2))).trans ((show F19 2 2 = F14 2 2 from (eF19 2 2)))).trans ((show F14 2 2 = (updF F 0 18 (0)) 2 2 from (eF14 2 2)))).trans (eu2_2))) (w3) (((show A43 3 = A19 3 from (eA43 3))).trans (((show A19 3 = A14 3 from (eA19 3))).trans (((show A14 3 = (updA A 4 (1) ((v13 + 1))) 3 from (eA14 3))).trans (ew3)))) (upd1 (w4) (1) ((v13 + 1))) (((show A43 4 = A19 4 from (eA43 4))).trans (((show A19 4 = A14 4 from (eA19 4))).trans (((show A14 4 = (updA A 4 (1) ((v13 + 1))) 4 from (eA14 4))).trans (congrArg (fun q => upd1 q (1) ((v13 + 1))) (ew4))))) (show inr (z43) by omega) (show 0 ≤ (z43) ∧ (z43) ≤ 17 by omega) (show 0 ≤ (u0_9) ∧ (u0_9) ≤ (u0_9) ∧ (u0_9) ≤ (u0_8) by omega) (show 0 ≤ (u2_1) ∧ (u2_1) ≤ (n3) ∧ (n3) ≤ 65536 by omega) (show (u2_1) ≤ (u2_1) ∧ (u2_1) ≤ (u0_11) by omega) (show (0) = 0 ∨ (u0_9) ≤ (0) ∧ (0) ≤ (u0_8) by omega) (show UBA (ub8 ((w1))) ((u0_8)) (moF ((u0_15))) ((u0_11) - (u2_1)) ((u0_9)) ((z43)) ((y43_0_21)) ((u0_9)) ((0)) (sc ((w3)) ((u2_1)) ((u2_1))) by assumption) (show sc ((w3)) 0 ((u2_1)) = sc ((w3)) 0 ((u2_1)) by assumption) (show (u2_2) = 0 by omega) (show 3 ≤ (u0_8) - (u0_9) ∧ ((upd1 (w4) (1) ((v13 + 1)))) 1 = ((w4)) 1 + 1 ∨ (u0_8) - (u0_9) < 3 ∧ ((upd1 (w4) (1) ((v13 + 1)))) 1 = ((w4)) 1 by omega) (show ((upd1 (w4) (1) ((v13 + 1)))) 0 = ((w4)) 0 by omega) (show ((upd1 (w4) (1) ((v13 + 1)))) 2 = ((w4)) 2 by omega) (show ((upd1 (w4) (1) ((v13 + 1)))) 3 = ((w4)) 3 by omega) (show ((upd1 (w4) (1) ((v13 + 1)))) 4 = ((w4)) 4 by omega) (show (z43) ≠ 0 ∨ (y43_0_21) = (u0_21) by omega))
    · refine Ew_of (pc' := 68) (fun _ => x_aload_n rfl (rk_o (rk_o (rk_o (rfl) rfl rfl) rfl rfl) rfl rfl)) ?_
      refine Ew_of (pc' := 69) (fun _ => x_iconst rfl) ?_
      refine Ew_of (pc' := 70) (fun _ => x_aload_n rfl (rk_o (rk_o (rk_o (rfl) rfl rfl) rfl rfl) rfl rfl)) ?_
      refine v_g H (o := 0) (v := I (u0_9)) rfl rfl rfl rfl rfl (congrArg (fun z : Int => I z) ((((show F14 0 9 = (updF F 0 18 (0)) 0 9 from (eF14 0 9))).trans (eu0_9)) : F14 0 9 = u0_9)) ?_
      refine v_inv H (o := 0) rfl rfl rfl rfl rfl rfl (by rfl) (C232 (D := pul [0] D) (N := pul [0] N) (HW_sub H (VS_of (show vsub V243 V232 [0] = true by decide +kernel))) (u0_21) ((((show F14 0 21 = (updF F 0 18 (0)) 0 21 from (eF14 0 21))).trans (eu0_21))) (show inr (5) by omega) (show inr (u0_9) by omega) (fun z45 σ45 F45' A45' H' O' hS45 hA45 y45_0_21 ey45_0_21 pz45_0 pz45_1 pz45_2 => ⟨rfl, ?_⟩))
      replace ey45_0_21 := HIDm ey45_0_21
      refine v_back (c := c) (s := s) H (show vsub V243 V232 [0] = true by decide +kernel) H' O' (fun F45 A45 H O' eF45 eA45 => ?_)
      have O := OUT_trans O O'
      -- Unpacker.fail
      have r46 : (-2147483648 : Int) ≤ y45_0_21 ∧ y45_0_21 ≤ 2147483647 := by have h1 : (-2147483648 : Int) ≤ F45 0 21 ∧ F45 0 21 ≤ 2147483647 := H.krg 0 21 (by decide); rw [show F45 0 21 = y45_0_21 from ((eF45 0 21).trans ey45_0_21)] at h1; exact h1
      have hrt : ((z45) : Int) = 5 := by omega
      have hpl : (y45_0_21) = (u0_9) := by omega
      have : UBA (ub8 ((w1))) ((u0_8)) (moF ((u0_15))) ((u0_11) - (u2_1)) ((u0_9)) ((z45)) ((y45_0_21)) ((u0_9)) ((0)) (sc ((w3)) ((u2_1)) ((u2_1))) := .inr ⟨by omega, .inl ⟨by omega, sc_nil (Int.le_refl _), fun ds wd W C X r0 r1 r2 => by rw [show ((z45) : Int) = _ from hrt, show (y45_0_21) = _ from hpl]; exact BL_5 (by omega)⟩⟩
      have : sc ((w3)) 0 ((u2_1)) = sc ((w3)) 0 ((u2_1)) := rfl
      exact w_ireturn rfl (k (z45) _ _ _ _ _ _ _ H O (SD_refl) (SD_refl) (SF_trans (SF_trans (SF_upd (SF_refl) rfl) (SF_glu (ι := [1]) hS14 eF14 (by decide +kernel)) (any_sub (l' := []) rfl)) (SF_glu (ι := [0]) hS45 eF45 (by decide +kernel)) (any_sub (l' := [(0, 21)]) rfl)) (SA_trans (SA_trans (SA_upd (SA_refl) rfl) (SA_glu (ι := [1]) hA14 eA14 (by decide +kernel)) (any_subA (l' := []) rfl)) (SA_glu (ι := [0]) hA45 eA45 (by decide +kernel)) (any_subA (l' := []) rfl)) (((((show F45 2 0 = F14 2 0 from (eF45 2 0))).trans ((show F14 2 0 = (updF F 0 18 (0)) 2 0 from (eF14 2 0))))).trans (pf3)) (n3) (en3) (u0_9) (((((show F45 0 9 = F14 0 9 from (eF45 0 9).trans (hS45 0 9 rfl))).trans ((show F14 0 9 = (updF F 0 18 (0)) 0 9 from (eF14 0 9)))).trans (eu0_9))) (0) ((((show F45 0 18 = F14 0 18 from (eF45 0 18).trans (hS45 0 18 rfl))).trans ((show F14 0 18 = (updF F 0 18 (0)) 0 18 from (eF14 0 18))))) (y45_0_21) (((eF45 0 21).trans ey45_0_21)) (u2_1) (((((show F45 2 1 = F14 2 1 from (eF45 2 1))).trans ((show F14 2 1 = (updF F 0 18 (0)) 2 1 from (eF14 2 1)))).trans (eu2_1))) (u2_2) (((((show F45 2 2 = F14 2 2 from (eF45 2 2))).trans ((show F14 2 2 = (updF F 0 18 (0)) 2 2 from (eF14 2 2)))).trans (eu2_2))) (w3) (((show A45 3 = A14 3 from (eA45 3))).trans (((show A14 3 = (updA A 4 (1) ((v13 + 1))) 3 from (eA14 3))).trans (ew3))) (upd1 (w4) (1) ((v13 + 1))) (((show A45 4 = A14 4 from (eA45 4))).trans (((show A14 4 = (updA A 4 (1) ((v13 + 1))) 4 from (eA14 4))).trans (congrArg (fun q => upd1 q (1) ((v13 + 1))) (ew4)))) (show inr (z45) by omega) (show 0 ≤ (z45) ∧ (z45) ≤ 17 by omega) (show 0 ≤ (u0_9) ∧ (u0_9) ≤ (u0_9) ∧ (u0_9) ≤ (u0_8) by omega) (show 0 ≤ (u2_1) ∧ (u2_1) ≤ (n3) ∧ (n3) ≤ 65536 by omega) (show (u2_1) ≤ (u2_1) ∧ (u2_1) ≤ (u0_11) by omega) (show (0) = 0 ∨ (u0_9) ≤ (0) ∧ (0) ≤ (u0_8) by omega) (show UBA (ub8 ((w1))) ((u0_8)) (moF ((u0_15))) ((u0_11) - (u2_1)) ((u0_9)) ((z45)) ((y45_0_21)) ((u0_9)) ((0)) (sc ((w3)) ((u2_1)) ((u2_1))) by assumption) (show sc ((w3)) 0 ((u2_1)) = sc ((w3)) 0 ((u2_1)) by assumption) (show (u2_2) = 0 by omega) (show 3 ≤ (u0_8) - (u0_9) ∧ ((upd1 (w4) (1) ((v13 + 1)))) 1 = ((w4)) 1 + 1 ∨ (u0_8) - (u0_9) < 3 ∧ ((upd1 (w4) (1) ((v13 + 1)))) 1 = ((w4)) 1 by omega) (show ((upd1 (w4) (1) ((v13 + 1)))) 0 = ((w4)) 0 by omega) (show ((upd1 (w4) (1) ((v13 + 1)))) 2 = ((w4)) 2 by omega) (show ((upd1 (w4) (1) ((v13 + 1)))) 3 = ((w4)) 3 by omega) (show ((upd1 (w4) (1) ((v13 + 1)))) 4 = ((w4)) 4 by omega) (show (z45) ≠ 0 ∨ (y45_0_21) = (u0_21) by omega))
  · refine Ew_of (pc' := 19) (fun _ => x_aload_n rfl rfl) ?_
    refine Ew_of (pc' := 20) (fun _ => x_iconst rfl) ?_
    refine Ew_of (pc' := 21) (fun _ => x_aload_n rfl rfl) ?_
    refine v_g H (o := 0) (v := I (u0_8)) rfl rfl rfl rfl rfl (congrArg (fun z : Int => I z) ((eu0_8) : (updF F 0 18 (0)) 0 8 = u0_8)) ?_
    refine v_inv H (o := 0) rfl rfl rfl rfl rfl rfl (by rfl) (C232 (D := pul [0] D) (N := pul [0] N) (HW_sub H (VS_of (show vsub V243 V232 [0] = true by decide +kernel))) (u0_21) ((eu0_21)) (show inr (1) by omega) (show inr (u0_8) by omega) (fun z47 σ47 F47' A47' H' O' hS47 hA47 y47_0_21 ey47_0_21 pz47_0 pz47_1 pz47_2 => ⟨rfl, ?_⟩))
    replace ey47_0_21 := HIDm ey47_0_21
    refine v_back (c := c) (s := s) H (show vsub V243 V232 [0] = true by decide +kernel) H' O' (fun F47 A47 H O' eF47 eA47 => ?_)
    have O := OUT_trans O O'
    -- Unpacker.fail
    have r48 : (-2147483648 : Int) ≤ y47_0_21 ∧ y47_0_21 ≤ 2147483647 := by have h1 : (-2147483648 : Int) ≤ F47 0 21 ∧ F47 0 21 ≤ 2147483647 := H.krg 0 21 (by decide); rw [show F47 0 21 = y47_0_21 from ((eF47 0 21).trans ey47_0_21)] at h1; exact h1
    have : UBA (ub8 ((w1))) ((u0_8)) (moF ((u0_15))) ((u0_11) - (u2_1)) ((u0_9)) ((z47)) ((y47_0_21)) ((u0_9)) ((0)) (sc ((w3)) ((u2_1)) ((u2_1))) := .inl ⟨by omega, by omega, by omega, sc_nil (Int.le_refl _)⟩
    have : sc ((w3)) 0 ((u2_1)) = sc ((w3)) 0 ((u2_1)) := rfl
    exact w_ireturn rfl (k (z47) _ _ _ _ _ _ _ H O (SD_refl) (SD_refl) (SF_trans (SF_upd (SF_refl) rfl) (SF_glu (ι := [0]) hS47 eF47 (by decide +kernel)) (any_sub (l' := [(0, 21)]) rfl)) (SA_trans (SA_refl) (SA_glu (ι := [0]) hA47 eA47 (by decide +kernel)) (any_subA (l' := []) rfl)) ((((show F47 2 0 = (updF F 0 18 (0)) 2 0 from (eF47 2 0)))).trans (pf3)) (n3) (en3) (u0_9) ((((show F47 0 9 = (updF F 0 18 (0)) 0 9 from (eF47 0 9).trans (hS47 0 9 rfl))).trans (eu0_9))) (0) (((show F47 0 18 = (updF F 0 18 (0)) 0 18 from (eF47 0 18).trans (hS47 0 18 rfl)))) (y47_0_21) (((eF47 0 21).trans ey47_0_21)) (u2_1) ((((show F47 2 1 = (updF F 0 18 (0)) 2 1 from (eF47 2 1))).trans (eu2_1))) (u2_2) ((((show F47 2 2 = (updF F 0 18 (0)) 2 2 from (eF47 2 2))).trans (eu2_2))) (w3) (((show A47 3 = A 3 from (eA47 3))).trans (ew3)) (w4) (((show A47 4 = A 4 from (eA47 4))).trans (ew4)) (show inr (z47) by omega) (show 0 ≤ (z47) ∧ (z47) ≤ 17 by omega) (show 0 ≤ (u0_9) ∧ (u0_9) ≤ (u0_9) ∧ (u0_9) ≤ (u0_8) by omega) (show 0 ≤ (u2_1) ∧ (u2_1) ≤ (n3) ∧ (n3) ≤ 65536 by omega) (show (u2_1) ≤ (u2_1) ∧ (u2_1) ≤ (u0_11) by omega) (show (0) = 0 ∨ (u0_9) ≤ (0) ∧ (0) ≤ (u0_8) by omega) (show UBA (ub8 ((w1))) ((u0_8)) (moF ((u0_15))) ((u0_11) - (u2_1)) ((u0_9)) ((z47)) ((y47_0_21)) ((u0_9)) ((0)) (sc ((w3)) ((u2_1)) ((u2_1))) by assumption) (show sc ((w3)) 0 ((u2_1)) = sc ((w3)) 0 ((u2_1)) by assumption) (show (u2_2) = 0 by omega) (show 3 ≤ (u0_8) - (u0_9) ∧ ((w4)) 1 = ((w4)) 1 + 1 ∨ (u0_8) - (u0_9) < 3 ∧ ((w4)) 1 = ((w4)) 1 by omega) (show ((w4)) 0 = ((w4)) 0 by omega) (show ((w4)) 2 = ((w4)) 2 by omega) (show ((w4)) 3 = ((w4)) 3 by omega) (show ((w4)) 4 = ((w4)) 4 by omega) (show (z47) ≠ 0 ∨ (y47_0_21) = (u0_21) by omega))
abbrev V244 : vV := [(0, 12, [(4, 0), (4, 0), (4, 0), (4, 0), (4, 0), (4, 0), (4, 0), (4, 0), (0, 0), (0, 0), (4, 0), (0, 0), (4, 0), (4, 0), (0, 0), (2, 0), (0, 0), (0, 0), (0, 0), (0, 0), (0, 0), (0, 0)]), (1, 0, []), (0, 7, [(4, 0), (0, 0), (1, 0), (0, 0), (0, 0)]), (1, 0, [])]
set_option maxHeartbeats 16000000 in
/-- Unpacker.unpackPlain: this, this.in, this.literals, this.literals.bytes -/
theorem C244 {σE : rS} {D N : Nat → Nat} {F : hF} {A : hA} {d c s : Nat} {Q : wQ} (H : HW V244 σE D N F A)  (pf1 : F 0 7 = (D 1 : Int)) (pf2 : F 0 4 = (D 2 : Int)) (pf3 : F 2 0 = (D 3 : Int)) (n1 : Int) (en1 : (N 1 : Int) = n1) (n3 : Int) (en3 : (N 3 : Int) = n3) (u0_8 : Int) (eu0_8 : F 0 8 = u0_8) (u0_9 : Int) (eu0_9 : F 0 9 = u0_9) (u0_15 : Int) (eu0_15 : F 0 15 = u0_15) (u0_18 : Int) (eu0_18 : F 0 18 = u0_18) (u0_19 : Int) (eu0_19 : F 0 19 = u0_19) (u0_21 : Int) (eu0_21 : F 0 21 = u0_21) (u2_1 : Int) (eu2_1 : F 2 1 = u2_1) (u2_2 : Int) (eu2_2 : F 2 2 = u2_2) (w1 : Int → Int) (ew1 : A 1 = w1) (w3 : Int → Int) (ew3 : A 3 = w3) (h0 : 0 ≤ (u0_9) ∧ (u0_9) ≤ (u0_8) ∧ (u0_8) ≤ (n1) ∧ (n1) ≤ 65536) (h1 : (u0_9) ≤ (u0_18) ∧ (u0_18) ≤ (u0_8)) (h2 : 0 ≤ (u2_1) ∧ (u2_1) ≤ (n3) ∧ (n3) ≤ 65536) (h3 : (u2_1) = 0) (h4 : 0 ≤ (u0_15)) (h5 : (u2_2) = 0) (h6 : (u0_18) ≤ (u0_9) ∨ (ub8 ((w1))) ((u0_9)) % 4 < 2) (k : ∀ (z : Int) (σ : rS) (D' N' : Nat → Nat) (F' : hF) (A' : hA) (c' s' : Nat), HW V244 σ D' N' F' A' → OUT (V244).length D N σE c s D' N' σ c' s' → SD [3] D D' → SD [3] N N' → SF [(0, 9), (0, 19), (0, 21), (2, 0), (2, 1), (2, 2)] F F' → SA [3] A A' → F' 2 0 = (D' 3 : Int) → ∀ m3 : Int, (N' 3 : Int) = m3 → ∀ y0_9 : Int, F' 0 9 = y0_9 → ∀ y0_19 : Int, F' 0 19 = y0_19 → ∀ y0_21 : Int, F' 0 21 = y0_21 → ∀ y2_1 : Int, F' 2 1 = y2_1 → ∀ v3 : Int → Int, A' 3 = v3 → (inr (z)) → (0 ≤ (z) ∧ (z) ≤ 17) → (0 ≤ (y0_9) ∧ (u0_9) ≤ (y0_9) ∧ (y0_9) ≤ (u0_8)) → ((y0_9) ≤ (u0_18)) → (0 ≤ (y2_1) ∧ (y2_1) ≤ (m3) ∧ (m3) ≤ 65536) → ((z) ≠ 0 ∨ 0 ≤ (y0_19) ∧ (y0_19) ≤ 131072 ∧ ((y0_19) ≤ (m3) ∨ (m3) = 65536)) → (PLA (ub8 ((w1))) ((u0_9)) ((u0_18)) (moF ((u0_15))) ((z)) ((y0_21)) ((y0_9)) ((y0_19)) ((y2_1)) ((v3))) → ((z) ≠ 0 ∨ (y0_19) ≤ moF ((u0_15))) → ((z) ≠ 0 ∨ (y0_21) = (u0_21)) → Q (some (I z)) σ c' s') : Ew 244 (d + 3) 0 (rargs 0 [.ref (D 0)]) [] σE c s Q := by
  have O := OUT_refl (n := (V244).length) (D := D) (N := N) (σ := σE) (c := c) (s := s)
  have HE := H
  have r1 : (-2147483648 : Int) ≤ u0_8 ∧ u0_8 ≤ 2147483647 := by have h1 : (-2147483648 : Int) ≤ F 0 8 ∧ F 0 8 ≤ 2147483647 := H.krg 0 8 (by decide); rw [show F 0 8 = u0_8 from (eu0_8)] at h1; exact h1
  have r2 : (-2147483648 : Int) ≤ u0_9 ∧ u0_9 ≤ 2147483647 := by have h1 : (-2147483648 : Int) ≤ F 0 9 ∧ F 0 9 ≤ 2147483647 := H.krg 0 9 (by decide); rw [show F 0 9 = u0_9 from (eu0_9)] at h1; exact h1
  have r3 : (-9223372036854775808 : Int) ≤ u0_15 ∧ u0_15 ≤ 9223372036854775807 := by have h1 : (-9223372036854775808 : Int) ≤ F 0 15 ∧ F 0 15 ≤ 9223372036854775807 := H.krg 0 15 (by decide); rw [show F 0 15 = u0_15 from (eu0_15)] at h1; exact h1
  have r4 : (-2147483648 : Int) ≤ u0_18 ∧ u0_18 ≤ 2147483647 := by have h1 : (-2147483648 : Int) ≤ F 0 18 ∧ F 0 18 ≤ 2147483647 := H.krg 0 18 (by decide); rw [show F 0 18 = u0_18 from (eu0_18)] at h1; exact h1
  have r5 : (-2147483648 : Int) ≤ u0_19 ∧ u0_19 ≤ 2147483647 := by have h1 : (-2147483648 : Int) ≤ F 0 19 ∧ F 0 19 ≤ 2147483647 := H.krg 0 19 (by decide); rw [show F 0 19 = u0_19 from (eu0_19)] at h1; exact h1
  have r6 : (-2147483648 : Int) ≤ u0_21 ∧ u0_21 ≤ 2147483647 := by have h1 : (-2147483648 : Int) ≤ F 0 21 ∧ F 0 21 ≤ 2147483647 := H.krg 0 21 (by decide); rw [show F 0 21 = u0_21 from (eu0_21)] at h1; exact h1
  have r7 : (-2147483648 : Int) ≤ u2_1 ∧ u2_1 ≤ 2147483647 := by have h1 : (-2147483648 : Int) ≤ F 2 1 ∧ F 2 1 ≤ 2147483647 := H.krg 2 1 (by decide); rw [show F 2 1 = u2_1 from (eu2_1)] at h1; exact h1
  have r8 : (0 : Int) ≤ u2_2 ∧ u2_2 ≤ 1 := by have h1 : (0 : Int) ≤ F 2 2 ∧ F 2 2 ≤ 1 := H.krg 2 2 (by decide); rw [show F 2 2 = u2_2 from (eu2_2)] at h1; exact h1
  replace pf1 := HIDm pf1
  replace pf2 := HIDm pf2
  replace pf3 := HIDm pf3
  replace en1 := HIDm en1
  replace en3 := HIDm en3
  replace eu0_8 := HIDm eu0_8
  replace eu0_9 := HIDm eu0_9
  replace eu0_15 := HIDm eu0_15
  replace eu0_18 := HIDm eu0_18
  replace eu0_19 := HIDm eu0_19
  replace eu0_21 := HIDm eu0_21
  replace eu2_1 := HIDm eu2_1
  replace eu2_2 := HIDm eu2_2
  have r9 : (0 : Int) ≤ n1 ∧ n1 ≤ 1000000 := by have h1 := H.nle 1 (by decide); have h2 : (N 1 : Int) = n1 := en1; omega
  have r10 : (0 : Int) ≤ n3 ∧ n3 ≤ 1000000 := by have h1 := H.nle 3 (by decide); have h2 : (N 3 : Int) = n3 := en3; omega
  refine Ew_of (pc' := 1) (fun _ => x_aload_n rfl rfl) ?_
  refine v_g H (o := 0) (v := I (u0_9)) rfl rfl rfl rfl rfl (congrArg (fun z : Int => I z) ((eu0_9) : F 0 9 = u0_9)) ?_
  refine Ew_of (pc' := 5) (fun _ => x_aload_n rfl rfl) ?_
  refine v_g H (o := 0) (v := I (u0_18)) rfl rfl rfl rfl rfl (congrArg (fun z : Int => I z) ((eu0_18) : F 0 18 = u0_18)) ?_
  refine w_icmplt (t := 22) rfl rfl (show inr (u0_9) by omega) (show inr (u0_18) by omega) (fun b11 => ?_) (fun b11 => ?_)
  · refine Ew_of (pc' := 23) (fun _ => x_aload_n rfl rfl) ?_
    refine v_g H (o := 0) (v := .ref (D 1)) rfl rfl rfl rfl rfl (vrf (pf1)) ?_
    refine Ew_of (pc' := 27) (fun _ => x_aload_n rfl rfl) ?_
    refine v_g H (o := 0) (v := I (u0_9)) rfl rfl rfl rfl rfl (congrArg (fun z : Int => I z) ((eu0_9) : F 0 9 = u0_9)) ?_
    refine v_lB H (o := 1) rfl rfl rfl rfl (n := n1) (en1) (show 0 ≤ u0_9 ∧ u0_9 < n1 by omega) (fun v12 ev12 qv12 => ?_)
    have ev12 : (w1) (u0_9) = v12 := (congrFun (ew1) (u0_9)).symm.trans ev12
    have hvx := ev12
    have hbx : (ub8 ((w1))) ((u0_9)) = (v12) % 256 := by show u8 _ = _; rw [hvx]; rfl
    refine Ew_of (pc' := 34) (fun _ => x_sipush (z := 255) rfl (by decide)) ?_
    refine v_and255 rfl ?_
    refine Ew_of (pc' := 36) (fun _ => x_istore_n rfl) ?_
    rw [show (((v12 % 256)) : Int) = ((v12 % 256)) from rfl] at hbx
    have hb4 : ((v12 % 256)) % 4 < 2 := by omega
    have hbl : (ub8 ((w1))) ((u0_9)) = ((v12 % 256)) := by omega
    refine Ew_of (pc' := 37) (fun _ => x_iload_n rfl rk_s) ?_
    refine Ew_of (pc' := 38) (fun _ => x_iconst rfl) ?_
    refine w_ishrK 2 4 (by decide) (by decide) rfl (show inr ((v12 % 256)) by omega) (fun z13 gz13 dz13 => ?_)
    have ha3 := andI_3 ((z13))
    refine Ew_of (pc' := 40) (fun _ => x_iconst rfl) ?_
    refine w_iandE rfl (show inr (z13) by omega) (show inr (3) by omega) (fun z14 gz14 gaz14 gbz14 gez14 => ?_)
    refine Ew_of (pc' := 42) (fun _ => x_istore_n rfl) ?_
    obtain ⟨q2, hq2⟩ : ∃ q : Int, q = (z14) := ⟨_, rfl⟩
    have hlx : q2 = ((v12 % 256)) / 4 % 4 := by omega
    have hlq := lhB_eq q2
    refine Ew_of (pc' := 43) (fun _ => x_iload_n rfl rk_s) ?_
    refine Ew_of (pc' := 44) (fun _ => x_iconst rfl) ?_
    refine w_irem rfl (show inr (z14) ∧ 0 ≤ z14 by omega) (show inr (2) ∧ 0 < 2 by omega) ?_
    have hc62 : ∀ (tc62_0 : Int), ∀ (ls : rO) (σ : rS) (F_c62 : hF) (A_c62 : hA) , rlook ls 0 = some (.ref (D 0)) → rlook ls 1 = some (I ((v12 % 256))) → HW V244 σ D N F_c62 A_c62 → OUT (V244).length D N σE c s D N σ c s → SF [] F F_c62 → SA [] A A_c62 → (inr (tc62_0)) → ((((z14 % 2)) ≠ (0) ∧ (z14) ≠ (1) ∧ (tc62_0) = (3)) ∨ (((z14 % 2)) ≠ (0) ∧ (z14) = (1) ∧ (tc62_0) = (2)) ∨ (((z14 % 2)) = (0) ∧ (tc62_0) = (1))) → Ew 244 (d + 3) 62 ls [I (tc62_0)] σ c s Q := by
     as_aux_lemma =>
      intro tc62_0 ls σ F_c62 A_c62  lc62_0 lc62_1 H O hS_c62 hA_c62     jc62_0 jc62_1
      refine Ew_of (pc' := 63) (fun _ => x_istore_n rfl) ?_
      have hl3 : (tc62_0) = lhB q2 := by omega
      refine Ew_of (pc' := 64) (fun _ => x_aload_n rfl (rk_o (lc62_0) rfl rfl)) ?_
      refine v_g H (o := 0) (v := I (u0_18)) rfl rfl rfl rfl rfl (congrArg (fun z : Int => I z) (((hS_c62 0 18 rfl).trans (eu0_18)) : F_c62 0 18 = u0_18)) ?_
      refine Ew_of (pc' := 68) (fun _ => x_aload_n rfl (rk_o (lc62_0) rfl rfl)) ?_
      refine v_g H (o := 0) (v := I (u0_9)) rfl rfl rfl rfl rfl (congrArg (fun z : Int => I z) (((hS_c62 0 9 rfl).trans (eu0_9)) : F_c62 0 9 = u0_9)) ?_
      refine w_isub rfl ?_
      refine Ew_of (pc' := 73) (fun _ => x_iload_n rfl rk_s) ?_
      refine w_icmpge (t := 87) rfl rfl (show inr ((u0_18 - u0_9)) by omega) (show inr (tc62_0) by omega) (fun b15 => ?_) (fun b15 => ?_)
      · refine Ew_of (pc' := 88) (fun _ => x_aload_n rfl (rk_o (lc62_0) rfl rfl)) ?_
        refine v_g H (o := 0) (v := .ref (D 1)) rfl rfl rfl rfl rfl (vrf (((hS_c62 0 7 rfl)).trans (pf1))) ?_
        refine Ew_of (pc' := 92) (fun _ => x_aload_n rfl (rk_o (lc62_0) rfl rfl)) ?_
        refine v_g H (o := 0) (v := I (u0_9)) rfl rfl rfl rfl rfl (congrArg (fun z : Int => I z) (((hS_c62 0 9 rfl).trans (eu0_9)) : F_c62 0 9 = u0_9)) ?_
        refine Ew_of (pc' := 96) (fun _ => x_iload_n rfl rk_s) ?_
        refine w_stat25 rfl rfl (by rfl) (C42_Brf (D := pul [1] D) (N := pul [1] N) (HW_sub H (VS_of (show vsub V244 V42_Br [1] = true by decide +kernel))) (n1) (en1) (w1) ((funext (hA_c62 1 rfl)).trans (ew1)) (show inr (u0_9) by omega) (show inr (tc62_0) by omega) (show (tc62_0) ≤ 0 ∨ 0 ≤ (u0_9) ∧ (u0_9) + (tc62_0) ≤ (n1) by omega) (show 0 ≤ (tc62_0) ∧ (tc62_0) ≤ 8 by omega) (fun z16 σ16 F16' A16' H' O' hS16 hA16 pz16_0 pz16_1 pz16_2 => ⟨rfl, ?_⟩))
        refine v_back (c := c) (s := s) H (show vsub V244 V42_Br [1] = true by decide +kernel) H' O' (fun F16 A16 H O' eF16 eA16 => ?_)
        have O := OUT_trans O O'
        -- PackHouse.number
        have hnb : 0 ≤ ((z16) : Int) ∧ (z16) ≤ 16777215 := nb3 (NBY_up pz16_1 (by omega) (by omega))
        have hN6 : z16 = nvl (ub8 ((w1))) ((u0_9)) ((tc62_0) : Int).toNat := (nmb_nn pz16_2 (by omega) pz16_0).trans nvl_u
        refine Ew_of (pc' := 100) (fun _ => x_iload_n rfl rk_s) ?_
        refine Ew_of (pc' := 101) (fun _ => x_iconst rfl) ?_
        have hc109 : ∀ (tc109_0 : Int), ∀ (ls : rO) (σ : rS) (F_c109 : hF) (A_c109 : hA) , rlook ls 0 = some (.ref (D 0)) → rlook ls 1 = some (I ((v12 % 256))) → rlook ls 3 = some (I (tc62_0)) → HW V244 σ D N F_c109 A_c109 → OUT (V244).length D N σE c s D N σ c s → SF [] F16 F_c109 → SA [] A16 A_c109 → (inr (tc109_0)) → (((tc62_0) ≠ (1) ∧ (tc109_0) = (4)) ∨ ((tc62_0) = (1) ∧ (tc109_0) = (3))) → Ew 244 (d + 3) 109 ls [I (tc109_0), J (z16)] σ c s Q := by
         as_aux_lemma =>
          intro tc109_0 ls σ F_c109 A_c109  lc109_0 lc109_1 lc109_3 H O hS_c109 hA_c109     jc109_0 jc109_1
          have hy : p2 ((tc109_0)) = 8 ∨ p2 ((tc109_0)) = 16 := by rcases (show ((tc109_0) : Int) = 3 ∨ ((tc109_0) : Int) = 4 by omega) with q | q <;> rw [q] <;> decide
          have hdv : 0 ≤ ((z16) : Int) / p2 ((tc109_0)) ∧ ((z16) : Int) / p2 ((tc109_0)) ≤ 2097152 := by rcases hy with q | q <;> rw [q] <;> omega
          obtain ⟨q9, hq9⟩ : ∃ q : Int, q = p2 ((tc109_0)) := ⟨_, rfl⟩
          have hq9c : (tc62_0) = 1 ∧ q9 = 8 ∨ (tc62_0) ≠ 1 ∧ q9 = 16 := by rcases (show (tc62_0) = 1 ∧ (tc109_0) = 3 ∨ (tc62_0) ≠ 1 ∧ (tc109_0) = 4 by omega) with ⟨w, q⟩ | ⟨w, q⟩; (exact .inl ⟨w, by rw [hq9, q]; decide⟩); (exact .inr ⟨w, by rw [hq9, q]; decide⟩)
          have hs9 : 0 ≤ (tc109_0) ∧ (tc109_0) ≤ 63 := by omega
          refine w_lshrX rfl (show inrJ (z16) by omega) (fun z17 gz17 dz17 => ?_)
          have hzz : 0 ≤ ((z17) : Int) ∧ (z17) ≤ 2097152 := by omega
          obtain ⟨qn, hqz⟩ : ∃ q : Int, q = (z17) := ⟨_, rfl⟩
          have hqn : qn = nvl (ub8 ((w1))) ((u0_9)) ((tc62_0) : Int).toNat / q9 := by rw [← hN6, hqz, hq9]; omega
          refine w_l2i rfl ?_
          refine Ew_of (pc' := 113) (fun _ => x_istore rfl) ?_
          have hl4n : (z17) = qn := by omega
          refine Ew_of (pc' := 115) (fun _ => x_iload rfl rk_s) ?_
          refine Ew_of (pc' := 116) (fun _ => x_aload_n rfl (rk_o (lc109_0) rfl rfl)) ?_
          refine v_inv H (o := 0) rfl rfl rfl rfl rfl rfl (by rfl) (C234 (D := pul [0] D) (N := pul [0] N) (HW_sub H (VS_of (show vsub V244 V234 [0] = true by decide +kernel))) (u0_15) (((((hS_c109 0 15 rfl).trans ((show F16 0 15 = F_c62 0 15 from (eF16 0 15)))).trans (hS_c62 0 15 rfl)).trans (eu0_15))) (show 0 ≤ (u0_15) by omega) (fun z18 σ18 F18' A18' H' O' hS18 hA18 pz18_0 pz18_1 pz18_2 => ⟨rfl, ?_⟩))
          refine v_back (c := c) (s := s) H (show vsub V244 V234 [0] = true by decide +kernel) H' O' (fun F18 A18 H O' eF18 eA18 => ?_)
          have O := OUT_trans O O'
          -- Unpacker.blockMost
          have hmo := pz18_2
          refine w_icmple (t := 133) rfl rfl (show inr (z17) by omega) (show inr (z18) by omega) (fun b19 => ?_) (fun b19 => ?_)
          · refine Ew_of (pc' := 134) (fun _ => x_aload_n rfl (rk_o (lc109_0) rfl rfl)) ?_
            refine Ew_of (pc' := 135) (fun _ => x_dup rfl rfl) ?_
            refine v_g H (o := 0) (v := I (u0_9)) rfl rfl rfl rfl rfl (congrArg (fun z : Int => I z) (((((((show F18 0 9 = F_c109 0 9 from (eF18 0 9).trans (hS18 0 9 rfl))).trans (hS_c109 0 9 rfl)).trans ((show F16 0 9 = F_c62 0 9 from (eF16 0 9)))).trans (hS_c62 0 9 rfl)).trans (eu0_9)) : F18 0 9 = u0_9)) ?_
            refine Ew_of (pc' := 139) (fun _ => x_iload_n rfl (rk_o (lc109_3) rfl rfl)) ?_
            refine w_iadd rfl ?_
            refine v_p H (o := 0) (z := (u0_9 + tc62_0)) (v := I ((u0_9 + tc62_0))) rfl rfl rfl rfl rfl rfl rfl rfl (show (-2147483648 : Int) ≤ (u0_9 + tc62_0) ∧ (u0_9 + tc62_0) ≤ 2147483647 by omega) (fun σ H O' => ?_)
            have O := OUT_trans O O'
            refine Ew_of (pc' := 144) (fun _ => x_iload_n rfl (rk_o (lc109_1) rfl rfl)) ?_
            have ha5 := andI_3 (((v12 % 256)))
            refine Ew_of (pc' := 145) (fun _ => x_iconst rfl) ?_
            refine w_iandE rfl (show inr ((v12 % 256)) by omega) (show inr (3) by omega) (fun z20 gz20 gaz20 gbz20 gez20 => ?_)
            refine w_ifne (t := 153) rfl rfl (show inr (z20) by omega) (fun b21 => ?_) (fun b21 => ?_)
            · refine Ew_of (pc' := 154) (fun _ => x_iconst rfl) ?_
              refine Ew_of (pc' := 156) (fun _ => x_istore rfl) ?_
              obtain ⟨q5, hq5⟩ : ∃ q : Int, q = (0) := ⟨_, rfl⟩
              have hq5c : q5 = 1 ∧ ((v12 % 256)) % 4 = 0 ∨ q5 ≠ 1 ∧ ((v12 % 256)) % 4 ≠ 0 := by omega
              obtain ⟨q1, hq1⟩ : ∃ q : Int, q = ((v12 % 256)) := ⟨_, rfl⟩
              obtain ⟨q3, hq3⟩ : ∃ q : Int, q = (tc62_0) := ⟨_, rfl⟩
              have hLT := fun T G => LTF_0 (I := ub8 ((w1))) (at_ := (u0_9)) (e := (u0_18)) (mo := moF ((u0_15))) (T := T) (G := G) (b := (tc62_0)) (n := qn) (d := q9) (by omega) hbl rfl hb4 rfl (by rw [← hlx]; exact hl3) hqn hq9c
              rw [← hq1, ← hq3] at hLT
              rw [← hq1] at hq5c
              refine Ew_of (pc' := 158) (fun _ => x_iload rfl rk_s) ?_
              refine w_ifeq (t := 166) rfl rfl (show inr (0) by omega) (fun b22 => ?_) (fun b22 => ?_)
              · refine Ew_of (pc' := 167) (fun _ => x_iconst rfl) ?_
                refine Ew_of (pc' := 169) (fun _ => x_istore rfl) ?_
                refine Ew_of (pc' := 170) (fun _ => x_aload_n rfl (rk_o (rk_o (rk_o (lc109_0) rfl rfl) rfl rfl) rfl rfl)) ?_
                refine v_g H (o := 0) (v := I (u0_18)) rfl rfl rfl rfl rfl (congrArg (fun z : Int => I z) (((((((show F18 0 18 = F_c109 0 18 from (eF18 0 18).trans (hS18 0 18 rfl))).trans (hS_c109 0 18 rfl)).trans ((show F16 0 18 = F_c62 0 18 from (eF16 0 18)))).trans (hS_c62 0 18 rfl)).trans (eu0_18)) : (updF F18 0 9 ((u0_9 + tc62_0))) 0 18 = u0_18)) ?_
                refine Ew_of (pc' := 174) (fun _ => x_aload_n rfl (rk_o (rk_o (rk_o (lc109_0) rfl rfl) rfl rfl) rfl rfl)) ?_
                refine v_g H (o := 0) (v := I ((u0_9 + tc62_0))) rfl rfl rfl rfl rfl (congrArg (fun z : Int => I z) (rfl : (updF F18 0 9 ((u0_9 + tc62_0))) 0 9 = (u0_9 + tc62_0))) ?_
                refine w_isub rfl ?_
                refine Ew_of (pc' := 180) (fun _ => x_iload rfl rk_s) ?_
                refine w_icmpge (t := 194) rfl rfl (show inr ((u0_18 - (u0_9 + tc62_0))) by omega) (show inr (1) by omega) (fun b23 => ?_) (fun b23 => ?_)
                · refine Ew_of (pc' := 195) (fun _ => x_aload_n rfl (rk_o (rk_o (rk_o (lc109_0) rfl rfl) rfl rfl) rfl rfl)) ?_
                  refine Ew_of (pc' := 197) (fun _ => x_iload rfl (rk_o (rk_o (rk_s) rfl rfl) rfl rfl)) ?_
                  obtain ⟨q4, hq4⟩ : ∃ q : Int, q = (z17) := ⟨_, rfl⟩
                  have hq6 : q5 = 1 ∧ (1) = q4 ∨ q5 ≠ 1 ∧ (1) = 1 := by omega
                  refine v_p H (o := 0) (z := z17) (v := I (z17)) rfl rfl rfl rfl rfl rfl rfl rfl (show (-2147483648 : Int) ≤ z17 ∧ z17 ≤ 2147483647 by omega) (fun σ H O' => ?_)
                  have O := OUT_trans O O'
                  have hc248 : ∀ (ls : rO) (σ : rS) (D_c248 N_c248 : Nat → Nat) (c_c248 s_c248 : Nat) (F_c248 : hF) (A_c248 : hA) , rlook ls 0 = some (.ref (D_c248 0)) → rlook ls 6 = some (I (1)) → HW V244 σ D_c248 N_c248 F_c248 A_c248 → OUT (V244).length D N σE c s D_c248 N_c248 σ c_c248 s_c248 → SD [3] D D_c248 → SD [3] N N_c248 → SF [(2, 0), (2, 1), (2, 2)] (updF (updF F18 0 9 ((u0_9 + tc62_0))) 0 19 (z17)) F_c248 → SA [3] A18 A_c248 → F_c248 2 0 = (D_c248 3 : Int) → ∀ mc248_3 : Int, (N_c248 3 : Int) = mc248_3 → ∀ yc248_2_1 : Int, F_c248 2 1 = yc248_2_1 → ∀ wc248_3 : Int → Int, A_c248 3 = wc248_3 → (0 ≤ (yc248_2_1) ∧ (yc248_2_1) ≤ (mc248_3) ∧ (mc248_3) ≤ 65536) → (((z17) ≤ (mc248_3) ∨ (mc248_3) = 65536)) → (∃ L : List Int, (z17) = (L.length : Int) ∧ LKP ((wc248_3)) ((yc248_2_1)) 65536 L ∧ (q5 = 1 ∧ L = sc (ub8 ((w1))) (((u0_9 + tc62_0))) (((u0_9 + tc62_0)) + q4) ∨ q5 ≠ 1 ∧ L = List.replicate (q4).toNat ((ub8 ((w1))) (((u0_9 + tc62_0)))))) → Ew 244 (d + 3) 248 ls [] σ c_c248 s_c248 Q := by
                   as_aux_lemma =>
                    intro  ls σ D_c248 N_c248 c_c248 s_c248 F_c248 A_c248  lc248_0 lc248_6 H O hD_c248 hN_c248 hS_c248 hA_c248 pmc248_3 mc248_3 emc248_3 yc248_2_1 eyc248_2_1 wc248_3 ewc248_3 jc248_0 jc248_1 jc248_2
                    replace pmc248_3 := HIDm pmc248_3
                    replace emc248_3 := HIDm emc248_3
                    replace eyc248_2_1 := HIDm eyc248_2_1
                    have pf_c248_0_4 : HID (F_c248 0 4 = (D_c248 2 : Int)) := (hS_c248 0 4 rfl).trans ((((((((show F18 0 4 = F_c109 0 4 from (eF18 0 4).trans (hS18 0 4 rfl))).trans (hS_c109 0 4 rfl)).trans ((show F16 0 4 = F_c62 0 4 from (eF16 0 4)))).trans (hS_c62 0 4 rfl))).trans (pf2)).trans (congrArg (fun q : Nat => (q : Int)) (hD_c248 2 rfl).symm))
                    have pf_c248_0_7 : HID (F_c248 0 7 = (D_c248 1 : Int)) := (hS_c248 0 7 rfl).trans ((((((((show F18 0 7 = F_c109 0 7 from (eF18 0 7).trans (hS18 0 7 rfl))).trans (hS_c109 0 7 rfl)).trans ((show F16 0 7 = F_c62 0 7 from (eF16 0 7)))).trans (hS_c62 0 7 rfl))).trans (pf1)).trans (congrArg (fun q : Nat => (q : Int)) (hD_c248 1 rfl).symm))
                    have r24 : (0 : Int) ≤ mc248_3 ∧ mc248_3 ≤ 1000000 := by have h1 := H.nle 3 (by decide); have h2 : (N_c248 3 : Int) = mc248_3 := emc248_3; omega
                    have r25 : (-2147483648 : Int) ≤ yc248_2_1 ∧ yc248_2_1 ≤ 2147483647 := by have h1 : (-2147483648 : Int) ≤ F_c248 2 1 ∧ F_c248 2 1 ≤ 2147483647 := H.krg 2 1 (by decide); rw [show F_c248 2 1 = yc248_2_1 from (eyc248_2_1)] at h1; exact h1
                    have k248 : ∃ L : List Int, (z17) = (L.length : Int) ∧ LKP ((wc248_3)) ((yc248_2_1)) 65536 L ∧ (q5 = 1 ∧ L = sc (ub8 ((w1))) (((u0_9 + tc62_0))) (((u0_9 + tc62_0)) + q4) ∨ q5 ≠ 1 ∧ L = List.replicate (q4).toNat ((ub8 ((w1))) (((u0_9 + tc62_0))))) := by assumption
                    refine Ew_of (pc' := 249) (fun _ => x_aload_n rfl lc248_0) ?_
                    refine Ew_of (pc' := 250) (fun _ => x_dup rfl rfl) ?_
                    refine v_g H (o := 0) (v := I ((u0_9 + tc62_0))) rfl rfl rfl rfl rfl (congrArg (fun z : Int => I z) ((hS_c248 0 9 rfl) : F_c248 0 9 = (u0_9 + tc62_0))) ?_
                    refine Ew_of (pc' := 255) (fun _ => x_iload rfl lc248_6) ?_
                    refine w_iadd rfl ?_
                    refine v_p H (o := 0) (z := ((u0_9 + tc62_0) + 1)) (v := I (((u0_9 + tc62_0) + 1))) rfl rfl rfl rfl rfl rfl rfl rfl (show (-2147483648 : Int) ≤ ((u0_9 + tc62_0) + 1) ∧ ((u0_9 + tc62_0) + 1) ≤ 2147483647 by omega) (fun σ H O' => ?_)
                    have O := OUT_trans O O'
                    refine Ew_of (pc' := 260) (fun _ => x_iconst rfl) ?_
                    have : PLA (ub8 ((w1))) ((u0_9)) ((u0_18)) (moF ((u0_15))) ((0)) ((u0_21)) ((((u0_9 + tc62_0) + 1))) ((z17)) ((yc248_2_1)) ((wc248_3)) := by obtain ⟨L, hL1, hL2, hL3⟩ := k248; exact .inr ⟨by omega, L, hL1, hL2, fun T G => (hLT T G).trans (LT0_y (fo := (1)) (by omega) (by omega) (by rcases hL3 with ⟨a, b⟩ | ⟨a, b⟩; (exact .inl ⟨by omega, by omega, by rw [b]; congr 1 <;> omega⟩); (exact .inr ⟨by omega, by omega, by rw [b, show q4 = qn by omega]; congr 2; omega⟩)) (by omega) (by omega))⟩
                    exact w_ireturn rfl (k (0) _ _ _ _ _ _ _ H O (SD_trans (SD_refl) hD_c248 (any_subA rfl)) (SD_trans (SD_refl) hN_c248 (any_subA rfl)) (SF_upd (SF_trans (SF_upd (SF_upd (SF_trans (SF_trans (SF_trans (SF_trans (SF_refl) hS_c62 (any_sub rfl)) (SF_glu (ι := [1]) hS16 eF16 (by decide +kernel)) (any_sub (l' := []) rfl)) hS_c109 (any_sub rfl)) (SF_glu (ι := [0]) hS18 eF18 (by decide +kernel)) (any_sub (l' := []) rfl)) rfl) rfl) hS_c248 (any_sub rfl)) rfl) (SA_trans (SA_trans (SA_trans (SA_trans (SA_trans (SA_refl) hA_c62 (any_subA rfl)) (SA_glu (ι := [1]) hA16 eA16 (by decide +kernel)) (any_subA (l' := []) rfl)) hA_c109 (any_subA rfl)) (SA_glu (ι := [0]) hA18 eA18 (by decide +kernel)) (any_subA (l' := []) rfl)) hA_c248 (any_subA rfl)) (pmc248_3) (mc248_3) (emc248_3) (((u0_9 + tc62_0) + 1)) (rfl) (z17) ((hS_c248 0 19 rfl)) (u0_21) (((((((hS_c248 0 21 rfl).trans ((show F18 0 21 = F_c109 0 21 from (eF18 0 21).trans (hS18 0 21 rfl)))).trans (hS_c109 0 21 rfl)).trans ((show F16 0 21 = F_c62 0 21 from (eF16 0 21)))).trans (hS_c62 0 21 rfl)).trans (eu0_21))) (yc248_2_1) ((eyc248_2_1)) (wc248_3) (ewc248_3) (show inr (0) by omega) (show 0 ≤ (0) ∧ (0) ≤ 17 by omega) (show 0 ≤ (((u0_9 + tc62_0) + 1)) ∧ (u0_9) ≤ (((u0_9 + tc62_0) + 1)) ∧ (((u0_9 + tc62_0) + 1)) ≤ (u0_8) by omega) (show (((u0_9 + tc62_0) + 1)) ≤ (u0_18) by omega) (show 0 ≤ (yc248_2_1) ∧ (yc248_2_1) ≤ (mc248_3) ∧ (mc248_3) ≤ 65536 by omega) (show (0) ≠ 0 ∨ 0 ≤ (z17) ∧ (z17) ≤ 131072 ∧ ((z17) ≤ (mc248_3) ∨ (mc248_3) = 65536) by omega) (show PLA (ub8 ((w1))) ((u0_9)) ((u0_18)) (moF ((u0_15))) ((0)) ((u0_21)) ((((u0_9 + tc62_0) + 1))) ((z17)) ((yc248_2_1)) ((wc248_3)) by assumption) (show (0) ≠ 0 ∨ (z17) ≤ moF ((u0_15)) by omega) (show (0) ≠ 0 ∨ (u0_21) = (u0_21) by omega))
                  refine Ew_of (pc' := 202) (fun _ => x_iload rfl (rk_o (rk_s) rfl rfl)) ?_
                  refine w_ifeq (t := 225) rfl rfl (show inr (0) by omega) (fun b26 => ?_) (fun b26 => ?_)
                  · refine Ew_of (pc' := 226) (fun _ => x_aload_n rfl (rk_o (rk_o (rk_o (lc109_0) rfl rfl) rfl rfl) rfl rfl)) ?_
                    refine v_g H (o := 0) (v := .ref (D 2)) rfl rfl rfl rfl rfl (vrf (((((((show F18 0 4 = F_c109 0 4 from (eF18 0 4).trans (hS18 0 4 rfl))).trans (hS_c109 0 4 rfl)).trans ((show F16 0 4 = F_c62 0 4 from (eF16 0 4)))).trans (hS_c62 0 4 rfl))).trans (pf2))) ?_
                    refine Ew_of (pc' := 230) (fun _ => x_aload_n rfl (rk_o (rk_o (rk_o (lc109_0) rfl rfl) rfl rfl) rfl rfl)) ?_
                    refine v_g H (o := 0) (v := .ref (D 1)) rfl rfl rfl rfl rfl (vrf (((((((show F18 0 7 = F_c109 0 7 from (eF18 0 7).trans (hS18 0 7 rfl))).trans (hS_c109 0 7 rfl)).trans ((show F16 0 7 = F_c62 0 7 from (eF16 0 7)))).trans (hS_c62 0 7 rfl))).trans (pf1))) ?_
                    refine Ew_of (pc' := 234) (fun _ => x_aload_n rfl (rk_o (rk_o (rk_o (lc109_0) rfl rfl) rfl rfl) rfl rfl)) ?_
                    refine v_g H (o := 0) (v := I ((u0_9 + tc62_0))) rfl rfl rfl rfl rfl (congrArg (fun z : Int => I z) (rfl : (updF (updF F18 0 9 ((u0_9 + tc62_0))) 0 19 (z17)) 0 9 = (u0_9 + tc62_0))) ?_
                    refine v_lB H (o := 1) rfl rfl rfl rfl (n := n1) (en1) (show 0 ≤ (u0_9 + tc62_0) ∧ (u0_9 + tc62_0) < n1 by omega) (fun v27 ev27 qv27 => ?_)
                    have ev27 : (w1) ((u0_9 + tc62_0)) = v27 := (congrFun (((show A18 1 = A_c109 1 from (eA18 1))).trans ((funext (hA_c109 1 rfl)).trans (((show A16 1 = A_c62 1 from (eA16 1).trans (funext (hA16 0 rfl)))).trans ((funext (hA_c62 1 rfl)).trans (ew1))))) ((u0_9 + tc62_0))).symm.trans ev27
                    have hvs := ev27
                    have hvw : (ub8 ((w1))) (((u0_9 + tc62_0))) = u8 ((v27)) := by show u8 _ = _; rw [hvs]
                    refine Ew_of (pc' := 240) (fun _ => x_iload rfl (rk_o (rk_o (rk_s) rfl rfl) rfl rfl)) ?_
                    refine Ew_of (pc' := 242) (fun _ => x_ldc (z := 65536) rfl (by decide)) ?_
                    refine v_min rfl rfl (show inr (z17) by omega) (show inr (65536) by omega) (fun z28 gz28 => ?_)
                    have hmin : (z28) = (z17) ∧ (z17) ≤ 65536 ∨ (z28) = 65536 ∧ 65536 ≤ (z17) := by omega
                    refine v_inv H (o := 2) rfl rfl rfl rfl rfl rfl (by rfl) (C162 (D := pul [2, 3] D) (N := pul [2, 3] N) (HW_sub H (VS_of (show vsub V244 V162 [2, 3] = true by decide +kernel))) (((((((show F18 2 0 = F_c109 2 0 from (eF18 2 0))).trans (hS_c109 2 0 rfl)).trans ((show F16 2 0 = F_c62 2 0 from (eF16 2 0)))).trans (hS_c62 2 0 rfl))).trans (pf3)) (n3) (en3) (u2_1) (((((((show F18 2 1 = F_c109 2 1 from (eF18 2 1))).trans (hS_c109 2 1 rfl)).trans ((show F16 2 1 = F_c62 2 1 from (eF16 2 1)))).trans (hS_c62 2 1 rfl)).trans (eu2_1))) (u2_2) (((((((show F18 2 2 = F_c109 2 2 from (eF18 2 2))).trans (hS_c109 2 2 rfl)).trans ((show F16 2 2 = F_c62 2 2 from (eF16 2 2)))).trans (hS_c62 2 2 rfl)).trans (eu2_2))) (w3) (((show A18 3 = A_c109 3 from (eA18 3))).trans ((funext (hA_c109 3 rfl)).trans (((show A16 3 = A_c62 3 from (eA16 3))).trans ((funext (hA_c62 3 rfl)).trans (ew3))))) (show inr (v27) by omega) (show inr (z28) by omega) (show 0 ≤ (u2_1) ∧ (u2_1) ≤ (n3) ∧ (n3) ≤ 65536 by omega) (fun σ29 D29' N29' F29' A29' c29 s29 H' O' hD29 hN29 hS29 hA29 pm29_1 m29_1 em29_1 y29_0_1 ey29_0_1 y29_0_2 ey29_0_2 w29_1 ew29_1 pz29_0 pz29_1 pz29_2 => ⟨rfl, ?_⟩))
                    replace pm29_1 := HIDm pm29_1
                    replace em29_1 := HIDm em29_1
                    replace ey29_0_1 := HIDm ey29_0_1
                    replace ey29_0_2 := HIDm ey29_0_2
                    refine v_backM (c := c) (s := s) H (show vsub V244 V162 [2, 3] = true by decide +kernel) H' O' hD29 (show vmov V244 [2, 3] [1] = true by decide +kernel) (fun D29 N29 F29 A29 H O' eD29 eN29 eF29 eA29 => ?_)
                    have O := OUT_trans O O'
                    -- Row.addSame
                    have pf29_0_4 : HID (F29 0 4 = (D29 2 : Int)) := ((show F29 0 4 = (updF (updF F18 0 9 ((u0_9 + tc62_0))) 0 19 (z17)) 0 4 from (eF29 0 4))).trans ((((((((show F18 0 4 = F_c109 0 4 from (eF18 0 4).trans (hS18 0 4 rfl))).trans (hS_c109 0 4 rfl)).trans ((show F16 0 4 = F_c62 0 4 from (eF16 0 4)))).trans (hS_c62 0 4 rfl))).trans (pf2)).trans (congrArg (fun q : Nat => (q : Int)) ((show D29 2 = D 2 from (eD29 2).trans (hD29 0 rfl))).symm))
                    have pf29_0_7 : HID (F29 0 7 = (D29 1 : Int)) := ((show F29 0 7 = (updF (updF F18 0 9 ((u0_9 + tc62_0))) 0 19 (z17)) 0 7 from (eF29 0 7))).trans ((((((((show F18 0 7 = F_c109 0 7 from (eF18 0 7).trans (hS18 0 7 rfl))).trans (hS_c109 0 7 rfl)).trans ((show F16 0 7 = F_c62 0 7 from (eF16 0 7)))).trans (hS_c62 0 7 rfl))).trans (pf1)).trans (congrArg (fun q : Nat => (q : Int)) ((show D29 1 = D 1 from (eD29 1))).symm))
                    have pf29_2_0 : HID (F29 2 0 = (D29 3 : Int)) := (eF29 2 0).trans (pm29_1.trans (congrArg (fun q : Nat => (q : Int)) (eD29 3).symm))
                    have r30 : (0 : Int) ≤ m29_1 ∧ m29_1 ≤ 1000000 := by have h1 := H.nle 3 (by decide); have h2 : (N29 3 : Int) = m29_1 := (congrArg (fun q : Nat => (q : Int)) (eN29 3)).trans em29_1; omega
                    have r31 : (-2147483648 : Int) ≤ y29_0_1 ∧ y29_0_1 ≤ 2147483647 := by have h1 : (-2147483648 : Int) ≤ F29 2 1 ∧ F29 2 1 ≤ 2147483647 := H.krg 2 1 (by decide); rw [show F29 2 1 = y29_0_1 from ((eF29 2 1).trans ey29_0_1)] at h1; exact h1
                    have r32 : (0 : Int) ≤ y29_0_2 ∧ y29_0_2 ≤ 1 := by have h1 : (0 : Int) ≤ F29 2 2 ∧ F29 2 2 ≤ 1 := H.krg 2 2 (by decide); rw [show F29 2 2 = y29_0_2 from ((eF29 2 2).trans ey29_0_2)] at h1; exact h1
                    have : ∃ L : List Int, (z17) = (L.length : Int) ∧ LKP ((w29_1)) ((y29_0_1)) 65536 L ∧ (q5 = 1 ∧ L = sc (ub8 ((w1))) (((u0_9 + tc62_0))) (((u0_9 + tc62_0)) + q4) ∨ q5 ≠ 1 ∧ L = List.replicate (q4).toNat ((ub8 ((w1))) (((u0_9 + tc62_0))))) := by first | exact ⟨_, by rw [sc_lenI (by omega)]; omega, LKP_all (by have h := (RAP_from (a := 0) (pNONE_3 (by omega)) (by omega) (by omega) (by rw [sc_lenI (by omega)]; omega) (by omega)).2; rw [h, sc_nil (by omega), List.nil_append, sc_u]) (by omega), .inl ⟨by omega, by rw [hq4]⟩⟩ | exact ⟨_, by rw [List.length_replicate]; omega, LKP_rep (n := q4) (w := (ub8 ((w1))) (((u0_9 + tc62_0)))) (by have h := (RAP_from (a := 0) (pz29_2 (by omega)) (by omega) (by omega) (by rw [List.length_replicate]; omega) (by omega)).2; rw [h, sc_nil (by omega), List.nil_append, hvw]; congr 1; omega) (by omega) (by omega), .inr ⟨by omega, rfl⟩⟩
                    exact hc248  _ _ _ _ _ _ _ _  ((rk_o (rk_o (rk_o (lc109_0) rfl rfl) rfl rfl) rfl rfl).trans (congrArg (fun q : Nat => some (Value.ref q)) (((show D29 0 = D 0 from (eD29 0)))).symm)) (rk_s) H O (SD_trans (SD_refl) (SD_glu (ι := [2, 3]) hD29 eD29 (by decide +kernel)) (any_subA (l' := [3]) rfl)) (SD_trans (SD_refl) (SD_glu (ι := [2, 3]) hN29 eN29 (by decide +kernel)) (any_subA (l' := [3]) rfl)) (SF_trans (SF_refl) (SF_glu (ι := [2, 3]) hS29 eF29 (by decide +kernel)) (any_sub (l' := [(2, 0), (2, 1), (2, 2)]) rfl)) (SA_trans (SA_refl) (SA_glu (ι := [2, 3]) hA29 eA29 (by decide +kernel)) (any_subA (l' := [3]) rfl)) (pf29_2_0) (m29_1) ((congrArg (fun q : Nat => (q : Int)) (eN29 3)).trans em29_1) (y29_0_1) (((eF29 2 1).trans ey29_0_1)) (w29_1) ((eA29 3).trans ew29_1) (show 0 ≤ (y29_0_1) ∧ (y29_0_1) ≤ (m29_1) ∧ (m29_1) ≤ 65536 by omega) (show ((z17) ≤ (m29_1) ∨ (m29_1) = 65536) by omega) (show ∃ L : List Int, (z17) = (L.length : Int) ∧ LKP ((w29_1)) ((y29_0_1)) 65536 L ∧ (q5 = 1 ∧ L = sc (ub8 ((w1))) (((u0_9 + tc62_0))) (((u0_9 + tc62_0)) + q4) ∨ q5 ≠ 1 ∧ L = List.replicate (q4).toNat ((ub8 ((w1))) (((u0_9 + tc62_0))))) by assumption)
                  · refine Ew_of (pc' := 206) (fun _ => x_aload_n rfl (rk_o (rk_o (rk_o (lc109_0) rfl rfl) rfl rfl) rfl rfl)) ?_
                    refine v_g H (o := 0) (v := .ref (D 2)) rfl rfl rfl rfl rfl (vrf (((((((show F18 0 4 = F_c109 0 4 from (eF18 0 4).trans (hS18 0 4 rfl))).trans (hS_c109 0 4 rfl)).trans ((show F16 0 4 = F_c62 0 4 from (eF16 0 4)))).trans (hS_c62 0 4 rfl))).trans (pf2))) ?_
                    refine Ew_of (pc' := 210) (fun _ => x_aload_n rfl (rk_o (rk_o (rk_o (lc109_0) rfl rfl) rfl rfl) rfl rfl)) ?_
                    refine v_g H (o := 0) (v := .ref (D 1)) rfl rfl rfl rfl rfl (vrf (((((((show F18 0 7 = F_c109 0 7 from (eF18 0 7).trans (hS18 0 7 rfl))).trans (hS_c109 0 7 rfl)).trans ((show F16 0 7 = F_c62 0 7 from (eF16 0 7)))).trans (hS_c62 0 7 rfl))).trans (pf1))) ?_
                    refine Ew_of (pc' := 214) (fun _ => x_aload_n rfl (rk_o (rk_o (rk_o (lc109_0) rfl rfl) rfl rfl) rfl rfl)) ?_
                    refine v_g H (o := 0) (v := I ((u0_9 + tc62_0))) rfl rfl rfl rfl rfl (congrArg (fun z : Int => I z) (rfl : (updF (updF F18 0 9 ((u0_9 + tc62_0))) 0 19 (z17)) 0 9 = (u0_9 + tc62_0))) ?_
                    refine Ew_of (pc' := 219) (fun _ => x_iload rfl (rk_o (rk_o (rk_s) rfl rfl) rfl rfl)) ?_
                    refine v_inv H (o := 2) rfl rfl rfl rfl rfl rfl (by rfl) (C161_Br (D := pul [2, 1, 3] D) (N := pul [2, 1, 3] N) (HW_sub H (VS_of (show vsub V244 V161_Br [2, 1, 3] = true by decide +kernel))) (((((((show F18 2 0 = F_c109 2 0 from (eF18 2 0))).trans (hS_c109 2 0 rfl)).trans ((show F16 2 0 = F_c62 2 0 from (eF16 2 0)))).trans (hS_c62 2 0 rfl))).trans (pf3)) (n1) (en1) (n3) (en3) (u2_1) (((((((show F18 2 1 = F_c109 2 1 from (eF18 2 1))).trans (hS_c109 2 1 rfl)).trans ((show F16 2 1 = F_c62 2 1 from (eF16 2 1)))).trans (hS_c62 2 1 rfl)).trans (eu2_1))) (u2_2) (((((((show F18 2 2 = F_c109 2 2 from (eF18 2 2))).trans (hS_c109 2 2 rfl)).trans ((show F16 2 2 = F_c62 2 2 from (eF16 2 2)))).trans (hS_c62 2 2 rfl)).trans (eu2_2))) (w1) (((show A18 1 = A_c109 1 from (eA18 1))).trans ((funext (hA_c109 1 rfl)).trans (((show A16 1 = A_c62 1 from (eA16 1).trans (funext (hA16 0 rfl)))).trans ((funext (hA_c62 1 rfl)).trans (ew1))))) (w3) (((show A18 3 = A_c109 3 from (eA18 3))).trans ((funext (hA_c109 3 rfl)).trans (((show A16 3 = A_c62 3 from (eA16 3))).trans ((funext (hA_c62 3 rfl)).trans (ew3))))) (show inr ((u0_9 + tc62_0)) by omega) (show inr (z17) by omega) (show 0 ≤ (u2_1) ∧ (u2_1) ≤ (n3) ∧ (n3) ≤ 65536 by omega) (show (z17) < 0 ∨ 0 ≤ ((u0_9 + tc62_0)) ∧ ((u0_9 + tc62_0)) + (z17) ≤ (n1) by omega) (fun σ33 D33' N33' F33' A33' c33 s33 H' O' hD33 hN33 hS33 hA33 pm33_2 m33_2 em33_2 y33_0_1 ey33_0_1 y33_0_2 ey33_0_2 w33_2 ew33_2 pz33_0 pz33_1 pz33_2 pz33_3 => ⟨rfl, ?_⟩))
                    replace pm33_2 := HIDm pm33_2
                    replace em33_2 := HIDm em33_2
                    replace ey33_0_1 := HIDm ey33_0_1
                    replace ey33_0_2 := HIDm ey33_0_2
                    refine v_backM (c := c) (s := s) H (show vsub V244 V161_Br [2, 1, 3] = true by decide +kernel) H' O' hD33 (show vmov V244 [2, 1, 3] [2] = true by decide +kernel) (fun D33 N33 F33 A33 H O' eD33 eN33 eF33 eA33 => ?_)
                    have O := OUT_trans O O'
                    -- Row.addPart
                    have pf33_0_4 : HID (F33 0 4 = (D33 2 : Int)) := ((show F33 0 4 = (updF (updF F18 0 9 ((u0_9 + tc62_0))) 0 19 (z17)) 0 4 from (eF33 0 4))).trans ((((((((show F18 0 4 = F_c109 0 4 from (eF18 0 4).trans (hS18 0 4 rfl))).trans (hS_c109 0 4 rfl)).trans ((show F16 0 4 = F_c62 0 4 from (eF16 0 4)))).trans (hS_c62 0 4 rfl))).trans (pf2)).trans (congrArg (fun q : Nat => (q : Int)) ((show D33 2 = D 2 from (eD33 2).trans (hD33 0 rfl))).symm))
                    have pf33_0_7 : HID (F33 0 7 = (D33 1 : Int)) := ((show F33 0 7 = (updF (updF F18 0 9 ((u0_9 + tc62_0))) 0 19 (z17)) 0 7 from (eF33 0 7))).trans ((((((((show F18 0 7 = F_c109 0 7 from (eF18 0 7).trans (hS18 0 7 rfl))).trans (hS_c109 0 7 rfl)).trans ((show F16 0 7 = F_c62 0 7 from (eF16 0 7)))).trans (hS_c62 0 7 rfl))).trans (pf1)).trans (congrArg (fun q : Nat => (q : Int)) ((show D33 1 = D 1 from (eD33 1).trans (hD33 1 rfl))).symm))
                    have pf33_2_0 : HID (F33 2 0 = (D33 3 : Int)) := (eF33 2 0).trans (pm33_2.trans (congrArg (fun q : Nat => (q : Int)) (eD33 3).symm))
                    have r34 : (0 : Int) ≤ m33_2 ∧ m33_2 ≤ 1000000 := by have h1 := H.nle 3 (by decide); have h2 : (N33 3 : Int) = m33_2 := (congrArg (fun q : Nat => (q : Int)) (eN33 3)).trans em33_2; omega
                    have r35 : (-2147483648 : Int) ≤ y33_0_1 ∧ y33_0_1 ≤ 2147483647 := by have h1 : (-2147483648 : Int) ≤ F33 2 1 ∧ F33 2 1 ≤ 2147483647 := H.krg 2 1 (by decide); rw [show F33 2 1 = y33_0_1 from ((eF33 2 1).trans ey33_0_1)] at h1; exact h1
                    have r36 : (0 : Int) ≤ y33_0_2 ∧ y33_0_2 ≤ 1 := by have h1 : (0 : Int) ≤ F33 2 2 ∧ F33 2 2 ≤ 1 := H.krg 2 2 (by decide); rw [show F33 2 2 = y33_0_2 from ((eF33 2 2).trans ey33_0_2)] at h1; exact h1
                    refine Ew_of (pc' := 248) (fun _ => x_goto rfl rfl) ?_
                    have : ∃ L : List Int, (z17) = (L.length : Int) ∧ LKP ((w33_2)) ((y33_0_1)) 65536 L ∧ (q5 = 1 ∧ L = sc (ub8 ((w1))) (((u0_9 + tc62_0))) (((u0_9 + tc62_0)) + q4) ∨ q5 ≠ 1 ∧ L = List.replicate (q4).toNat ((ub8 ((w1))) (((u0_9 + tc62_0))))) := by first | exact ⟨_, by rw [sc_lenI (by omega)]; omega, LKP_all (by have h := (RAP_from (a := 0) (pz33_3 (by omega)) (by omega) (by omega) (by rw [sc_lenI (by omega)]; omega) (by omega)).2; rw [h, sc_nil (by omega), List.nil_append, sc_u]) (by omega), .inl ⟨by omega, by rw [hq4]⟩⟩ | exact ⟨_, by rw [List.length_replicate]; omega, LKP_rep (n := q4) (w := (ub8 ((w1))) (((u0_9 + tc62_0)))) (by have h := (RAP_from (a := 0) (pz29_2 (by omega)) (by omega) (by omega) (by rw [List.length_replicate]; omega) (by omega)).2; rw [h, sc_nil (by omega), List.nil_append, hvw]; congr 1; omega) (by omega) (by omega), .inr ⟨by omega, rfl⟩⟩
                    exact hc248  _ _ _ _ _ _ _ _  ((rk_o (rk_o (rk_o (lc109_0) rfl rfl) rfl rfl) rfl rfl).trans (congrArg (fun q : Nat => some (Value.ref q)) (((show D33 0 = D 0 from (eD33 0)))).symm)) (rk_s) H O (SD_trans (SD_refl) (SD_glu (ι := [2, 1, 3]) hD33 eD33 (by decide +kernel)) (any_subA (l' := [3]) rfl)) (SD_trans (SD_refl) (SD_glu (ι := [2, 1, 3]) hN33 eN33 (by decide +kernel)) (any_subA (l' := [3]) rfl)) (SF_trans (SF_refl) (SF_glu (ι := [2, 1, 3]) hS33 eF33 (by decide +kernel)) (any_sub (l' := [(2, 0), (2, 1), (2, 2)]) rfl)) (SA_trans (SA_refl) (SA_glu (ι := [2, 1, 3]) hA33 eA33 (by decide +kernel)) (any_subA (l' := [3]) rfl)) (pf33_2_0) (m33_2) ((congrArg (fun q : Nat => (q : Int)) (eN33 3)).trans em33_2) (y33_0_1) (((eF33 2 1).trans ey33_0_1)) (w33_2) ((eA33 3).trans ew33_2) (show 0 ≤ (y33_0_1) ∧ (y33_0_1) ≤ (m33_2) ∧ (m33_2) ≤ 65536 by omega) (show ((z17) ≤ (m33_2) ∨ (m33_2) = 65536) by omega) (show ∃ L : List Int, (z17) = (L.length : Int) ∧ LKP ((w33_2)) ((y33_0_1)) 65536 L ∧ (q5 = 1 ∧ L = sc (ub8 ((w1))) (((u0_9 + tc62_0))) (((u0_9 + tc62_0)) + q4) ∨ q5 ≠ 1 ∧ L = List.replicate (q4).toNat ((ub8 ((w1))) (((u0_9 + tc62_0))))) by assumption)
                · refine Ew_of (pc' := 184) (fun _ => x_aload_n rfl (rk_o (rk_o (rk_o (lc109_0) rfl rfl) rfl rfl) rfl rfl)) ?_
                  refine Ew_of (pc' := 186) (fun _ => x_bipush (z := 10) rfl (by decide)) ?_
                  refine Ew_of (pc' := 187) (fun _ => x_aload_n rfl (rk_o (rk_o (rk_o (lc109_0) rfl rfl) rfl rfl) rfl rfl)) ?_
                  refine v_g H (o := 0) (v := I (u0_18)) rfl rfl rfl rfl rfl (congrArg (fun z : Int => I z) (((((((show F18 0 18 = F_c109 0 18 from (eF18 0 18).trans (hS18 0 18 rfl))).trans (hS_c109 0 18 rfl)).trans ((show F16 0 18 = F_c62 0 18 from (eF16 0 18)))).trans (hS_c62 0 18 rfl)).trans (eu0_18)) : (updF F18 0 9 ((u0_9 + tc62_0))) 0 18 = u0_18)) ?_
                  refine v_inv H (o := 0) rfl rfl rfl rfl rfl rfl (by rfl) (C232 (D := pul [0] D) (N := pul [0] N) (HW_sub H (VS_of (show vsub V244 V232 [0] = true by decide +kernel))) (u0_21) (((((((show F18 0 21 = F_c109 0 21 from (eF18 0 21).trans (hS18 0 21 rfl))).trans (hS_c109 0 21 rfl)).trans ((show F16 0 21 = F_c62 0 21 from (eF16 0 21)))).trans (hS_c62 0 21 rfl)).trans (eu0_21))) (show inr (10) by omega) (show inr (u0_18) by omega) (fun z37 σ37 F37' A37' H' O' hS37 hA37 y37_0_21 ey37_0_21 pz37_0 pz37_1 pz37_2 => ⟨rfl, ?_⟩))
                  replace ey37_0_21 := HIDm ey37_0_21
                  refine v_back (c := c) (s := s) H (show vsub V244 V232 [0] = true by decide +kernel) H' O' (fun F37 A37 H O' eF37 eA37 => ?_)
                  have O := OUT_trans O O'
                  -- Unpacker.fail
                  have r38 : (-2147483648 : Int) ≤ y37_0_21 ∧ y37_0_21 ≤ 2147483647 := by have h1 : (-2147483648 : Int) ≤ F37 0 21 ∧ F37 0 21 ≤ 2147483647 := H.krg 0 21 (by decide); rw [show F37 0 21 = y37_0_21 from ((eF37 0 21).trans ey37_0_21)] at h1; exact h1
                  have : PLA (ub8 ((w1))) ((u0_9)) ((u0_18)) (moF ((u0_15))) ((z37)) ((y37_0_21)) (((u0_9 + tc62_0))) ((u0_19)) ((u2_1)) ((w3)) := PLA_f (fun T G => (hLT T G).trans (LT0_10 (fo := (1)) (by omega) (by omega) (by omega) (by omega))) (by decide) (by omega) (by omega)
                  exact w_ireturn rfl (k (z37) _ _ _ _ _ _ _ H O (SD_refl) (SD_refl) (SF_trans (SF_upd (SF_trans (SF_trans (SF_trans (SF_trans (SF_refl) hS_c62 (any_sub rfl)) (SF_glu (ι := [1]) hS16 eF16 (by decide +kernel)) (any_sub (l' := []) rfl)) hS_c109 (any_sub rfl)) (SF_glu (ι := [0]) hS18 eF18 (by decide +kernel)) (any_sub (l' := []) rfl)) rfl) (SF_glu (ι := [0]) hS37 eF37 (by decide +kernel)) (any_sub (l' := [(0, 21)]) rfl)) (SA_trans (SA_trans (SA_trans (SA_trans (SA_trans (SA_refl) hA_c62 (any_subA rfl)) (SA_glu (ι := [1]) hA16 eA16 (by decide +kernel)) (any_subA (l' := []) rfl)) hA_c109 (any_subA rfl)) (SA_glu (ι := [0]) hA18 eA18 (by decide +kernel)) (any_subA (l' := []) rfl)) (SA_glu (ι := [0]) hA37 eA37 (by decide +kernel)) (any_subA (l' := []) rfl)) ((((((((show F37 2 0 = (updF F18 0 9 ((u0_9 + tc62_0))) 2 0 from (eF37 2 0))).trans ((show F18 2 0 = F_c109 2 0 from (eF18 2 0)))).trans (hS_c109 2 0 rfl)).trans ((show F16 2 0 = F_c62 2 0 from (eF16 2 0)))).trans (hS_c62 2 0 rfl))).trans (pf3)) (n3) (en3) ((u0_9 + tc62_0)) (((show F37 0 9 = (updF F18 0 9 ((u0_9 + tc62_0))) 0 9 from (eF37 0 9).trans (hS37 0 9 rfl)))) (u0_19) ((((((((show F37 0 19 = (updF F18 0 9 ((u0_9 + tc62_0))) 0 19 from (eF37 0 19).trans (hS37 0 19 rfl))).trans ((show F18 0 19 = F_c109 0 19 from (eF18 0 19).trans (hS18 0 19 rfl)))).trans (hS_c109 0 19 rfl)).trans ((show F16 0 19 = F_c62 0 19 from (eF16 0 19)))).trans (hS_c62 0 19 rfl)).trans (eu0_19))) (y37_0_21) (((eF37 0 21).trans ey37_0_21)) (u2_1) ((((((((show F37 2 1 = (updF F18 0 9 ((u0_9 + tc62_0))) 2 1 from (eF37 2 1))).trans ((show F18 2 1 = F_c109 2 1 from (eF18 2 1)))).trans (hS_c109 2 1 rfl)).trans ((show F16 2 1 = F_c62 2 1 from (eF16 2 1)))).trans (hS_c62 2 1 rfl)).trans (eu2_1))) (w3) (((show A37 3 = A18 3 from (eA37 3))).trans (((show A18 3 = A_c109 3 from (eA18 3))).trans ((funext (hA_c109 3 rfl)).trans (((show A16 3 = A_c62 3 from (eA16 3))).trans ((funext (hA_c62 3 rfl)).trans (ew3)))))) (show inr (z37) by omega) (show 0 ≤ (z37) ∧ (z37) ≤ 17 by omega) (show 0 ≤ ((u0_9 + tc62_0)) ∧ (u0_9) ≤ ((u0_9 + tc62_0)) ∧ ((u0_9 + tc62_0)) ≤ (u0_8) by omega) (show ((u0_9 + tc62_0)) ≤ (u0_18) by omega) (show 0 ≤ (u2_1) ∧ (u2_1) ≤ (n3) ∧ (n3) ≤ 65536 by omega) (show (z37) ≠ 0 ∨ 0 ≤ (u0_19) ∧ (u0_19) ≤ 131072 ∧ ((u0_19) ≤ (n3) ∨ (n3) = 65536) by omega) (show PLA (ub8 ((w1))) ((u0_9)) ((u0_18)) (moF ((u0_15))) ((z37)) ((y37_0_21)) (((u0_9 + tc62_0))) ((u0_19)) ((u2_1)) ((w3)) by assumption) (show (z37) ≠ 0 ∨ (u0_19) ≤ moF ((u0_15)) by omega) (show (z37) ≠ 0 ∨ (y37_0_21) = (u0_21) by omega))
              · refine Ew_of (pc' := 163) (fun _ => x_iload rfl (rk_o (rk_s) rfl rfl)) ?_
                refine Ew_of (pc' := 167) (fun _ => x_goto rfl rfl) ?_
                refine Ew_of (pc' := 169) (fun _ => x_istore rfl) ?_
                refine Ew_of (pc' := 170) (fun _ => x_aload_n rfl (rk_o (rk_o (rk_o (lc109_0) rfl rfl) rfl rfl) rfl rfl)) ?_
                refine v_g H (o := 0) (v := I (u0_18)) rfl rfl rfl rfl rfl (congrArg (fun z : Int => I z) (((((((show F18 0 18 = F_c109 0 18 from (eF18 0 18).trans (hS18 0 18 rfl))).trans (hS_c109 0 18 rfl)).trans ((show F16 0 18 = F_c62 0 18 from (eF16 0 18)))).trans (hS_c62 0 18 rfl)).trans (eu0_18)) : (updF F18 0 9 ((u0_9 + tc62_0))) 0 18 = u0_18)) ?_
                refine Ew_of (pc' := 174) (fun _ => x_aload_n rfl (rk_o (rk_o (rk_o (lc109_0) rfl rfl) rfl rfl) rfl rfl)) ?_
                refine v_g H (o := 0) (v := I ((u0_9 + tc62_0))) rfl rfl rfl rfl rfl (congrArg (fun z : Int => I z) (rfl : (updF F18 0 9 ((u0_9 + tc62_0))) 0 9 = (u0_9 + tc62_0))) ?_
                refine w_isub rfl ?_
                refine Ew_of (pc' := 180) (fun _ => x_iload rfl rk_s) ?_
                refine w_icmpge (t := 194) rfl rfl (show inr ((u0_18 - (u0_9 + tc62_0))) by omega) (show inr (z17) by omega) (fun b39 => ?_) (fun b39 => ?_)
                · refine Ew_of (pc' := 195) (fun _ => x_aload_n rfl (rk_o (rk_o (rk_o (lc109_0) rfl rfl) rfl rfl) rfl rfl)) ?_
                  refine Ew_of (pc' := 197) (fun _ => x_iload rfl (rk_o (rk_o (rk_s) rfl rfl) rfl rfl)) ?_
                  obtain ⟨q4, hq4⟩ : ∃ q : Int, q = (z17) := ⟨_, rfl⟩
                  have hq6 : q5 = 1 ∧ (z17) = q4 ∨ q5 ≠ 1 ∧ (z17) = 1 := by omega
                  refine v_p H (o := 0) (z := z17) (v := I (z17)) rfl rfl rfl rfl rfl rfl rfl rfl (show (-2147483648 : Int) ≤ z17 ∧ z17 ≤ 2147483647 by omega) (fun σ H O' => ?_)
                  have O := OUT_trans O O'
                  have hc248 : ∀ (ls : rO) (σ : rS) (D_c248 N_c248 : Nat → Nat) (c_c248 s_c248 : Nat) (F_c248 : hF) (A_c248 : hA) , rlook ls 0 = some (.ref (D_c248 0)) → rlook ls 6 = some (I (z17)) → HW V244 σ D_c248 N_c248 F_c248 A_c248 → OUT (V244).length D N σE c s D_c248 N_c248 σ c_c248 s_c248 → SD [3] D D_c248 → SD [3] N N_c248 → SF [(2, 0), (2, 1), (2, 2)] (updF (updF F18 0 9 ((u0_9 + tc62_0))) 0 19 (z17)) F_c248 → SA [3] A18 A_c248 → F_c248 2 0 = (D_c248 3 : Int) → ∀ mc248_3 : Int, (N_c248 3 : Int) = mc248_3 → ∀ yc248_2_1 : Int, F_c248 2 1 = yc248_2_1 → ∀ wc248_3 : Int → Int, A_c248 3 = wc248_3 → (0 ≤ (yc248_2_1) ∧ (yc248_2_1) ≤ (mc248_3) ∧ (mc248_3) ≤ 65536) → (((z17) ≤ (mc248_3) ∨ (mc248_3) = 65536)) → (∃ L : List Int, (z17) = (L.length : Int) ∧ LKP ((wc248_3)) ((yc248_2_1)) 65536 L ∧ (q5 = 1 ∧ L = sc (ub8 ((w1))) (((u0_9 + tc62_0))) (((u0_9 + tc62_0)) + q4) ∨ q5 ≠ 1 ∧ L = List.replicate (q4).toNat ((ub8 ((w1))) (((u0_9 + tc62_0)))))) → Ew 244 (d + 3) 248 ls [] σ c_c248 s_c248 Q := by
                   as_aux_lemma =>
                    intro  ls σ D_c248 N_c248 c_c248 s_c248 F_c248 A_c248  lc248_0 lc248_6 H O hD_c248 hN_c248 hS_c248 hA_c248 pmc248_3 mc248_3 emc248_3 yc248_2_1 eyc248_2_1 wc248_3 ewc248_3 jc248_0 jc248_1 jc248_2
                    replace pmc248_3 := HIDm pmc248_3
                    replace emc248_3 := HIDm emc248_3
                    replace eyc248_2_1 := HIDm eyc248_2_1
                    have pf_c248_0_4 : HID (F_c248 0 4 = (D_c248 2 : Int)) := (hS_c248 0 4 rfl).trans ((((((((show F18 0 4 = F_c109 0 4 from (eF18 0 4).trans (hS18 0 4 rfl))).trans (hS_c109 0 4 rfl)).trans ((show F16 0 4 = F_c62 0 4 from (eF16 0 4)))).trans (hS_c62 0 4 rfl))).trans (pf2)).trans (congrArg (fun q : Nat => (q : Int)) (hD_c248 2 rfl).symm))
                    have pf_c248_0_7 : HID (F_c248 0 7 = (D_c248 1 : Int)) := (hS_c248 0 7 rfl).trans ((((((((show F18 0 7 = F_c109 0 7 from (eF18 0 7).trans (hS18 0 7 rfl))).trans (hS_c109 0 7 rfl)).trans ((show F16 0 7 = F_c62 0 7 from (eF16 0 7)))).trans (hS_c62 0 7 rfl))).trans (pf1)).trans (congrArg (fun q : Nat => (q : Int)) (hD_c248 1 rfl).symm))
                    have r40 : (0 : Int) ≤ mc248_3 ∧ mc248_3 ≤ 1000000 := by have h1 := H.nle 3 (by decide); have h2 : (N_c248 3 : Int) = mc248_3 := emc248_3; omega
                    have r41 : (-2147483648 : Int) ≤ yc248_2_1 ∧ yc248_2_1 ≤ 2147483647 := by have h1 : (-2147483648 : Int) ≤ F_c248 2 1 ∧ F_c248 2 1 ≤ 2147483647 := H.krg 2 1 (by decide); rw [show F_c248 2 1 = yc248_2_1 from (eyc248_2_1)] at h1; exact h1
                    have k248 : ∃ L : List Int, (z17) = (L.length : Int) ∧ LKP ((wc248_3)) ((yc248_2_1)) 65536 L ∧ (q5 = 1 ∧ L = sc (ub8 ((w1))) (((u0_9 + tc62_0))) (((u0_9 + tc62_0)) + q4) ∨ q5 ≠ 1 ∧ L = List.replicate (q4).toNat ((ub8 ((w1))) (((u0_9 + tc62_0))))) := by assumption
                    refine Ew_of (pc' := 249) (fun _ => x_aload_n rfl lc248_0) ?_
                    refine Ew_of (pc' := 250) (fun _ => x_dup rfl rfl) ?_
                    refine v_g H (o := 0) (v := I ((u0_9 + tc62_0))) rfl rfl rfl rfl rfl (congrArg (fun z : Int => I z) ((hS_c248 0 9 rfl) : F_c248 0 9 = (u0_9 + tc62_0))) ?_
                    refine Ew_of (pc' := 255) (fun _ => x_iload rfl lc248_6) ?_
                    refine w_iadd rfl ?_
                    refine v_p H (o := 0) (z := ((u0_9 + tc62_0) + z17)) (v := I (((u0_9 + tc62_0) + z17))) rfl rfl rfl rfl rfl rfl rfl rfl (show (-2147483648 : Int) ≤ ((u0_9 + tc62_0) + z17) ∧ ((u0_9 + tc62_0) + z17) ≤ 2147483647 by omega) (fun σ H O' => ?_)
                    have O := OUT_trans O O'
                    refine Ew_of (pc' := 260) (fun _ => x_iconst rfl) ?_
                    have : PLA (ub8 ((w1))) ((u0_9)) ((u0_18)) (moF ((u0_15))) ((0)) ((u0_21)) ((((u0_9 + tc62_0) + z17))) ((z17)) ((yc248_2_1)) ((wc248_3)) := by obtain ⟨L, hL1, hL2, hL3⟩ := k248; exact .inr ⟨by omega, L, hL1, hL2, fun T G => (hLT T G).trans (LT0_y (fo := (z17)) (by omega) (by omega) (by rcases hL3 with ⟨a, b⟩ | ⟨a, b⟩; (exact .inl ⟨by omega, by omega, by rw [b]; congr 1 <;> omega⟩); (exact .inr ⟨by omega, by omega, by rw [b, show q4 = qn by omega]; congr 2; omega⟩)) (by omega) (by omega))⟩
                    exact w_ireturn rfl (k (0) _ _ _ _ _ _ _ H O (SD_trans (SD_refl) hD_c248 (any_subA rfl)) (SD_trans (SD_refl) hN_c248 (any_subA rfl)) (SF_upd (SF_trans (SF_upd (SF_upd (SF_trans (SF_trans (SF_trans (SF_trans (SF_refl) hS_c62 (any_sub rfl)) (SF_glu (ι := [1]) hS16 eF16 (by decide +kernel)) (any_sub (l' := []) rfl)) hS_c109 (any_sub rfl)) (SF_glu (ι := [0]) hS18 eF18 (by decide +kernel)) (any_sub (l' := []) rfl)) rfl) rfl) hS_c248 (any_sub rfl)) rfl) (SA_trans (SA_trans (SA_trans (SA_trans (SA_trans (SA_refl) hA_c62 (any_subA rfl)) (SA_glu (ι := [1]) hA16 eA16 (by decide +kernel)) (any_subA (l' := []) rfl)) hA_c109 (any_subA rfl)) (SA_glu (ι := [0]) hA18 eA18 (by decide +kernel)) (any_subA (l' := []) rfl)) hA_c248 (any_subA rfl)) (pmc248_3) (mc248_3) (emc248_3) (((u0_9 + tc62_0) + z17)) (rfl) (z17) ((hS_c248 0 19 rfl)) (u0_21) (((((((hS_c248 0 21 rfl).trans ((show F18 0 21 = F_c109 0 21 from (eF18 0 21).trans (hS18 0 21 rfl)))).trans (hS_c109 0 21 rfl)).trans ((show F16 0 21 = F_c62 0 21 from (eF16 0 21)))).trans (hS_c62 0 21 rfl)).trans (eu0_21))) (yc248_2_1) ((eyc248_2_1)) (wc248_3) (ewc248_3) (show inr (0) by omega) (show 0 ≤ (0) ∧ (0) ≤ 17 by omega) (show 0 ≤ (((u0_9 + tc62_0) + z17)) ∧ (u0_9) ≤ (((u0_9 + tc62_0) + z17)) ∧ (((u0_9 + tc62_0) + z17)) ≤ (u0_8) by omega) (show (((u0_9 + tc62_0) + z17)) ≤ (u0_18) by omega) (show 0 ≤ (yc248_2_1) ∧ (yc248_2_1) ≤ (mc248_3) ∧ (mc248_3) ≤ 65536 by omega) (show (0) ≠ 0 ∨ 0 ≤ (z17) ∧ (z17) ≤ 131072 ∧ ((z17) ≤ (mc248_3) ∨ (mc248_3) = 65536) by omega) (show PLA (ub8 ((w1))) ((u0_9)) ((u0_18)) (moF ((u0_15))) ((0)) ((u0_21)) ((((u0_9 + tc62_0) + z17))) ((z17)) ((yc248_2_1)) ((wc248_3)) by assumption) (show (0) ≠ 0 ∨ (z17) ≤ moF ((u0_15)) by omega) (show (0) ≠ 0 ∨ (u0_21) = (u0_21) by omega))
                  refine Ew_of (pc' := 202) (fun _ => x_iload rfl (rk_o (rk_s) rfl rfl)) ?_
                  refine w_ifeq (t := 225) rfl rfl (show inr (0) by omega) (fun b42 => ?_) (fun b42 => ?_)
                  · refine Ew_of (pc' := 226) (fun _ => x_aload_n rfl (rk_o (rk_o (rk_o (lc109_0) rfl rfl) rfl rfl) rfl rfl)) ?_
                    refine v_g H (o := 0) (v := .ref (D 2)) rfl rfl rfl rfl rfl (vrf (((((((show F18 0 4 = F_c109 0 4 from (eF18 0 4).trans (hS18 0 4 rfl))).trans (hS_c109 0 4 rfl)).trans ((show F16 0 4 = F_c62 0 4 from (eF16 0 4)))).trans (hS_c62 0 4 rfl))).trans (pf2))) ?_
                    refine Ew_of (pc' := 230) (fun _ => x_aload_n rfl (rk_o (rk_o (rk_o (lc109_0) rfl rfl) rfl rfl) rfl rfl)) ?_
                    refine v_g H (o := 0) (v := .ref (D 1)) rfl rfl rfl rfl rfl (vrf (((((((show F18 0 7 = F_c109 0 7 from (eF18 0 7).trans (hS18 0 7 rfl))).trans (hS_c109 0 7 rfl)).trans ((show F16 0 7 = F_c62 0 7 from (eF16 0 7)))).trans (hS_c62 0 7 rfl))).trans (pf1))) ?_
                    refine Ew_of (pc' := 234) (fun _ => x_aload_n rfl (rk_o (rk_o (rk_o (lc109_0) rfl rfl) rfl rfl) rfl rfl)) ?_
                    refine v_g H (o := 0) (v := I ((u0_9 + tc62_0))) rfl rfl rfl rfl rfl (congrArg (fun z : Int => I z) (rfl : (updF (updF F18 0 9 ((u0_9 + tc62_0))) 0 19 (z17)) 0 9 = (u0_9 + tc62_0))) ?_
                    refine v_lB H (o := 1) rfl rfl rfl rfl (n := n1) (en1) (show 0 ≤ (u0_9 + tc62_0) ∧ (u0_9 + tc62_0) < n1 by omega) (fun v43 ev43 qv43 => ?_)
                    have ev43 : (w1) ((u0_9 + tc62_0)) = v43 := (congrFun (((show A18 1 = A_c109 1 from (eA18 1))).trans ((funext (hA_c109 1 rfl)).trans (((show A16 1 = A_c62 1 from (eA16 1).trans (funext (hA16 0 rfl)))).trans ((funext (hA_c62 1 rfl)).trans (ew1))))) ((u0_9 + tc62_0))).symm.trans ev43
                    have hvs := ev43
                    have hvw : (ub8 ((w1))) (((u0_9 + tc62_0))) = u8 ((v43)) := by show u8 _ = _; rw [hvs]
                    refine Ew_of (pc' := 240) (fun _ => x_iload rfl (rk_o (rk_o (rk_s) rfl rfl) rfl rfl)) ?_
                    refine Ew_of (pc' := 242) (fun _ => x_ldc (z := 65536) rfl (by decide)) ?_
                    refine v_min rfl rfl (show inr (z17) by omega) (show inr (65536) by omega) (fun z44 gz44 => ?_)
                    have hmin : (z44) = (z17) ∧ (z17) ≤ 65536 ∨ (z44) = 65536 ∧ 65536 ≤ (z17) := by omega
                    refine v_inv H (o := 2) rfl rfl rfl rfl rfl rfl (by rfl) (C162 (D := pul [2, 3] D) (N := pul [2, 3] N) (HW_sub H (VS_of (show vsub V244 V162 [2, 3] = true by decide +kernel))) (((((((show F18 2 0 = F_c109 2 0 from (eF18 2 0))).trans (hS_c109 2 0 rfl)).trans ((show F16 2 0 = F_c62 2 0 from (eF16 2 0)))).trans (hS_c62 2 0 rfl))).trans (pf3)) (n3) (en3) (u2_1) (((((((show F18 2 1 = F_c109 2 1 from (eF18 2 1))).trans (hS_c109 2 1 rfl)).trans ((show F16 2 1 = F_c62 2 1 from (eF16 2 1)))).trans (hS_c62 2 1 rfl)).trans (eu2_1))) (u2_2) (((((((show F18 2 2 = F_c109 2 2 from (eF18 2 2))).trans (hS_c109 2 2 rfl)).trans ((show F16 2 2 = F_c62 2 2 from (eF16 2 2)))).trans (hS_c62 2 2 rfl)).trans (eu2_2))) (w3) (((show A18 3 = A_c109 3 from (eA18 3))).trans ((funext (hA_c109 3 rfl)).trans (((show A16 3 = A_c62 3 from (eA16 3))).trans ((funext (hA_c62 3 rfl)).trans (ew3))))) (show inr (v43) by omega) (show inr (z44) by omega) (show 0 ≤ (u2_1) ∧ (u2_1) ≤ (n3) ∧ (n3) ≤ 65536 by omega) (fun σ45 D45' N45' F45' A45' c45 s45 H' O' hD45 hN45 hS45 hA45 pm45_1 m45_1 em45_1 y45_0_1 ey45_0_1 y45_0_2 ey45_0_2 w45_1 ew45_1 pz45_0 pz45_1 pz45_2 => ⟨rfl, ?_⟩))
                    replace pm45_1 := HIDm pm45_1
                    replace em45_1 := HIDm em45_1
                    replace ey45_0_1 := HIDm ey45_0_1
                    replace ey45_0_2 := HIDm ey45_0_2
                    refine v_backM (c := c) (s := s) H (show vsub V244 V162 [2, 3] = true by decide +kernel) H' O' hD45 (show vmov V244 [2, 3] [1] = true by decide +kernel) (fun D45 N45 F45 A45 H O' eD45 eN45 eF45 eA45 => ?_)
                    have O := OUT_trans O O'
                    -- Row.addSame
                    have pf45_0_4 : HID (F45 0 4 = (D45 2 : Int)) := ((show F45 0 4 = (updF (updF F18 0 9 ((u0_9 + tc62_0))) 0 19 (z17)) 0 4 from (eF45 0 4))).trans ((((((((show F18 0 4 = F_c109 0 4 from (eF18 0 4).trans (hS18 0 4 rfl))).trans (hS_c109 0 4 rfl)).trans ((show F16 0 4 = F_c62 0 4 from (eF16 0 4)))).trans (hS_c62 0 4 rfl))).trans (pf2)).trans (congrArg (fun q : Nat => (q : Int)) ((show D45 2 = D 2 from (eD45 2).trans (hD45 0 rfl))).symm))
                    have pf45_0_7 : HID (F45 0 7 = (D45 1 : Int)) := ((show F45 0 7 = (updF (updF F18 0 9 ((u0_9 + tc62_0))) 0 19 (z17)) 0 7 from (eF45 0 7))).trans ((((((((show F18 0 7 = F_c109 0 7 from (eF18 0 7).trans (hS18 0 7 rfl))).trans (hS_c109 0 7 rfl)).trans ((show F16 0 7 = F_c62 0 7 from (eF16 0 7)))).trans (hS_c62 0 7 rfl))).trans (pf1)).trans (congrArg (fun q : Nat => (q : Int)) ((show D45 1 = D 1 from (eD45 1))).symm))
                    have pf45_2_0 : HID (F45 2 0 = (D45 3 : Int)) := (eF45 2 0).trans (pm45_1.trans (congrArg (fun q : Nat => (q : Int)) (eD45 3).symm))
                    have r46 : (0 : Int) ≤ m45_1 ∧ m45_1 ≤ 1000000 := by have h1 := H.nle 3 (by decide); have h2 : (N45 3 : Int) = m45_1 := (congrArg (fun q : Nat => (q : Int)) (eN45 3)).trans em45_1; omega
                    have r47 : (-2147483648 : Int) ≤ y45_0_1 ∧ y45_0_1 ≤ 2147483647 := by have h1 : (-2147483648 : Int) ≤ F45 2 1 ∧ F45 2 1 ≤ 2147483647 := H.krg 2 1 (by decide); rw [show F45 2 1 = y45_0_1 from ((eF45 2 1).trans ey45_0_1)] at h1; exact h1
                    have r48 : (0 : Int) ≤ y45_0_2 ∧ y45_0_2 ≤ 1 := by have h1 : (0 : Int) ≤ F45 2 2 ∧ F45 2 2 ≤ 1 := H.krg 2 2 (by decide); rw [show F45 2 2 = y45_0_2 from ((eF45 2 2).trans ey45_0_2)] at h1; exact h1
                    have : ∃ L : List Int, (z17) = (L.length : Int) ∧ LKP ((w45_1)) ((y45_0_1)) 65536 L ∧ (q5 = 1 ∧ L = sc (ub8 ((w1))) (((u0_9 + tc62_0))) (((u0_9 + tc62_0)) + q4) ∨ q5 ≠ 1 ∧ L = List.replicate (q4).toNat ((ub8 ((w1))) (((u0_9 + tc62_0))))) := by first | exact ⟨_, by rw [sc_lenI (by omega)]; omega, LKP_all (by have h := (RAP_from (a := 0) (pz33_3 (by omega)) (by omega) (by omega) (by rw [sc_lenI (by omega)]; omega) (by omega)).2; rw [h, sc_nil (by omega), List.nil_append, sc_u]) (by omega), .inl ⟨by omega, by rw [hq4]⟩⟩ | exact ⟨_, by rw [List.length_replicate]; omega, LKP_rep (n := q4) (w := (ub8 ((w1))) (((u0_9 + tc62_0)))) (by have h := (RAP_from (a := 0) (pz45_2 (by omega)) (by omega) (by omega) (by rw [List.length_replicate]; omega) (by omega)).2; rw [h, sc_nil (by omega), List.nil_append, hvw]; congr 1; omega) (by omega) (by omega), .inr ⟨by omega, rfl⟩⟩
                    exact hc248  _ _ _ _ _ _ _ _  ((rk_o (rk_o (rk_o (lc109_0) rfl rfl) rfl rfl) rfl rfl).trans (congrArg (fun q : Nat => some (Value.ref q)) (((show D45 0 = D 0 from (eD45 0)))).symm)) (rk_s) H O (SD_trans (SD_refl) (SD_glu (ι := [2, 3]) hD45 eD45 (by decide +kernel)) (any_subA (l' := [3]) rfl)) (SD_trans (SD_refl) (SD_glu (ι := [2, 3]) hN45 eN45 (by decide +kernel)) (any_subA (l' := [3]) rfl)) (SF_trans (SF_refl) (SF_glu (ι := [2, 3]) hS45 eF45 (by decide +kernel)) (any_sub (l' := [(2, 0), (2, 1), (2, 2)]) rfl)) (SA_trans (SA_refl) (SA_glu (ι := [2, 3]) hA45 eA45 (by decide +kernel)) (any_subA (l' := [3]) rfl)) (pf45_2_0) (m45_1) ((congrArg (fun q : Nat => (q : Int)) (eN45 3)).trans em45_1) (y45_0_1) (((eF45 2 1).trans ey45_0_1)) (w45_1) ((eA45 3).trans ew45_1) (show 0 ≤ (y45_0_1) ∧ (y45_0_1) ≤ (m45_1) ∧ (m45_1) ≤ 65536 by omega) (show ((z17) ≤ (m45_1) ∨ (m45_1) = 65536) by omega) (show ∃ L : List Int, (z17) = (L.length : Int) ∧ LKP ((w45_1)) ((y45_0_1)) 65536 L ∧ (q5 = 1 ∧ L = sc (ub8 ((w1))) (((u0_9 + tc62_0))) (((u0_9 + tc62_0)) + q4) ∨ q5 ≠ 1 ∧ L = List.replicate (q4).toNat ((ub8 ((w1))) (((u0_9 + tc62_0))))) by assumption)
                  · refine Ew_of (pc' := 206) (fun _ => x_aload_n rfl (rk_o (rk_o (rk_o (lc109_0) rfl rfl) rfl rfl) rfl rfl)) ?_
                    refine v_g H (o := 0) (v := .ref (D 2)) rfl rfl rfl rfl rfl (vrf (((((((show F18 0 4 = F_c109 0 4 from (eF18 0 4).trans (hS18 0 4 rfl))).trans (hS_c109 0 4 rfl)).trans ((show F16 0 4 = F_c62 0 4 from (eF16 0 4)))).trans (hS_c62 0 4 rfl))).trans (pf2))) ?_
                    refine Ew_of (pc' := 210) (fun _ => x_aload_n rfl (rk_o (rk_o (rk_o (lc109_0) rfl rfl) rfl rfl) rfl rfl)) ?_
                    refine v_g H (o := 0) (v := .ref (D 1)) rfl rfl rfl rfl rfl (vrf (((((((show F18 0 7 = F_c109 0 7 from (eF18 0 7).trans (hS18 0 7 rfl))).trans (hS_c109 0 7 rfl)).trans ((show F16 0 7 = F_c62 0 7 from (eF16 0 7)))).trans (hS_c62 0 7 rfl))).trans (pf1))) ?_
                    refine Ew_of (pc' := 214) (fun _ => x_aload_n rfl (rk_o (rk_o (rk_o (lc109_0) rfl rfl) rfl rfl) rfl rfl)) ?_
                    refine v_g H (o := 0) (v := I ((u0_9 + tc62_0))) rfl rfl rfl rfl rfl (congrArg (fun z : Int => I z) (rfl : (updF (updF F18 0 9 ((u0_9 + tc62_0))) 0 19 (z17)) 0 9 = (u0_9 + tc62_0))) ?_
                    refine Ew_of (pc' := 219) (fun _ => x_iload rfl (rk_o (rk_o (rk_s) rfl rfl) rfl rfl)) ?_
                    refine v_inv H (o := 2) rfl rfl rfl rfl rfl rfl (by rfl) (C161_Br (D := pul [2, 1, 3] D) (N := pul [2, 1, 3] N) (HW_sub H (VS_of (show vsub V244 V161_Br [2, 1, 3] = true by decide +kernel))) (((((((show F18 2 0 = F_c109 2 0 from (eF18 2 0))).trans (hS_c109 2 0 rfl)).trans ((show F16 2 0 = F_c62 2 0 from (eF16 2 0)))).trans (hS_c62 2 0 rfl))).trans (pf3)) (n1) (en1) (n3) (en3) (u2_1) (((((((show F18 2 1 = F_c109 2 1 from (eF18 2 1))).trans (hS_c109 2 1 rfl)).trans ((show F16 2 1 = F_c62 2 1 from (eF16 2 1)))).trans (hS_c62 2 1 rfl)).trans (eu2_1))) (u2_2) (((((((show F18 2 2 = F_c109 2 2 from (eF18 2 2))).trans (hS_c109 2 2 rfl)).trans ((show F16 2 2 = F_c62 2 2 from (eF16 2 2)))).trans (hS_c62 2 2 rfl)).trans (eu2_2))) (w1) (((show A18 1 = A_c109 1 from (eA18 1))).trans ((funext (hA_c109 1 rfl)).trans (((show A16 1 = A_c62 1 from (eA16 1).trans (funext (hA16 0 rfl)))).trans ((funext (hA_c62 1 rfl)).trans (ew1))))) (w3) (((show A18 3 = A_c109 3 from (eA18 3))).trans ((funext (hA_c109 3 rfl)).trans (((show A16 3 = A_c62 3 from (eA16 3))).trans ((funext (hA_c62 3 rfl)).trans (ew3))))) (show inr ((u0_9 + tc62_0)) by omega) (show inr (z17) by omega) (show 0 ≤ (u2_1) ∧ (u2_1) ≤ (n3) ∧ (n3) ≤ 65536 by omega) (show (z17) < 0 ∨ 0 ≤ ((u0_9 + tc62_0)) ∧ ((u0_9 + tc62_0)) + (z17) ≤ (n1) by omega) (fun σ49 D49' N49' F49' A49' c49 s49 H' O' hD49 hN49 hS49 hA49 pm49_2 m49_2 em49_2 y49_0_1 ey49_0_1 y49_0_2 ey49_0_2 w49_2 ew49_2 pz49_0 pz49_1 pz49_2 pz49_3 => ⟨rfl, ?_⟩))
                    replace pm49_2 := HIDm pm49_2
                    replace em49_2 := HIDm em49_2
                    replace ey49_0_1 := HIDm ey49_0_1
                    replace ey49_0_2 := HIDm ey49_0_2
                    refine v_backM (c := c) (s := s) H (show vsub V244 V161_Br [2, 1, 3] = true by decide +kernel) H' O' hD49 (show vmov V244 [2, 1, 3] [2] = true by decide +kernel) (fun D49 N49 F49 A49 H O' eD49 eN49 eF49 eA49 => ?_)
                    have O := OUT_trans O O'
                    -- Row.addPart
                    have pf49_0_4 : HID (F49 0 4 = (D49 2 : Int)) := ((show F49 0 4 = (updF (updF F18 0 9 ((u0_9 + tc62_0))) 0 19 (z17)) 0 4 from (eF49 0 4))).trans ((((((((show F18 0 4 = F_c109 0 4 from (eF18 0 4).trans (hS18 0 4 rfl))).trans (hS_c109 0 4 rfl)).trans ((show F16 0 4 = F_c62 0 4 from (eF16 0 4)))).trans (hS_c62 0 4 rfl))).trans (pf2)).trans (congrArg (fun q : Nat => (q : Int)) ((show D49 2 = D 2 from (eD49 2).trans (hD49 0 rfl))).symm))
                    have pf49_0_7 : HID (F49 0 7 = (D49 1 : Int)) := ((show F49 0 7 = (updF (updF F18 0 9 ((u0_9 + tc62_0))) 0 19 (z17)) 0 7 from (eF49 0 7))).trans ((((((((show F18 0 7 = F_c109 0 7 from (eF18 0 7).trans (hS18 0 7 rfl))).trans (hS_c109 0 7 rfl)).trans ((show F16 0 7 = F_c62 0 7 from (eF16 0 7)))).trans (hS_c62 0 7 rfl))).trans (pf1)).trans (congrArg (fun q : Nat => (q : Int)) ((show D49 1 = D 1 from (eD49 1).trans (hD49 1 rfl))).symm))
                    have pf49_2_0 : HID (F49 2 0 = (D49 3 : Int)) := (eF49 2 0).trans (pm49_2.trans (congrArg (fun q : Nat => (q : Int)) (eD49 3).symm))
                    have r50 : (0 : Int) ≤ m49_2 ∧ m49_2 ≤ 1000000 := by have h1 := H.nle 3 (by decide); have h2 : (N49 3 : Int) = m49_2 := (congrArg (fun q : Nat => (q : Int)) (eN49 3)).trans em49_2; omega
                    have r51 : (-2147483648 : Int) ≤ y49_0_1 ∧ y49_0_1 ≤ 2147483647 := by have h1 : (-2147483648 : Int) ≤ F49 2 1 ∧ F49 2 1 ≤ 2147483647 := H.krg 2 1 (by decide); rw [show F49 2 1 = y49_0_1 from ((eF49 2 1).trans ey49_0_1)] at h1; exact h1
                    have r52 : (0 : Int) ≤ y49_0_2 ∧ y49_0_2 ≤ 1 := by have h1 : (0 : Int) ≤ F49 2 2 ∧ F49 2 2 ≤ 1 := H.krg 2 2 (by decide); rw [show F49 2 2 = y49_0_2 from ((eF49 2 2).trans ey49_0_2)] at h1; exact h1
                    refine Ew_of (pc' := 248) (fun _ => x_goto rfl rfl) ?_
                    have : ∃ L : List Int, (z17) = (L.length : Int) ∧ LKP ((w49_2)) ((y49_0_1)) 65536 L ∧ (q5 = 1 ∧ L = sc (ub8 ((w1))) (((u0_9 + tc62_0))) (((u0_9 + tc62_0)) + q4) ∨ q5 ≠ 1 ∧ L = List.replicate (q4).toNat ((ub8 ((w1))) (((u0_9 + tc62_0))))) := by first | exact ⟨_, by rw [sc_lenI (by omega)]; omega, LKP_all (by have h := (RAP_from (a := 0) (pz49_3 (by omega)) (by omega) (by omega) (by rw [sc_lenI (by omega)]; omega) (by omega)).2; rw [h, sc_nil (by omega), List.nil_append, sc_u]) (by omega), .inl ⟨by omega, by rw [hq4]⟩⟩ | exact ⟨_, by rw [List.length_replicate]; omega, LKP_rep (n := q4) (w := (ub8 ((w1))) (((u0_9 + tc62_0)))) (by have h := (RAP_from (a := 0) (pz45_2 (by omega)) (by omega) (by omega) (by rw [List.length_replicate]; omega) (by omega)).2; rw [h, sc_nil (by omega), List.nil_append, hvw]; congr 1; omega) (by omega) (by omega), .inr ⟨by omega, rfl⟩⟩
                    exact hc248  _ _ _ _ _ _ _ _  ((rk_o (rk_o (rk_o (lc109_0) rfl rfl) rfl rfl) rfl rfl).trans (congrArg (fun q : Nat => some (Value.ref q)) (((show D49 0 = D 0 from (eD49 0)))).symm)) (rk_s) H O (SD_trans (SD_refl) (SD_glu (ι := [2, 1, 3]) hD49 eD49 (by decide +kernel)) (any_subA (l' := [3]) rfl)) (SD_trans (SD_refl) (SD_glu (ι := [2, 1, 3]) hN49 eN49 (by decide +kernel)) (any_subA (l' := [3]) rfl)) (SF_trans (SF_refl) (SF_glu (ι := [2, 1, 3]) hS49 eF49 (by decide +kernel)) (any_sub (l' := [(2, 0), (2, 1), (2, 2)]) rfl)) (SA_trans (SA_refl) (SA_glu (ι := [2, 1, 3]) hA49 eA49 (by decide +kernel)) (any_subA (l' := [3]) rfl)) (pf49_2_0) (m49_2) ((congrArg (fun q : Nat => (q : Int)) (eN49 3)).trans em49_2) (y49_0_1) (((eF49 2 1).trans ey49_0_1)) (w49_2) ((eA49 3).trans ew49_2) (show 0 ≤ (y49_0_1) ∧ (y49_0_1) ≤ (m49_2) ∧ (m49_2) ≤ 65536 by omega) (show ((z17) ≤ (m49_2) ∨ (m49_2) = 65536) by omega) (show ∃ L : List Int, (z17) = (L.length : Int) ∧ LKP ((w49_2)) ((y49_0_1)) 65536 L ∧ (q5 = 1 ∧ L = sc (ub8 ((w1))) (((u0_9 + tc62_0))) (((u0_9 + tc62_0)) + q4) ∨ q5 ≠ 1 ∧ L = List.replicate (q4).toNat ((ub8 ((w1))) (((u0_9 + tc62_0))))) by assumption)
                · refine Ew_of (pc' := 184) (fun _ => x_aload_n rfl (rk_o (rk_o (rk_o (lc109_0) rfl rfl) rfl rfl) rfl rfl)) ?_
                  refine Ew_of (pc' := 186) (fun _ => x_bipush (z := 10) rfl (by decide)) ?_
                  refine Ew_of (pc' := 187) (fun _ => x_aload_n rfl (rk_o (rk_o (rk_o (lc109_0) rfl rfl) rfl rfl) rfl rfl)) ?_
                  refine v_g H (o := 0) (v := I (u0_18)) rfl rfl rfl rfl rfl (congrArg (fun z : Int => I z) (((((((show F18 0 18 = F_c109 0 18 from (eF18 0 18).trans (hS18 0 18 rfl))).trans (hS_c109 0 18 rfl)).trans ((show F16 0 18 = F_c62 0 18 from (eF16 0 18)))).trans (hS_c62 0 18 rfl)).trans (eu0_18)) : (updF F18 0 9 ((u0_9 + tc62_0))) 0 18 = u0_18)) ?_
                  refine v_inv H (o := 0) rfl rfl rfl rfl rfl rfl (by rfl) (C232 (D := pul [0] D) (N := pul [0] N) (HW_sub H (VS_of (show vsub V244 V232 [0] = true by decide +kernel))) (u0_21) (((((((show F18 0 21 = F_c109 0 21 from (eF18 0 21).trans (hS18 0 21 rfl))).trans (hS_c109 0 21 rfl)).trans ((show F16 0 21 = F_c62 0 21 from (eF16 0 21)))).trans (hS_c62 0 21 rfl)).trans (eu0_21))) (show inr (10) by omega) (show inr (u0_18) by omega) (fun z53 σ53 F53' A53' H' O' hS53 hA53 y53_0_21 ey53_0_21 pz53_0 pz53_1 pz53_2 => ⟨rfl, ?_⟩))
                  replace ey53_0_21 := HIDm ey53_0_21
                  refine v_back (c := c) (s := s) H (show vsub V244 V232 [0] = true by decide +kernel) H' O' (fun F53 A53 H O' eF53 eA53 => ?_)
                  have O := OUT_trans O O'
                  -- Unpacker.fail
                  have r54 : (-2147483648 : Int) ≤ y53_0_21 ∧ y53_0_21 ≤ 2147483647 := by have h1 : (-2147483648 : Int) ≤ F53 0 21 ∧ F53 0 21 ≤ 2147483647 := H.krg 0 21 (by decide); rw [show F53 0 21 = y53_0_21 from ((eF53 0 21).trans ey53_0_21)] at h1; exact h1
                  have : PLA (ub8 ((w1))) ((u0_9)) ((u0_18)) (moF ((u0_15))) ((z53)) ((y53_0_21)) (((u0_9 + tc62_0))) ((u0_19)) ((u2_1)) ((w3)) := PLA_f (fun T G => (hLT T G).trans (LT0_10 (fo := (z17)) (by omega) (by omega) (by omega) (by omega))) (by decide) (by omega) (by omega)
                  exact w_ireturn rfl (k (z53) _ _ _ _ _ _ _ H O (SD_refl) (SD_refl) (SF_trans (SF_upd (SF_trans (SF_trans (SF_trans (SF_trans (SF_refl) hS_c62 (any_sub rfl)) (SF_glu (ι := [1]) hS16 eF16 (by decide +kernel)) (any_sub (l' := []) rfl)) hS_c109 (any_sub rfl)) (SF_glu (ι := [0]) hS18 eF18 (by decide +kernel)) (any_sub (l' := []) rfl)) rfl) (SF_glu (ι := [0]) hS53 eF53 (by decide +kernel)) (any_sub (l' := [(0, 21)]) rfl)) (SA_trans (SA_trans (SA_trans (SA_trans (SA_trans (SA_refl) hA_c62 (any_subA rfl)) (SA_glu (ι := [1]) hA16 eA16 (by decide +kernel)) (any_subA (l' := []) rfl)) hA_c109 (any_subA rfl)) (SA_glu (ι := [0]) hA18 eA18 (by decide +kernel)) (any_subA (l' := []) rfl)) (SA_glu (ι := [0]) hA53 eA53 (by decide +kernel)) (any_subA (l' := []) rfl)) ((((((((show F53 2 0 = (updF F18 0 9 ((u0_9 + tc62_0))) 2 0 from (eF53 2 0))).trans ((show F18 2 0 = F_c109 2 0 from (eF18 2 0)))).trans (hS_c109 2 0 rfl)).trans ((show F16 2 0 = F_c62 2 0 from (eF16 2 0)))).trans (hS_c62 2 0 rfl))).trans (pf3)) (n3) (en3) ((u0_9 + tc62_0)) (((show F53 0 9 = (updF F18 0 9 ((u0_9 + tc62_0))) 0 9 from (eF53 0 9).trans (hS53 0 9 rfl)))) (u0_19) ((((((((show F53 0 19 = (updF F18 0 9 ((u0_9 + tc62_0))) 0 19 from (eF53 0 19).trans (hS53 0 19 rfl))).trans ((show F18 0 19 = F_c109 0 19 from (eF18 0 19).trans (hS18 0 19 rfl)))).trans (hS_c109 0 19 rfl)).trans ((show F16 0 19 = F_c62 0 19 from (eF16 0 19)))).trans (hS_c62 0 19 rfl)).trans (eu0_19))) (y53_0_21) (((eF53 0 21).trans ey53_0_21)) (u2_1) ((((((((show F53 2 1 = (updF F18 0 9 ((u0_9 + tc62_0))) 2 1 from (eF53 2 1))).trans ((show F18 2 1 = F_c109 2 1 from (eF18 2 1)))).trans (hS_c109 2 1 rfl)).trans ((show F16 2 1 = F_c62 2 1 from (eF16 2 1)))).trans (hS_c62 2 1 rfl)).trans (eu2_1))) (w3) (((show A53 3 = A18 3 from (eA53 3))).trans (((show A18 3 = A_c109 3 from (eA18 3))).trans ((funext (hA_c109 3 rfl)).trans (((show A16 3 = A_c62 3 from (eA16 3))).trans ((funext (hA_c62 3 rfl)).trans (ew3)))))) (show inr (z53) by omega) (show 0 ≤ (z53) ∧ (z53) ≤ 17 by omega) (show 0 ≤ ((u0_9 + tc62_0)) ∧ (u0_9) ≤ ((u0_9 + tc62_0)) ∧ ((u0_9 + tc62_0)) ≤ (u0_8) by omega) (show ((u0_9 + tc62_0)) ≤ (u0_18) by omega) (show 0 ≤ (u2_1) ∧ (u2_1) ≤ (n3) ∧ (n3) ≤ 65536 by omega) (show (z53) ≠ 0 ∨ 0 ≤ (u0_19) ∧ (u0_19) ≤ 131072 ∧ ((u0_19) ≤ (n3) ∨ (n3) = 65536) by omega) (show PLA (ub8 ((w1))) ((u0_9)) ((u0_18)) (moF ((u0_15))) ((z53)) ((y53_0_21)) (((u0_9 + tc62_0))) ((u0_19)) ((u2_1)) ((w3)) by assumption) (show (z53) ≠ 0 ∨ (u0_19) ≤ moF ((u0_15)) by omega) (show (z53) ≠ 0 ∨ (y53_0_21) = (u0_21) by omega))
            · refine Ew_of (pc' := 150) (fun _ => x_iconst rfl) ?_
              refine Ew_of (pc' := 154) (fun _ => x_goto rfl rfl) ?_
              refine Ew_of (pc' := 156) (fun _ => x_istore rfl) ?_
              obtain ⟨q5, hq5⟩ : ∃ q : Int, q = (1) := ⟨_, rfl⟩
              have hq5c : q5 = 1 ∧ ((v12 % 256)) % 4 = 0 ∨ q5 ≠ 1 ∧ ((v12 % 256)) % 4 ≠ 0 := by omega
              obtain ⟨q1, hq1⟩ : ∃ q : Int, q = ((v12 % 256)) := ⟨_, rfl⟩
              obtain ⟨q3, hq3⟩ : ∃ q : Int, q = (tc62_0) := ⟨_, rfl⟩
              have hLT := fun T G => LTF_0 (I := ub8 ((w1))) (at_ := (u0_9)) (e := (u0_18)) (mo := moF ((u0_15))) (T := T) (G := G) (b := (tc62_0)) (n := qn) (d := q9) (by omega) hbl rfl hb4 rfl (by rw [← hlx]; exact hl3) hqn hq9c
              rw [← hq1, ← hq3] at hLT
              rw [← hq1] at hq5c
              refine Ew_of (pc' := 158) (fun _ => x_iload rfl rk_s) ?_
              refine w_ifeq (t := 166) rfl rfl (show inr (1) by omega) (fun b55 => ?_) (fun b55 => ?_)
              · refine Ew_of (pc' := 167) (fun _ => x_iconst rfl) ?_
                refine Ew_of (pc' := 169) (fun _ => x_istore rfl) ?_
                refine Ew_of (pc' := 170) (fun _ => x_aload_n rfl (rk_o (rk_o (rk_o (lc109_0) rfl rfl) rfl rfl) rfl rfl)) ?_
                refine v_g H (o := 0) (v := I (u0_18)) rfl rfl rfl rfl rfl (congrArg (fun z : Int => I z) (((((((show F18 0 18 = F_c109 0 18 from (eF18 0 18).trans (hS18 0 18 rfl))).trans (hS_c109 0 18 rfl)).trans ((show F16 0 18 = F_c62 0 18 from (eF16 0 18)))).trans (hS_c62 0 18 rfl)).trans (eu0_18)) : (updF F18 0 9 ((u0_9 + tc62_0))) 0 18 = u0_18)) ?_
                refine Ew_of (pc' := 174) (fun _ => x_aload_n rfl (rk_o (rk_o (rk_o (lc109_0) rfl rfl) rfl rfl) rfl rfl)) ?_
                refine v_g H (o := 0) (v := I ((u0_9 + tc62_0))) rfl rfl rfl rfl rfl (congrArg (fun z : Int => I z) (rfl : (updF F18 0 9 ((u0_9 + tc62_0))) 0 9 = (u0_9 + tc62_0))) ?_
                refine w_isub rfl ?_
                refine Ew_of (pc' := 180) (fun _ => x_iload rfl rk_s) ?_
                refine w_icmpge (t := 194) rfl rfl (show inr ((u0_18 - (u0_9 + tc62_0))) by omega) (show inr (1) by omega) (fun b56 => ?_) (fun b56 => ?_)
                · refine Ew_of (pc' := 195) (fun _ => x_aload_n rfl (rk_o (rk_o (rk_o (lc109_0) rfl rfl) rfl rfl) rfl rfl)) ?_
                  refine Ew_of (pc' := 197) (fun _ => x_iload rfl (rk_o (rk_o (rk_s) rfl rfl) rfl rfl)) ?_
                  obtain ⟨q4, hq4⟩ : ∃ q : Int, q = (z17) := ⟨_, rfl⟩
                  have hq6 : q5 = 1 ∧ (1) = q4 ∨ q5 ≠ 1 ∧ (1) = 1 := by omega
                  refine v_p H (o := 0) (z := z17) (v := I (z17)) rfl rfl rfl rfl rfl rfl rfl rfl (show (-2147483648 : Int) ≤ z17 ∧ z17 ≤ 2147483647 by omega) (fun σ H O' => ?_)
                  have O := OUT_trans O O'
                  have hc248 : ∀ (ls : rO) (σ : rS) (D_c248 N_c248 : Nat → Nat) (c_c248 s_c248 : Nat) (F_c248 : hF) (A_c248 : hA) , rlook ls 0 = some (.ref (D_c248 0)) → rlook ls 6 = some (I (1)) → HW V244 σ D_c248 N_c248 F_c248 A_c248 → OUT (V244).length D N σE c s D_c248 N_c248 σ c_c248 s_c248 → SD [3] D D_c248 → SD [3] N N_c248 → SF [(2, 0), (2, 1), (2, 2)] (updF (updF F18 0 9 ((u0_9 + tc62_0))) 0 19 (z17)) F_c248 → SA [3] A18 A_c248 → F_c248 2 0 = (D_c248 3 : Int) → ∀ mc248_3 : Int, (N_c248 3 : Int) = mc248_3 → ∀ yc248_2_1 : Int, F_c248 2 1 = yc248_2_1 → ∀ wc248_3 : Int → Int, A_c248 3 = wc248_3 → (0 ≤ (yc248_2_1) ∧ (yc248_2_1) ≤ (mc248_3) ∧ (mc248_3) ≤ 65536) → (((z17) ≤ (mc248_3) ∨ (mc248_3) = 65536)) → (∃ L : List Int, (z17) = (L.length : Int) ∧ LKP ((wc248_3)) ((yc248_2_1)) 65536 L ∧ (q5 = 1 ∧ L = sc (ub8 ((w1))) (((u0_9 + tc62_0))) (((u0_9 + tc62_0)) + q4) ∨ q5 ≠ 1 ∧ L = List.replicate (q4).toNat ((ub8 ((w1))) (((u0_9 + tc62_0)))))) → Ew 244 (d + 3) 248 ls [] σ c_c248 s_c248 Q := by
                   as_aux_lemma =>
                    intro  ls σ D_c248 N_c248 c_c248 s_c248 F_c248 A_c248  lc248_0 lc248_6 H O hD_c248 hN_c248 hS_c248 hA_c248 pmc248_3 mc248_3 emc248_3 yc248_2_1 eyc248_2_1 wc248_3 ewc248_3 jc248_0 jc248_1 jc248_2
                    replace pmc248_3 := HIDm pmc248_3
                    replace emc248_3 := HIDm emc248_3
                    replace eyc248_2_1 := HIDm eyc248_2_1
                    have pf_c248_0_4 : HID (F_c248 0 4 = (D_c248 2 : Int)) := (hS_c248 0 4 rfl).trans ((((((((show F18 0 4 = F_c109 0 4 from (eF18 0 4).trans (hS18 0 4 rfl))).trans (hS_c109 0 4 rfl)).trans ((show F16 0 4 = F_c62 0 4 from (eF16 0 4)))).trans (hS_c62 0 4 rfl))).trans (pf2)).trans (congrArg (fun q : Nat => (q : Int)) (hD_c248 2 rfl).symm))
                    have pf_c248_0_7 : HID (F_c248 0 7 = (D_c248 1 : Int)) := (hS_c248 0 7 rfl).trans ((((((((show F18 0 7 = F_c109 0 7 from (eF18 0 7).trans (hS18 0 7 rfl))).trans (hS_c109 0 7 rfl)).trans ((show F16 0 7 = F_c62 0 7 from (eF16 0 7)))).trans (hS_c62 0 7 rfl))).trans (pf1)).trans (congrArg (fun q : Nat => (q : Int)) (hD_c248 1 rfl).symm))
                    have r57 : (0 : Int) ≤ mc248_3 ∧ mc248_3 ≤ 1000000 := by have h1 := H.nle 3 (by decide); have h2 : (N_c248 3 : Int) = mc248_3 := emc248_3; omega
                    have r58 : (-2147483648 : Int) ≤ yc248_2_1 ∧ yc248_2_1 ≤ 2147483647 := by have h1 : (-2147483648 : Int) ≤ F_c248 2 1 ∧ F_c248 2 1 ≤ 2147483647 := H.krg 2 1 (by decide); rw [show F_c248 2 1 = yc248_2_1 from (eyc248_2_1)] at h1; exact h1
                    have k248 : ∃ L : List Int, (z17) = (L.length : Int) ∧ LKP ((wc248_3)) ((yc248_2_1)) 65536 L ∧ (q5 = 1 ∧ L = sc (ub8 ((w1))) (((u0_9 + tc62_0))) (((u0_9 + tc62_0)) + q4) ∨ q5 ≠ 1 ∧ L = List.replicate (q4).toNat ((ub8 ((w1))) (((u0_9 + tc62_0))))) := by assumption
                    refine Ew_of (pc' := 249) (fun _ => x_aload_n rfl lc248_0) ?_
                    refine Ew_of (pc' := 250) (fun _ => x_dup rfl rfl) ?_
                    refine v_g H (o := 0) (v := I ((u0_9 + tc62_0))) rfl rfl rfl rfl rfl (congrArg (fun z : Int => I z) ((hS_c248 0 9 rfl) : F_c248 0 9 = (u0_9 + tc62_0))) ?_
                    refine Ew_of (pc' := 255) (fun _ => x_iload rfl lc248_6) ?_
                    refine w_iadd rfl ?_
                    refine v_p H (o := 0) (z := ((u0_9 + tc62_0) + 1)) (v := I (((u0_9 + tc62_0) + 1))) rfl rfl rfl rfl rfl rfl rfl rfl (show (-2147483648 : Int) ≤ ((u0_9 + tc62_0) + 1) ∧ ((u0_9 + tc62_0) + 1) ≤ 2147483647 by omega) (fun σ H O' => ?_)
                    have O := OUT_trans O O'
                    refine Ew_of (pc' := 260) (fun _ => x_iconst rfl) ?_
                    have : PLA (ub8 ((w1))) ((u0_9)) ((u0_18)) (moF ((u0_15))) ((0)) ((u0_21)) ((((u0_9 + tc62_0) + 1))) ((z17)) ((yc248_2_1)) ((wc248_3)) := by obtain ⟨L, hL1, hL2, hL3⟩ := k248; exact .inr ⟨by omega, L, hL1, hL2, fun T G => (hLT T G).trans (LT0_y (fo := (1)) (by omega) (by omega) (by rcases hL3 with ⟨a, b⟩ | ⟨a, b⟩; (exact .inl ⟨by omega, by omega, by rw [b]; congr 1 <;> omega⟩); (exact .inr ⟨by omega, by omega, by rw [b, show q4 = qn by omega]; congr 2; omega⟩)) (by omega) (by omega))⟩
                    exact w_ireturn rfl (k (0) _ _ _ _ _ _ _ H O (SD_trans (SD_refl) hD_c248 (any_subA rfl)) (SD_trans (SD_refl) hN_c248 (any_subA rfl)) (SF_upd (SF_trans (SF_upd (SF_upd (SF_trans (SF_trans (SF_trans (SF_trans (SF_refl) hS_c62 (any_sub rfl)) (SF_glu (ι := [1]) hS16 eF16 (by decide +kernel)) (any_sub (l' := []) rfl)) hS_c109 (any_sub rfl)) (SF_glu (ι := [0]) hS18 eF18 (by decide +kernel)) (any_sub (l' := []) rfl)) rfl) rfl) hS_c248 (any_sub rfl)) rfl) (SA_trans (SA_trans (SA_trans (SA_trans (SA_trans (SA_refl) hA_c62 (any_subA rfl)) (SA_glu (ι := [1]) hA16 eA16 (by decide +kernel)) (any_subA (l' := []) rfl)) hA_c109 (any_subA rfl)) (SA_glu (ι := [0]) hA18 eA18 (by decide +kernel)) (any_subA (l' := []) rfl)) hA_c248 (any_subA rfl)) (pmc248_3) (mc248_3) (emc248_3) (((u0_9 + tc62_0) + 1)) (rfl) (z17) ((hS_c248 0 19 rfl)) (u0_21) (((((((hS_c248 0 21 rfl).trans ((show F18 0 21 = F_c109 0 21 from (eF18 0 21).trans (hS18 0 21 rfl)))).trans (hS_c109 0 21 rfl)).trans ((show F16 0 21 = F_c62 0 21 from (eF16 0 21)))).trans (hS_c62 0 21 rfl)).trans (eu0_21))) (yc248_2_1) ((eyc248_2_1)) (wc248_3) (ewc248_3) (show inr (0) by omega) (show 0 ≤ (0) ∧ (0) ≤ 17 by omega) (show 0 ≤ (((u0_9 + tc62_0) + 1)) ∧ (u0_9) ≤ (((u0_9 + tc62_0) + 1)) ∧ (((u0_9 + tc62_0) + 1)) ≤ (u0_8) by omega) (show (((u0_9 + tc62_0) + 1)) ≤ (u0_18) by omega) (show 0 ≤ (yc248_2_1) ∧ (yc248_2_1) ≤ (mc248_3) ∧ (mc248_3) ≤ 65536 by omega) (show (0) ≠ 0 ∨ 0 ≤ (z17) ∧ (z17) ≤ 131072 ∧ ((z17) ≤ (mc248_3) ∨ (mc248_3) = 65536) by omega) (show PLA (ub8 ((w1))) ((u0_9)) ((u0_18)) (moF ((u0_15))) ((0)) ((u0_21)) ((((u0_9 + tc62_0) + 1))) ((z17)) ((yc248_2_1)) ((wc248_3)) by assumption) (show (0) ≠ 0 ∨ (z17) ≤ moF ((u0_15)) by omega) (show (0) ≠ 0 ∨ (u0_21) = (u0_21) by omega))
                  refine Ew_of (pc' := 202) (fun _ => x_iload rfl (rk_o (rk_s) rfl rfl)) ?_
                  refine w_ifeq (t := 225) rfl rfl (show inr (1) by omega) (fun b59 => ?_) (fun b59 => ?_)
                  · refine Ew_of (pc' := 226) (fun _ => x_aload_n rfl (rk_o (rk_o (rk_o (lc109_0) rfl rfl) rfl rfl) rfl rfl)) ?_
                    refine v_g H (o := 0) (v := .ref (D 2)) rfl rfl rfl rfl rfl (vrf (((((((show F18 0 4 = F_c109 0 4 from (eF18 0 4).trans (hS18 0 4 rfl))).trans (hS_c109 0 4 rfl)).trans ((show F16 0 4 = F_c62 0 4 from (eF16 0 4)))).trans (hS_c62 0 4 rfl))).trans (pf2))) ?_
                    refine Ew_of (pc' := 230) (fun _ => x_aload_n rfl (rk_o (rk_o (rk_o (lc109_0) rfl rfl) rfl rfl) rfl rfl)) ?_
                    refine v_g H (o := 0) (v := .ref (D 1)) rfl rfl rfl rfl rfl (vrf (((((((show F18 0 7 = F_c109 0 7 from (eF18 0 7).trans (hS18 0 7 rfl))).trans (hS_c109 0 7 rfl)).trans ((show F16 0 7 = F_c62 0 7 from (eF16 0 7)))).trans (hS_c62 0 7 rfl))).trans (pf1))) ?_
                    refine Ew_of (pc' := 234) (fun _ => x_aload_n rfl (rk_o (rk_o (rk_o (lc109_0) rfl rfl) rfl rfl) rfl rfl)) ?_
                    refine v_g H (o := 0) (v := I ((u0_9 + tc62_0))) rfl rfl rfl rfl rfl (congrArg (fun z : Int => I z) (rfl : (updF (updF F18 0 9 ((u0_9 + tc62_0))) 0 19 (z17)) 0 9 = (u0_9 + tc62_0))) ?_
                    refine v_lB H (o := 1) rfl rfl rfl rfl (n := n1) (en1) (show 0 ≤ (u0_9 + tc62_0) ∧ (u0_9 + tc62_0) < n1 by omega) (fun v60 ev60 qv60 => ?_)
                    have ev60 : (w1) ((u0_9 + tc62_0)) = v60 := (congrFun (((show A18 1 = A_c109 1 from (eA18 1))).trans ((funext (hA_c109 1 rfl)).trans (((show A16 1 = A_c62 1 from (eA16 1).trans (funext (hA16 0 rfl)))).trans ((funext (hA_c62 1 rfl)).trans (ew1))))) ((u0_9 + tc62_0))).symm.trans ev60
                    have hvs := ev60
                    have hvw : (ub8 ((w1))) (((u0_9 + tc62_0))) = u8 ((v60)) := by show u8 _ = _; rw [hvs]
                    refine Ew_of (pc' := 240) (fun _ => x_iload rfl (rk_o (rk_o (rk_s) rfl rfl) rfl rfl)) ?_
                    refine Ew_of (pc' := 242) (fun _ => x_ldc (z := 65536) rfl (by decide)) ?_
                    refine v_min rfl rfl (show inr (z17) by omega) (show inr (65536) by omega) (fun z61 gz61 => ?_)
                    have hmin : (z61) = (z17) ∧ (z17) ≤ 65536 ∨ (z61) = 65536 ∧ 65536 ≤ (z17) := by omega
                    refine v_inv H (o := 2) rfl rfl rfl rfl rfl rfl (by rfl) (C162 (D := pul [2, 3] D) (N := pul [2, 3] N) (HW_sub H (VS_of (show vsub V244 V162 [2, 3] = true by decide +kernel))) (((((((show F18 2 0 = F_c109 2 0 from (eF18 2 0))).trans (hS_c109 2 0 rfl)).trans ((show F16 2 0 = F_c62 2 0 from (eF16 2 0)))).trans (hS_c62 2 0 rfl))).trans (pf3)) (n3) (en3) (u2_1) (((((((show F18 2 1 = F_c109 2 1 from (eF18 2 1))).trans (hS_c109 2 1 rfl)).trans ((show F16 2 1 = F_c62 2 1 from (eF16 2 1)))).trans (hS_c62 2 1 rfl)).trans (eu2_1))) (u2_2) (((((((show F18 2 2 = F_c109 2 2 from (eF18 2 2))).trans (hS_c109 2 2 rfl)).trans ((show F16 2 2 = F_c62 2 2 from (eF16 2 2)))).trans (hS_c62 2 2 rfl)).trans (eu2_2))) (w3) (((show A18 3 = A_c109 3 from (eA18 3))).trans ((funext (hA_c109 3 rfl)).trans (((show A16 3 = A_c62 3 from (eA16 3))).trans ((funext (hA_c62 3 rfl)).trans (ew3))))) (show inr (v60) by omega) (show inr (z61) by omega) (show 0 ≤ (u2_1) ∧ (u2_1) ≤ (n3) ∧ (n3) ≤ 65536 by omega) (fun σ62 D62' N62' F62' A62' c62 s62 H' O' hD62 hN62 hS62 hA62 pm62_1 m62_1 em62_1 y62_0_1 ey62_0_1 y62_0_2 ey62_0_2 w62_1 ew62_1 pz62_0 pz62_1 pz62_2 => ⟨rfl, ?_⟩))
                    replace pm62_1 := HIDm pm62_1
                    replace em62_1 := HIDm em62_1
                    replace ey62_0_1 := HIDm ey62_0_1
                    replace ey62_0_2 := HIDm ey62_0_2
                    refine v_backM (c := c) (s := s) H (show vsub V244 V162 [2, 3] = true by decide +kernel) H' O' hD62 (show vmov V244 [2, 3] [1] = true by decide +kernel) (fun D62 N62 F62 A62 H O' eD62 eN62 eF62 eA62 => ?_)
                    have O := OUT_trans O O'
                    -- Row.addSame
                    have pf62_0_4 : HID (F62 0 4 = (D62 2 : Int)) := ((show F62 0 4 = (updF (updF F18 0 9 ((u0_9 + tc62_0))) 0 19 (z17)) 0 4 from (eF62 0 4))).trans ((((((((show F18 0 4 = F_c109 0 4 from (eF18 0 4).trans (hS18 0 4 rfl))).trans (hS_c109 0 4 rfl)).trans ((show F16 0 4 = F_c62 0 4 from (eF16 0 4)))).trans (hS_c62 0 4 rfl))).trans (pf2)).trans (congrArg (fun q : Nat => (q : Int)) ((show D62 2 = D 2 from (eD62 2).trans (hD62 0 rfl))).symm))
                    have pf62_0_7 : HID (F62 0 7 = (D62 1 : Int)) := ((show F62 0 7 = (updF (updF F18 0 9 ((u0_9 + tc62_0))) 0 19 (z17)) 0 7 from (eF62 0 7))).trans ((((((((show F18 0 7 = F_c109 0 7 from (eF18 0 7).trans (hS18 0 7 rfl))).trans (hS_c109 0 7 rfl)).trans ((show F16 0 7 = F_c62 0 7 from (eF16 0 7)))).trans (hS_c62 0 7 rfl))).trans (pf1)).trans (congrArg (fun q : Nat => (q : Int)) ((show D62 1 = D 1 from (eD62 1))).symm))
                    have pf62_2_0 : HID (F62 2 0 = (D62 3 : Int)) := (eF62 2 0).trans (pm62_1.trans (congrArg (fun q : Nat => (q : Int)) (eD62 3).symm))
                    have r63 : (0 : Int) ≤ m62_1 ∧ m62_1 ≤ 1000000 := by have h1 := H.nle 3 (by decide); have h2 : (N62 3 : Int) = m62_1 := (congrArg (fun q : Nat => (q : Int)) (eN62 3)).trans em62_1; omega
                    have r64 : (-2147483648 : Int) ≤ y62_0_1 ∧ y62_0_1 ≤ 2147483647 := by have h1 : (-2147483648 : Int) ≤ F62 2 1 ∧ F62 2 1 ≤ 2147483647 := H.krg 2 1 (by decide); rw [show F62 2 1 = y62_0_1 from ((eF62 2 1).trans ey62_0_1)] at h1; exact h1
                    have r65 : (0 : Int) ≤ y62_0_2 ∧ y62_0_2 ≤ 1 := by have h1 : (0 : Int) ≤ F62 2 2 ∧ F62 2 2 ≤ 1 := H.krg 2 2 (by decide); rw [show F62 2 2 = y62_0_2 from ((eF62 2 2).trans ey62_0_2)] at h1; exact h1
                    have : ∃ L : List Int, (z17) = (L.length : Int) ∧ LKP ((w62_1)) ((y62_0_1)) 65536 L ∧ (q5 = 1 ∧ L = sc (ub8 ((w1))) (((u0_9 + tc62_0))) (((u0_9 + tc62_0)) + q4) ∨ q5 ≠ 1 ∧ L = List.replicate (q4).toNat ((ub8 ((w1))) (((u0_9 + tc62_0))))) := by first | exact ⟨_, by rw [sc_lenI (by omega)]; omega, LKP_all (by have h := (RAP_from (a := 0) (pz49_3 (by omega)) (by omega) (by omega) (by rw [sc_lenI (by omega)]; omega) (by omega)).2; rw [h, sc_nil (by omega), List.nil_append, sc_u]) (by omega), .inl ⟨by omega, by rw [hq4]⟩⟩ | exact ⟨_, by rw [List.length_replicate]; omega, LKP_rep (n := q4) (w := (ub8 ((w1))) (((u0_9 + tc62_0)))) (by have h := (RAP_from (a := 0) (pz62_2 (by omega)) (by omega) (by omega) (by rw [List.length_replicate]; omega) (by omega)).2; rw [h, sc_nil (by omega), List.nil_append, hvw]; congr 1; omega) (by omega) (by omega), .inr ⟨by omega, rfl⟩⟩
                    exact hc248  _ _ _ _ _ _ _ _  ((rk_o (rk_o (rk_o (lc109_0) rfl rfl) rfl rfl) rfl rfl).trans (congrArg (fun q : Nat => some (Value.ref q)) (((show D62 0 = D 0 from (eD62 0)))).symm)) (rk_s) H O (SD_trans (SD_refl) (SD_glu (ι := [2, 3]) hD62 eD62 (by decide +kernel)) (any_subA (l' := [3]) rfl)) (SD_trans (SD_refl) (SD_glu (ι := [2, 3]) hN62 eN62 (by decide +kernel)) (any_subA (l' := [3]) rfl)) (SF_trans (SF_refl) (SF_glu (ι := [2, 3]) hS62 eF62 (by decide +kernel)) (any_sub (l' := [(2, 0), (2, 1), (2, 2)]) rfl)) (SA_trans (SA_refl) (SA_glu (ι := [2, 3]) hA62 eA62 (by decide +kernel)) (any_subA (l' := [3]) rfl)) (pf62_2_0) (m62_1) ((congrArg (fun q : Nat => (q : Int)) (eN62 3)).trans em62_1) (y62_0_1) (((eF62 2 1).trans ey62_0_1)) (w62_1) ((eA62 3).trans ew62_1) (show 0 ≤ (y62_0_1) ∧ (y62_0_1) ≤ (m62_1) ∧ (m62_1) ≤ 65536 by omega) (show ((z17) ≤ (m62_1) ∨ (m62_1) = 65536) by omega) (show ∃ L : List Int, (z17) = (L.length : Int) ∧ LKP ((w62_1)) ((y62_0_1)) 65536 L ∧ (q5 = 1 ∧ L = sc (ub8 ((w1))) (((u0_9 + tc62_0))) (((u0_9 + tc62_0)) + q4) ∨ q5 ≠ 1 ∧ L = List.replicate (q4).toNat ((ub8 ((w1))) (((u0_9 + tc62_0))))) by assumption)
                  · refine Ew_of (pc' := 206) (fun _ => x_aload_n rfl (rk_o (rk_o (rk_o (lc109_0) rfl rfl) rfl rfl) rfl rfl)) ?_
                    refine v_g H (o := 0) (v := .ref (D 2)) rfl rfl rfl rfl rfl (vrf (((((((show F18 0 4 = F_c109 0 4 from (eF18 0 4).trans (hS18 0 4 rfl))).trans (hS_c109 0 4 rfl)).trans ((show F16 0 4 = F_c62 0 4 from (eF16 0 4)))).trans (hS_c62 0 4 rfl))).trans (pf2))) ?_
                    refine Ew_of (pc' := 210) (fun _ => x_aload_n rfl (rk_o (rk_o (rk_o (lc109_0) rfl rfl) rfl rfl) rfl rfl)) ?_
                    refine v_g H (o := 0) (v := .ref (D 1)) rfl rfl rfl rfl rfl (vrf (((((((show F18 0 7 = F_c109 0 7 from (eF18 0 7).trans (hS18 0 7 rfl))).trans (hS_c109 0 7 rfl)).trans ((show F16 0 7 = F_c62 0 7 from (eF16 0 7)))).trans (hS_c62 0 7 rfl))).trans (pf1))) ?_
                    refine Ew_of (pc' := 214) (fun _ => x_aload_n rfl (rk_o (rk_o (rk_o (lc109_0) rfl rfl) rfl rfl) rfl rfl)) ?_
                    refine v_g H (o := 0) (v := I ((u0_9 + tc62_0))) rfl rfl rfl rfl rfl (congrArg (fun z : Int => I z) (rfl : (updF (updF F18 0 9 ((u0_9 + tc62_0))) 0 19 (z17)) 0 9 = (u0_9 + tc62_0))) ?_
                    refine Ew_of (pc' := 219) (fun _ => x_iload rfl (rk_o (rk_o (rk_s) rfl rfl) rfl rfl)) ?_
                    refine v_inv H (o := 2) rfl rfl rfl rfl rfl rfl (by rfl) (C161_Br (D := pul [2, 1, 3] D) (N := pul [2, 1, 3] N) (HW_sub H (VS_of (show vsub V244 V161_Br [2, 1, 3] = true by decide +kernel))) (((((((show F18 2 0 = F_c109 2 0 from (eF18 2 0))).trans (hS_c109 2 0 rfl)).trans ((show F16 2 0 = F_c62 2 0 from (eF16 2 0)))).trans (hS_c62 2 0 rfl))).trans (pf3)) (n1) (en1) (n3) (en3) (u2_1) (((((((show F18 2 1 = F_c109 2 1 from (eF18 2 1))).trans (hS_c109 2 1 rfl)).trans ((show F16 2 1 = F_c62 2 1 from (eF16 2 1)))).trans (hS_c62 2 1 rfl)).trans (eu2_1))) (u2_2) (((((((show F18 2 2 = F_c109 2 2 from (eF18 2 2))).trans (hS_c109 2 2 rfl)).trans ((show F16 2 2 = F_c62 2 2 from (eF16 2 2)))).trans (hS_c62 2 2 rfl)).trans (eu2_2))) (w1) (((show A18 1 = A_c109 1 from (eA18 1))).trans ((funext (hA_c109 1 rfl)).trans (((show A16 1 = A_c62 1 from (eA16 1).trans (funext (hA16 0 rfl)))).trans ((funext (hA_c62 1 rfl)).trans (ew1))))) (w3) (((show A18 3 = A_c109 3 from (eA18 3))).trans ((funext (hA_c109 3 rfl)).trans (((show A16 3 = A_c62 3 from (eA16 3))).trans ((funext (hA_c62 3 rfl)).trans (ew3))))) (show inr ((u0_9 + tc62_0)) by omega) (show inr (z17) by omega) (show 0 ≤ (u2_1) ∧ (u2_1) ≤ (n3) ∧ (n3) ≤ 65536 by omega) (show (z17) < 0 ∨ 0 ≤ ((u0_9 + tc62_0)) ∧ ((u0_9 + tc62_0)) + (z17) ≤ (n1) by omega) (fun σ66 D66' N66' F66' A66' c66 s66 H' O' hD66 hN66 hS66 hA66 pm66_2 m66_2 em66_2 y66_0_1 ey66_0_1 y66_0_2 ey66_0_2 w66_2 ew66_2 pz66_0 pz66_1 pz66_2 pz66_3 => ⟨rfl, ?_⟩))
                    replace pm66_2 := HIDm pm66_2
                    replace em66_2 := HIDm em66_2
                    replace ey66_0_1 := HIDm ey66_0_1
                    replace ey66_0_2 := HIDm ey66_0_2
                    refine v_backM (c := c) (s := s) H (show vsub V244 V161_Br [2, 1, 3] = true by decide +kernel) H' O' hD66 (show vmov V244 [2, 1, 3] [2] = true by decide +kernel) (fun D66 N66 F66 A66 H O' eD66 eN66 eF66 eA66 => ?_)
                    have O := OUT_trans O O'
                    -- Row.addPart
                    have pf66_0_4 : HID (F66 0 4 = (D66 2 : Int)) := ((show F66 0 4 = (updF (updF F18 0 9 ((u0_9 + tc62_0))) 0 19 (z17)) 0 4 from (eF66 0 4))).trans ((((((((show F18 0 4 = F_c109 0 4 from (eF18 0 4).trans (hS18 0 4 rfl))).trans (hS_c109 0 4 rfl)).trans ((show F16 0 4 = F_c62 0 4 from (eF16 0 4)))).trans (hS_c62 0 4 rfl))).trans (pf2)).trans (congrArg (fun q : Nat => (q : Int)) ((show D66 2 = D 2 from (eD66 2).trans (hD66 0 rfl))).symm))
                    have pf66_0_7 : HID (F66 0 7 = (D66 1 : Int)) := ((show F66 0 7 = (updF (updF F18 0 9 ((u0_9 + tc62_0))) 0 19 (z17)) 0 7 from (eF66 0 7))).trans ((((((((show F18 0 7 = F_c109 0 7 from (eF18 0 7).trans (hS18 0 7 rfl))).trans (hS_c109 0 7 rfl)).trans ((show F16 0 7 = F_c62 0 7 from (eF16 0 7)))).trans (hS_c62 0 7 rfl))).trans (pf1)).trans (congrArg (fun q : Nat => (q : Int)) ((show D66 1 = D 1 from (eD66 1).trans (hD66 1 rfl))).symm))
                    have pf66_2_0 : HID (F66 2 0 = (D66 3 : Int)) := (eF66 2 0).trans (pm66_2.trans (congrArg (fun q : Nat => (q : Int)) (eD66 3).symm))
                    have r67 : (0 : Int) ≤ m66_2 ∧ m66_2 ≤ 1000000 := by have h1 := H.nle 3 (by decide); have h2 : (N66 3 : Int) = m66_2 := (congrArg (fun q : Nat => (q : Int)) (eN66 3)).trans em66_2; omega
                    have r68 : (-2147483648 : Int) ≤ y66_0_1 ∧ y66_0_1 ≤ 2147483647 := by have h1 : (-2147483648 : Int) ≤ F66 2 1 ∧ F66 2 1 ≤ 2147483647 := H.krg 2 1 (by decide); rw [show F66 2 1 = y66_0_1 from ((eF66 2 1).trans ey66_0_1)] at h1; exact h1
                    have r69 : (0 : Int) ≤ y66_0_2 ∧ y66_0_2 ≤ 1 := by have h1 : (0 : Int) ≤ F66 2 2 ∧ F66 2 2 ≤ 1 := H.krg 2 2 (by decide); rw [show F66 2 2 = y66_0_2 from ((eF66 2 2).trans ey66_0_2)] at h1; exact h1
                    refine Ew_of (pc' := 248) (fun _ => x_goto rfl rfl) ?_
                    have : ∃ L : List Int, (z17) = (L.length : Int) ∧ LKP ((w66_2)) ((y66_0_1)) 65536 L ∧ (q5 = 1 ∧ L = sc (ub8 ((w1))) (((u0_9 + tc62_0))) (((u0_9 + tc62_0)) + q4) ∨ q5 ≠ 1 ∧ L = List.replicate (q4).toNat ((ub8 ((w1))) (((u0_9 + tc62_0))))) := by first | exact ⟨_, by rw [sc_lenI (by omega)]; omega, LKP_all (by have h := (RAP_from (a := 0) (pz66_3 (by omega)) (by omega) (by omega) (by rw [sc_lenI (by omega)]; omega) (by omega)).2; rw [h, sc_nil (by omega), List.nil_append, sc_u]) (by omega), .inl ⟨by omega, by rw [hq4]⟩⟩ | exact ⟨_, by rw [List.length_replicate]; omega, LKP_rep (n := q4) (w := (ub8 ((w1))) (((u0_9 + tc62_0)))) (by have h := (RAP_from (a := 0) (pz62_2 (by omega)) (by omega) (by omega) (by rw [List.length_replicate]; omega) (by omega)).2; rw [h, sc_nil (by omega), List.nil_append, hvw]; congr 1; omega) (by omega) (by omega), .inr ⟨by omega, rfl⟩⟩
                    exact hc248  _ _ _ _ _ _ _ _  ((rk_o (rk_o (rk_o (lc109_0) rfl rfl) rfl rfl) rfl rfl).trans (congrArg (fun q : Nat => some (Value.ref q)) (((show D66 0 = D 0 from (eD66 0)))).symm)) (rk_s) H O (SD_trans (SD_refl) (SD_glu (ι := [2, 1, 3]) hD66 eD66 (by decide +kernel)) (any_subA (l' := [3]) rfl)) (SD_trans (SD_refl) (SD_glu (ι := [2, 1, 3]) hN66 eN66 (by decide +kernel)) (any_subA (l' := [3]) rfl)) (SF_trans (SF_refl) (SF_glu (ι := [2, 1, 3]) hS66 eF66 (by decide +kernel)) (any_sub (l' := [(2, 0), (2, 1), (2, 2)]) rfl)) (SA_trans (SA_refl) (SA_glu (ι := [2, 1, 3]) hA66 eA66 (by decide +kernel)) (any_subA (l' := [3]) rfl)) (pf66_2_0) (m66_2) ((congrArg (fun q : Nat => (q : Int)) (eN66 3)).trans em66_2) (y66_0_1) (((eF66 2 1).trans ey66_0_1)) (w66_2) ((eA66 3).trans ew66_2) (show 0 ≤ (y66_0_1) ∧ (y66_0_1) ≤ (m66_2) ∧ (m66_2) ≤ 65536 by omega) (show ((z17) ≤ (m66_2) ∨ (m66_2) = 65536) by omega) (show ∃ L : List Int, (z17) = (L.length : Int) ∧ LKP ((w66_2)) ((y66_0_1)) 65536 L ∧ (q5 = 1 ∧ L = sc (ub8 ((w1))) (((u0_9 + tc62_0))) (((u0_9 + tc62_0)) + q4) ∨ q5 ≠ 1 ∧ L = List.replicate (q4).toNat ((ub8 ((w1))) (((u0_9 + tc62_0))))) by assumption)
                · refine Ew_of (pc' := 184) (fun _ => x_aload_n rfl (rk_o (rk_o (rk_o (lc109_0) rfl rfl) rfl rfl) rfl rfl)) ?_
                  refine Ew_of (pc' := 186) (fun _ => x_bipush (z := 10) rfl (by decide)) ?_
                  refine Ew_of (pc' := 187) (fun _ => x_aload_n rfl (rk_o (rk_o (rk_o (lc109_0) rfl rfl) rfl rfl) rfl rfl)) ?_
                  refine v_g H (o := 0) (v := I (u0_18)) rfl rfl rfl rfl rfl (congrArg (fun z : Int => I z) (((((((show F18 0 18 = F_c109 0 18 from (eF18 0 18).trans (hS18 0 18 rfl))).trans (hS_c109 0 18 rfl)).trans ((show F16 0 18 = F_c62 0 18 from (eF16 0 18)))).trans (hS_c62 0 18 rfl)).trans (eu0_18)) : (updF F18 0 9 ((u0_9 + tc62_0))) 0 18 = u0_18)) ?_
                  refine v_inv H (o := 0) rfl rfl rfl rfl rfl rfl (by rfl) (C232 (D := pul [0] D) (N := pul [0] N) (HW_sub H (VS_of (show vsub V244 V232 [0] = true by decide +kernel))) (u0_21) (((((((show F18 0 21 = F_c109 0 21 from (eF18 0 21).trans (hS18 0 21 rfl))).trans (hS_c109 0 21 rfl)).trans ((show F16 0 21 = F_c62 0 21 from (eF16 0 21)))).trans (hS_c62 0 21 rfl)).trans (eu0_21))) (show inr (10) by omega) (show inr (u0_18) by omega) (fun z70 σ70 F70' A70' H' O' hS70 hA70 y70_0_21 ey70_0_21 pz70_0 pz70_1 pz70_2 => ⟨rfl, ?_⟩))
                  replace ey70_0_21 := HIDm ey70_0_21
                  refine v_back (c := c) (s := s) H (show vsub V244 V232 [0] = true by decide +kernel) H' O' (fun F70 A70 H O' eF70 eA70 => ?_)
                  have O := OUT_trans O O'
                  -- Unpacker.fail
                  have r71 : (-2147483648 : Int) ≤ y70_0_21 ∧ y70_0_21 ≤ 2147483647 := by have h1 : (-2147483648 : Int) ≤ F70 0 21 ∧ F70 0 21 ≤ 2147483647 := H.krg 0 21 (by decide); rw [show F70 0 21 = y70_0_21 from ((eF70 0 21).trans ey70_0_21)] at h1; exact h1
                  have : PLA (ub8 ((w1))) ((u0_9)) ((u0_18)) (moF ((u0_15))) ((z70)) ((y70_0_21)) (((u0_9 + tc62_0))) ((u0_19)) ((u2_1)) ((w3)) := PLA_f (fun T G => (hLT T G).trans (LT0_10 (fo := (1)) (by omega) (by omega) (by omega) (by omega))) (by decide) (by omega) (by omega)
                  exact w_ireturn rfl (k (z70) _ _ _ _ _ _ _ H O (SD_refl) (SD_refl) (SF_trans (SF_upd (SF_trans (SF_trans (SF_trans (SF_trans (SF_refl) hS_c62 (any_sub rfl)) (SF_glu (ι := [1]) hS16 eF16 (by decide +kernel)) (any_sub (l' := []) rfl)) hS_c109 (any_sub rfl)) (SF_glu (ι := [0]) hS18 eF18 (by decide +kernel)) (any_sub (l' := []) rfl)) rfl) (SF_glu (ι := [0]) hS70 eF70 (by decide +kernel)) (any_sub (l' := [(0, 21)]) rfl)) (SA_trans (SA_trans (SA_trans (SA_trans (SA_trans (SA_refl) hA_c62 (any_subA rfl)) (SA_glu (ι := [1]) hA16 eA16 (by decide +kernel)) (any_subA (l' := []) rfl)) hA_c109 (any_subA rfl)) (SA_glu (ι := [0]) hA18 eA18 (by decide +kernel)) (any_subA (l' := []) rfl)) (SA_glu (ι := [0]) hA70 eA70 (by decide +kernel)) (any_subA (l' := []) rfl)) ((((((((show F70 2 0 = (updF F18 0 9 ((u0_9 + tc62_0))) 2 0 from (eF70 2 0))).trans ((show F18 2 0 = F_c109 2 0 from (eF18 2 0)))).trans (hS_c109 2 0 rfl)).trans ((show F16 2 0 = F_c62 2 0 from (eF16 2 0)))).trans (hS_c62 2 0 rfl))).trans (pf3)) (n3) (en3) ((u0_9 + tc62_0)) (((show F70 0 9 = (updF F18 0 9 ((u0_9 + tc62_0))) 0 9 from (eF70 0 9).trans (hS70 0 9 rfl)))) (u0_19) ((((((((show F70 0 19 = (updF F18 0 9 ((u0_9 + tc62_0))) 0 19 from (eF70 0 19).trans (hS70 0 19 rfl))).trans ((show F18 0 19 = F_c109 0 19 from (eF18 0 19).trans (hS18 0 19 rfl)))).trans (hS_c109 0 19 rfl)).trans ((show F16 0 19 = F_c62 0 19 from (eF16 0 19)))).trans (hS_c62 0 19 rfl)).trans (eu0_19))) (y70_0_21) (((eF70 0 21).trans ey70_0_21)) (u2_1) ((((((((show F70 2 1 = (updF F18 0 9 ((u0_9 + tc62_0))) 2 1 from (eF70 2 1))).trans ((show F18 2 1 = F_c109 2 1 from (eF18 2 1)))).trans (hS_c109 2 1 rfl)).trans ((show F16 2 1 = F_c62 2 1 from (eF16 2 1)))).trans (hS_c62 2 1 rfl)).trans (eu2_1))) (w3) (((show A70 3 = A18 3 from (eA70 3))).trans (((show A18 3 = A_c109 3 from (eA18 3))).trans ((funext (hA_c109 3 rfl)).trans (((show A16 3 = A_c62 3 from (eA16 3))).trans ((funext (hA_c62 3 rfl)).trans (ew3)))))) (show inr (z70) by omega) (show 0 ≤ (z70) ∧ (z70) ≤ 17 by omega) (show 0 ≤ ((u0_9 + tc62_0)) ∧ (u0_9) ≤ ((u0_9 + tc62_0)) ∧ ((u0_9 + tc62_0)) ≤ (u0_8) by omega) (show ((u0_9 + tc62_0)) ≤ (u0_18) by omega) (show 0 ≤ (u2_1) ∧ (u2_1) ≤ (n3) ∧ (n3) ≤ 65536 by omega) (show (z70) ≠ 0 ∨ 0 ≤ (u0_19) ∧ (u0_19) ≤ 131072 ∧ ((u0_19) ≤ (n3) ∨ (n3) = 65536) by omega) (show PLA (ub8 ((w1))) ((u0_9)) ((u0_18)) (moF ((u0_15))) ((z70)) ((y70_0_21)) (((u0_9 + tc62_0))) ((u0_19)) ((u2_1)) ((w3)) by assumption) (show (z70) ≠ 0 ∨ (u0_19) ≤ moF ((u0_15)) by omega) (show (z70) ≠ 0 ∨ (y70_0_21) = (u0_21) by omega))
              · refine Ew_of (pc' := 163) (fun _ => x_iload rfl (rk_o (rk_s) rfl rfl)) ?_
                refine Ew_of (pc' := 167) (fun _ => x_goto rfl rfl) ?_
                refine Ew_of (pc' := 169) (fun _ => x_istore rfl) ?_
                refine Ew_of (pc' := 170) (fun _ => x_aload_n rfl (rk_o (rk_o (rk_o (lc109_0) rfl rfl) rfl rfl) rfl rfl)) ?_
                refine v_g H (o := 0) (v := I (u0_18)) rfl rfl rfl rfl rfl (congrArg (fun z : Int => I z) (((((((show F18 0 18 = F_c109 0 18 from (eF18 0 18).trans (hS18 0 18 rfl))).trans (hS_c109 0 18 rfl)).trans ((show F16 0 18 = F_c62 0 18 from (eF16 0 18)))).trans (hS_c62 0 18 rfl)).trans (eu0_18)) : (updF F18 0 9 ((u0_9 + tc62_0))) 0 18 = u0_18)) ?_
                refine Ew_of (pc' := 174) (fun _ => x_aload_n rfl (rk_o (rk_o (rk_o (lc109_0) rfl rfl) rfl rfl) rfl rfl)) ?_
                refine v_g H (o := 0) (v := I ((u0_9 + tc62_0))) rfl rfl rfl rfl rfl (congrArg (fun z : Int => I z) (rfl : (updF F18 0 9 ((u0_9 + tc62_0))) 0 9 = (u0_9 + tc62_0))) ?_
                refine w_isub rfl ?_
                refine Ew_of (pc' := 180) (fun _ => x_iload rfl rk_s) ?_
                refine w_icmpge (t := 194) rfl rfl (show inr ((u0_18 - (u0_9 + tc62_0))) by omega) (show inr (z17) by omega) (fun b72 => ?_) (fun b72 => ?_)
                · refine Ew_of (pc' := 195) (fun _ => x_aload_n rfl (rk_o (rk_o (rk_o (lc109_0) rfl rfl) rfl rfl) rfl rfl)) ?_
                  refine Ew_of (pc' := 197) (fun _ => x_iload rfl (rk_o (rk_o (rk_s) rfl rfl) rfl rfl)) ?_
                  obtain ⟨q4, hq4⟩ : ∃ q : Int, q = (z17) := ⟨_, rfl⟩
                  have hq6 : q5 = 1 ∧ (z17) = q4 ∨ q5 ≠ 1 ∧ (z17) = 1 := by omega
                  refine v_p H (o := 0) (z := z17) (v := I (z17)) rfl rfl rfl rfl rfl rfl rfl rfl (show (-2147483648 : Int) ≤ z17 ∧ z17 ≤ 2147483647 by omega) (fun σ H O' => ?_)
                  have O := OUT_trans O O'
                  have hc248 : ∀ (ls : rO) (σ : rS) (D_c248 N_c248 : Nat → Nat) (c_c248 s_c248 : Nat) (F_c248 : hF) (A_c248 : hA) , rlook ls 0 = some (.ref (D_c248 0)) → rlook ls 6 = some (I (z17)) → HW V244 σ D_c248 N_c248 F_c248 A_c248 → OUT (V244).length D N σE c s D_c248 N_c248 σ c_c248 s_c248 → SD [3] D D_c248 → SD [3] N N_c248 → SF [(2, 0), (2, 1), (2, 2)] (updF (updF F18 0 9 ((u0_9 + tc62_0))) 0 19 (z17)) F_c248 → SA [3] A18 A_c248 → F_c248 2 0 = (D_c248 3 : Int) → ∀ mc248_3 : Int, (N_c248 3 : Int) = mc248_3 → ∀ yc248_2_1 : Int, F_c248 2 1 = yc248_2_1 → ∀ wc248_3 : Int → Int, A_c248 3 = wc248_3 → (0 ≤ (yc248_2_1) ∧ (yc248_2_1) ≤ (mc248_3) ∧ (mc248_3) ≤ 65536) → (((z17) ≤ (mc248_3) ∨ (mc248_3) = 65536)) → (∃ L : List Int, (z17) = (L.length : Int) ∧ LKP ((wc248_3)) ((yc248_2_1)) 65536 L ∧ (q5 = 1 ∧ L = sc (ub8 ((w1))) (((u0_9 + tc62_0))) (((u0_9 + tc62_0)) + q4) ∨ q5 ≠ 1 ∧ L = List.replicate (q4).toNat ((ub8 ((w1))) (((u0_9 + tc62_0)))))) → Ew 244 (d + 3) 248 ls [] σ c_c248 s_c248 Q := by
                   as_aux_lemma =>
                    intro  ls σ D_c248 N_c248 c_c248 s_c248 F_c248 A_c248  lc248_0 lc248_6 H O hD_c248 hN_c248 hS_c248 hA_c248 pmc248_3 mc248_3 emc248_3 yc248_2_1 eyc248_2_1 wc248_3 ewc248_3 jc248_0 jc248_1 jc248_2
                    replace pmc248_3 := HIDm pmc248_3
                    replace emc248_3 := HIDm emc248_3
                    replace eyc248_2_1 := HIDm eyc248_2_1
                    have pf_c248_0_4 : HID (F_c248 0 4 = (D_c248 2 : Int)) := (hS_c248 0 4 rfl).trans ((((((((show F18 0 4 = F_c109 0 4 from (eF18 0 4).trans (hS18 0 4 rfl))).trans (hS_c109 0 4 rfl)).trans ((show F16 0 4 = F_c62 0 4 from (eF16 0 4)))).trans (hS_c62 0 4 rfl))).trans (pf2)).trans (congrArg (fun q : Nat => (q : Int)) (hD_c248 2 rfl).symm))
                    have pf_c248_0_7 : HID (F_c248 0 7 = (D_c248 1 : Int)) := (hS_c248 0 7 rfl).trans ((((((((show F18 0 7 = F_c109 0 7 from (eF18 0 7).trans (hS18 0 7 rfl))).trans (hS_c109 0 7 rfl)).trans ((show F16 0 7 = F_c62 0 7 from (eF16 0 7)))).trans (hS_c62 0 7 rfl))).trans (pf1)).trans (congrArg (fun q : Nat => (q : Int)) (hD_c248 1 rfl).symm))
                    have r73 : (0 : Int) ≤ mc248_3 ∧ mc248_3 ≤ 1000000 := by have h1 := H.nle 3 (by decide); have h2 : (N_c248 3 : Int) = mc248_3 := emc248_3; omega
                    have r74 : (-2147483648 : Int) ≤ yc248_2_1 ∧ yc248_2_1 ≤ 2147483647 := by have h1 : (-2147483648 : Int) ≤ F_c248 2 1 ∧ F_c248 2 1 ≤ 2147483647 := H.krg 2 1 (by decide); rw [show F_c248 2 1 = yc248_2_1 from (eyc248_2_1)] at h1; exact h1
                    have k248 : ∃ L : List Int, (z17) = (L.length : Int) ∧ LKP ((wc248_3)) ((yc248_2_1)) 65536 L ∧ (q5 = 1 ∧ L = sc (ub8 ((w1))) (((u0_9 + tc62_0))) (((u0_9 + tc62_0)) + q4) ∨ q5 ≠ 1 ∧ L = List.replicate (q4).toNat ((ub8 ((w1))) (((u0_9 + tc62_0))))) := by assumption
                    refine Ew_of (pc' := 249) (fun _ => x_aload_n rfl lc248_0) ?_
                    refine Ew_of (pc' := 250) (fun _ => x_dup rfl rfl) ?_
                    refine v_g H (o := 0) (v := I ((u0_9 + tc62_0))) rfl rfl rfl rfl rfl (congrArg (fun z : Int => I z) ((hS_c248 0 9 rfl) : F_c248 0 9 = (u0_9 + tc62_0))) ?_
                    refine Ew_of (pc' := 255) (fun _ => x_iload rfl lc248_6) ?_
                    refine w_iadd rfl ?_
                    refine v_p H (o := 0) (z := ((u0_9 + tc62_0) + z17)) (v := I (((u0_9 + tc62_0) + z17))) rfl rfl rfl rfl rfl rfl rfl rfl (show (-2147483648 : Int) ≤ ((u0_9 + tc62_0) + z17) ∧ ((u0_9 + tc62_0) + z17) ≤ 2147483647 by omega) (fun σ H O' => ?_)
                    have O := OUT_trans O O'
                    refine Ew_of (pc' := 260) (fun _ => x_iconst rfl) ?_
                    have : PLA (ub8 ((w1))) ((u0_9)) ((u0_18)) (moF ((u0_15))) ((0)) ((u0_21)) ((((u0_9 + tc62_0) + z17))) ((z17)) ((yc248_2_1)) ((wc248_3)) := by obtain ⟨L, hL1, hL2, hL3⟩ := k248; exact .inr ⟨by omega, L, hL1, hL2, fun T G => (hLT T G).trans (LT0_y (fo := (z17)) (by omega) (by omega) (by rcases hL3 with ⟨a, b⟩ | ⟨a, b⟩; (exact .inl ⟨by omega, by omega, by rw [b]; congr 1 <;> omega⟩); (exact .inr ⟨by omega, by omega, by rw [b, show q4 = qn by omega]; congr 2; omega⟩)) (by omega) (by omega))⟩
                    exact w_ireturn rfl (k (0) _ _ _ _ _ _ _ H O (SD_trans (SD_refl) hD_c248 (any_subA rfl)) (SD_trans (SD_refl) hN_c248 (any_subA rfl)) (SF_upd (SF_trans (SF_upd (SF_upd (SF_trans (SF_trans (SF_trans (SF_trans (SF_refl) hS_c62 (any_sub rfl)) (SF_glu (ι := [1]) hS16 eF16 (by decide +kernel)) (any_sub (l' := []) rfl)) hS_c109 (any_sub rfl)) (SF_glu (ι := [0]) hS18 eF18 (by decide +kernel)) (any_sub (l' := []) rfl)) rfl) rfl) hS_c248 (any_sub rfl)) rfl) (SA_trans (SA_trans (SA_trans (SA_trans (SA_trans (SA_refl) hA_c62 (any_subA rfl)) (SA_glu (ι := [1]) hA16 eA16 (by decide +kernel)) (any_subA (l' := []) rfl)) hA_c109 (any_subA rfl)) (SA_glu (ι := [0]) hA18 eA18 (by decide +kernel)) (any_subA (l' := []) rfl)) hA_c248 (any_subA rfl)) (pmc248_3) (mc248_3) (emc248_3) (((u0_9 + tc62_0) + z17)) (rfl) (z17) ((hS_c248 0 19 rfl)) (u0_21) (((((((hS_c248 0 21 rfl).trans ((show F18 0 21 = F_c109 0 21 from (eF18 0 21).trans (hS18 0 21 rfl)))).trans (hS_c109 0 21 rfl)).trans ((show F16 0 21 = F_c62 0 21 from (eF16 0 21)))).trans (hS_c62 0 21 rfl)).trans (eu0_21))) (yc248_2_1) ((eyc248_2_1)) (wc248_3) (ewc248_3) (show inr (0) by omega) (show 0 ≤ (0) ∧ (0) ≤ 17 by omega) (show 0 ≤ (((u0_9 + tc62_0) + z17)) ∧ (u0_9) ≤ (((u0_9 + tc62_0) + z17)) ∧ (((u0_9 + tc62_0) + z17)) ≤ (u0_8) by omega) (show (((u0_9 + tc62_0) + z17)) ≤ (u0_18) by omega) (show 0 ≤ (yc248_2_1) ∧ (yc248_2_1) ≤ (mc248_3) ∧ (mc248_3) ≤ 65536 by omega) (show (0) ≠ 0 ∨ 0 ≤ (z17) ∧ (z17) ≤ 131072 ∧ ((z17) ≤ (mc248_3) ∨ (mc248_3) = 65536) by omega) (show PLA (ub8 ((w1))) ((u0_9)) ((u0_18)) (moF ((u0_15))) ((0)) ((u0_21)) ((((u0_9 + tc62_0) + z17))) ((z17)) ((yc248_2_1)) ((wc248_3)) by assumption) (show (0) ≠ 0 ∨ (z17) ≤ moF ((u0_15)) by omega) (show (0) ≠ 0 ∨ (u0_21) = (u0_21) by omega))
                  refine Ew_of (pc' := 202) (fun _ => x_iload rfl (rk_o (rk_s) rfl rfl)) ?_
                  refine w_ifeq (t := 225) rfl rfl (show inr (1) by omega) (fun b75 => ?_) (fun b75 => ?_)
                  · refine Ew_of (pc' := 226) (fun _ => x_aload_n rfl (rk_o (rk_o (rk_o (lc109_0) rfl rfl) rfl rfl) rfl rfl)) ?_
                    refine v_g H (o := 0) (v := .ref (D 2)) rfl rfl rfl rfl rfl (vrf (((((((show F18 0 4 = F_c109 0 4 from (eF18 0 4).trans (hS18 0 4 rfl))).trans (hS_c109 0 4 rfl)).trans ((show F16 0 4 = F_c62 0 4 from (eF16 0 4)))).trans (hS_c62 0 4 rfl))).trans (pf2))) ?_
                    refine Ew_of (pc' := 230) (fun _ => x_aload_n rfl (rk_o (rk_o (rk_o (lc109_0) rfl rfl) rfl rfl) rfl rfl)) ?_
                    refine v_g H (o := 0) (v := .ref (D 1)) rfl rfl rfl rfl rfl (vrf (((((((show F18 0 7 = F_c109 0 7 from (eF18 0 7).trans (hS18 0 7 rfl))).trans (hS_c109 0 7 rfl)).trans ((show F16 0 7 = F_c62 0 7 from (eF16 0 7)))).trans (hS_c62 0 7 rfl))).trans (pf1))) ?_
                    refine Ew_of (pc' := 234) (fun _ => x_aload_n rfl (rk_o (rk_o (rk_o (lc109_0) rfl rfl) rfl rfl) rfl rfl)) ?_
                    refine v_g H (o := 0) (v := I ((u0_9 + tc62_0))) rfl rfl rfl rfl rfl (congrArg (fun z : Int => I z) (rfl : (updF (updF F18 0 9 ((u0_9 + tc62_0))) 0 19 (z17)) 0 9 = (u0_9 + tc62_0))) ?_
                    refine v_lB H (o := 1) rfl rfl rfl rfl (n := n1) (en1) (show 0 ≤ (u0_9 + tc62_0) ∧ (u0_9 + tc62_0) < n1 by omega) (fun v76 ev76 qv76 => ?_)
                    have ev76 : (w1) ((u0_9 + tc62_0)) = v76 := (congrFun (((show A18 1 = A_c109 1 from (eA18 1))).trans ((funext (hA_c109 1 rfl)).trans (((show A16 1 = A_c62 1 from (eA16 1).trans (funext (hA16 0 rfl)))).trans ((funext (hA_c62 1 rfl)).trans (ew1))))) ((u0_9 + tc62_0))).symm.trans ev76
                    have hvs := ev76
                    have hvw : (ub8 ((w1))) (((u0_9 + tc62_0))) = u8 ((v76)) := by show u8 _ = _; rw [hvs]
                    refine Ew_of (pc' := 240) (fun _ => x_iload rfl (rk_o (rk_o (rk_s) rfl rfl) rfl rfl)) ?_
                    refine Ew_of (pc' := 242) (fun _ => x_ldc (z := 65536) rfl (by decide)) ?_
                    refine v_min rfl rfl (show inr (z17) by omega) (show inr (65536) by omega) (fun z77 gz77 => ?_)
                    have hmin : (z77) = (z17) ∧ (z17) ≤ 65536 ∨ (z77) = 65536 ∧ 65536 ≤ (z17) := by omega
                    refine v_inv H (o := 2) rfl rfl rfl rfl rfl rfl (by rfl) (C162 (D := pul [2, 3] D) (N := pul [2, 3] N) (HW_sub H (VS_of (show vsub V244 V162 [2, 3] = true by decide +kernel))) (((((((show F18 2 0 = F_c109 2 0 from (eF18 2 0))).trans (hS_c109 2 0 rfl)).trans ((show F16 2 0 = F_c62 2 0 from (eF16 2 0)))).trans (hS_c62 2 0 rfl))).trans (pf3)) (n3) (en3) (u2_1) (((((((show F18 2 1 = F_c109 2 1 from (eF18 2 1))).trans (hS_c109 2 1 rfl)).trans ((show F16 2 1 = F_c62 2 1 from (eF16 2 1)))).trans (hS_c62 2 1 rfl)).trans (eu2_1))) (u2_2) (((((((show F18 2 2 = F_c109 2 2 from (eF18 2 2))).trans (hS_c109 2 2 rfl)).trans ((show F16 2 2 = F_c62 2 2 from (eF16 2 2)))).trans (hS_c62 2 2 rfl)).trans (eu2_2))) (w3) (((show A18 3 = A_c109 3 from (eA18 3))).trans ((funext (hA_c109 3 rfl)).trans (((show A16 3 = A_c62 3 from (eA16 3))).trans ((funext (hA_c62 3 rfl)).trans (ew3))))) (show inr (v76) by omega) (show inr (z77) by omega) (show 0 ≤ (u2_1) ∧ (u2_1) ≤ (n3) ∧ (n3) ≤ 65536 by omega) (fun σ78 D78' N78' F78' A78' c78 s78 H' O' hD78 hN78 hS78 hA78 pm78_1 m78_1 em78_1 y78_0_1 ey78_0_1 y78_0_2 ey78_0_2 w78_1 ew78_1 pz78_0 pz78_1 pz78_2 => ⟨rfl, ?_⟩))
                    replace pm78_1 := HIDm pm78_1
                    replace em78_1 := HIDm em78_1
                    replace ey78_0_1 := HIDm ey78_0_1
                    replace ey78_0_2 := HIDm ey78_0_2
                    refine v_backM (c := c) (s := s) H (show vsub V244 V162 [2, 3] = true by decide +kernel) H' O' hD78 (show vmov V244 [2, 3] [1] = true by decide +kernel) (fun D78 N78 F78 A78 H O' eD78 eN78 eF78 eA78 => ?_)
                    have O := OUT_trans O O'
                    -- Row.addSame
                    have pf78_0_4 : HID (F78 0 4 = (D78 2 : Int)) := ((show F78 0 4 = (updF (updF F18 0 9 ((u0_9 + tc62_0))) 0 19 (z17)) 0 4 from (eF78 0 4))).trans ((((((((show F18 0 4 = F_c109 0 4 from (eF18 0 4).trans (hS18 0 4 rfl))).trans (hS_c109 0 4 rfl)).trans ((show F16 0 4 = F_c62 0 4 from (eF16 0 4)))).trans (hS_c62 0 4 rfl))).trans (pf2)).trans (congrArg (fun q : Nat => (q : Int)) ((show D78 2 = D 2 from (eD78 2).trans (hD78 0 rfl))).symm))
                    have pf78_0_7 : HID (F78 0 7 = (D78 1 : Int)) := ((show F78 0 7 = (updF (updF F18 0 9 ((u0_9 + tc62_0))) 0 19 (z17)) 0 7 from (eF78 0 7))).trans ((((((((show F18 0 7 = F_c109 0 7 from (eF18 0 7).trans (hS18 0 7 rfl))).trans (hS_c109 0 7 rfl)).trans ((show F16 0 7 = F_c62 0 7 from (eF16 0 7)))).trans (hS_c62 0 7 rfl))).trans (pf1)).trans (congrArg (fun q : Nat => (q : Int)) ((show D78 1 = D 1 from (eD78 1))).symm))
                    have pf78_2_0 : HID (F78 2 0 = (D78 3 : Int)) := (eF78 2 0).trans (pm78_1.trans (congrArg (fun q : Nat => (q : Int)) (eD78 3).symm))
                    have r79 : (0 : Int) ≤ m78_1 ∧ m78_1 ≤ 1000000 := by have h1 := H.nle 3 (by decide); have h2 : (N78 3 : Int) = m78_1 := (congrArg (fun q : Nat => (q : Int)) (eN78 3)).trans em78_1; omega
                    have r80 : (-2147483648 : Int) ≤ y78_0_1 ∧ y78_0_1 ≤ 2147483647 := by have h1 : (-2147483648 : Int) ≤ F78 2 1 ∧ F78 2 1 ≤ 2147483647 := H.krg 2 1 (by decide); rw [show F78 2 1 = y78_0_1 from ((eF78 2 1).trans ey78_0_1)] at h1; exact h1
                    have r81 : (0 : Int) ≤ y78_0_2 ∧ y78_0_2 ≤ 1 := by have h1 : (0 : Int) ≤ F78 2 2 ∧ F78 2 2 ≤ 1 := H.krg 2 2 (by decide); rw [show F78 2 2 = y78_0_2 from ((eF78 2 2).trans ey78_0_2)] at h1; exact h1
                    have : ∃ L : List Int, (z17) = (L.length : Int) ∧ LKP ((w78_1)) ((y78_0_1)) 65536 L ∧ (q5 = 1 ∧ L = sc (ub8 ((w1))) (((u0_9 + tc62_0))) (((u0_9 + tc62_0)) + q4) ∨ q5 ≠ 1 ∧ L = List.replicate (q4).toNat ((ub8 ((w1))) (((u0_9 + tc62_0))))) := by first | exact ⟨_, by rw [sc_lenI (by omega)]; omega, LKP_all (by have h := (RAP_from (a := 0) (pz66_3 (by omega)) (by omega) (by omega) (by rw [sc_lenI (by omega)]; omega) (by omega)).2; rw [h, sc_nil (by omega), List.nil_append, sc_u]) (by omega), .inl ⟨by omega, by rw [hq4]⟩⟩ | exact ⟨_, by rw [List.length_replicate]; omega, LKP_rep (n := q4) (w := (ub8 ((w1))) (((u0_9 + tc62_0)))) (by have h := (RAP_from (a := 0) (pz78_2 (by omega)) (by omega) (by omega) (by rw [List.length_replicate]; omega) (by omega)).2; rw [h, sc_nil (by omega), List.nil_append, hvw]; congr 1; omega) (by omega) (by omega), .inr ⟨by omega, rfl⟩⟩
                    exact hc248  _ _ _ _ _ _ _ _  ((rk_o (rk_o (rk_o (lc109_0) rfl rfl) rfl rfl) rfl rfl).trans (congrArg (fun q : Nat => some (Value.ref q)) (((show D78 0 = D 0 from (eD78 0)))).symm)) (rk_s) H O (SD_trans (SD_refl) (SD_glu (ι := [2, 3]) hD78 eD78 (by decide +kernel)) (any_subA (l' := [3]) rfl)) (SD_trans (SD_refl) (SD_glu (ι := [2, 3]) hN78 eN78 (by decide +kernel)) (any_subA (l' := [3]) rfl)) (SF_trans (SF_refl) (SF_glu (ι := [2, 3]) hS78 eF78 (by decide +kernel)) (any_sub (l' := [(2, 0), (2, 1), (2, 2)]) rfl)) (SA_trans (SA_refl) (SA_glu (ι := [2, 3]) hA78 eA78 (by decide +kernel)) (any_subA (l' := [3]) rfl)) (pf78_2_0) (m78_1) ((congrArg (fun q : Nat => (q : Int)) (eN78 3)).trans em78_1) (y78_0_1) (((eF78 2 1).trans ey78_0_1)) (w78_1) ((eA78 3).trans ew78_1) (show 0 ≤ (y78_0_1) ∧ (y78_0_1) ≤ (m78_1) ∧ (m78_1) ≤ 65536 by omega) (show ((z17) ≤ (m78_1) ∨ (m78_1) = 65536) by omega) (show ∃ L : List Int, (z17) = (L.length : Int) ∧ LKP ((w78_1)) ((y78_0_1)) 65536 L ∧ (q5 = 1 ∧ L = sc (ub8 ((w1))) (((u0_9 + tc62_0))) (((u0_9 + tc62_0)) + q4) ∨ q5 ≠ 1 ∧ L = List.replicate (q4).toNat ((ub8 ((w1))) (((u0_9 + tc62_0))))) by assumption)
                  · refine Ew_of (pc' := 206) (fun _ => x_aload_n rfl (rk_o (rk_o (rk_o (lc109_0) rfl rfl) rfl rfl) rfl rfl)) ?_
                    refine v_g H (o := 0) (v := .ref (D 2)) rfl rfl rfl rfl rfl (vrf (((((((show F18 0 4 = F_c109 0 4 from (eF18 0 4).trans (hS18 0 4 rfl))).trans (hS_c109 0 4 rfl)).trans ((show F16 0 4 = F_c62 0 4 from (eF16 0 4)))).trans (hS_c62 0 4 rfl))).trans (pf2))) ?_
                    refine Ew_of (pc' := 210) (fun _ => x_aload_n rfl (rk_o (rk_o (rk_o (lc109_0) rfl rfl) rfl rfl) rfl rfl)) ?_
                    refine v_g H (o := 0) (v := .ref (D 1)) rfl rfl rfl rfl rfl (vrf (((((((show F18 0 7 = F_c109 0 7 from (eF18 0 7).trans (hS18 0 7 rfl))).trans (hS_c109 0 7 rfl)).trans ((show F16 0 7 = F_c62 0 7 from (eF16 0 7)))).trans (hS_c62 0 7 rfl))).trans (pf1))) ?_
                    refine Ew_of (pc' := 214) (fun _ => x_aload_n rfl (rk_o (rk_o (rk_o (lc109_0) rfl rfl) rfl rfl) rfl rfl)) ?_
                    refine v_g H (o := 0) (v := I ((u0_9 + tc62_0))) rfl rfl rfl rfl rfl (congrArg (fun z : Int => I z) (rfl : (updF (updF F18 0 9 ((u0_9 + tc62_0))) 0 19 (z17)) 0 9 = (u0_9 + tc62_0))) ?_
                    refine Ew_of (pc' := 219) (fun _ => x_iload rfl (rk_o (rk_o (rk_s) rfl rfl) rfl rfl)) ?_
                    refine v_inv H (o := 2) rfl rfl rfl rfl rfl rfl (by rfl) (C161_Br (D := pul [2, 1, 3] D) (N := pul [2, 1, 3] N) (HW_sub H (VS_of (show vsub V244 V161_Br [2, 1, 3] = true by decide +kernel))) (((((((show F18 2 0 = F_c109 2 0 from (eF18 2 0))).trans (hS_c109 2 0 rfl)).trans ((show F16 2 0 = F_c62 2 0 from (eF16 2 0)))).trans (hS_c62 2 0 rfl))).trans (pf3)) (n1) (en1) (n3) (en3) (u2_1) (((((((show F18 2 1 = F_c109 2 1 from (eF18 2 1))).trans (hS_c109 2 1 rfl)).trans ((show F16 2 1 = F_c62 2 1 from (eF16 2 1)))).trans (hS_c62 2 1 rfl)).trans (eu2_1))) (u2_2) (((((((show F18 2 2 = F_c109 2 2 from (eF18 2 2))).trans (hS_c109 2 2 rfl)).trans ((show F16 2 2 = F_c62 2 2 from (eF16 2 2)))).trans (hS_c62 2 2 rfl)).trans (eu2_2))) (w1) (((show A18 1 = A_c109 1 from (eA18 1))).trans ((funext (hA_c109 1 rfl)).trans (((show A16 1 = A_c62 1 from (eA16 1).trans (funext (hA16 0 rfl)))).trans ((funext (hA_c62 1 rfl)).trans (ew1))))) (w3) (((show A18 3 = A_c109 3 from (eA18 3))).trans ((funext (hA_c109 3 rfl)).trans (((show A16 3 = A_c62 3 from (eA16 3))).trans ((funext (hA_c62 3 rfl)).trans (ew3))))) (show inr ((u0_9 + tc62_0)) by omega) (show inr (z17) by omega) (show 0 ≤ (u2_1) ∧ (u2_1) ≤ (n3) ∧ (n3) ≤ 65536 by omega) (show (z17) < 0 ∨ 0 ≤ ((u0_9 + tc62_0)) ∧ ((u0_9 + tc62_0)) + (z17) ≤ (n1) by omega) (fun σ82 D82' N82' F82' A82' c82 s82 H' O' hD82 hN82 hS82 hA82 pm82_2 m82_2 em82_2 y82_0_1 ey82_0_1 y82_0_2 ey82_0_2 w82_2 ew82_2 pz82_0 pz82_1 pz82_2 pz82_3 => ⟨rfl, ?_⟩))
                    replace pm82_2 := HIDm pm82_2
                    replace em82_2 := HIDm em82_2
                    replace ey82_0_1 := HIDm ey82_0_1
                    replace ey82_0_2 := HIDm ey82_0_2
                    refine v_backM (c := c) (s := s) H (show vsub V244 V161_Br [2, 1, 3] = true by decide +kernel) H' O' hD82 (show vmov V244 [2, 1, 3] [2] = true by decide +kernel) (fun D82 N82 F82 A82 H O' eD82 eN82 eF82 eA82 => ?_)
                    have O := OUT_trans O O'
                    -- Row.addPart
                    have pf82_0_4 : HID (F82 0 4 = (D82 2 : Int)) := ((show F82 0 4 = (updF (updF F18 0 9 ((u0_9 + tc62_0))) 0 19 (z17)) 0 4 from (eF82 0 4))).trans ((((((((show F18 0 4 = F_c109 0 4 from (eF18 0 4).trans (hS18 0 4 rfl))).trans (hS_c109 0 4 rfl)).trans ((show F16 0 4 = F_c62 0 4 from (eF16 0 4)))).trans (hS_c62 0 4 rfl))).trans (pf2)).trans (congrArg (fun q : Nat => (q : Int)) ((show D82 2 = D 2 from (eD82 2).trans (hD82 0 rfl))).symm))
                    have pf82_0_7 : HID (F82 0 7 = (D82 1 : Int)) := ((show F82 0 7 = (updF (updF F18 0 9 ((u0_9 + tc62_0))) 0 19 (z17)) 0 7 from (eF82 0 7))).trans ((((((((show F18 0 7 = F_c109 0 7 from (eF18 0 7).trans (hS18 0 7 rfl))).trans (hS_c109 0 7 rfl)).trans ((show F16 0 7 = F_c62 0 7 from (eF16 0 7)))).trans (hS_c62 0 7 rfl))).trans (pf1)).trans (congrArg (fun q : Nat => (q : Int)) ((show D82 1 = D 1 from (eD82 1).trans (hD82 1 rfl))).symm))
                    have pf82_2_0 : HID (F82 2 0 = (D82 3 : Int)) := (eF82 2 0).trans (pm82_2.trans (congrArg (fun q : Nat => (q : Int)) (eD82 3).symm))
                    have r83 : (0 : Int) ≤ m82_2 ∧ m82_2 ≤ 1000000 := by have h1 := H.nle 3 (by decide); have h2 : (N82 3 : Int) = m82_2 := (congrArg (fun q : Nat => (q : Int)) (eN82 3)).trans em82_2; omega
                    have r84 : (-2147483648 : Int) ≤ y82_0_1 ∧ y82_0_1 ≤ 2147483647 := by have h1 : (-2147483648 : Int) ≤ F82 2 1 ∧ F82 2 1 ≤ 2147483647 := H.krg 2 1 (by decide); rw [show F82 2 1 = y82_0_1 from ((eF82 2 1).trans ey82_0_1)] at h1; exact h1
                    have r85 : (0 : Int) ≤ y82_0_2 ∧ y82_0_2 ≤ 1 := by have h1 : (0 : Int) ≤ F82 2 2 ∧ F82 2 2 ≤ 1 := H.krg 2 2 (by decide); rw [show F82 2 2 = y82_0_2 from ((eF82 2 2).trans ey82_0_2)] at h1; exact h1
                    refine Ew_of (pc' := 248) (fun _ => x_goto rfl rfl) ?_
                    have : ∃ L : List Int, (z17) = (L.length : Int) ∧ LKP ((w82_2)) ((y82_0_1)) 65536 L ∧ (q5 = 1 ∧ L = sc (ub8 ((w1))) (((u0_9 + tc62_0))) (((u0_9 + tc62_0)) + q4) ∨ q5 ≠ 1 ∧ L = List.replicate (q4).toNat ((ub8 ((w1))) (((u0_9 + tc62_0))))) := by first | exact ⟨_, by rw [sc_lenI (by omega)]; omega, LKP_all (by have h := (RAP_from (a := 0) (pz82_3 (by omega)) (by omega) (by omega) (by rw [sc_lenI (by omega)]; omega) (by omega)).2; rw [h, sc_nil (by omega), List.nil_append, sc_u]) (by omega), .inl ⟨by omega, by rw [hq4]⟩⟩ | exact ⟨_, by rw [List.length_replicate]; omega, LKP_rep (n := q4) (w := (ub8 ((w1))) (((u0_9 + tc62_0)))) (by have h := (RAP_from (a := 0) (pz78_2 (by omega)) (by omega) (by omega) (by rw [List.length_replicate]; omega) (by omega)).2; rw [h, sc_nil (by omega), List.nil_append, hvw]; congr 1; omega) (by omega) (by omega), .inr ⟨by omega, rfl⟩⟩
                    exact hc248  _ _ _ _ _ _ _ _  ((rk_o (rk_o (rk_o (lc109_0) rfl rfl) rfl rfl) rfl rfl).trans (congrArg (fun q : Nat => some (Value.ref q)) (((show D82 0 = D 0 from (eD82 0)))).symm)) (rk_s) H O (SD_trans (SD_refl) (SD_glu (ι := [2, 1, 3]) hD82 eD82 (by decide +kernel)) (any_subA (l' := [3]) rfl)) (SD_trans (SD_refl) (SD_glu (ι := [2, 1, 3]) hN82 eN82 (by decide +kernel)) (any_subA (l' := [3]) rfl)) (SF_trans (SF_refl) (SF_glu (ι := [2, 1, 3]) hS82 eF82 (by decide +kernel)) (any_sub (l' := [(2, 0), (2, 1), (2, 2)]) rfl)) (SA_trans (SA_refl) (SA_glu (ι := [2, 1, 3]) hA82 eA82 (by decide +kernel)) (any_subA (l' := [3]) rfl)) (pf82_2_0) (m82_2) ((congrArg (fun q : Nat => (q : Int)) (eN82 3)).trans em82_2) (y82_0_1) (((eF82 2 1).trans ey82_0_1)) (w82_2) ((eA82 3).trans ew82_2) (show 0 ≤ (y82_0_1) ∧ (y82_0_1) ≤ (m82_2) ∧ (m82_2) ≤ 65536 by omega) (show ((z17) ≤ (m82_2) ∨ (m82_2) = 65536) by omega) (show ∃ L : List Int, (z17) = (L.length : Int) ∧ LKP ((w82_2)) ((y82_0_1)) 65536 L ∧ (q5 = 1 ∧ L = sc (ub8 ((w1))) (((u0_9 + tc62_0))) (((u0_9 + tc62_0)) + q4) ∨ q5 ≠ 1 ∧ L = List.replicate (q4).toNat ((ub8 ((w1))) (((u0_9 + tc62_0))))) by assumption)
                · refine Ew_of (pc' := 184) (fun _ => x_aload_n rfl (rk_o (rk_o (rk_o (lc109_0) rfl rfl) rfl rfl) rfl rfl)) ?_
                  refine Ew_of (pc' := 186) (fun _ => x_bipush (z := 10) rfl (by decide)) ?_
                  refine Ew_of (pc' := 187) (fun _ => x_aload_n rfl (rk_o (rk_o (rk_o (lc109_0) rfl rfl) rfl rfl) rfl rfl)) ?_
                  refine v_g H (o := 0) (v := I (u0_18)) rfl rfl rfl rfl rfl (congrArg (fun z : Int => I z) (((((((show F18 0 18 = F_c109 0 18 from (eF18 0 18).trans (hS18 0 18 rfl))).trans (hS_c109 0 18 rfl)).trans ((show F16 0 18 = F_c62 0 18 from (eF16 0 18)))).trans (hS_c62 0 18 rfl)).trans (eu0_18)) : (updF F18 0 9 ((u0_9 + tc62_0))) 0 18 = u0_18)) ?_
                  refine v_inv H (o := 0) rfl rfl rfl rfl rfl rfl (by rfl) (C232 (D := pul [0] D) (N := pul [0] N) (HW_sub H (VS_of (show vsub V244 V232 [0] = true by decide +kernel))) (u0_21) (((((((show F18 0 21 = F_c109 0 21 from (eF18 0 21).trans (hS18 0 21 rfl))).trans (hS_c109 0 21 rfl)).trans ((show F16 0 21 = F_c62 0 21 from (eF16 0 21)))).trans (hS_c62 0 21 rfl)).trans (eu0_21))) (show inr (10) by omega) (show inr (u0_18) by omega) (fun z86 σ86 F86' A86' H' O' hS86 hA86 y86_0_21 ey86_0_21 pz86_0 pz86_1 pz86_2 => ⟨rfl, ?_⟩))
                  replace ey86_0_21 := HIDm ey86_0_21
                  refine v_back (c := c) (s := s) H (show vsub V244 V232 [0] = true by decide +kernel) H' O' (fun F86 A86 H O' eF86 eA86 => ?_)
                  have O := OUT_trans O O'
                  -- Unpacker.fail
                  have r87 : (-2147483648 : Int) ≤ y86_0_21 ∧ y86_0_21 ≤ 2147483647 := by have h1 : (-2147483648 : Int) ≤ F86 0 21 ∧ F86 0 21 ≤ 2147483647 := H.krg 0 21 (by decide); rw [show F86 0 21 = y86_0_21 from ((eF86 0 21).trans ey86_0_21)] at h1; exact h1
                  have : PLA (ub8 ((w1))) ((u0_9)) ((u0_18)) (moF ((u0_15))) ((z86)) ((y86_0_21)) (((u0_9 + tc62_0))) ((u0_19)) ((u2_1)) ((w3)) := PLA_f (fun T G => (hLT T G).trans (LT0_10 (fo := (z17)) (by omega) (by omega) (by omega) (by omega))) (by decide) (by omega) (by omega)
                  exact w_ireturn rfl (k (z86) _ _ _ _ _ _ _ H O (SD_refl) (SD_refl) (SF_trans (SF_upd (SF_trans (SF_trans (SF_trans (SF_trans (SF_refl) hS_c62 (any_sub rfl)) (SF_glu (ι := [1]) hS16 eF16 (by decide +kernel)) (any_sub (l' := []) rfl)) hS_c109 (any_sub rfl)) (SF_glu (ι := [0]) hS18 eF18 (by decide +kernel)) (any_sub (l' := []) rfl)) rfl) (SF_glu (ι := [0]) hS86 eF86 (by decide +kernel)) (any_sub (l' := [(0, 21)]) rfl)) (SA_trans (SA_trans (SA_trans (SA_trans (SA_trans (SA_refl) hA_c62 (any_subA rfl)) (SA_glu (ι := [1]) hA16 eA16 (by decide +kernel)) (any_subA (l' := []) rfl)) hA_c109 (any_subA rfl)) (SA_glu (ι := [0]) hA18 eA18 (by decide +kernel)) (any_subA (l' := []) rfl)) (SA_glu (ι := [0]) hA86 eA86 (by decide +kernel)) (any_subA (l' := []) rfl)) ((((((((show F86 2 0 = (updF F18 0 9 ((u0_9 + tc62_0))) 2 0 from (eF86 2 0))).trans ((show F18 2 0 = F_c109 2 0 from (eF18 2 0)))).trans (hS_c109 2 0 rfl)).trans ((show F16 2 0 = F_c62 2 0 from (eF16 2 0)))).trans (hS_c62 2 0 rfl))).trans (pf3)) (n3) (en3) ((u0_9 + tc62_0)) (((show F86 0 9 = (updF F18 0 9 ((u0_9 + tc62_0))) 0 9 from (eF86 0 9).trans (hS86 0 9 rfl)))) (u0_19) ((((((((show F86 0 19 = (updF F18 0 9 ((u0_9 + tc62_0))) 0 19 from (eF86 0 19).trans (hS86 0 19 rfl))).trans ((show F18 0 19 = F_c109 0 19 from (eF18 0 19).trans (hS18 0 19 rfl)))).trans (hS_c109 0 19 rfl)).trans ((show F16 0 19 = F_c62 0 19 from (eF16 0 19)))).trans (hS_c62 0 19 rfl)).trans (eu0_19))) (y86_0_21) (((eF86 0 21).trans ey86_0_21)) (u2_1) ((((((((show F86 2 1 = (updF F18 0 9 ((u0_9 + tc62_0))) 2 1 from (eF86 2 1))).trans ((show F18 2 1 = F_c109 2 1 from (eF18 2 1)))).trans (hS_c109 2 1 rfl)).trans ((show F16 2 1 = F_c62 2 1 from (eF16 2 1)))).trans (hS_c62 2 1 rfl)).trans (eu2_1))) (w3) (((show A86 3 = A18 3 from (eA86 3))).trans (((show A18 3 = A_c109 3 from (eA18 3))).trans ((funext (hA_c109 3 rfl)).trans (((show A16 3 = A_c62 3 from (eA16 3))).trans ((funext (hA_c62 3 rfl)).trans (ew3)))))) (show inr (z86) by omega) (show 0 ≤ (z86) ∧ (z86) ≤ 17 by omega) (show 0 ≤ ((u0_9 + tc62_0)) ∧ (u0_9) ≤ ((u0_9 + tc62_0)) ∧ ((u0_9 + tc62_0)) ≤ (u0_8) by omega) (show ((u0_9 + tc62_0)) ≤ (u0_18) by omega) (show 0 ≤ (u2_1) ∧ (u2_1) ≤ (n3) ∧ (n3) ≤ 65536 by omega) (show (z86) ≠ 0 ∨ 0 ≤ (u0_19) ∧ (u0_19) ≤ 131072 ∧ ((u0_19) ≤ (n3) ∨ (n3) = 65536) by omega) (show PLA (ub8 ((w1))) ((u0_9)) ((u0_18)) (moF ((u0_15))) ((z86)) ((y86_0_21)) (((u0_9 + tc62_0))) ((u0_19)) ((u2_1)) ((w3)) by assumption) (show (z86) ≠ 0 ∨ (u0_19) ≤ moF ((u0_15)) by omega) (show (z86) ≠ 0 ∨ (y86_0_21) = (u0_21) by omega))
          · refine Ew_of (pc' := 123) (fun _ => x_aload_n rfl (rk_o (lc109_0) rfl rfl)) ?_
            refine Ew_of (pc' := 125) (fun _ => x_bipush (z := 11) rfl (by decide)) ?_
            refine Ew_of (pc' := 126) (fun _ => x_aload_n rfl (rk_o (lc109_0) rfl rfl)) ?_
            refine v_g H (o := 0) (v := I (u0_9)) rfl rfl rfl rfl rfl (congrArg (fun z : Int => I z) (((((((show F18 0 9 = F_c109 0 9 from (eF18 0 9).trans (hS18 0 9 rfl))).trans (hS_c109 0 9 rfl)).trans ((show F16 0 9 = F_c62 0 9 from (eF16 0 9)))).trans (hS_c62 0 9 rfl)).trans (eu0_9)) : F18 0 9 = u0_9)) ?_
            refine v_inv H (o := 0) rfl rfl rfl rfl rfl rfl (by rfl) (C232 (D := pul [0] D) (N := pul [0] N) (HW_sub H (VS_of (show vsub V244 V232 [0] = true by decide +kernel))) (u0_21) (((((((show F18 0 21 = F_c109 0 21 from (eF18 0 21).trans (hS18 0 21 rfl))).trans (hS_c109 0 21 rfl)).trans ((show F16 0 21 = F_c62 0 21 from (eF16 0 21)))).trans (hS_c62 0 21 rfl)).trans (eu0_21))) (show inr (11) by omega) (show inr (u0_9) by omega) (fun z88 σ88 F88' A88' H' O' hS88 hA88 y88_0_21 ey88_0_21 pz88_0 pz88_1 pz88_2 => ⟨rfl, ?_⟩))
            replace ey88_0_21 := HIDm ey88_0_21
            refine v_back (c := c) (s := s) H (show vsub V244 V232 [0] = true by decide +kernel) H' O' (fun F88 A88 H O' eF88 eA88 => ?_)
            have O := OUT_trans O O'
            -- Unpacker.fail
            have r89 : (-2147483648 : Int) ≤ y88_0_21 ∧ y88_0_21 ≤ 2147483647 := by have h1 : (-2147483648 : Int) ≤ F88 0 21 ∧ F88 0 21 ≤ 2147483647 := H.krg 0 21 (by decide); rw [show F88 0 21 = y88_0_21 from ((eF88 0 21).trans ey88_0_21)] at h1; exact h1
            have : PLA (ub8 ((w1))) ((u0_9)) ((u0_18)) (moF ((u0_15))) ((z88)) ((y88_0_21)) ((u0_9)) ((u0_19)) ((u2_1)) ((w3)) := PLA_f (fun T G => (LTF_0 (b := (tc62_0)) (n := qn) (d := q9) (by omega) hbl rfl hb4 rfl (by rw [← hlx]; exact hl3) hqn hq9c).trans (LT0_11 (by omega) (by omega))) (by decide) (by omega) (by omega)
            exact w_ireturn rfl (k (z88) _ _ _ _ _ _ _ H O (SD_refl) (SD_refl) (SF_trans (SF_trans (SF_trans (SF_trans (SF_trans (SF_refl) hS_c62 (any_sub rfl)) (SF_glu (ι := [1]) hS16 eF16 (by decide +kernel)) (any_sub (l' := []) rfl)) hS_c109 (any_sub rfl)) (SF_glu (ι := [0]) hS18 eF18 (by decide +kernel)) (any_sub (l' := []) rfl)) (SF_glu (ι := [0]) hS88 eF88 (by decide +kernel)) (any_sub (l' := [(0, 21)]) rfl)) (SA_trans (SA_trans (SA_trans (SA_trans (SA_trans (SA_refl) hA_c62 (any_subA rfl)) (SA_glu (ι := [1]) hA16 eA16 (by decide +kernel)) (any_subA (l' := []) rfl)) hA_c109 (any_subA rfl)) (SA_glu (ι := [0]) hA18 eA18 (by decide +kernel)) (any_subA (l' := []) rfl)) (SA_glu (ι := [0]) hA88 eA88 (by decide +kernel)) (any_subA (l' := []) rfl)) ((((((((show F88 2 0 = F18 2 0 from (eF88 2 0))).trans ((show F18 2 0 = F_c109 2 0 from (eF18 2 0)))).trans (hS_c109 2 0 rfl)).trans ((show F16 2 0 = F_c62 2 0 from (eF16 2 0)))).trans (hS_c62 2 0 rfl))).trans (pf3)) (n3) (en3) (u0_9) ((((((((show F88 0 9 = F18 0 9 from (eF88 0 9).trans (hS88 0 9 rfl))).trans ((show F18 0 9 = F_c109 0 9 from (eF18 0 9).trans (hS18 0 9 rfl)))).trans (hS_c109 0 9 rfl)).trans ((show F16 0 9 = F_c62 0 9 from (eF16 0 9)))).trans (hS_c62 0 9 rfl)).trans (eu0_9))) (u0_19) ((((((((show F88 0 19 = F18 0 19 from (eF88 0 19).trans (hS88 0 19 rfl))).trans ((show F18 0 19 = F_c109 0 19 from (eF18 0 19).trans (hS18 0 19 rfl)))).trans (hS_c109 0 19 rfl)).trans ((show F16 0 19 = F_c62 0 19 from (eF16 0 19)))).trans (hS_c62 0 19 rfl)).trans (eu0_19))) (y88_0_21) (((eF88 0 21).trans ey88_0_21)) (u2_1) ((((((((show F88 2 1 = F18 2 1 from (eF88 2 1))).trans ((show F18 2 1 = F_c109 2 1 from (eF18 2 1)))).trans (hS_c109 2 1 rfl)).trans ((show F16 2 1 = F_c62 2 1 from (eF16 2 1)))).trans (hS_c62 2 1 rfl)).trans (eu2_1))) (w3) (((show A88 3 = A18 3 from (eA88 3))).trans (((show A18 3 = A_c109 3 from (eA18 3))).trans ((funext (hA_c109 3 rfl)).trans (((show A16 3 = A_c62 3 from (eA16 3))).trans ((funext (hA_c62 3 rfl)).trans (ew3)))))) (show inr (z88) by omega) (show 0 ≤ (z88) ∧ (z88) ≤ 17 by omega) (show 0 ≤ (u0_9) ∧ (u0_9) ≤ (u0_9) ∧ (u0_9) ≤ (u0_8) by omega) (show (u0_9) ≤ (u0_18) by omega) (show 0 ≤ (u2_1) ∧ (u2_1) ≤ (n3) ∧ (n3) ≤ 65536 by omega) (show (z88) ≠ 0 ∨ 0 ≤ (u0_19) ∧ (u0_19) ≤ 131072 ∧ ((u0_19) ≤ (n3) ∨ (n3) = 65536) by omega) (show PLA (ub8 ((w1))) ((u0_9)) ((u0_18)) (moF ((u0_15))) ((z88)) ((y88_0_21)) ((u0_9)) ((u0_19)) ((u2_1)) ((w3)) by assumption) (show (z88) ≠ 0 ∨ (u0_19) ≤ moF ((u0_15)) by omega) (show (z88) ≠ 0 ∨ (y88_0_21) = (u0_21) by omega))
        refine w_icmpne (t := 108) rfl rfl (show inr (tc62_0) by omega) (show inr (1) by omega) (fun b90 => ?_) (fun b90 => ?_)
        · refine Ew_of (pc' := 109) (fun _ => x_iconst rfl) ?_
          exact hc109 (4) _ _ _ _  (rk_o (lc62_0) rfl rfl) (rk_o (lc62_1) rfl rfl) (rk_s) H O (SF_refl) (SA_refl)     (show inr (4) by omega) (show ((tc62_0) ≠ (1) ∧ (4) = (4)) ∨ ((tc62_0) = (1) ∧ (4) = (3)) by omega)
        · refine Ew_of (pc' := 105) (fun _ => x_iconst rfl) ?_
          refine Ew_of (pc' := 109) (fun _ => x_goto rfl rfl) ?_
          exact hc109 (3) _ _ _ _  (rk_o (lc62_0) rfl rfl) (rk_o (lc62_1) rfl rfl) (rk_s) H O (SF_refl) (SA_refl)     (show inr (3) by omega) (show ((tc62_0) ≠ (1) ∧ (3) = (4)) ∨ ((tc62_0) = (1) ∧ (3) = (3)) by omega)
      · refine Ew_of (pc' := 77) (fun _ => x_aload_n rfl (rk_o (lc62_0) rfl rfl)) ?_
        refine Ew_of (pc' := 79) (fun _ => x_bipush (z := 10) rfl (by decide)) ?_
        refine Ew_of (pc' := 80) (fun _ => x_aload_n rfl (rk_o (lc62_0) rfl rfl)) ?_
        refine v_g H (o := 0) (v := I (u0_18)) rfl rfl rfl rfl rfl (congrArg (fun z : Int => I z) (((hS_c62 0 18 rfl).trans (eu0_18)) : F_c62 0 18 = u0_18)) ?_
        refine v_inv H (o := 0) rfl rfl rfl rfl rfl rfl (by rfl) (C232 (D := pul [0] D) (N := pul [0] N) (HW_sub H (VS_of (show vsub V244 V232 [0] = true by decide +kernel))) (u0_21) (((hS_c62 0 21 rfl).trans (eu0_21))) (show inr (10) by omega) (show inr (u0_18) by omega) (fun z91 σ91 F91' A91' H' O' hS91 hA91 y91_0_21 ey91_0_21 pz91_0 pz91_1 pz91_2 => ⟨rfl, ?_⟩))
        replace ey91_0_21 := HIDm ey91_0_21
        refine v_back (c := c) (s := s) H (show vsub V244 V232 [0] = true by decide +kernel) H' O' (fun F91 A91 H O' eF91 eA91 => ?_)
        have O := OUT_trans O O'
        -- Unpacker.fail
        have r92 : (-2147483648 : Int) ≤ y91_0_21 ∧ y91_0_21 ≤ 2147483647 := by have h1 : (-2147483648 : Int) ≤ F91 0 21 ∧ F91 0 21 ≤ 2147483647 := H.krg 0 21 (by decide); rw [show F91 0 21 = y91_0_21 from ((eF91 0 21).trans ey91_0_21)] at h1; exact h1
        have : PLA (ub8 ((w1))) ((u0_9)) ((u0_18)) (moF ((u0_15))) ((z91)) ((y91_0_21)) ((u0_9)) ((u0_19)) ((u2_1)) ((w3)) := PLA_f (fun T G => LTF_h (b := (tc62_0)) (by omega) hbl (.inl ⟨hb4, by rw [← hlx]; exact hl3⟩) (by omega)) (by decide) (by omega) (by omega)
        exact w_ireturn rfl (k (z91) _ _ _ _ _ _ _ H O (SD_refl) (SD_refl) (SF_trans (SF_trans (SF_refl) hS_c62 (any_sub rfl)) (SF_glu (ι := [0]) hS91 eF91 (by decide +kernel)) (any_sub (l' := [(0, 21)]) rfl)) (SA_trans (SA_trans (SA_refl) hA_c62 (any_subA rfl)) (SA_glu (ι := [0]) hA91 eA91 (by decide +kernel)) (any_subA (l' := []) rfl)) (((((show F91 2 0 = F_c62 2 0 from (eF91 2 0))).trans (hS_c62 2 0 rfl))).trans (pf3)) (n3) (en3) (u0_9) (((((show F91 0 9 = F_c62 0 9 from (eF91 0 9).trans (hS91 0 9 rfl))).trans (hS_c62 0 9 rfl)).trans (eu0_9))) (u0_19) (((((show F91 0 19 = F_c62 0 19 from (eF91 0 19).trans (hS91 0 19 rfl))).trans (hS_c62 0 19 rfl)).trans (eu0_19))) (y91_0_21) (((eF91 0 21).trans ey91_0_21)) (u2_1) (((((show F91 2 1 = F_c62 2 1 from (eF91 2 1))).trans (hS_c62 2 1 rfl)).trans (eu2_1))) (w3) (((show A91 3 = A_c62 3 from (eA91 3))).trans ((funext (hA_c62 3 rfl)).trans (ew3))) (show inr (z91) by omega) (show 0 ≤ (z91) ∧ (z91) ≤ 17 by omega) (show 0 ≤ (u0_9) ∧ (u0_9) ≤ (u0_9) ∧ (u0_9) ≤ (u0_8) by omega) (show (u0_9) ≤ (u0_18) by omega) (show 0 ≤ (u2_1) ∧ (u2_1) ≤ (n3) ∧ (n3) ≤ 65536 by omega) (show (z91) ≠ 0 ∨ 0 ≤ (u0_19) ∧ (u0_19) ≤ 131072 ∧ ((u0_19) ≤ (n3) ∨ (n3) = 65536) by omega) (show PLA (ub8 ((w1))) ((u0_9)) ((u0_18)) (moF ((u0_15))) ((z91)) ((y91_0_21)) ((u0_9)) ((u0_19)) ((u2_1)) ((w3)) by assumption) (show (z91) ≠ 0 ∨ (u0_19) ≤ moF ((u0_15)) by omega) (show (z91) ≠ 0 ∨ (y91_0_21) = (u0_21) by omega))
    refine w_ifne (t := 52) rfl rfl (show inr ((z14 % 2)) by omega) (fun b93 => ?_) (fun b93 => ?_)
    · refine Ew_of (pc' := 53) (fun _ => x_iload_n rfl rk_s) ?_
      refine Ew_of (pc' := 54) (fun _ => x_iconst rfl) ?_
      refine w_icmpne (t := 61) rfl rfl (show inr (z14) by omega) (show inr (1) by omega) (fun b94 => ?_) (fun b94 => ?_)
      · refine Ew_of (pc' := 62) (fun _ => x_iconst rfl) ?_
        exact hc62 (3) _ _ _ _  (rk_o (rk_o (rfl) rfl rfl) rfl rfl) (rk_o (rk_s) rfl rfl) H O (SF_refl) (SA_refl)     (show inr (3) by omega) (show (((z14 % 2)) ≠ (0) ∧ (z14) ≠ (1) ∧ (3) = (3)) ∨ (((z14 % 2)) ≠ (0) ∧ (z14) = (1) ∧ (3) = (2)) ∨ (((z14 % 2)) = (0) ∧ (3) = (1)) by omega)
      · refine Ew_of (pc' := 58) (fun _ => x_iconst rfl) ?_
        refine Ew_of (pc' := 62) (fun _ => x_goto rfl rfl) ?_
        exact hc62 (2) _ _ _ _  (rk_o (rk_o (rfl) rfl rfl) rfl rfl) (rk_o (rk_s) rfl rfl) H O (SF_refl) (SA_refl)     (show inr (2) by omega) (show (((z14 % 2)) ≠ (0) ∧ (z14) ≠ (1) ∧ (2) = (3)) ∨ (((z14 % 2)) ≠ (0) ∧ (z14) = (1) ∧ (2) = (2)) ∨ (((z14 % 2)) = (0) ∧ (2) = (1)) by omega)
    · refine Ew_of (pc' := 49) (fun _ => x_iconst rfl) ?_
      refine Ew_of (pc' := 62) (fun _ => x_goto rfl rfl) ?_
      exact hc62 (1) _ _ _ _  (rk_o (rk_o (rfl) rfl rfl) rfl rfl) (rk_o (rk_s) rfl rfl) H O (SF_refl) (SA_refl)     (show inr (1) by omega) (show (((z14 % 2)) ≠ (0) ∧ (z14) ≠ (1) ∧ (1) = (3)) ∨ (((z14 % 2)) ≠ (0) ∧ (z14) = (1) ∧ (1) = (2)) ∨ (((z14 % 2)) = (0) ∧ (1) = (1)) by omega)
  · refine Ew_of (pc' := 12) (fun _ => x_aload_n rfl rfl) ?_
    refine Ew_of (pc' := 14) (fun _ => x_bipush (z := 10) rfl (by decide)) ?_
    refine Ew_of (pc' := 15) (fun _ => x_aload_n rfl rfl) ?_
    refine v_g H (o := 0) (v := I (u0_18)) rfl rfl rfl rfl rfl (congrArg (fun z : Int => I z) ((eu0_18) : F 0 18 = u0_18)) ?_
    refine v_inv H (o := 0) rfl rfl rfl rfl rfl rfl (by rfl) (C232 (D := pul [0] D) (N := pul [0] N) (HW_sub H (VS_of (show vsub V244 V232 [0] = true by decide +kernel))) (u0_21) ((eu0_21)) (show inr (10) by omega) (show inr (u0_18) by omega) (fun z95 σ95 F95' A95' H' O' hS95 hA95 y95_0_21 ey95_0_21 pz95_0 pz95_1 pz95_2 => ⟨rfl, ?_⟩))
    replace ey95_0_21 := HIDm ey95_0_21
    refine v_back (c := c) (s := s) H (show vsub V244 V232 [0] = true by decide +kernel) H' O' (fun F95 A95 H O' eF95 eA95 => ?_)
    have O := OUT_trans O O'
    -- Unpacker.fail
    have r96 : (-2147483648 : Int) ≤ y95_0_21 ∧ y95_0_21 ≤ 2147483647 := by have h1 : (-2147483648 : Int) ≤ F95 0 21 ∧ F95 0 21 ≤ 2147483647 := H.krg 0 21 (by decide); rw [show F95 0 21 = y95_0_21 from ((eF95 0 21).trans ey95_0_21)] at h1; exact h1
    have : PLA (ub8 ((w1))) ((u0_9)) ((u0_18)) (moF ((u0_15))) ((z95)) ((y95_0_21)) ((u0_9)) ((u0_19)) ((u2_1)) ((w3)) := PLA_f (fun T G => LTF_e (by omega)) (by decide) (by omega) (by omega)
    exact w_ireturn rfl (k (z95) _ _ _ _ _ _ _ H O (SD_refl) (SD_refl) (SF_trans (SF_refl) (SF_glu (ι := [0]) hS95 eF95 (by decide +kernel)) (any_sub (l' := [(0, 21)]) rfl)) (SA_trans (SA_refl) (SA_glu (ι := [0]) hA95 eA95 (by decide +kernel)) (any_subA (l' := []) rfl)) ((((show F95 2 0 = F 2 0 from (eF95 2 0)))).trans (pf3)) (n3) (en3) (u0_9) ((((show F95 0 9 = F 0 9 from (eF95 0 9).trans (hS95 0 9 rfl))).trans (eu0_9))) (u0_19) ((((show F95 0 19 = F 0 19 from (eF95 0 19).trans (hS95 0 19 rfl))).trans (eu0_19))) (y95_0_21) (((eF95 0 21).trans ey95_0_21)) (u2_1) ((((show F95 2 1 = F 2 1 from (eF95 2 1))).trans (eu2_1))) (w3) (((show A95 3 = A 3 from (eA95 3))).trans (ew3)) (show inr (z95) by omega) (show 0 ≤ (z95) ∧ (z95) ≤ 17 by omega) (show 0 ≤ (u0_9) ∧ (u0_9) ≤ (u0_9) ∧ (u0_9) ≤ (u0_8) by omega) (show (u0_9) ≤ (u0_18) by omega) (show 0 ≤ (u2_1) ∧ (u2_1) ≤ (n3) ∧ (n3) ≤ 65536 by omega) (show (z95) ≠ 0 ∨ 0 ≤ (u0_19) ∧ (u0_19) ≤ 131072 ∧ ((u0_19) ≤ (n3) ∨ (n3) = 65536) by omega) (show PLA (ub8 ((w1))) ((u0_9)) ((u0_18)) (moF ((u0_15))) ((z95)) ((y95_0_21)) ((u0_9)) ((u0_19)) ((u2_1)) ((w3)) by assumption) (show (z95) ≠ 0 ∨ (u0_19) ≤ moF ((u0_15)) by omega) (show (z95) ≠ 0 ∨ (y95_0_21) = (u0_21) by omega))
