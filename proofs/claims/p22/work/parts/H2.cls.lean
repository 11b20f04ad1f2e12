abbrev V232 : vV := [(0, 12, [(4, 0), (4, 0), (4, 0), (4, 0), (4, 0), (4, 0), (4, 0), (4, 0), (0, 0), (0, 0), (4, 0), (0, 0), (4, 0), (4, 0), (0, 0), (2, 0), (0, 0), (0, 0), (0, 0), (0, 0), (0, 0), (0, 0)])]
theorem len_V232_oz_H2cls : (V232).length = 1 := by decide +kernel
def oz_H2clsl_0 : List (Nat × Nat) := [(0, 21)]
theorem oz_H2cls_1 : (oz_H2clsl_0).all (fun p => !tbz 2097152 (Nat.add (Nat.mul 32 p.1) p.2)) = true := by decide +kernel
/-- Unpacker.fail: this -/
theorem C232 {σE : rS} {D N : Nat → Nat} {F : hF} {A : hA} {d c s : Nat} {Q : wQ} (H : HW V232 σE D N F A) {a1 a2 : Int} (u0_21 : Int) (eu0_21 : HID (F 0 21 = u0_21)) (h0 : inr (a1)) (h1 : inr (a2)) (k : ∀ (z : Int) (σ : rS) (Fₚ : hF) (Aₚ : hA), HW V232 σ D N Fₚ Aₚ → OUT (V232).length D N σE c s D N σ c s → SF [(0, 21)] F Fₚ → SA [] A Aₚ → ∀ y0_21 : Int, Fₚ 0 21 = y0_21 → (inr (z)) → ((z) = (a1)) → ((y0_21) = (a2)) → Q (some (I z)) σ c s) : Ew 232 (d + 0) 0 (rargs 0 [.ref (D 0), I a1, I a2]) [] σE c s Q := by
  have O := OUT_refl (n := (V232).length) (D := D) (N := N) (σ := σE) (c := c) (s := s)
  have HE := H
  have r1 : (-2147483648 : Int) ≤ u0_21 ∧ u0_21 ≤ 2147483647 := rngE (show (-2147483648 : Int) ≤ F 0 21 ∧ F 0 21 ≤ 2147483647 from H.krg 0 21 (ltn len_V232_oz_H2cls rfl)) (show F 0 21 = u0_21 from (eu0_21))
  refine Ew_of (pcₚ := 1) (fun _ => x_aload_n rfl rfl) ?_
  refine Ew_of (pcₚ := 2) (fun _ => x_iload_n rfl rfl) ?_
  refine v_p H (o := 0) (z := a2) (v := I (a2)) rfl rfl rfl rfl rfl rfl rfl rfl (show (-2147483648 : Int) ≤ a2 ∧ a2 ≤ 2147483647 from q_61 h1) (fun σ H Oₚ => ?_)
  have O := OUT_trans O Oₚ
  have cFu2 : SF oz_H2clsl_0 F (updF F 0 21 (a2)) := SF_upd (SF_refl) rfl
  have mFu2 := SFm_of cFu2 oz_H2cls_1
  refine Ew_of (pcₚ := 6) (fun _ => x_iload_n rfl rfl) ?_
  exact w_ireturn rfl (k (a1) _ _ _ H O (cFu2) (SA_refl) (a2) (rfl) (show inr (a1) from h0) (show (a1) = a1 from q_42) (show (a2) = a2 from q_42))
abbrev V234 : vV := [(0, 12, [(4, 0), (4, 0), (4, 0), (4, 0), (4, 0), (4, 0), (4, 0), (4, 0), (0, 0), (0, 0), (4, 0), (0, 0), (4, 0), (4, 0), (0, 0), (2, 0), (0, 0), (0, 0), (0, 0), (0, 0), (0, 0), (0, 0)])]
theorem len_V234_oz_H2cls : (V234).length = 1 := by decide +kernel
/-- Unpacker.blockMost: this -/
theorem C234 {σE : rS} {D N : Nat → Nat} {F : hF} {A : hA} {d c s : Nat} {Q : wQ} (H : HW V234 σE D N F A)  (u0_15 : Int) (eu0_15 : HID (F 0 15 = u0_15)) (h0 : 0 ≤ (u0_15)) (k : ∀ (z : Int) (σ : rS) (Fₚ : hF) (Aₚ : hA), HW V234 σ D N Fₚ Aₚ → OUT (V234).length D N σE c s D N σ c s → SF [] F Fₚ → SA [] A Aₚ → (inr (z)) → (0 ≤ (z) ∧ (z) ≤ 131072) → Q (some (I z)) σ c s) : Ew 234 (d + 0) 0 (rargs 0 [.ref (D 0)]) [] σE c s Q := by
  have O := OUT_refl (n := (V234).length) (D := D) (N := N) (σ := σE) (c := c) (s := s)
  have HE := H
  have r1 : (-9223372036854775808 : Int) ≤ u0_15 ∧ u0_15 ≤ 9223372036854775807 := rngE (show (-9223372036854775808 : Int) ≤ F 0 15 ∧ F 0 15 ≤ 9223372036854775807 from H.krg 0 15 (ltn len_V234_oz_H2cls rfl)) (show F 0 15 = u0_15 from (eu0_15))
  refine Ew_of (pcₚ := 1) (fun _ => x_aload_n rfl rfl) ?_
  refine v_g H (o := 0) (v := J (u0_15)) rfl rfl rfl rfl rfl (congrArg (fun z : Int => J z) ((eu0_15) : F 0 15 = u0_15)) ?_
  refine Ew_of (pcₚ := 7) (fun _ => x_ldc2 (z := 131072) rfl (by decide)) ?_
  refine w_lcmp rfl (show inrJ (u0_15) by omega) (show inrJ (131072) from q_1605) (fun z2 gz2 gaz2 gbz2 => ?_)
  refine w_ifge (t := 19) rfl rfl (show inr (z2) from gz2) (fun b3 => ?_) (fun b3 => ?_)
  · refine Ew_of (pcₚ := 21) (fun _ => x_ldc (z := 131072) rfl (by decide)) ?_
    exact w_ireturn rfl (k (131072) _ _ _ H O (SF_refl) (SA_refl) (show inr (131072) from q_1604) (show 0 ≤ (131072) ∧ (131072) ≤ 131072 by first | exact q_3579 | omega))
  · refine Ew_of (pcₚ := 12) (fun _ => x_aload_n rfl rfl) ?_
    refine v_g H (o := 0) (v := J (u0_15)) rfl rfl rfl rfl rfl (congrArg (fun z : Int => J z) ((eu0_15) : F 0 15 = u0_15)) ?_
    refine w_l2i rfl ?_
    refine Ew_of (pcₚ := 21) (fun _ => x_goto rfl rfl) ?_
    exact w_ireturn rfl (k (u0_15) _ _ _ H O (SF_refl) (SA_refl) (show inr (u0_15) by omega) (show 0 ≤ (u0_15) ∧ (u0_15) ≤ 131072 by omega))
abbrev V236 : vV := [(0, 12, [(4, 0), (4, 0), (4, 0), (4, 0), (4, 0), (4, 0), (4, 0), (4, 0), (0, 0), (0, 0), (4, 0), (0, 0), (4, 0), (4, 0), (0, 0), (2, 0), (0, 0), (0, 0), (0, 0), (0, 0), (0, 0), (0, 0)]), (1, 1, [])]
theorem len_V236_oz_H2cls : (V236).length = 2 := by decide +kernel
def oz_H2clsl_1 : List (Nat × Nat) := [(0, 15)]
theorem oz_H2cls_4 : (oz_H2clsl_1).all (fun p => !tbz 32768 (Nat.add (Nat.mul 32 p.1) p.2)) = true := by decide +kernel
def oz_H2clsl_2 : List Nat := [1]
theorem oz_H2cls_5 : (oz_H2clsl_2).all (fun p => !tbz 2 p) = true := by decide +kernel
/-- Unpacker.tellWindow: this, this.counts -/
theorem C236 {σE : rS} {D N : Nat → Nat} {F : hF} {A : hA} {d c s : Nat} {Q : wQ} (H : HW V236 σE D N F A) {a1 : Int} (pf1 : HID (F 0 13 = (D 1 : Int))) (n1 : Int) (en1 : HID ((N 1 : Int) = n1)) (u0_15 : Int) (eu0_15 : HID (F 0 15 = u0_15)) (h0 : inrJ (a1)) (h1 : (n1) = 5) (k : ∀ (σ : rS) (Fₚ : hF) (Aₚ : hA), HW V236 σ D N Fₚ Aₚ → OUT (V236).length D N σE c s D N σ c s → SF [(0, 15)] F Fₚ → SA [1] A Aₚ → ∀ y0_15 : Int, Fₚ 0 15 = y0_15 → (0 ≤ (y0_15)) → Q none σ c s) : Ew 236 (d + 0) 0 (rargs 0 [.ref (D 0), J a1]) [] σE c s Q := by
  have O := OUT_refl (n := (V236).length) (D := D) (N := N) (σ := σE) (c := c) (s := s)
  have HE := H
  have r1 : (-9223372036854775808 : Int) ≤ u0_15 ∧ u0_15 ≤ 9223372036854775807 := rngE (show (-9223372036854775808 : Int) ≤ F 0 15 ∧ F 0 15 ≤ 9223372036854775807 from H.krg 0 15 (ltn len_V236_oz_H2cls rfl)) (show F 0 15 = u0_15 from (eu0_15))
  have r2 : (0 : Int) ≤ n1 ∧ n1 ≤ 1000000 := nleE (H.nle 1 (ltn len_V236_oz_H2cls rfl)) (show (N 1 : Int) = n1 from en1)
  refine Ew_of (pcₚ := 1) (fun _ => x_aload_n rfl rfl) ?_
  refine Ew_of (pcₚ := 2) (fun _ => x_lload_n rfl rfl) ?_
  refine Ew_of (pcₚ := 3) (fun _ => x_lconst (z := 0) rfl (by decide)) ?_
  refine w_lcmp rfl (show inrJ (a1) from h0) (show inrJ (0) from q_81) (fun z3 gz3 gaz3 gbz3 => ?_)
  have hc14 : ∀ (tc14_0 : Int), ∀ (ls : rO) (σ : rS) (F_c14 : hF) (A_c14 : hA) , rlook ls 0 = some (.ref (D 0)) → HW V236 σ D N F_c14 A_c14 → OUT (V236).length D N σE c s D N σ c s → SF [] F F_c14 → SA [] A A_c14 → (inrJ (tc14_0)) → (((z3) ≥ (0) ∧ (tc14_0) = (a1)) ∨ ((z3) < (0) ∧ (tc14_0) = (4611686018427387904))) → Ew 236 (d + 0) 14 ls [J (tc14_0), .ref (D 0)] σ c s Q := by
   as_aux_lemma =>
    intro tc14_0 ls σ F_c14 A_c14  lc14_0 H O hS_c14 hA_c14     jc14_0 jc14_1
    have cF_c14 : SF oz_H2clsl_1 F F_c14 := SF_trans (SF_refl) hS_c14 (any_sub (by decide +kernel))
    have mF_c14 := SFm_of cF_c14 oz_H2cls_4
    have cA_c14 : SA oz_H2clsl_2 A A_c14 := SA_trans (SA_refl) hA_c14 (any_subA (by decide +kernel))
    have mA_c14 := SAm_of cA_c14 oz_H2cls_5
    refine v_p H (o := 0) (z := tc14_0) (v := J (tc14_0)) rfl rfl rfl rfl rfl rfl rfl rfl (show (-9223372036854775808 : Int) ≤ tc14_0 ∧ tc14_0 ≤ 9223372036854775807 by omega) (fun σ H Oₚ => ?_)
    have O := OUT_trans O Oₚ
    have cFu4 : SF oz_H2clsl_1 F (updF F_c14 0 15 (tc14_0)) := SF_upd (cF_c14) rfl
    have mFu4 := SFm_of cFu4 oz_H2cls_4
    refine Ew_of (pcₚ := 18) (fun _ => x_aload_n rfl lc14_0) ?_
    refine v_g H (o := 0) (v := .ref (D 1)) rfl rfl rfl rfl rfl (vrf ((mFu4 0 13 rfl).trans (pf1))) ?_
    refine Ew_of (pcₚ := 22) (fun _ => x_iconst rfl) ?_
    refine Ew_of (pcₚ := 23) (fun _ => x_aload_n rfl lc14_0) ?_
    refine v_g H (o := 0) (v := J (tc14_0)) rfl rfl rfl rfl rfl (congrArg (fun z : Int => J z) (rfl : (updF F_c14 0 15 (tc14_0)) 0 15 = tc14_0)) ?_
    refine Ew_of (pcₚ := 29) (fun _ => x_ldc2 (z := 2147483647) rfl (by decide)) ?_
    refine w_lcmp rfl (show inrJ (tc14_0) from jc14_0) (show inrJ (2147483647) from q_1246) (fun z5 gz5 gaz5 gbz5 => ?_)
    refine w_ifge (t := 41) rfl rfl (show inr (z5) from gz5) (fun b6 => ?_) (fun b6 => ?_)
    · refine Ew_of (pcₚ := 43) (fun _ => x_ldc (z := 2147483647) rfl (by decide)) ?_
      refine v_sI H (o := 1) (z := 2147483647) rfl rfl rfl rfl (n := n1) (en1) (show 0 ≤ 4 ∧ 4 < n1 from q_3580 h1) (show inr (2147483647) from q_2970) (fun σ H Oₚ => ?_)
      have O := OUT_trans O Oₚ
      have cAu7 : SA oz_H2clsl_2 A (updA A_c14 1 (4) (2147483647)) := SA_upd (cA_c14) rfl
      have mAu7 := SAm_of cAu7 oz_H2cls_5
      exact w_ret rfl (k _ _ _ H O (cFu4) (cAu7) (tc14_0) (rfl) (show 0 ≤ (tc14_0) by omega))
    · refine Ew_of (pcₚ := 34) (fun _ => x_aload_n rfl lc14_0) ?_
      refine v_g H (o := 0) (v := J (tc14_0)) rfl rfl rfl rfl rfl (congrArg (fun z : Int => J z) (rfl : (updF F_c14 0 15 (tc14_0)) 0 15 = tc14_0)) ?_
      refine w_l2i rfl ?_
      refine Ew_of (pcₚ := 43) (fun _ => x_goto rfl rfl) ?_
      refine v_sI H (o := 1) (z := tc14_0) rfl rfl rfl rfl (n := n1) (en1) (show 0 ≤ 4 ∧ 4 < n1 from q_3580 h1) (show inr (tc14_0) by omega) (fun σ H Oₚ => ?_)
      have O := OUT_trans O Oₚ
      have cAu8 : SA oz_H2clsl_2 A (updA A_c14 1 (4) (tc14_0)) := SA_upd (cA_c14) rfl
      have mAu8 := SAm_of cAu8 oz_H2cls_5
      exact w_ret rfl (k _ _ _ H O (cFu4) (cAu8) (tc14_0) (rfl) (show 0 ≤ (tc14_0) by omega))
  refine w_ifge (t := 13) rfl rfl (show inr (z3) from gz3) (fun b9 => ?_) (fun b9 => ?_)
  · refine Ew_of (pcₚ := 14) (fun _ => x_lload_n rfl rfl) ?_
    exact hc14 (a1) _ _ _ _  (rfl) H O (SF_refl) (SA_refl)     (show inrJ (a1) from h0) (show ((z3) ≥ (0) ∧ (a1) = (a1)) ∨ ((z3) < (0) ∧ (a1) = (4611686018427387904)) from q_3581 b9)
  · refine Ew_of (pcₚ := 10) (fun _ => x_ldc2 (z := 4611686018427387904) rfl (by decide)) ?_
    refine Ew_of (pcₚ := 14) (fun _ => x_goto rfl rfl) ?_
    exact hc14 (4611686018427387904) _ _ _ _  (rfl) H O (SF_refl) (SA_refl)     (show inrJ (4611686018427387904) from q_3583) (show ((z3) ≥ (0) ∧ (4611686018427387904) = (a1)) ∨ ((z3) < (0) ∧ (4611686018427387904) = (4611686018427387904)) from q_3582 b9)
abbrev V237 : vV := [(0, 12, [(4, 0), (4, 0), (4, 0), (4, 0), (4, 0), (4, 0), (4, 0), (4, 0), (0, 0), (0, 0), (4, 0), (0, 0), (4, 0), (4, 0), (0, 0), (2, 0), (0, 0), (0, 0), (0, 0), (0, 0), (0, 0), (0, 0)]), (1, 0, []), (1, 1, [])]
theorem len_V237_oz_H2cls : (V237).length = 3 := by decide +kernel
theorem oz_H2cls_7 : vsub V237 V236 [0, 2] = true := by decide +kernel
theorem oz_H2cls_8 : vsub V237 V232 [0] = true := by decide +kernel
def oz_H2clsl_3 : List (Nat × Nat) := [(0, 9), (0, 15), (0, 21)]
theorem oz_H2cls_9 : (oz_H2clsl_3).all (fun p => !tbz 2130432 (Nat.add (Nat.mul 32 p.1) p.2)) = true := by decide +kernel
def oz_H2clsl_4 : List Nat := [2]
theorem oz_H2cls_10 : (oz_H2clsl_4).all (fun p => !tbz 4 p) = true := by decide +kernel
def oz_H2clsl_5 : List Nat := [0, 2]
theorem oz_H2cls_11 : okc oz_H2clsl_5 1024 = true := by decide +kernel
def oz_H2clsl_6 : List Nat := [0]
theorem oz_H2cls_12 : okc oz_H2clsl_6 0 = true := by decide +kernel
/-- Unpacker.unpackWindow: this, this.in, this.counts -/
theorem C237 {σE : rS} {D N : Nat → Nat} {F : hF} {A : hA} {d c s : Nat} {Q : wQ} (H : HW V237 σE D N F A)  (pf1 : HID (F 0 7 = (D 1 : Int))) (pf2 : HID (F 0 13 = (D 2 : Int))) (n1 : Int) (en1 : HID ((N 1 : Int) = n1)) (n2 : Int) (en2 : HID ((N 2 : Int) = n2)) (u0_8 : Int) (eu0_8 : HID (F 0 8 = u0_8)) (u0_9 : Int) (eu0_9 : HID (F 0 9 = u0_9)) (u0_15 : Int) (eu0_15 : HID (F 0 15 = u0_15)) (h0 : 0 ≤ (u0_9) ∧ (u0_9) ≤ (u0_8) ∧ (u0_8) ≤ (n1) ∧ (n1) ≤ 65536) (h1 : (n2) = 5) (h2 : 0 ≤ (u0_15)) (k : ∀ (z : Int) (σ : rS) (Fₚ : hF) (Aₚ : hA), HW V237 σ D N Fₚ Aₚ → OUT (V237).length D N σE c s D N σ c s → SF [(0, 9), (0, 15), (0, 21)] F Fₚ → SA [2] A Aₚ → ∀ y0_9 : Int, Fₚ 0 9 = y0_9 → ∀ y0_15 : Int, Fₚ 0 15 = y0_15 → (inr (z)) → (0 ≤ (z) ∧ (z) ≤ 17) → (0 ≤ (y0_9) ∧ (u0_9) ≤ (y0_9) ∧ (y0_9) ≤ (u0_8)) → (0 ≤ (y0_15)) → Q (some (I z)) σ c s) : Ew 237 (d + 1) 0 (rargs 0 [.ref (D 0)]) [] σE c s Q := by
  have O := OUT_refl (n := (V237).length) (D := D) (N := N) (σ := σE) (c := c) (s := s)
  have HE := H
  have r1 : (-2147483648 : Int) ≤ u0_8 ∧ u0_8 ≤ 2147483647 := rngE (show (-2147483648 : Int) ≤ F 0 8 ∧ F 0 8 ≤ 2147483647 from H.krg 0 8 (ltn len_V237_oz_H2cls rfl)) (show F 0 8 = u0_8 from (eu0_8))
  have r2 : (-2147483648 : Int) ≤ u0_9 ∧ u0_9 ≤ 2147483647 := rngE (show (-2147483648 : Int) ≤ F 0 9 ∧ F 0 9 ≤ 2147483647 from H.krg 0 9 (ltn len_V237_oz_H2cls rfl)) (show F 0 9 = u0_9 from (eu0_9))
  have r3 : (-9223372036854775808 : Int) ≤ u0_15 ∧ u0_15 ≤ 9223372036854775807 := rngE (show (-9223372036854775808 : Int) ≤ F 0 15 ∧ F 0 15 ≤ 9223372036854775807 from H.krg 0 15 (ltn len_V237_oz_H2cls rfl)) (show F 0 15 = u0_15 from (eu0_15))
  have r4 : (0 : Int) ≤ n1 ∧ n1 ≤ 1000000 := nleE (H.nle 1 (ltn len_V237_oz_H2cls rfl)) (show (N 1 : Int) = n1 from en1)
  have r5 : (0 : Int) ≤ n2 ∧ n2 ≤ 1000000 := nleE (H.nle 2 (ltn len_V237_oz_H2cls rfl)) (show (N 2 : Int) = n2 from en2)
  refine Ew_of (pcₚ := 1) (fun _ => x_aload_n rfl rfl) ?_
  refine v_g H (o := 0) (v := I (u0_9)) rfl rfl rfl rfl rfl (congrArg (fun z : Int => I z) ((eu0_9) : F 0 9 = u0_9)) ?_
  refine Ew_of (pcₚ := 5) (fun _ => x_aload_n rfl rfl) ?_
  refine v_g H (o := 0) (v := I (u0_8)) rfl rfl rfl rfl rfl (congrArg (fun z : Int => I z) ((eu0_8) : F 0 8 = u0_8)) ?_
  refine w_icmplt (t := 21) rfl rfl (show inr (u0_9) from q_3585 h0) (show inr (u0_8) from q_3584 h0) (fun b6 => ?_) (fun b6 => ?_)
  · refine Ew_of (pcₚ := 22) (fun _ => x_aload_n rfl rfl) ?_
    refine v_g H (o := 0) (v := .ref (D 1)) rfl rfl rfl rfl rfl (vrf (pf1)) ?_
    refine Ew_of (pcₚ := 26) (fun _ => x_aload_n rfl rfl) ?_
    refine v_g H (o := 0) (v := I (u0_9)) rfl rfl rfl rfl rfl (congrArg (fun z : Int => I z) ((eu0_9) : F 0 9 = u0_9)) ?_
    refine v_lB H (o := 1) rfl rfl rfl rfl (n := n1) (en1) (show 0 ≤ u0_9 ∧ u0_9 < n1 from q_3586 b6 h0) (fun v7 ev7 qv7 => ?_)
    have ev7 : (A 1) (u0_9) = v7 := (congrFun (rfl : A 1 = A 1) (u0_9)).symm.trans ev7
    refine Ew_of (pcₚ := 33) (fun _ => x_sipush (z := 255) rfl (by decide)) ?_
    refine w_iand rfl (show inr (v7) from q_2536 qv7) (show inr (255) from q_36) (fun z8 gz8 gaz8 gbz8 => ?_)
    refine Ew_of (pcₚ := 35) (fun _ => x_iconst rfl) ?_
    refine w_ishrK 3 8 (by decide) (by decide) rfl (show inr (z8) from gz8) (fun z9 gz9 dz9 => ?_)
    refine Ew_of (pcₚ := 37) (fun _ => x_istore_n rfl) ?_
    refine Ew_of (pcₚ := 38) (fun _ => x_aload_n rfl (rk_o (rfl) rfl rfl)) ?_
    refine Ew_of (pcₚ := 39) (fun _ => x_lconst (z := 1) rfl (by decide)) ?_
    refine Ew_of (pcₚ := 41) (fun _ => x_bipush (z := 10) rfl (by decide)) ?_
    refine Ew_of (pcₚ := 42) (fun _ => x_iload_n rfl rk_s) ?_
    refine w_iadd rfl ?_
    refine w_lshlA rfl (fun z10 gz10 => ?_)
    refine Ew_of (pcₚ := 45) (fun _ => x_lconst (z := 1) rfl (by decide)) ?_
    refine Ew_of (pcₚ := 47) (fun _ => x_bipush (z := 7) rfl (by decide)) ?_
    refine Ew_of (pcₚ := 48) (fun _ => x_iload_n rfl rk_s) ?_
    refine w_iadd rfl ?_
    refine w_lshlA rfl (fun z11 gz11 => ?_)
    refine Ew_of (pcₚ := 51) (fun _ => x_aload_n rfl (rk_o (rfl) rfl rfl)) ?_
    refine v_g H (o := 0) (v := .ref (D 1)) rfl rfl rfl rfl rfl (vrf (pf1)) ?_
    refine Ew_of (pcₚ := 55) (fun _ => x_aload_n rfl (rk_o (rfl) rfl rfl)) ?_
    refine v_g H (o := 0) (v := I (u0_9)) rfl rfl rfl rfl rfl (congrArg (fun z : Int => I z) ((eu0_9) : F 0 9 = u0_9)) ?_
    refine v_lB H (o := 1) rfl rfl rfl rfl (n := n1) (en1) (show 0 ≤ u0_9 ∧ u0_9 < n1 from q_3586 b6 h0) (fun v12 ev12 qv12 => ?_)
    have ev12 : (A 1) (u0_9) = v12 := (congrFun (rfl : A 1 = A 1) (u0_9)).symm.trans ev12
    refine Ew_of (pcₚ := 61) (fun _ => x_bipush (z := 7) rfl (by decide)) ?_
    refine w_iand rfl (show inr (v12) from q_2536 qv12) (show inr (7) from q_355) (fun z13 gz13 gaz13 gbz13 => ?_)
    refine w_i2l rfl (show inr (z13) from gz13) ?_
    refine w_lmulA rfl (fun z14 gz14 => ?_)
    refine w_laddA rfl (fun z15 gz15 => ?_)
    refine v_inv H (o := 0) rfl rfl rfl rfl rfl rfl (by rfl) (C236 (D := puc 1024 D) (N := puc 1024 N) (HW_subc H oz_H2cls_7 oz_H2cls_11) (pf2) (n2) (en2) (u0_15) ((eu0_15)) (show inrJ (z15) from gz15) (show (n2) = 5 from h1) (fun σ16 F16ₚ A16ₚ Hₚ Oₚ hS16 hA16 y16_0_15 (ey16_0_15 : HID _) pz16_0 => ⟨rfl, ?_⟩))
    refine v_backc (c := c) (s := s) H oz_H2cls_7 oz_H2cls_11 Hₚ Oₚ (fun F16 A16 H Oₚ eF16 eA16 => ?_)
    have O := OUT_trans O Oₚ
    -- Unpacker.tellWindow
    have cF16 : SF oz_H2clsl_3 F F16 := SF_trans (SF_refl) (SF_gluc (ι := oz_H2clsl_5) oz_H2cls_11 hS16 eF16 (by decide +kernel)) (any_sub (lₚ := [(0, 15)]) (by decide +kernel))
    have mF16 := SFm_of cF16 oz_H2cls_9
    have cA16 : SA oz_H2clsl_4 A A16 := SA_trans (SA_refl) (SA_gluc (ι := oz_H2clsl_5) oz_H2cls_11 hA16 eA16 (by decide +kernel)) (any_subA (lₚ := [2]) (by decide +kernel))
    have mA16 := SAm_of cA16 oz_H2cls_10
    have r17 : (-9223372036854775808 : Int) ≤ y16_0_15 ∧ y16_0_15 ≤ 9223372036854775807 := rngE (show (-9223372036854775808 : Int) ≤ F16 0 15 ∧ F16 0 15 ≤ 9223372036854775807 from H.krg 0 15 (ltn len_V237_oz_H2cls rfl)) (show F16 0 15 = y16_0_15 from ((eF16 0 15).trans ey16_0_15))
    refine Ew_of (pcₚ := 69) (fun _ => x_aload_n rfl (rk_o (rfl) rfl rfl)) ?_
    refine Ew_of (pcₚ := 70) (fun _ => x_dup rfl rfl) ?_
    refine v_g H (o := 0) (v := I (u0_9)) rfl rfl rfl rfl rfl (congrArg (fun z : Int => I z) ((((show F16 0 9 = F 0 9 from (eF16 0 9).trans (hS16 0 9 rfl))).trans (eu0_9)) : F16 0 9 = u0_9)) ?_
    refine Ew_of (pcₚ := 74) (fun _ => x_iconst rfl) ?_
    refine w_iadd rfl ?_
    refine v_p H (o := 0) (z := (u0_9 + 1)) (v := I ((u0_9 + 1))) rfl rfl rfl rfl rfl rfl rfl rfl (show (-2147483648 : Int) ≤ (u0_9 + 1) ∧ (u0_9 + 1) ≤ 2147483647 from q_3587 b6 h0) (fun σ H Oₚ => ?_)
    have O := OUT_trans O Oₚ
    have cFu18 : SF oz_H2clsl_3 F (updF F16 0 9 ((u0_9 + 1))) := SF_upd (cF16) rfl
    have mFu18 := SFm_of cFu18 oz_H2cls_9
    refine Ew_of (pcₚ := 79) (fun _ => x_iconst rfl) ?_
    exact w_ireturn rfl (k (0) _ _ _ H O (cFu18) (cA16) ((u0_9 + 1)) (rfl) (y16_0_15) (((eF16 0 15).trans ey16_0_15)) (show inr (0) from q_20) (show 0 ≤ (0) ∧ (0) ≤ 17 by first | exact q_3589 | omega) (show 0 ≤ ((u0_9 + 1)) ∧ (u0_9) ≤ ((u0_9 + 1)) ∧ ((u0_9 + 1)) ≤ (u0_8) from q_3588 b6 h0) (show 0 ≤ (y16_0_15) from pz16_0))
  · refine Ew_of (pcₚ := 12) (fun _ => x_aload_n rfl rfl) ?_
    refine Ew_of (pcₚ := 13) (fun _ => x_iconst rfl) ?_
    refine Ew_of (pcₚ := 14) (fun _ => x_aload_n rfl rfl) ?_
    refine v_g H (o := 0) (v := I (u0_8)) rfl rfl rfl rfl rfl (congrArg (fun z : Int => I z) ((eu0_8) : F 0 8 = u0_8)) ?_
    have r19 : (-2147483648 : Int) ≤ F 0 21 ∧ F 0 21 ≤ 2147483647 := H.krg 0 21 (ltn len_V237_oz_H2cls rfl)
    refine v_inv H (o := 0) rfl rfl rfl rfl rfl rfl (by rfl) (C232 (D := puc 0 D) (N := puc 0 N) (HW_subc H oz_H2cls_8 oz_H2cls_12) (F 0 21) (rfl) (show inr (1) from q_23) (show inr (u0_8) from q_3584 h0) (fun z20 σ20 F20ₚ A20ₚ Hₚ Oₚ hS20 hA20 y20_0_21 (ey20_0_21 : HID _) pz20_0 pz20_1 pz20_2 => ⟨rfl, ?_⟩))
    refine v_backc (c := c) (s := s) H oz_H2cls_8 oz_H2cls_12 Hₚ Oₚ (fun F20 A20 H Oₚ eF20 eA20 => ?_)
    have O := OUT_trans O Oₚ
    -- Unpacker.fail
    have cF20 : SF oz_H2clsl_3 F F20 := SF_trans (SF_refl) (SF_gluc (ι := oz_H2clsl_6) oz_H2cls_12 hS20 eF20 (by decide +kernel)) (any_sub (lₚ := [(0, 21)]) (by decide +kernel))
    have mF20 := SFm_of cF20 oz_H2cls_9
    have cA20 : SA oz_H2clsl_4 A A20 := SA_trans (SA_refl) (SA_gluc (ι := oz_H2clsl_6) oz_H2cls_12 hA20 eA20 (by decide +kernel)) (any_subA (lₚ := []) (by decide +kernel))
    have mA20 := SAm_of cA20 oz_H2cls_10
    have r21 : (-2147483648 : Int) ≤ y20_0_21 ∧ y20_0_21 ≤ 2147483647 := rngE (show (-2147483648 : Int) ≤ F20 0 21 ∧ F20 0 21 ≤ 2147483647 from H.krg 0 21 (ltn len_V237_oz_H2cls rfl)) (show F20 0 21 = y20_0_21 from ((eF20 0 21).trans ey20_0_21))
    exact w_ireturn rfl (k (z20) _ _ _ H O (cF20) (cA20) (u0_9) ((((show F20 0 9 = F 0 9 from (eF20 0 9).trans (hS20 0 9 rfl))).trans (eu0_9))) (u0_15) ((((show F20 0 15 = F 0 15 from (eF20 0 15).trans (hS20 0 15 rfl))).trans (eu0_15))) (show inr (z20) from pz20_0) (show 0 ≤ (z20) ∧ (z20) ≤ 17 from q_3591 pz20_1) (show 0 ≤ (u0_9) ∧ (u0_9) ≤ (u0_9) ∧ (u0_9) ≤ (u0_8) from q_3590 h0) (show 0 ≤ (u0_15) from h2))
abbrev V238 : vV := [(0, 12, [(4, 0), (4, 0), (4, 0), (4, 0), (4, 0), (4, 0), (4, 0), (4, 0), (0, 0), (0, 0), (4, 0), (0, 0), (4, 0), (4, 0), (0, 0), (2, 0), (0, 0), (0, 0), (0, 0), (0, 0), (0, 0), (0, 0)]), (1, 0, []), (0, 4, [(4, 0), (4, 0), (0, 0), (4, 0), (4, 0)])]
theorem len_V238_oz_H2cls : (V238).length = 3 := by decide +kernel
theorem oz_H2cls_14 : vsub V238 V42_Br [1] = true := by decide +kernel
theorem oz_H2cls_15 : vsub V238 V232 [0] = true := by decide +kernel
def oz_H2clsl_7 : List (Nat × Nat) := [(0, 9), (0, 21)]
theorem oz_H2cls_16 : (oz_H2clsl_7).all (fun p => !tbz 2097664 (Nat.add (Nat.mul 32 p.1) p.2)) = true := by decide +kernel
def oz_H2clsl_8 : List Nat := []
theorem oz_H2cls_17 : (oz_H2clsl_8).all (fun p => !tbz 0 p) = true := by decide +kernel
theorem oz_H2cls_18 : okc oz_H2clsl_2 1 = true := by decide +kernel
/-- Unpacker.unpackId: this, this.in, this.dictionary -/
theorem C238 {σE : rS} {D N : Nat → Nat} {F : hF} {A : hA} {d c s : Nat} {Q : wQ} (H : HW V238 σE D N F A)  (pf1 : HID (F 0 7 = (D 1 : Int))) (pf2 : HID (F 0 12 = (D 2 : Int))) (n1 : Int) (en1 : HID ((N 1 : Int) = n1)) (u0_8 : Int) (eu0_8 : HID (F 0 8 = u0_8)) (u0_9 : Int) (eu0_9 : HID (F 0 9 = u0_9)) (u0_14 : Int) (eu0_14 : HID (F 0 14 = u0_14)) (h0 : 0 ≤ (u0_9) ∧ (u0_9) ≤ (u0_8) ∧ (u0_8) ≤ (n1) ∧ (n1) ≤ 65536) (h1 : 0 ≤ (u0_14) ∧ (u0_14) ≤ 255) (k : ∀ (z : Int) (σ : rS) (Fₚ : hF) (Aₚ : hA), HW V238 σ D N Fₚ Aₚ → OUT (V238).length D N σE c s D N σ c s → SF [(0, 9), (0, 21)] F Fₚ → SA [] A Aₚ → ∀ y0_9 : Int, Fₚ 0 9 = y0_9 → (inr (z)) → (0 ≤ (z) ∧ (z) ≤ 17) → (0 ≤ (y0_9) ∧ (u0_9) ≤ (y0_9) ∧ (y0_9) ≤ (u0_8)) → Q (some (I z)) σ c s) : Ew 238 (d + 1) 0 (rargs 0 [.ref (D 0)]) [] σE c s Q := by
  have O := OUT_refl (n := (V238).length) (D := D) (N := N) (σ := σE) (c := c) (s := s)
  have HE := H
  have r1 : (-2147483648 : Int) ≤ u0_8 ∧ u0_8 ≤ 2147483647 := rngE (show (-2147483648 : Int) ≤ F 0 8 ∧ F 0 8 ≤ 2147483647 from H.krg 0 8 (ltn len_V238_oz_H2cls rfl)) (show F 0 8 = u0_8 from (eu0_8))
  have r2 : (-2147483648 : Int) ≤ u0_9 ∧ u0_9 ≤ 2147483647 := rngE (show (-2147483648 : Int) ≤ F 0 9 ∧ F 0 9 ≤ 2147483647 from H.krg 0 9 (ltn len_V238_oz_H2cls rfl)) (show F 0 9 = u0_9 from (eu0_9))
  have r3 : (-2147483648 : Int) ≤ u0_14 ∧ u0_14 ≤ 2147483647 := rngE (show (-2147483648 : Int) ≤ F 0 14 ∧ F 0 14 ≤ 2147483647 from H.krg 0 14 (ltn len_V238_oz_H2cls rfl)) (show F 0 14 = u0_14 from (eu0_14))
  have r4 : (0 : Int) ≤ n1 ∧ n1 ≤ 1000000 := nleE (H.nle 1 (ltn len_V238_oz_H2cls rfl)) (show (N 1 : Int) = n1 from en1)
  refine Ew_of (pcₚ := 1) (fun _ => x_aload_n rfl rfl) ?_
  refine v_g H (o := 0) (v := I (u0_14)) rfl rfl rfl rfl rfl (congrArg (fun z : Int => I z) ((eu0_14) : F 0 14 = u0_14)) ?_
  refine Ew_of (pcₚ := 5) (fun _ => x_iconst rfl) ?_
  refine w_iand rfl (show inr (u0_14) from q_38 h1) (show inr (3) from q_66) (fun z5 gz5 gaz5 gbz5 => ?_)
  refine Ew_of (pcₚ := 7) (fun _ => x_iconst rfl) ?_
  refine w_icmpne (t := 14) rfl rfl (show inr (z5) from gz5) (show inr (3) from q_66) (fun b6 => ?_) (fun b6 => ?_)
  · refine Ew_of (pcₚ := 15) (fun _ => x_aload_n rfl rfl) ?_
    refine v_g H (o := 0) (v := I (u0_14)) rfl rfl rfl rfl rfl (congrArg (fun z : Int => I z) ((eu0_14) : F 0 14 = u0_14)) ?_
    refine Ew_of (pcₚ := 19) (fun _ => x_iconst rfl) ?_
    refine w_iand rfl (show inr (u0_14) from q_38 h1) (show inr (3) from q_66) (fun z7 gz7 gaz7 gbz7 => ?_)
    refine Ew_of (pcₚ := 21) (fun _ => x_istore_n rfl) ?_
    refine Ew_of (pcₚ := 22) (fun _ => x_aload_n rfl (rk_o (rfl) rfl rfl)) ?_
    refine v_g H (o := 0) (v := I (u0_8)) rfl rfl rfl rfl rfl (congrArg (fun z : Int => I z) ((eu0_8) : F 0 8 = u0_8)) ?_
    refine Ew_of (pcₚ := 26) (fun _ => x_aload_n rfl (rk_o (rfl) rfl rfl)) ?_
    refine v_g H (o := 0) (v := I (u0_9)) rfl rfl rfl rfl rfl (congrArg (fun z : Int => I z) ((eu0_9) : F 0 9 = u0_9)) ?_
    refine w_isub rfl ?_
    refine Ew_of (pcₚ := 31) (fun _ => x_iload_n rfl rk_s) ?_
    refine w_icmpge (t := 44) rfl rfl (show inr ((u0_8 - u0_9)) from q_3592 h0) (show inr (z7) from gz7) (fun b8 => ?_) (fun b8 => ?_)
    · refine Ew_of (pcₚ := 45) (fun _ => x_aload_n rfl (rk_o (rfl) rfl rfl)) ?_
      refine v_g H (o := 0) (v := .ref (D 1)) rfl rfl rfl rfl rfl (vrf (pf1)) ?_
      refine Ew_of (pcₚ := 49) (fun _ => x_aload_n rfl (rk_o (rfl) rfl rfl)) ?_
      refine v_g H (o := 0) (v := I (u0_9)) rfl rfl rfl rfl rfl (congrArg (fun z : Int => I z) ((eu0_9) : F 0 9 = u0_9)) ?_
      refine Ew_of (pcₚ := 53) (fun _ => x_iload_n rfl rk_s) ?_
      refine w_stat25 rfl rfl (by rfl) (C42_Brf (D := puc 1 D) (N := puc 1 N) (HW_subc H oz_H2cls_14 oz_H2cls_18) (n1) (en1) (A 1) (rfl) (show inr (u0_9) from q_3585 h0) (show inr (z7) from gz7) (show (z7) ≤ 0 ∨ 0 ≤ (u0_9) ∧ (u0_9) + (z7) ≤ (n1) from q_3593 b8 h0) (show 0 ≤ (z7) ∧ (z7) ≤ 8 by omega) (fun z9 σ9 F9ₚ A9ₚ Hₚ Oₚ hS9 hA9 pz9_0 pz9_1 pz9_2 => ⟨rfl, ?_⟩))
      refine v_backc (c := c) (s := s) H oz_H2cls_14 oz_H2cls_18 Hₚ Oₚ (fun F9 A9 H Oₚ eF9 eA9 => ?_)
      have O := OUT_trans O Oₚ
      -- PackHouse.number
      have cF9 : SF oz_H2clsl_7 F F9 := SF_trans (SF_refl) (SF_gluc (ι := oz_H2clsl_2) oz_H2cls_18 hS9 eF9 (by decide +kernel)) (any_sub (lₚ := []) (by decide +kernel))
      have mF9 := SFm_of cF9 oz_H2cls_16
      have cA9 : SA oz_H2clsl_8 A A9 := SA_trans (SA_refl) (SA_gluc (ι := oz_H2clsl_2) oz_H2cls_18 hA9 eA9 (by decide +kernel)) (any_subA (lₚ := []) (by decide +kernel))
      have mA9 := SAm_of cA9 oz_H2cls_17
      refine Ew_of (pcₚ := 57) (fun _ => x_lstore_n rfl) ?_
      refine Ew_of (pcₚ := 58) (fun _ => x_lload_n rfl rk2_s) ?_
      refine Ew_of (pcₚ := 59) (fun _ => x_lconst (z := 0) rfl (by decide)) ?_
      refine w_lcmp rfl (show inrJ (z9) from pz9_0) (show inrJ (0) from q_81) (fun z10 gz10 gaz10 gbz10 => ?_)
      refine w_ifeq (t := 90) rfl rfl (show inr (z10) from gz10) (fun b11 => ?_) (fun b11 => ?_)
      · refine Ew_of (pcₚ := 91) (fun _ => x_aload_n rfl (rk2_o (rk_o (rfl) rfl rfl) rfl rfl)) ?_
        refine Ew_of (pcₚ := 92) (fun _ => x_dup rfl rfl) ?_
        refine v_g H (o := 0) (v := I (u0_9)) rfl rfl rfl rfl rfl (congrArg (fun z : Int => I z) ((((show F9 0 9 = F 0 9 from (eF9 0 9))).trans (eu0_9)) : F9 0 9 = u0_9)) ?_
        refine Ew_of (pcₚ := 96) (fun _ => x_iload_n rfl (rk2_o (rk_s) rfl rfl)) ?_
        refine w_iadd rfl ?_
        refine v_p H (o := 0) (z := (u0_9 + z7)) (v := I ((u0_9 + z7))) rfl rfl rfl rfl rfl rfl rfl rfl (show (-2147483648 : Int) ≤ (u0_9 + z7) ∧ (u0_9 + z7) ≤ 2147483647 from q_3594 b8 gz7 h0) (fun σ H Oₚ => ?_)
        have O := OUT_trans O Oₚ
        have cFu12 : SF oz_H2clsl_7 F (updF F9 0 9 ((u0_9 + z7))) := SF_upd (cF9) rfl
        have mFu12 := SFm_of cFu12 oz_H2cls_16
        refine Ew_of (pcₚ := 101) (fun _ => x_iconst rfl) ?_
        exact w_ireturn rfl (k (0) _ _ _ H O (cFu12) (cA9) ((u0_9 + z7)) (rfl) (show inr (0) from q_20) (show 0 ≤ (0) ∧ (0) ≤ 17 by first | exact q_3589 | omega) (show 0 ≤ ((u0_9 + z7)) ∧ (u0_9) ≤ ((u0_9 + z7)) ∧ ((u0_9 + z7)) ≤ (u0_8) from q_3595 b8 gaz7 h0 h1))
      · refine Ew_of (pcₚ := 64) (fun _ => x_lload_n rfl rk2_s) ?_
        refine Ew_of (pcₚ := 65) (fun _ => x_aload_n rfl (rk2_o (rk_o (rfl) rfl rfl) rfl rfl)) ?_
        refine v_g H (o := 0) (v := .ref (D 2)) rfl rfl rfl rfl rfl (vrf ((mF9 0 12 rfl).trans (pf2))) ?_
        have r13 : (-2147483648 : Int) ≤ F 2 2 ∧ F 2 2 ≤ 2147483647 := rngE (show (-2147483648 : Int) ≤ F9 2 2 ∧ F9 2 2 ≤ 2147483647 from H.krg 2 2 (ltn len_V238_oz_H2cls rfl)) (show F9 2 2 = F 2 2 from (mF9 2 2 rfl))
        refine v_g H (o := 2) (v := I (F 2 2)) rfl rfl rfl rfl rfl (congrArg (fun z : Int => I z) ((mF9 2 2 rfl) : F9 2 2 = F 2 2)) ?_
        refine w_i2l rfl (show inr (F 2 2) from q_22 r13) ?_
        refine Ew_of (pcₚ := 75) (fun _ => x_ldc2 (z := 4294967295) rfl (by decide)) ?_
        refine w_land rfl (show inrJ (F 2 2) from q_2429 r13) (show inrJ (4294967295) from q_50) (fun z14 gz14 gaz14 gbz14 => ?_)
        refine w_lcmp rfl (show inrJ (z9) from pz9_0) (show inrJ (z14) from gz14) (fun z15 gz15 gaz15 gbz15 => ?_)
        refine w_ifeq (t := 90) rfl rfl (show inr (z15) from gz15) (fun b16 => ?_) (fun b16 => ?_)
        · refine Ew_of (pcₚ := 91) (fun _ => x_aload_n rfl (rk2_o (rk_o (rfl) rfl rfl) rfl rfl)) ?_
          refine Ew_of (pcₚ := 92) (fun _ => x_dup rfl rfl) ?_
          refine v_g H (o := 0) (v := I (u0_9)) rfl rfl rfl rfl rfl (congrArg (fun z : Int => I z) ((((show F9 0 9 = F 0 9 from (eF9 0 9))).trans (eu0_9)) : F9 0 9 = u0_9)) ?_
          refine Ew_of (pcₚ := 96) (fun _ => x_iload_n rfl (rk2_o (rk_s) rfl rfl)) ?_
          refine w_iadd rfl ?_
          refine v_p H (o := 0) (z := (u0_9 + z7)) (v := I ((u0_9 + z7))) rfl rfl rfl rfl rfl rfl rfl rfl (show (-2147483648 : Int) ≤ (u0_9 + z7) ∧ (u0_9 + z7) ≤ 2147483647 from q_3594 b8 gz7 h0) (fun σ H Oₚ => ?_)
          have O := OUT_trans O Oₚ
          have cFu17 : SF oz_H2clsl_7 F (updF F9 0 9 ((u0_9 + z7))) := SF_upd (cF9) rfl
          have mFu17 := SFm_of cFu17 oz_H2cls_16
          refine Ew_of (pcₚ := 101) (fun _ => x_iconst rfl) ?_
          exact w_ireturn rfl (k (0) _ _ _ H O (cFu17) (cA9) ((u0_9 + z7)) (rfl) (show inr (0) from q_20) (show 0 ≤ (0) ∧ (0) ≤ 17 by first | exact q_3589 | omega) (show 0 ≤ ((u0_9 + z7)) ∧ (u0_9) ≤ ((u0_9 + z7)) ∧ ((u0_9 + z7)) ≤ (u0_8) from q_3595 b8 gaz7 h0 h1))
        · refine Ew_of (pcₚ := 81) (fun _ => x_aload_n rfl (rk2_o (rk_o (rfl) rfl rfl) rfl rfl)) ?_
          refine Ew_of (pcₚ := 82) (fun _ => x_iconst rfl) ?_
          refine Ew_of (pcₚ := 83) (fun _ => x_aload_n rfl (rk2_o (rk_o (rfl) rfl rfl) rfl rfl)) ?_
          refine v_g H (o := 0) (v := I (u0_9)) rfl rfl rfl rfl rfl (congrArg (fun z : Int => I z) ((((show F9 0 9 = F 0 9 from (eF9 0 9))).trans (eu0_9)) : F9 0 9 = u0_9)) ?_
          have r18 : (-2147483648 : Int) ≤ F 0 21 ∧ F 0 21 ≤ 2147483647 := rngE (show (-2147483648 : Int) ≤ F9 0 21 ∧ F9 0 21 ≤ 2147483647 from H.krg 0 21 (ltn len_V238_oz_H2cls rfl)) (show F9 0 21 = F 0 21 from ((show F9 0 21 = F 0 21 from (eF9 0 21))))
          refine v_inv H (o := 0) rfl rfl rfl rfl rfl rfl (by rfl) (C232 (D := puc 0 D) (N := puc 0 N) (HW_subc H oz_H2cls_15 oz_H2cls_12) (F 0 21) (((show F9 0 21 = F 0 21 from (eF9 0 21)))) (show inr (4) from q_2) (show inr (u0_9) from q_3585 h0) (fun z19 σ19 F19ₚ A19ₚ Hₚ Oₚ hS19 hA19 y19_0_21 (ey19_0_21 : HID _) pz19_0 pz19_1 pz19_2 => ⟨rfl, ?_⟩))
          refine v_backc (c := c) (s := s) H oz_H2cls_15 oz_H2cls_12 Hₚ Oₚ (fun F19 A19 H Oₚ eF19 eA19 => ?_)
          have O := OUT_trans O Oₚ
          -- Unpacker.fail
          have cF19 : SF oz_H2clsl_7 F F19 := SF_trans (cF9) (SF_gluc (ι := oz_H2clsl_6) oz_H2cls_12 hS19 eF19 (by decide +kernel)) (any_sub (lₚ := [(0, 21)]) (by decide +kernel))
          have mF19 := SFm_of cF19 oz_H2cls_16
          have cA19 : SA oz_H2clsl_8 A A19 := SA_trans (cA9) (SA_gluc (ι := oz_H2clsl_6) oz_H2cls_12 hA19 eA19 (by decide +kernel)) (any_subA (lₚ := []) (by decide +kernel))
          have mA19 := SAm_of cA19 oz_H2cls_17
          have r20 : (-2147483648 : Int) ≤ y19_0_21 ∧ y19_0_21 ≤ 2147483647 := rngE (show (-2147483648 : Int) ≤ F19 0 21 ∧ F19 0 21 ≤ 2147483647 from H.krg 0 21 (ltn len_V238_oz_H2cls rfl)) (show F19 0 21 = y19_0_21 from ((eF19 0 21).trans ey19_0_21))
          exact w_ireturn rfl (k (z19) _ _ _ H O (cF19) (cA19) (u0_9) (((((show F19 0 9 = F9 0 9 from (eF19 0 9).trans (hS19 0 9 rfl))).trans ((show F9 0 9 = F 0 9 from (eF9 0 9)))).trans (eu0_9))) (show inr (z19) from pz19_0) (show 0 ≤ (z19) ∧ (z19) ≤ 17 from q_3596 pz19_1) (show 0 ≤ (u0_9) ∧ (u0_9) ≤ (u0_9) ∧ (u0_9) ≤ (u0_8) from q_3590 h0))
    · refine Ew_of (pcₚ := 35) (fun _ => x_aload_n rfl (rk_o (rfl) rfl rfl)) ?_
      refine Ew_of (pcₚ := 36) (fun _ => x_iconst rfl) ?_
      refine Ew_of (pcₚ := 37) (fun _ => x_aload_n rfl (rk_o (rfl) rfl rfl)) ?_
      refine v_g H (o := 0) (v := I (u0_8)) rfl rfl rfl rfl rfl (congrArg (fun z : Int => I z) ((eu0_8) : F 0 8 = u0_8)) ?_
      have r21 : (-2147483648 : Int) ≤ F 0 21 ∧ F 0 21 ≤ 2147483647 := H.krg 0 21 (ltn len_V238_oz_H2cls rfl)
      refine v_inv H (o := 0) rfl rfl rfl rfl rfl rfl (by rfl) (C232 (D := puc 0 D) (N := puc 0 N) (HW_subc H oz_H2cls_15 oz_H2cls_12) (F 0 21) (rfl) (show inr (1) from q_23) (show inr (u0_8) from q_3584 h0) (fun z22 σ22 F22ₚ A22ₚ Hₚ Oₚ hS22 hA22 y22_0_21 (ey22_0_21 : HID _) pz22_0 pz22_1 pz22_2 => ⟨rfl, ?_⟩))
      refine v_backc (c := c) (s := s) H oz_H2cls_15 oz_H2cls_12 Hₚ Oₚ (fun F22 A22 H Oₚ eF22 eA22 => ?_)
      have O := OUT_trans O Oₚ
      -- Unpacker.fail
      have cF22 : SF oz_H2clsl_7 F F22 := SF_trans (SF_refl) (SF_gluc (ι := oz_H2clsl_6) oz_H2cls_12 hS22 eF22 (by decide +kernel)) (any_sub (lₚ := [(0, 21)]) (by decide +kernel))
      have mF22 := SFm_of cF22 oz_H2cls_16
      have cA22 : SA oz_H2clsl_8 A A22 := SA_trans (SA_refl) (SA_gluc (ι := oz_H2clsl_6) oz_H2cls_12 hA22 eA22 (by decide +kernel)) (any_subA (lₚ := []) (by decide +kernel))
      have mA22 := SAm_of cA22 oz_H2cls_17
      have r23 : (-2147483648 : Int) ≤ y22_0_21 ∧ y22_0_21 ≤ 2147483647 := rngE (show (-2147483648 : Int) ≤ F22 0 21 ∧ F22 0 21 ≤ 2147483647 from H.krg 0 21 (ltn len_V238_oz_H2cls rfl)) (show F22 0 21 = y22_0_21 from ((eF22 0 21).trans ey22_0_21))
      exact w_ireturn rfl (k (z22) _ _ _ H O (cF22) (cA22) (u0_9) ((((show F22 0 9 = F 0 9 from (eF22 0 9).trans (hS22 0 9 rfl))).trans (eu0_9))) (show inr (z22) from pz22_0) (show 0 ≤ (z22) ∧ (z22) ≤ 17 from q_3591 pz22_1) (show 0 ≤ (u0_9) ∧ (u0_9) ≤ (u0_9) ∧ (u0_9) ≤ (u0_8) from q_3590 h0))
  · refine Ew_of (pcₚ := 11) (fun _ => x_iconst rfl) ?_
    refine Ew_of (pcₚ := 20) (fun _ => x_goto rfl rfl) ?_
    refine Ew_of (pcₚ := 21) (fun _ => x_istore_n rfl) ?_
    refine Ew_of (pcₚ := 22) (fun _ => x_aload_n rfl (rk_o (rfl) rfl rfl)) ?_
    refine v_g H (o := 0) (v := I (u0_8)) rfl rfl rfl rfl rfl (congrArg (fun z : Int => I z) ((eu0_8) : F 0 8 = u0_8)) ?_
    refine Ew_of (pcₚ := 26) (fun _ => x_aload_n rfl (rk_o (rfl) rfl rfl)) ?_
    refine v_g H (o := 0) (v := I (u0_9)) rfl rfl rfl rfl rfl (congrArg (fun z : Int => I z) ((eu0_9) : F 0 9 = u0_9)) ?_
    refine w_isub rfl ?_
    refine Ew_of (pcₚ := 31) (fun _ => x_iload_n rfl rk_s) ?_
    refine w_icmpge (t := 44) rfl rfl (show inr ((u0_8 - u0_9)) from q_3592 h0) (show inr (4) from q_2) (fun b24 => ?_) (fun b24 => ?_)
    · refine Ew_of (pcₚ := 45) (fun _ => x_aload_n rfl (rk_o (rfl) rfl rfl)) ?_
      refine v_g H (o := 0) (v := .ref (D 1)) rfl rfl rfl rfl rfl (vrf (pf1)) ?_
      refine Ew_of (pcₚ := 49) (fun _ => x_aload_n rfl (rk_o (rfl) rfl rfl)) ?_
      refine v_g H (o := 0) (v := I (u0_9)) rfl rfl rfl rfl rfl (congrArg (fun z : Int => I z) ((eu0_9) : F 0 9 = u0_9)) ?_
      refine Ew_of (pcₚ := 53) (fun _ => x_iload_n rfl rk_s) ?_
      refine w_stat25 rfl rfl (by rfl) (C42_Brf (D := puc 1 D) (N := puc 1 N) (HW_subc H oz_H2cls_14 oz_H2cls_18) (n1) (en1) (A 1) (rfl) (show inr (u0_9) from q_3598 b24 h0) (show inr (4) from q_2) (show (4) ≤ 0 ∨ 0 ≤ (u0_9) ∧ (u0_9) + (4) ≤ (n1) from q_3597 b24 h0) (show 0 ≤ (4) ∧ (4) ≤ 8 from q_381) (fun z25 σ25 F25ₚ A25ₚ Hₚ Oₚ hS25 hA25 pz25_0 pz25_1 pz25_2 => ⟨rfl, ?_⟩))
      refine v_backc (c := c) (s := s) H oz_H2cls_14 oz_H2cls_18 Hₚ Oₚ (fun F25 A25 H Oₚ eF25 eA25 => ?_)
      have O := OUT_trans O Oₚ
      -- PackHouse.number
      have cF25 : SF oz_H2clsl_7 F F25 := SF_trans (SF_refl) (SF_gluc (ι := oz_H2clsl_2) oz_H2cls_18 hS25 eF25 (by decide +kernel)) (any_sub (lₚ := []) (by decide +kernel))
      have mF25 := SFm_of cF25 oz_H2cls_16
      have cA25 : SA oz_H2clsl_8 A A25 := SA_trans (SA_refl) (SA_gluc (ι := oz_H2clsl_2) oz_H2cls_18 hA25 eA25 (by decide +kernel)) (any_subA (lₚ := []) (by decide +kernel))
      have mA25 := SAm_of cA25 oz_H2cls_17
      refine Ew_of (pcₚ := 57) (fun _ => x_lstore_n rfl) ?_
      refine Ew_of (pcₚ := 58) (fun _ => x_lload_n rfl rk2_s) ?_
      refine Ew_of (pcₚ := 59) (fun _ => x_lconst (z := 0) rfl (by decide)) ?_
      refine w_lcmp rfl (show inrJ (z25) from pz25_0) (show inrJ (0) from q_81) (fun z26 gz26 gaz26 gbz26 => ?_)
      refine w_ifeq (t := 90) rfl rfl (show inr (z26) from gz26) (fun b27 => ?_) (fun b27 => ?_)
      · refine Ew_of (pcₚ := 91) (fun _ => x_aload_n rfl (rk2_o (rk_o (rfl) rfl rfl) rfl rfl)) ?_
        refine Ew_of (pcₚ := 92) (fun _ => x_dup rfl rfl) ?_
        refine v_g H (o := 0) (v := I (u0_9)) rfl rfl rfl rfl rfl (congrArg (fun z : Int => I z) ((((show F25 0 9 = F 0 9 from (eF25 0 9))).trans (eu0_9)) : F25 0 9 = u0_9)) ?_
        refine Ew_of (pcₚ := 96) (fun _ => x_iload_n rfl (rk2_o (rk_s) rfl rfl)) ?_
        refine w_iadd rfl ?_
        refine v_p H (o := 0) (z := (u0_9 + 4)) (v := I ((u0_9 + 4))) rfl rfl rfl rfl rfl rfl rfl rfl (show (-2147483648 : Int) ≤ (u0_9 + 4) ∧ (u0_9 + 4) ≤ 2147483647 from q_3599 b24 h0) (fun σ H Oₚ => ?_)
        have O := OUT_trans O Oₚ
        have cFu28 : SF oz_H2clsl_7 F (updF F25 0 9 ((u0_9 + 4))) := SF_upd (cF25) rfl
        have mFu28 := SFm_of cFu28 oz_H2cls_16
        refine Ew_of (pcₚ := 101) (fun _ => x_iconst rfl) ?_
        exact w_ireturn rfl (k (0) _ _ _ H O (cFu28) (cA25) ((u0_9 + 4)) (rfl) (show inr (0) from q_20) (show 0 ≤ (0) ∧ (0) ≤ 17 by first | exact q_3589 | omega) (show 0 ≤ ((u0_9 + 4)) ∧ (u0_9) ≤ ((u0_9 + 4)) ∧ ((u0_9 + 4)) ≤ (u0_8) from q_3600 b24 h0))
      · refine Ew_of (pcₚ := 64) (fun _ => x_lload_n rfl rk2_s) ?_
        refine Ew_of (pcₚ := 65) (fun _ => x_aload_n rfl (rk2_o (rk_o (rfl) rfl rfl) rfl rfl)) ?_
        refine v_g H (o := 0) (v := .ref (D 2)) rfl rfl rfl rfl rfl (vrf ((mF25 0 12 rfl).trans (pf2))) ?_
        have r29 : (-2147483648 : Int) ≤ F 2 2 ∧ F 2 2 ≤ 2147483647 := rngE (show (-2147483648 : Int) ≤ F25 2 2 ∧ F25 2 2 ≤ 2147483647 from H.krg 2 2 (ltn len_V238_oz_H2cls rfl)) (show F25 2 2 = F 2 2 from (mF25 2 2 rfl))
        refine v_g H (o := 2) (v := I (F 2 2)) rfl rfl rfl rfl rfl (congrArg (fun z : Int => I z) ((mF25 2 2 rfl) : F25 2 2 = F 2 2)) ?_
        refine w_i2l rfl (show inr (F 2 2) from q_22 r29) ?_
        refine Ew_of (pcₚ := 75) (fun _ => x_ldc2 (z := 4294967295) rfl (by decide)) ?_
        refine w_land rfl (show inrJ (F 2 2) from q_2429 r29) (show inrJ (4294967295) from q_50) (fun z30 gz30 gaz30 gbz30 => ?_)
        refine w_lcmp rfl (show inrJ (z25) from pz25_0) (show inrJ (z30) from gz30) (fun z31 gz31 gaz31 gbz31 => ?_)
        refine w_ifeq (t := 90) rfl rfl (show inr (z31) from gz31) (fun b32 => ?_) (fun b32 => ?_)
        · refine Ew_of (pcₚ := 91) (fun _ => x_aload_n rfl (rk2_o (rk_o (rfl) rfl rfl) rfl rfl)) ?_
          refine Ew_of (pcₚ := 92) (fun _ => x_dup rfl rfl) ?_
          refine v_g H (o := 0) (v := I (u0_9)) rfl rfl rfl rfl rfl (congrArg (fun z : Int => I z) ((((show F25 0 9 = F 0 9 from (eF25 0 9))).trans (eu0_9)) : F25 0 9 = u0_9)) ?_
          refine Ew_of (pcₚ := 96) (fun _ => x_iload_n rfl (rk2_o (rk_s) rfl rfl)) ?_
          refine w_iadd rfl ?_
          refine v_p H (o := 0) (z := (u0_9 + 4)) (v := I ((u0_9 + 4))) rfl rfl rfl rfl rfl rfl rfl rfl (show (-2147483648 : Int) ≤ (u0_9 + 4) ∧ (u0_9 + 4) ≤ 2147483647 from q_3599 b24 h0) (fun σ H Oₚ => ?_)
          have O := OUT_trans O Oₚ
          have cFu33 : SF oz_H2clsl_7 F (updF F25 0 9 ((u0_9 + 4))) := SF_upd (cF25) rfl
          have mFu33 := SFm_of cFu33 oz_H2cls_16
          refine Ew_of (pcₚ := 101) (fun _ => x_iconst rfl) ?_
          exact w_ireturn rfl (k (0) _ _ _ H O (cFu33) (cA25) ((u0_9 + 4)) (rfl) (show inr (0) from q_20) (show 0 ≤ (0) ∧ (0) ≤ 17 by first | exact q_3589 | omega) (show 0 ≤ ((u0_9 + 4)) ∧ (u0_9) ≤ ((u0_9 + 4)) ∧ ((u0_9 + 4)) ≤ (u0_8) from q_3600 b24 h0))
        · refine Ew_of (pcₚ := 81) (fun _ => x_aload_n rfl (rk2_o (rk_o (rfl) rfl rfl) rfl rfl)) ?_
          refine Ew_of (pcₚ := 82) (fun _ => x_iconst rfl) ?_
          refine Ew_of (pcₚ := 83) (fun _ => x_aload_n rfl (rk2_o (rk_o (rfl) rfl rfl) rfl rfl)) ?_
          refine v_g H (o := 0) (v := I (u0_9)) rfl rfl rfl rfl rfl (congrArg (fun z : Int => I z) ((((show F25 0 9 = F 0 9 from (eF25 0 9))).trans (eu0_9)) : F25 0 9 = u0_9)) ?_
          have r34 : (-2147483648 : Int) ≤ F 0 21 ∧ F 0 21 ≤ 2147483647 := rngE (show (-2147483648 : Int) ≤ F25 0 21 ∧ F25 0 21 ≤ 2147483647 from H.krg 0 21 (ltn len_V238_oz_H2cls rfl)) (show F25 0 21 = F 0 21 from ((show F25 0 21 = F 0 21 from (eF25 0 21))))
          refine v_inv H (o := 0) rfl rfl rfl rfl rfl rfl (by rfl) (C232 (D := puc 0 D) (N := puc 0 N) (HW_subc H oz_H2cls_15 oz_H2cls_12) (F 0 21) (((show F25 0 21 = F 0 21 from (eF25 0 21)))) (show inr (4) from q_2) (show inr (u0_9) from q_3598 b24 h0) (fun z35 σ35 F35ₚ A35ₚ Hₚ Oₚ hS35 hA35 y35_0_21 (ey35_0_21 : HID _) pz35_0 pz35_1 pz35_2 => ⟨rfl, ?_⟩))
          refine v_backc (c := c) (s := s) H oz_H2cls_15 oz_H2cls_12 Hₚ Oₚ (fun F35 A35 H Oₚ eF35 eA35 => ?_)
          have O := OUT_trans O Oₚ
          -- Unpacker.fail
          have cF35 : SF oz_H2clsl_7 F F35 := SF_trans (cF25) (SF_gluc (ι := oz_H2clsl_6) oz_H2cls_12 hS35 eF35 (by decide +kernel)) (any_sub (lₚ := [(0, 21)]) (by decide +kernel))
          have mF35 := SFm_of cF35 oz_H2cls_16
          have cA35 : SA oz_H2clsl_8 A A35 := SA_trans (cA25) (SA_gluc (ι := oz_H2clsl_6) oz_H2cls_12 hA35 eA35 (by decide +kernel)) (any_subA (lₚ := []) (by decide +kernel))
          have mA35 := SAm_of cA35 oz_H2cls_17
          have r36 : (-2147483648 : Int) ≤ y35_0_21 ∧ y35_0_21 ≤ 2147483647 := rngE (show (-2147483648 : Int) ≤ F35 0 21 ∧ F35 0 21 ≤ 2147483647 from H.krg 0 21 (ltn len_V238_oz_H2cls rfl)) (show F35 0 21 = y35_0_21 from ((eF35 0 21).trans ey35_0_21))
          exact w_ireturn rfl (k (z35) _ _ _ H O (cF35) (cA35) (u0_9) (((((show F35 0 9 = F25 0 9 from (eF35 0 9).trans (hS35 0 9 rfl))).trans ((show F25 0 9 = F 0 9 from (eF25 0 9)))).trans (eu0_9))) (show inr (z35) from pz35_0) (show 0 ≤ (z35) ∧ (z35) ≤ 17 from q_3596 pz35_1) (show 0 ≤ (u0_9) ∧ (u0_9) ≤ (u0_9) ∧ (u0_9) ≤ (u0_8) from q_3590 h0))
    · refine Ew_of (pcₚ := 35) (fun _ => x_aload_n rfl (rk_o (rfl) rfl rfl)) ?_
      refine Ew_of (pcₚ := 36) (fun _ => x_iconst rfl) ?_
      refine Ew_of (pcₚ := 37) (fun _ => x_aload_n rfl (rk_o (rfl) rfl rfl)) ?_
      refine v_g H (o := 0) (v := I (u0_8)) rfl rfl rfl rfl rfl (congrArg (fun z : Int => I z) ((eu0_8) : F 0 8 = u0_8)) ?_
      have r37 : (-2147483648 : Int) ≤ F 0 21 ∧ F 0 21 ≤ 2147483647 := H.krg 0 21 (ltn len_V238_oz_H2cls rfl)
      refine v_inv H (o := 0) rfl rfl rfl rfl rfl rfl (by rfl) (C232 (D := puc 0 D) (N := puc 0 N) (HW_subc H oz_H2cls_15 oz_H2cls_12) (F 0 21) (rfl) (show inr (1) from q_23) (show inr (u0_8) from q_3584 h0) (fun z38 σ38 F38ₚ A38ₚ Hₚ Oₚ hS38 hA38 y38_0_21 (ey38_0_21 : HID _) pz38_0 pz38_1 pz38_2 => ⟨rfl, ?_⟩))
      refine v_backc (c := c) (s := s) H oz_H2cls_15 oz_H2cls_12 Hₚ Oₚ (fun F38 A38 H Oₚ eF38 eA38 => ?_)
      have O := OUT_trans O Oₚ
      -- Unpacker.fail
      have cF38 : SF oz_H2clsl_7 F F38 := SF_trans (SF_refl) (SF_gluc (ι := oz_H2clsl_6) oz_H2cls_12 hS38 eF38 (by decide +kernel)) (any_sub (lₚ := [(0, 21)]) (by decide +kernel))
      have mF38 := SFm_of cF38 oz_H2cls_16
      have cA38 : SA oz_H2clsl_8 A A38 := SA_trans (SA_refl) (SA_gluc (ι := oz_H2clsl_6) oz_H2cls_12 hA38 eA38 (by decide +kernel)) (any_subA (lₚ := []) (by decide +kernel))
      have mA38 := SAm_of cA38 oz_H2cls_17
      have r39 : (-2147483648 : Int) ≤ y38_0_21 ∧ y38_0_21 ≤ 2147483647 := rngE (show (-2147483648 : Int) ≤ F38 0 21 ∧ F38 0 21 ≤ 2147483647 from H.krg 0 21 (ltn len_V238_oz_H2cls rfl)) (show F38 0 21 = y38_0_21 from ((eF38 0 21).trans ey38_0_21))
      exact w_ireturn rfl (k (z38) _ _ _ H O (cF38) (cA38) (u0_9) ((((show F38 0 9 = F 0 9 from (eF38 0 9).trans (hS38 0 9 rfl))).trans (eu0_9))) (show inr (z38) from pz38_0) (show 0 ≤ (z38) ∧ (z38) ≤ 17 from q_3591 pz38_1) (show 0 ≤ (u0_9) ∧ (u0_9) ≤ (u0_9) ∧ (u0_9) ≤ (u0_8) from q_3590 h0))
abbrev V239 : vV := [(0, 12, [(4, 0), (4, 0), (4, 0), (4, 0), (4, 0), (4, 0), (4, 0), (4, 0), (0, 0), (0, 0), (4, 0), (0, 0), (4, 0), (4, 0), (0, 0), (2, 0), (0, 0), (0, 0), (0, 0), (0, 0), (0, 0), (0, 0)])]
theorem len_V239_oz_H2cls : (V239).length = 1 := by decide +kernel
/-- Unpacker.sizeBytes: this -/
theorem C239 {σE : rS} {D N : Nat → Nat} {F : hF} {A : hA} {d c s : Nat} {Q : wQ} (H : HW V239 σE D N F A)  (u0_14 : Int) (eu0_14 : HID (F 0 14 = u0_14)) (h0 : 0 ≤ (u0_14) ∧ (u0_14) ≤ 255) (k : ∀ (z : Int) (σ : rS) (Fₚ : hF) (Aₚ : hA), HW V239 σ D N Fₚ Aₚ → OUT (V239).length D N σE c s D N σ c s → SF [] F Fₚ → SA [] A Aₚ → (inr (z)) → (0 ≤ (z) ∧ (z) ≤ 8) → ((z) = sbt ((u0_14))) → Q (some (I z)) σ c s) : Ew 239 (d + 0) 0 (rargs 0 [.ref (D 0)]) [] σE c s Q := by
  have O := OUT_refl (n := (V239).length) (D := D) (N := N) (σ := σE) (c := c) (s := s)
  have HE := H
  have r1 : (-2147483648 : Int) ≤ u0_14 ∧ u0_14 ≤ 2147483647 := rngE (show (-2147483648 : Int) ≤ F 0 14 ∧ F 0 14 ≤ 2147483647 from H.krg 0 14 (ltn len_V239_oz_H2cls rfl)) (show F 0 14 = u0_14 from (eu0_14))
  refine Ew_of (pcₚ := 1) (fun _ => x_aload_n rfl rfl) ?_
  refine v_g H (o := 0) (v := I (u0_14)) rfl rfl rfl rfl rfl (congrArg (fun z : Int => I z) ((eu0_14) : F 0 14 = u0_14)) ?_
  refine Ew_of (pcₚ := 6) (fun _ => x_bipush (z := 6) rfl (by decide)) ?_
  refine w_ishrK 6 64 (by decide) (by decide) rfl (show inr (u0_14) from q_38 h0) (fun z2 gz2 dz2 => ?_)
  refine Ew_of (pcₚ := 8) (fun _ => x_istore_n rfl) ?_
  refine Ew_of (pcₚ := 9) (fun _ => x_iload_n rfl rk_s) ?_
  refine w_ifle (t := 18) rfl rfl (show inr (z2) from gz2) (fun b3 => ?_) (fun b3 => ?_)
  · refine Ew_of (pcₚ := 19) (fun _ => x_aload_n rfl (rk_o (rfl) rfl rfl)) ?_
    refine v_g H (o := 0) (v := I (u0_14)) rfl rfl rfl rfl rfl (congrArg (fun z : Int => I z) ((eu0_14) : F 0 14 = u0_14)) ?_
    refine Ew_of (pcₚ := 24) (fun _ => x_bipush (z := 32) rfl (by decide)) ?_
    refine w_iandE rfl (show inr (u0_14) from q_38 h0) (show inr (32) from q_417) (fun z4 gz4 gaz4 gbz4 gez4 => ?_)
    refine w_ifeq (t := 32) rfl rfl (show inr (z4) from gz4) (fun b5 => ?_) (fun b5 => ?_)
    · refine Ew_of (pcₚ := 33) (fun _ => x_iconst rfl) ?_
      have hsb : ((0) : Int) = sbt ((u0_14)) := by first | exact sbt_1 (by omega) (by omega) | exact sbt_2 (by omega) (by omega) | exact sbt_3 (by omega) (by omega)
      exact w_ireturn rfl (k (0) _ _ _ H O (SF_refl) (SA_refl) (show inr (0) from q_20) (show 0 ≤ (0) ∧ (0) ≤ 8 by first | exact q_1612 | omega) (show (0) = sbt ((u0_14)) from hsb))
    · refine Ew_of (pcₚ := 29) (fun _ => x_iconst rfl) ?_
      refine Ew_of (pcₚ := 33) (fun _ => x_goto rfl rfl) ?_
      have hsb : ((1) : Int) = sbt ((u0_14)) := by first | exact sbt_1 (by omega) (by omega) | exact sbt_2 (by omega) (by omega) | exact sbt_3 (by omega) (by omega)
      exact w_ireturn rfl (k (1) _ _ _ H O (SF_refl) (SA_refl) (show inr (1) from q_23) (show 0 ≤ (1) ∧ (1) ≤ 8 by first | exact q_1613 | omega) (show (1) = sbt ((u0_14)) from hsb))
  · refine Ew_of (pcₚ := 13) (fun _ => x_iconst rfl) ?_
    refine Ew_of (pcₚ := 14) (fun _ => x_iload_n rfl rk_s) ?_
    have hp3 : p2 ((z2)) ≤ p2 3 := p2_mono (by omega)
    have hp8 : p2 3 = 8 := by decide
    have hpp := p2_pos ((z2))
    refine w_ishl1 rfl (show 0 ≤ z2 ∧ z2 ≤ 31 by omega) ?_
    refine Ew_of (pcₚ := 33) (fun _ => x_goto rfl rfl) ?_
    have hsb : ((p2 (z2)) : Int) = sbt ((u0_14)) := by first | exact sbt_1 (by omega) (by omega) | exact sbt_2 (by omega) (by omega) | exact sbt_3 (by omega) (by omega)
    exact w_ireturn rfl (k (p2 (z2)) _ _ _ H O (SF_refl) (SA_refl) (show inr (p2 (z2)) by omega) (show 0 ≤ (p2 (z2)) ∧ (p2 (z2)) ≤ 8 by omega) (show (p2 (z2)) = sbt ((u0_14)) by omega))
abbrev V240 : vV := [(0, 12, [(4, 0), (4, 0), (4, 0), (4, 0), (4, 0), (4, 0), (4, 0), (4, 0), (0, 0), (0, 0), (4, 0), (0, 0), (4, 0), (4, 0), (0, 0), (2, 0), (0, 0), (0, 0), (0, 0), (0, 0), (0, 0), (0, 0)]), (1, 0, [])]
theorem len_V240_oz_H2cls : (V240).length = 2 := by decide +kernel
theorem oz_H2cls_21 : vsub V240 V239 [0] = true := by decide +kernel
theorem oz_H2cls_22 : vsub V240 V42_Br [1] = true := by decide +kernel
def oz_H2clsl_9 : List (Nat × Nat) := []
theorem oz_H2cls_23 : (oz_H2clsl_9).all (fun p => !tbz 0 (Nat.add (Nat.mul 32 p.1) p.2)) = true := by decide +kernel
/-- Unpacker.sizeTold: this, this.in -/
theorem C240 {σE : rS} {D N : Nat → Nat} {F : hF} {A : hA} {d c s : Nat} {Q : wQ} (H : HW V240 σE D N F A)  (pf1 : HID (F 0 7 = (D 1 : Int))) (n1 : Int) (en1 : HID ((N 1 : Int) = n1)) (u0_14 : Int) (eu0_14 : HID (F 0 14 = u0_14)) (u0_16 : Int) (eu0_16 : HID (F 0 16 = u0_16)) (h0 : 0 ≤ (u0_14) ∧ (u0_14) ≤ 255) (h1 : 0 ≤ (u0_16) ∧ (u0_16) + sbt ((u0_14)) ≤ (n1)) (h2 : (n1) ≤ 65536) (k : ∀ (z : Int) (σ : rS) (Fₚ : hF) (Aₚ : hA), HW V240 σ D N Fₚ Aₚ → OUT (V240).length D N σE c s D N σ c s → SF [] F Fₚ → SA [] A Aₚ → (inrJ (z)) → Q (some (J z)) σ c s) : Ew 240 (d + 1) 0 (rargs 0 [.ref (D 0)]) [] σE c s Q := by
  have O := OUT_refl (n := (V240).length) (D := D) (N := N) (σ := σE) (c := c) (s := s)
  have HE := H
  have r1 : (-2147483648 : Int) ≤ u0_14 ∧ u0_14 ≤ 2147483647 := rngE (show (-2147483648 : Int) ≤ F 0 14 ∧ F 0 14 ≤ 2147483647 from H.krg 0 14 (ltn len_V240_oz_H2cls rfl)) (show F 0 14 = u0_14 from (eu0_14))
  have r2 : (-2147483648 : Int) ≤ u0_16 ∧ u0_16 ≤ 2147483647 := rngE (show (-2147483648 : Int) ≤ F 0 16 ∧ F 0 16 ≤ 2147483647 from H.krg 0 16 (ltn len_V240_oz_H2cls rfl)) (show F 0 16 = u0_16 from (eu0_16))
  have r3 : (0 : Int) ≤ n1 ∧ n1 ≤ 1000000 := nleE (H.nle 1 (ltn len_V240_oz_H2cls rfl)) (show (N 1 : Int) = n1 from en1)
  refine Ew_of (pcₚ := 1) (fun _ => x_aload_n rfl rfl) ?_
  refine v_inv H (o := 0) rfl rfl rfl rfl rfl rfl (by rfl) (C239 (D := puc 0 D) (N := puc 0 N) (HW_subc H oz_H2cls_21 oz_H2cls_12) (u0_14) ((eu0_14)) (show 0 ≤ (u0_14) ∧ (u0_14) ≤ 255 from h0) (fun z4 σ4 F4ₚ A4ₚ Hₚ Oₚ hS4 hA4 pz4_0 pz4_1 pz4_2 => ⟨rfl, ?_⟩))
  refine v_backc (c := c) (s := s) H oz_H2cls_21 oz_H2cls_12 Hₚ Oₚ (fun F4 A4 H Oₚ eF4 eA4 => ?_)
  have O := OUT_trans O Oₚ
  -- Unpacker.sizeBytes
  have cF4 : SF oz_H2clsl_9 F F4 := SF_trans (SF_refl) (SF_gluc (ι := oz_H2clsl_6) oz_H2cls_12 hS4 eF4 (by decide +kernel)) (any_sub (lₚ := []) (by decide +kernel))
  have mF4 := SFm_of cF4 oz_H2cls_23
  have cA4 : SA oz_H2clsl_8 A A4 := SA_trans (SA_refl) (SA_gluc (ι := oz_H2clsl_6) oz_H2cls_12 hA4 eA4 (by decide +kernel)) (any_subA (lₚ := []) (by decide +kernel))
  have mA4 := SAm_of cA4 oz_H2cls_17
  refine Ew_of (pcₚ := 5) (fun _ => x_istore_n rfl) ?_
  refine Ew_of (pcₚ := 6) (fun _ => x_aload_n rfl (rk_o (rfl) rfl rfl)) ?_
  refine v_g H (o := 0) (v := .ref (D 1)) rfl rfl rfl rfl rfl (vrf ((mF4 0 7 rfl).trans (pf1))) ?_
  refine Ew_of (pcₚ := 10) (fun _ => x_aload_n rfl (rk_o (rfl) rfl rfl)) ?_
  refine v_g H (o := 0) (v := I (u0_16)) rfl rfl rfl rfl rfl (congrArg (fun z : Int => I z) (((mF4 0 16 rfl).trans (eu0_16)) : F4 0 16 = u0_16)) ?_
  refine Ew_of (pcₚ := 14) (fun _ => x_iload_n rfl rk_s) ?_
  refine w_stat25 rfl rfl (by rfl) (C42_Brf (D := puc 1 D) (N := puc 1 N) (HW_subc H oz_H2cls_22 oz_H2cls_18) (n1) (en1) (A 1) (funext (mA4 1 rfl)) (show inr (u0_16) from q_3602 h1 r2) (show inr (z4) from pz4_0) (show (z4) ≤ 0 ∨ 0 ≤ (u0_16) ∧ (u0_16) + (z4) ≤ (n1) from q_3601 h1 pz4_2) (show 0 ≤ (z4) ∧ (z4) ≤ 8 from pz4_1) (fun z5 σ5 F5ₚ A5ₚ Hₚ Oₚ hS5 hA5 pz5_0 pz5_1 pz5_2 => ⟨rfl, ?_⟩))
  refine v_backc (c := c) (s := s) H oz_H2cls_22 oz_H2cls_18 Hₚ Oₚ (fun F5 A5 H Oₚ eF5 eA5 => ?_)
  have O := OUT_trans O Oₚ
  -- PackHouse.number
  have cF5 : SF oz_H2clsl_9 F F5 := SF_trans (cF4) (SF_gluc (ι := oz_H2clsl_2) oz_H2cls_18 hS5 eF5 (by decide +kernel)) (any_sub (lₚ := []) (by decide +kernel))
  have mF5 := SFm_of cF5 oz_H2cls_23
  have cA5 : SA oz_H2clsl_8 A A5 := SA_trans (cA4) (SA_gluc (ι := oz_H2clsl_2) oz_H2cls_18 hA5 eA5 (by decide +kernel)) (any_subA (lₚ := []) (by decide +kernel))
  have mA5 := SAm_of cA5 oz_H2cls_17
  refine Ew_of (pcₚ := 18) (fun _ => x_iload_n rfl rk_s) ?_
  refine Ew_of (pcₚ := 19) (fun _ => x_iconst rfl) ?_
  refine w_icmpne (t := 28) rfl rfl (show inr (z4) from pz4_0) (show inr (2) from q_55) (fun b6 => ?_) (fun b6 => ?_)
  · refine Ew_of (pcₚ := 29) (fun _ => x_iconst rfl) ?_
    refine w_i2l rfl (show inr (0) from q_20) ?_
    refine w_laddA rfl (fun z7 gz7 => ?_)
    exact w_lreturn rfl (k (z7) _ _ _ H O (cF5) (cA5) (show inrJ (z7) from gz7))
  · refine Ew_of (pcₚ := 25) (fun _ => x_sipush (z := 256) rfl (by decide)) ?_
    refine Ew_of (pcₚ := 29) (fun _ => x_goto rfl rfl) ?_
    refine w_i2l rfl (show inr (256) from q_716) ?_
    refine w_laddA rfl (fun z8 gz8 => ?_)
    exact w_lreturn rfl (k (z8) _ _ _ H O (cF5) (cA5) (show inrJ (z8) from gz8))
abbrev V241 : vV := [(0, 12, [(4, 0), (4, 0), (4, 0), (4, 0), (4, 0), (4, 0), (4, 0), (4, 0), (0, 0), (0, 0), (4, 0), (0, 0), (4, 0), (4, 0), (0, 0), (2, 0), (0, 0), (0, 0), (0, 0), (0, 0), (0, 0), (0, 0)]), (1, 0, []), (1, 1, [])]
theorem len_V241_oz_H2cls : (V241).length = 3 := by decide +kernel
theorem oz_H2cls_25 : vsub V241 V239 [0] = true := by decide +kernel
theorem oz_H2cls_26 : vsub V241 V240 [0, 1] = true := by decide +kernel
theorem oz_H2cls_27 : vsub V241 V236 [0, 2] = true := by decide +kernel
theorem oz_H2cls_28 : vsub V241 V232 [0] = true := by decide +kernel
def oz_H2clsl_10 : List (Nat × Nat) := [(0, 9), (0, 15), (0, 16), (0, 21)]
theorem oz_H2cls_29 : (oz_H2clsl_10).all (fun p => !tbz 2195968 (Nat.add (Nat.mul 32 p.1) p.2)) = true := by decide +kernel
def oz_H2clsl_11 : List Nat := [0, 1]
theorem oz_H2cls_30 : okc oz_H2clsl_11 512 = true := by decide +kernel
/-- Unpacker.unpackSize: this, this.in, this.counts -/
theorem C241 {σE : rS} {D N : Nat → Nat} {F : hF} {A : hA} {d c s : Nat} {Q : wQ} (H : HW V241 σE D N F A)  (pf1 : HID (F 0 7 = (D 1 : Int))) (pf2 : HID (F 0 13 = (D 2 : Int))) (n1 : Int) (en1 : HID ((N 1 : Int) = n1)) (n2 : Int) (en2 : HID ((N 2 : Int) = n2)) (u0_8 : Int) (eu0_8 : HID (F 0 8 = u0_8)) (u0_9 : Int) (eu0_9 : HID (F 0 9 = u0_9)) (u0_14 : Int) (eu0_14 : HID (F 0 14 = u0_14)) (u0_15 : Int) (eu0_15 : HID (F 0 15 = u0_15)) (u0_16 : Int) (eu0_16 : HID (F 0 16 = u0_16)) (h0 : 0 ≤ (u0_9) ∧ (u0_9) ≤ (u0_8) ∧ (u0_8) ≤ (n1) ∧ (n1) ≤ 65536) (h1 : 0 ≤ (u0_14) ∧ (u0_14) ≤ 255) (h2 : (n2) = 5) (h3 : 0 ≤ (u0_15)) (k : ∀ (z : Int) (σ : rS) (Fₚ : hF) (Aₚ : hA), HW V241 σ D N Fₚ Aₚ → OUT (V241).length D N σE c s D N σ c s → SF [(0, 9), (0, 15), (0, 16), (0, 21)] F Fₚ → SA [2] A Aₚ → ∀ y0_9 : Int, Fₚ 0 9 = y0_9 → ∀ y0_15 : Int, Fₚ 0 15 = y0_15 → ∀ y0_16 : Int, Fₚ 0 16 = y0_16 → (inr (z)) → (0 ≤ (z) ∧ (z) ≤ 17) → (0 ≤ (y0_9) ∧ (u0_9) ≤ (y0_9) ∧ (y0_9) ≤ (u0_8)) → (0 ≤ (y0_15)) → ((z) ≠ 0 ∨ 0 ≤ (y0_16) ∧ (y0_16) + sbt ((u0_14)) ≤ (n1)) → Q (some (I z)) σ c s) : Ew 241 (d + 2) 0 (rargs 0 [.ref (D 0)]) [] σE c s Q := by
  have O := OUT_refl (n := (V241).length) (D := D) (N := N) (σ := σE) (c := c) (s := s)
  have HE := H
  have r1 : (-2147483648 : Int) ≤ u0_8 ∧ u0_8 ≤ 2147483647 := rngE (show (-2147483648 : Int) ≤ F 0 8 ∧ F 0 8 ≤ 2147483647 from H.krg 0 8 (ltn len_V241_oz_H2cls rfl)) (show F 0 8 = u0_8 from (eu0_8))
  have r2 : (-2147483648 : Int) ≤ u0_9 ∧ u0_9 ≤ 2147483647 := rngE (show (-2147483648 : Int) ≤ F 0 9 ∧ F 0 9 ≤ 2147483647 from H.krg 0 9 (ltn len_V241_oz_H2cls rfl)) (show F 0 9 = u0_9 from (eu0_9))
  have r3 : (-2147483648 : Int) ≤ u0_14 ∧ u0_14 ≤ 2147483647 := rngE (show (-2147483648 : Int) ≤ F 0 14 ∧ F 0 14 ≤ 2147483647 from H.krg 0 14 (ltn len_V241_oz_H2cls rfl)) (show F 0 14 = u0_14 from (eu0_14))
  have r4 : (-9223372036854775808 : Int) ≤ u0_15 ∧ u0_15 ≤ 9223372036854775807 := rngE (show (-9223372036854775808 : Int) ≤ F 0 15 ∧ F 0 15 ≤ 9223372036854775807 from H.krg 0 15 (ltn len_V241_oz_H2cls rfl)) (show F 0 15 = u0_15 from (eu0_15))
  have r5 : (-2147483648 : Int) ≤ u0_16 ∧ u0_16 ≤ 2147483647 := rngE (show (-2147483648 : Int) ≤ F 0 16 ∧ F 0 16 ≤ 2147483647 from H.krg 0 16 (ltn len_V241_oz_H2cls rfl)) (show F 0 16 = u0_16 from (eu0_16))
  have r6 : (0 : Int) ≤ n1 ∧ n1 ≤ 1000000 := nleE (H.nle 1 (ltn len_V241_oz_H2cls rfl)) (show (N 1 : Int) = n1 from en1)
  have r7 : (0 : Int) ≤ n2 ∧ n2 ≤ 1000000 := nleE (H.nle 2 (ltn len_V241_oz_H2cls rfl)) (show (N 2 : Int) = n2 from en2)
  refine Ew_of (pcₚ := 1) (fun _ => x_aload_n rfl rfl) ?_
  refine v_inv H (o := 0) rfl rfl rfl rfl rfl rfl (by rfl) (C239 (D := puc 0 D) (N := puc 0 N) (HW_subc H oz_H2cls_25 oz_H2cls_12) (u0_14) ((eu0_14)) (show 0 ≤ (u0_14) ∧ (u0_14) ≤ 255 from h1) (fun z8 σ8 F8ₚ A8ₚ Hₚ Oₚ hS8 hA8 pz8_0 pz8_1 pz8_2 => ⟨rfl, ?_⟩))
  refine v_backc (c := c) (s := s) H oz_H2cls_25 oz_H2cls_12 Hₚ Oₚ (fun F8 A8 H Oₚ eF8 eA8 => ?_)
  have O := OUT_trans O Oₚ
  -- Unpacker.sizeBytes
  have cF8 : SF oz_H2clsl_10 F F8 := SF_trans (SF_refl) (SF_gluc (ι := oz_H2clsl_6) oz_H2cls_12 hS8 eF8 (by decide +kernel)) (any_sub (lₚ := []) (by decide +kernel))
  have mF8 := SFm_of cF8 oz_H2cls_29
  have cA8 : SA oz_H2clsl_4 A A8 := SA_trans (SA_refl) (SA_gluc (ι := oz_H2clsl_6) oz_H2cls_12 hA8 eA8 (by decide +kernel)) (any_subA (lₚ := []) (by decide +kernel))
  have mA8 := SAm_of cA8 oz_H2cls_10
  refine Ew_of (pcₚ := 5) (fun _ => x_istore_n rfl) ?_
  refine Ew_of (pcₚ := 6) (fun _ => x_aload_n rfl (rk_o (rfl) rfl rfl)) ?_
  refine v_g H (o := 0) (v := I (u0_8)) rfl rfl rfl rfl rfl (congrArg (fun z : Int => I z) (((mF8 0 8 rfl).trans (eu0_8)) : F8 0 8 = u0_8)) ?_
  refine Ew_of (pcₚ := 10) (fun _ => x_aload_n rfl (rk_o (rfl) rfl rfl)) ?_
  refine v_g H (o := 0) (v := I (u0_9)) rfl rfl rfl rfl rfl (congrArg (fun z : Int => I z) ((((show F8 0 9 = F 0 9 from (eF8 0 9).trans (hS8 0 9 rfl))).trans (eu0_9)) : F8 0 9 = u0_9)) ?_
  refine w_isub rfl ?_
  refine Ew_of (pcₚ := 15) (fun _ => x_iload_n rfl rk_s) ?_
  refine w_icmpge (t := 28) rfl rfl (show inr ((u0_8 - u0_9)) from q_3592 h0) (show inr (z8) from pz8_0) (fun b9 => ?_) (fun b9 => ?_)
  · refine Ew_of (pcₚ := 29) (fun _ => x_aload_n rfl (rk_o (rfl) rfl rfl)) ?_
    refine Ew_of (pcₚ := 30) (fun _ => x_aload_n rfl (rk_o (rfl) rfl rfl)) ?_
    refine v_g H (o := 0) (v := I (u0_9)) rfl rfl rfl rfl rfl (congrArg (fun z : Int => I z) ((((show F8 0 9 = F 0 9 from (eF8 0 9).trans (hS8 0 9 rfl))).trans (eu0_9)) : F8 0 9 = u0_9)) ?_
    refine v_p H (o := 0) (z := u0_9) (v := I (u0_9)) rfl rfl rfl rfl rfl rfl rfl rfl (show (-2147483648 : Int) ≤ u0_9 ∧ u0_9 ≤ 2147483647 from r2) (fun σ H Oₚ => ?_)
    have O := OUT_trans O Oₚ
    have cFu10 : SF oz_H2clsl_10 F (updF F8 0 16 (u0_9)) := SF_upd (cF8) rfl
    have mFu10 := SFm_of cFu10 oz_H2cls_29
    have hc54 : ∀ (ls : rO) (σ : rS) (F_c54 : hF) (A_c54 : hA) , rlook ls 0 = some (.ref (D 0)) → rlook ls 1 = some (I (z8)) → HW V241 σ D N F_c54 A_c54 → OUT (V241).length D N σE c s D N σ c s → SF [(0, 15)] (updF F8 0 16 (u0_9)) F_c54 → SA [2] A8 A_c54 → ∀ yc54_0_15 : Int, F_c54 0 15 = yc54_0_15 → (0 ≤ (yc54_0_15)) → Ew 241 (d + 2) 54 ls [] σ c s Q := by
     as_aux_lemma =>
      intro  ls σ F_c54 A_c54  lc54_0 lc54_1 H O hS_c54 hA_c54   yc54_0_15 eyc54_0_15  jc54_0
      have cF_c54 : SF oz_H2clsl_10 F F_c54 := SF_trans (cFu10) hS_c54 (any_sub (by decide +kernel))
      have mF_c54 := SFm_of cF_c54 oz_H2cls_29
      have cA_c54 : SA oz_H2clsl_4 A A_c54 := SA_trans (cA8) hA_c54 (any_subA (by decide +kernel))
      have mA_c54 := SAm_of cA_c54 oz_H2cls_10
      replace eyc54_0_15 := HIDm eyc54_0_15
      have r11 : (-9223372036854775808 : Int) ≤ yc54_0_15 ∧ yc54_0_15 ≤ 9223372036854775807 := rngE (show (-9223372036854775808 : Int) ≤ F_c54 0 15 ∧ F_c54 0 15 ≤ 9223372036854775807 from H.krg 0 15 (ltn len_V241_oz_H2cls rfl)) (show F_c54 0 15 = yc54_0_15 from (eyc54_0_15))
      refine Ew_of (pcₚ := 55) (fun _ => x_aload_n rfl lc54_0) ?_
      refine Ew_of (pcₚ := 56) (fun _ => x_dup rfl rfl) ?_
      refine v_g H (o := 0) (v := I (u0_9)) rfl rfl rfl rfl rfl (congrArg (fun z : Int => I z) ((((hS_c54 0 9 rfl).trans ((show F8 0 9 = F 0 9 from (eF8 0 9).trans (hS8 0 9 rfl)))).trans (eu0_9)) : F_c54 0 9 = u0_9)) ?_
      refine Ew_of (pcₚ := 60) (fun _ => x_iload_n rfl lc54_1) ?_
      refine w_iadd rfl ?_
      refine v_p H (o := 0) (z := (u0_9 + z8)) (v := I ((u0_9 + z8))) rfl rfl rfl rfl rfl rfl rfl rfl (show (-2147483648 : Int) ≤ (u0_9 + z8) ∧ (u0_9 + z8) ≤ 2147483647 from q_3603 b9 h0 pz8_1) (fun σ H Oₚ => ?_)
      have O := OUT_trans O Oₚ
      have cFu12 : SF oz_H2clsl_10 F (updF F_c54 0 9 ((u0_9 + z8))) := SF_upd (cF_c54) rfl
      have mFu12 := SFm_of cFu12 oz_H2cls_29
      refine Ew_of (pcₚ := 65) (fun _ => x_iconst rfl) ?_
      exact w_ireturn rfl (k (0) _ _ _ H O (cFu12) (cA_c54) ((u0_9 + z8)) (rfl) (yc54_0_15) ((eyc54_0_15)) (u0_9) ((hS_c54 0 16 rfl)) (show inr (0) from q_20) (show 0 ≤ (0) ∧ (0) ≤ 17 by first | exact q_3589 | omega) (show 0 ≤ ((u0_9 + z8)) ∧ (u0_9) ≤ ((u0_9 + z8)) ∧ ((u0_9 + z8)) ≤ (u0_8) from q_3605 b9 h0 pz8_1) (show 0 ≤ (yc54_0_15) from jc54_0) (show (0) ≠ 0 ∨ 0 ≤ (u0_9) ∧ (u0_9) + sbt ((u0_14)) ≤ (n1) by first | exact q_3604 b9 h0 pz8_2 | omega))
    refine Ew_of (pcₚ := 37) (fun _ => x_aload_n rfl (rk_o (rfl) rfl rfl)) ?_
    refine v_g H (o := 0) (v := I (u0_14)) rfl rfl rfl rfl rfl (congrArg (fun z : Int => I z) (((mFu10 0 14 rfl).trans (eu0_14)) : (updF F8 0 16 (u0_9)) 0 14 = u0_14)) ?_
    refine Ew_of (pcₚ := 42) (fun _ => x_bipush (z := 32) rfl (by decide)) ?_
    refine w_iand rfl (show inr (u0_14) from q_38 h1) (show inr (32) from q_417) (fun z13 gz13 gaz13 gbz13 => ?_)
    refine w_ifeq (t := 54) rfl rfl (show inr (z13) from gz13) (fun b14 => ?_) (fun b14 => ?_)
    · exact hc54  _ _ _ _  (rk_o (rfl) rfl rfl) (rk_s) H O (SF_refl) (SA_refl)   (u0_15) ((((show F8 0 15 = F 0 15 from (eF8 0 15).trans (hS8 0 15 rfl))).trans (eu0_15)))  (show 0 ≤ (u0_15) from h3)
    · refine Ew_of (pcₚ := 47) (fun _ => x_aload_n rfl (rk_o (rfl) rfl rfl)) ?_
      refine Ew_of (pcₚ := 48) (fun _ => x_aload_n rfl (rk_o (rfl) rfl rfl)) ?_
      refine v_inv H (o := 0) rfl rfl rfl rfl rfl rfl (by rfl) (C240 (D := puc 512 D) (N := puc 512 N) (HW_subc H oz_H2cls_26 oz_H2cls_30) ((mFu10 0 7 rfl).trans (pf1)) (n1) (en1) (u0_14) (((mFu10 0 14 rfl).trans (eu0_14))) (u0_9) (rfl) (show 0 ≤ (u0_14) ∧ (u0_14) ≤ 255 from h1) (show 0 ≤ (u0_9) ∧ (u0_9) + sbt ((u0_14)) ≤ (n1) from q_3607 b9 h0 pz8_2) (show (n1) ≤ 65536 from q_3606 h0) (fun z15 σ15 F15ₚ A15ₚ Hₚ Oₚ hS15 hA15 pz15_0 => ⟨rfl, ?_⟩))
      refine v_backc (c := c) (s := s) H oz_H2cls_26 oz_H2cls_30 Hₚ Oₚ (fun F15 A15 H Oₚ eF15 eA15 => ?_)
      have O := OUT_trans O Oₚ
      -- Unpacker.sizeTold
      have cF15 : SF oz_H2clsl_10 F F15 := SF_trans (cFu10) (SF_gluc (ι := oz_H2clsl_11) oz_H2cls_30 hS15 eF15 (by decide +kernel)) (any_sub (lₚ := []) (by decide +kernel))
      have mF15 := SFm_of cF15 oz_H2cls_29
      have cA15 : SA oz_H2clsl_4 A A15 := SA_trans (cA8) (SA_gluc (ι := oz_H2clsl_11) oz_H2cls_30 hA15 eA15 (by decide +kernel)) (any_subA (lₚ := []) (by decide +kernel))
      have mA15 := SAm_of cA15 oz_H2cls_10
      refine v_inv H (o := 0) rfl rfl rfl rfl rfl rfl (by rfl) (C236 (D := puc 1024 D) (N := puc 1024 N) (HW_subc H oz_H2cls_27 oz_H2cls_11) ((mF15 0 13 rfl).trans (pf2)) (n2) (en2) (u0_15) (((((show F15 0 15 = (updF F8 0 16 (u0_9)) 0 15 from (eF15 0 15).trans (hS15 0 15 rfl))).trans ((show F8 0 15 = F 0 15 from (eF8 0 15).trans (hS8 0 15 rfl)))).trans (eu0_15))) (show inrJ (z15) from pz15_0) (show (n2) = 5 from h2) (fun σ16 F16ₚ A16ₚ Hₚ Oₚ hS16 hA16 y16_0_15 (ey16_0_15 : HID _) pz16_0 => ⟨rfl, ?_⟩))
      refine v_backc (c := c) (s := s) H oz_H2cls_27 oz_H2cls_11 Hₚ Oₚ (fun F16 A16 H Oₚ eF16 eA16 => ?_)
      have O := OUT_trans O Oₚ
      -- Unpacker.tellWindow
      have cF16 : SF oz_H2clsl_10 F F16 := SF_trans (cF15) (SF_gluc (ι := oz_H2clsl_5) oz_H2cls_11 hS16 eF16 (by decide +kernel)) (any_sub (lₚ := [(0, 15)]) (by decide +kernel))
      have mF16 := SFm_of cF16 oz_H2cls_29
      have cA16 : SA oz_H2clsl_4 A A16 := SA_trans (cA15) (SA_gluc (ι := oz_H2clsl_5) oz_H2cls_11 hA16 eA16 (by decide +kernel)) (any_subA (lₚ := [2]) (by decide +kernel))
      have mA16 := SAm_of cA16 oz_H2cls_10
      have r17 : (-9223372036854775808 : Int) ≤ y16_0_15 ∧ y16_0_15 ≤ 9223372036854775807 := rngE (show (-9223372036854775808 : Int) ≤ F16 0 15 ∧ F16 0 15 ≤ 9223372036854775807 from H.krg 0 15 (ltn len_V241_oz_H2cls rfl)) (show F16 0 15 = y16_0_15 from ((eF16 0 15).trans ey16_0_15))
      exact hc54  _ _ _ _  (rk_o (rfl) rfl rfl) (rk_s) H O (SF_trans (SF_trans (SF_refl) (SF_gluc (ι := oz_H2clsl_11) oz_H2cls_30 hS15 eF15 (by decide +kernel)) (any_sub (lₚ := []) (by decide +kernel))) (SF_gluc (ι := oz_H2clsl_5) oz_H2cls_11 hS16 eF16 (by decide +kernel)) (any_sub (lₚ := [(0, 15)]) (by decide +kernel))) (SA_trans (SA_trans (SA_refl) (SA_gluc (ι := oz_H2clsl_11) oz_H2cls_30 hA15 eA15 (by decide +kernel)) (any_subA (lₚ := []) (by decide +kernel))) (SA_gluc (ι := oz_H2clsl_5) oz_H2cls_11 hA16 eA16 (by decide +kernel)) (any_subA (lₚ := [2]) (by decide +kernel)))   (y16_0_15) (((eF16 0 15).trans ey16_0_15))  (show 0 ≤ (y16_0_15) from pz16_0)
  · refine Ew_of (pcₚ := 19) (fun _ => x_aload_n rfl (rk_o (rfl) rfl rfl)) ?_
    refine Ew_of (pcₚ := 20) (fun _ => x_iconst rfl) ?_
    refine Ew_of (pcₚ := 21) (fun _ => x_aload_n rfl (rk_o (rfl) rfl rfl)) ?_
    refine v_g H (o := 0) (v := I (u0_8)) rfl rfl rfl rfl rfl (congrArg (fun z : Int => I z) (((mF8 0 8 rfl).trans (eu0_8)) : F8 0 8 = u0_8)) ?_
    have r18 : (-2147483648 : Int) ≤ F 0 21 ∧ F 0 21 ≤ 2147483647 := rngE (show (-2147483648 : Int) ≤ F8 0 21 ∧ F8 0 21 ≤ 2147483647 from H.krg 0 21 (ltn len_V241_oz_H2cls rfl)) (show F8 0 21 = F 0 21 from ((show F8 0 21 = F 0 21 from (eF8 0 21).trans (hS8 0 21 rfl))))
    refine v_inv H (o := 0) rfl rfl rfl rfl rfl rfl (by rfl) (C232 (D := puc 0 D) (N := puc 0 N) (HW_subc H oz_H2cls_28 oz_H2cls_12) (F 0 21) (((show F8 0 21 = F 0 21 from (eF8 0 21).trans (hS8 0 21 rfl)))) (show inr (1) from q_23) (show inr (u0_8) from q_3584 h0) (fun z19 σ19 F19ₚ A19ₚ Hₚ Oₚ hS19 hA19 y19_0_21 (ey19_0_21 : HID _) pz19_0 pz19_1 pz19_2 => ⟨rfl, ?_⟩))
    refine v_backc (c := c) (s := s) H oz_H2cls_28 oz_H2cls_12 Hₚ Oₚ (fun F19 A19 H Oₚ eF19 eA19 => ?_)
    have O := OUT_trans O Oₚ
    -- Unpacker.fail
    have cF19 : SF oz_H2clsl_10 F F19 := SF_trans (cF8) (SF_gluc (ι := oz_H2clsl_6) oz_H2cls_12 hS19 eF19 (by decide +kernel)) (any_sub (lₚ := [(0, 21)]) (by decide +kernel))
    have mF19 := SFm_of cF19 oz_H2cls_29
    have cA19 : SA oz_H2clsl_4 A A19 := SA_trans (cA8) (SA_gluc (ι := oz_H2clsl_6) oz_H2cls_12 hA19 eA19 (by decide +kernel)) (any_subA (lₚ := []) (by decide +kernel))
    have mA19 := SAm_of cA19 oz_H2cls_10
    have r20 : (-2147483648 : Int) ≤ y19_0_21 ∧ y19_0_21 ≤ 2147483647 := rngE (show (-2147483648 : Int) ≤ F19 0 21 ∧ F19 0 21 ≤ 2147483647 from H.krg 0 21 (ltn len_V241_oz_H2cls rfl)) (show F19 0 21 = y19_0_21 from ((eF19 0 21).trans ey19_0_21))
    exact w_ireturn rfl (k (z19) _ _ _ H O (cF19) (cA19) (u0_9) (((((show F19 0 9 = F8 0 9 from (eF19 0 9).trans (hS19 0 9 rfl))).trans ((show F8 0 9 = F 0 9 from (eF8 0 9).trans (hS8 0 9 rfl)))).trans (eu0_9))) (u0_15) (((((show F19 0 15 = F8 0 15 from (eF19 0 15).trans (hS19 0 15 rfl))).trans ((show F8 0 15 = F 0 15 from (eF8 0 15).trans (hS8 0 15 rfl)))).trans (eu0_15))) (u0_16) (((((show F19 0 16 = F8 0 16 from (eF19 0 16).trans (hS19 0 16 rfl))).trans ((show F8 0 16 = F 0 16 from (eF8 0 16).trans (hS8 0 16 rfl)))).trans (eu0_16))) (show inr (z19) from pz19_0) (show 0 ≤ (z19) ∧ (z19) ≤ 17 from q_3591 pz19_1) (show 0 ≤ (u0_9) ∧ (u0_9) ≤ (u0_9) ∧ (u0_9) ≤ (u0_8) from q_3590 h0) (show 0 ≤ (u0_15) from h3) (show (z19) ≠ 0 ∨ 0 ≤ (u0_16) ∧ (u0_16) + sbt ((u0_14)) ≤ (n1) from q_3608 pz19_1))
abbrev V242 : vV := [(0, 12, [(4, 0), (4, 0), (4, 0), (4, 0), (4, 0), (4, 0), (4, 0), (4, 0), (0, 0), (0, 0), (4, 0), (0, 0), (4, 0), (4, 0), (0, 0), (2, 0), (0, 0), (0, 0), (0, 0), (0, 0), (0, 0), (0, 0)]), (1, 0, []), (0, 7, [(4, 0), (0, 0), (1, 0), (0, 0), (0, 0)]), (1, 0, [])]
theorem len_V242_oz_H2cls : (V242).length = 4 := by decide +kernel
theorem oz_H2cls_32 : vsub V242 V239 [0] = true := by decide +kernel
theorem oz_H2cls_33 : vsub V242 V240 [0, 1] = true := by decide +kernel
theorem oz_H2cls_34 : vsub V242 V232 [0] = true := by decide +kernel
theorem oz_H2cls_35 : vsub V242 V41_Br [1] = true := by decide +kernel
theorem oz_H2cls_36 : vsub V242 V51_Br [3] = true := by decide +kernel
def oz_H2clsl_12 : List Nat := [3]
theorem oz_H2cls_37 : okc oz_H2clsl_12 3 = true := by decide +kernel
/-- Unpacker.unpackEnd: this, this.in, this.result, this.result.bytes -/
theorem C242 {σE : rS} {D N : Nat → Nat} {F : hF} {A : hA} {d c s : Nat} {Q : wQ} (H : HW V242 σE D N F A)  (pf1 : HID (F 0 7 = (D 1 : Int))) (pf2 : HID (F 0 10 = (D 2 : Int))) (pf3 : HID (F 2 0 = (D 3 : Int))) (n1 : Int) (en1 : HID ((N 1 : Int) = n1)) (n3 : Int) (en3 : HID ((N 3 : Int) = n3)) (u0_8 : Int) (eu0_8 : HID (F 0 8 = u0_8)) (u0_9 : Int) (eu0_9 : HID (F 0 9 = u0_9)) (u0_14 : Int) (eu0_14 : HID (F 0 14 = u0_14)) (u0_16 : Int) (eu0_16 : HID (F 0 16 = u0_16)) (u0_17 : Int) (eu0_17 : HID (F 0 17 = u0_17)) (u2_1 : Int) (eu2_1 : HID (F 2 1 = u2_1)) (h0 : 0 ≤ (u0_9) ∧ (u0_9) ≤ (u0_8) ∧ (u0_8) ≤ (n1) ∧ (n1) ≤ 65536) (h1 : 0 ≤ (u0_14) ∧ (u0_14) ≤ 255) (h2 : 0 ≤ (u0_16) ∧ (u0_16) + sbt ((u0_14)) ≤ (n1)) (h3 : 0 ≤ (u2_1) ∧ (u2_1) ≤ (n3) ∧ (n3) ≤ 65536) (h4 : 0 ≤ (u0_17) ∧ (u0_17) ≤ (u2_1)) (k : ∀ (z : Int) (σ : rS) (Fₚ : hF) (Aₚ : hA), HW V242 σ D N Fₚ Aₚ → OUT (V242).length D N σE c s D N σ c s → SF [(0, 9), (0, 21)] F Fₚ → SA [] A Aₚ → ∀ y0_9 : Int, Fₚ 0 9 = y0_9 → (inr (z)) → (0 ≤ (z) ∧ (z) ≤ 17) → (0 ≤ (y0_9) ∧ (u0_9) ≤ (y0_9) ∧ (y0_9) ≤ (u0_8)) → Q (some (I z)) σ c s) : Ew 242 (d + 4) 0 (rargs 0 [.ref (D 0)]) [] σE c s Q := by
  have O := OUT_refl (n := (V242).length) (D := D) (N := N) (σ := σE) (c := c) (s := s)
  have HE := H
  have r1 : (-2147483648 : Int) ≤ u0_8 ∧ u0_8 ≤ 2147483647 := rngE (show (-2147483648 : Int) ≤ F 0 8 ∧ F 0 8 ≤ 2147483647 from H.krg 0 8 (ltn len_V242_oz_H2cls rfl)) (show F 0 8 = u0_8 from (eu0_8))
  have r2 : (-2147483648 : Int) ≤ u0_9 ∧ u0_9 ≤ 2147483647 := rngE (show (-2147483648 : Int) ≤ F 0 9 ∧ F 0 9 ≤ 2147483647 from H.krg 0 9 (ltn len_V242_oz_H2cls rfl)) (show F 0 9 = u0_9 from (eu0_9))
  have r3 : (-2147483648 : Int) ≤ u0_14 ∧ u0_14 ≤ 2147483647 := rngE (show (-2147483648 : Int) ≤ F 0 14 ∧ F 0 14 ≤ 2147483647 from H.krg 0 14 (ltn len_V242_oz_H2cls rfl)) (show F 0 14 = u0_14 from (eu0_14))
  have r4 : (-2147483648 : Int) ≤ u0_16 ∧ u0_16 ≤ 2147483647 := rngE (show (-2147483648 : Int) ≤ F 0 16 ∧ F 0 16 ≤ 2147483647 from H.krg 0 16 (ltn len_V242_oz_H2cls rfl)) (show F 0 16 = u0_16 from (eu0_16))
  have r5 : (-2147483648 : Int) ≤ u0_17 ∧ u0_17 ≤ 2147483647 := rngE (show (-2147483648 : Int) ≤ F 0 17 ∧ F 0 17 ≤ 2147483647 from H.krg 0 17 (ltn len_V242_oz_H2cls rfl)) (show F 0 17 = u0_17 from (eu0_17))
  have r6 : (-2147483648 : Int) ≤ u2_1 ∧ u2_1 ≤ 2147483647 := rngE (show (-2147483648 : Int) ≤ F 2 1 ∧ F 2 1 ≤ 2147483647 from H.krg 2 1 (ltn len_V242_oz_H2cls rfl)) (show F 2 1 = u2_1 from (eu2_1))
  have r7 : (0 : Int) ≤ n1 ∧ n1 ≤ 1000000 := nleE (H.nle 1 (ltn len_V242_oz_H2cls rfl)) (show (N 1 : Int) = n1 from en1)
  have r8 : (0 : Int) ≤ n3 ∧ n3 ≤ 1000000 := nleE (H.nle 3 (ltn len_V242_oz_H2cls rfl)) (show (N 3 : Int) = n3 from en3)
  have hc90 : ∀ (ls : rO) (σ : rS) (F_c90 : hF) (A_c90 : hA) , rlook ls 0 = some (.ref (D 0)) → HW V242 σ D N F_c90 A_c90 → OUT (V242).length D N σE c s D N σ c s → SF [(0, 9)] F F_c90 → SA [] A A_c90 → ∀ yc90_0_9 : Int, F_c90 0 9 = yc90_0_9 → (0 ≤ (yc90_0_9) ∧ (yc90_0_9) ≤ (u0_8) ∧ (u0_8) ≤ (n1) ∧ (n1) ≤ 65536) → ((u0_9) ≤ (yc90_0_9)) → Ew 242 (d + 4) 90 ls [] σ c s Q := by
   as_aux_lemma =>
    intro  ls σ F_c90 A_c90  lc90_0 H O hS_c90 hA_c90   yc90_0_9 eyc90_0_9  jc90_0 jc90_1
    have cF_c90 : SF oz_H2clsl_7 F F_c90 := SF_trans (SF_refl) hS_c90 (any_sub (by decide +kernel))
    have mF_c90 := SFm_of cF_c90 oz_H2cls_16
    have cA_c90 : SA oz_H2clsl_8 A A_c90 := SA_trans (SA_refl) hA_c90 (any_subA (by decide +kernel))
    have mA_c90 := SAm_of cA_c90 oz_H2cls_17
    replace eyc90_0_9 := HIDm eyc90_0_9
    have r9 : (-2147483648 : Int) ≤ yc90_0_9 ∧ yc90_0_9 ≤ 2147483647 := rngE (show (-2147483648 : Int) ≤ F_c90 0 9 ∧ F_c90 0 9 ≤ 2147483647 from H.krg 0 9 (ltn len_V242_oz_H2cls rfl)) (show F_c90 0 9 = yc90_0_9 from (eyc90_0_9))
    refine Ew_of (pcₚ := 91) (fun _ => x_aload_n rfl lc90_0) ?_
    refine v_inv H (o := 0) rfl rfl rfl rfl rfl rfl (by rfl) (C239 (D := puc 0 D) (N := puc 0 N) (HW_subc H oz_H2cls_32 oz_H2cls_12) (u0_14) (((mF_c90 0 14 rfl).trans (eu0_14))) (show 0 ≤ (u0_14) ∧ (u0_14) ≤ 255 from h1) (fun z10 σ10 F10ₚ A10ₚ Hₚ Oₚ hS10 hA10 pz10_0 pz10_1 pz10_2 => ⟨rfl, ?_⟩))
    refine v_backc (c := c) (s := s) H oz_H2cls_32 oz_H2cls_12 Hₚ Oₚ (fun F10 A10 H Oₚ eF10 eA10 => ?_)
    have O := OUT_trans O Oₚ
    -- Unpacker.sizeBytes
    have cF10 : SF oz_H2clsl_7 F F10 := SF_trans (cF_c90) (SF_gluc (ι := oz_H2clsl_6) oz_H2cls_12 hS10 eF10 (by decide +kernel)) (any_sub (lₚ := []) (by decide +kernel))
    have mF10 := SFm_of cF10 oz_H2cls_16
    have cA10 : SA oz_H2clsl_8 A A10 := SA_trans (cA_c90) (SA_gluc (ι := oz_H2clsl_6) oz_H2cls_12 hA10 eA10 (by decide +kernel)) (any_subA (lₚ := []) (by decide +kernel))
    have mA10 := SAm_of cA10 oz_H2cls_17
    refine w_ifle (t := 131) rfl rfl (show inr (z10) from pz10_0) (fun b11 => ?_) (fun b11 => ?_)
    · refine Ew_of (pcₚ := 132) (fun _ => x_iconst rfl) ?_
      exact w_ireturn rfl (k (0) _ _ _ H O (cF10) (cA10) (yc90_0_9) ((((show F10 0 9 = F_c90 0 9 from (eF10 0 9).trans (hS10 0 9 rfl))).trans (eyc90_0_9))) (show inr (0) from q_20) (show 0 ≤ (0) ∧ (0) ≤ 17 by first | exact q_3589 | omega) (show 0 ≤ (yc90_0_9) ∧ (u0_9) ≤ (yc90_0_9) ∧ (yc90_0_9) ≤ (u0_8) from q_3609 jc90_0 jc90_1))
    · refine Ew_of (pcₚ := 98) (fun _ => x_aload_n rfl lc90_0) ?_
      refine v_inv H (o := 0) rfl rfl rfl rfl rfl rfl (by rfl) (C240 (D := puc 512 D) (N := puc 512 N) (HW_subc H oz_H2cls_33 oz_H2cls_30) ((mF10 0 7 rfl).trans (pf1)) (n1) (en1) (u0_14) (((mF10 0 14 rfl).trans (eu0_14))) (u0_16) (((mF10 0 16 rfl).trans (eu0_16))) (show 0 ≤ (u0_14) ∧ (u0_14) ≤ 255 from h1) (show 0 ≤ (u0_16) ∧ (u0_16) + sbt ((u0_14)) ≤ (n1) from h2) (show (n1) ≤ 65536 from q_3606 jc90_0) (fun z12 σ12 F12ₚ A12ₚ Hₚ Oₚ hS12 hA12 pz12_0 => ⟨rfl, ?_⟩))
      refine v_backc (c := c) (s := s) H oz_H2cls_33 oz_H2cls_30 Hₚ Oₚ (fun F12 A12 H Oₚ eF12 eA12 => ?_)
      have O := OUT_trans O Oₚ
      -- Unpacker.sizeTold
      have cF12 : SF oz_H2clsl_7 F F12 := SF_trans (cF10) (SF_gluc (ι := oz_H2clsl_11) oz_H2cls_30 hS12 eF12 (by decide +kernel)) (any_sub (lₚ := []) (by decide +kernel))
      have mF12 := SFm_of cF12 oz_H2cls_16
      have cA12 : SA oz_H2clsl_8 A A12 := SA_trans (cA10) (SA_gluc (ι := oz_H2clsl_11) oz_H2cls_30 hA12 eA12 (by decide +kernel)) (any_subA (lₚ := []) (by decide +kernel))
      have mA12 := SAm_of cA12 oz_H2cls_17
      refine Ew_of (pcₚ := 102) (fun _ => x_aload_n rfl lc90_0) ?_
      refine v_g H (o := 0) (v := .ref (D 2)) rfl rfl rfl rfl rfl (vrf ((mF12 0 10 rfl).trans (pf2))) ?_
      refine v_g H (o := 2) (v := I (u2_1)) rfl rfl rfl rfl rfl (congrArg (fun z : Int => I z) (((mF12 2 1 rfl).trans (eu2_1)) : F12 2 1 = u2_1)) ?_
      refine Ew_of (pcₚ := 109) (fun _ => x_aload_n rfl lc90_0) ?_
      refine v_g H (o := 0) (v := I (u0_17)) rfl rfl rfl rfl rfl (congrArg (fun z : Int => I z) (((mF12 0 17 rfl).trans (eu0_17)) : F12 0 17 = u0_17)) ?_
      refine w_isub rfl ?_
      refine w_i2l rfl (show inr ((u2_1 - u0_17)) from q_2616 h3 h4) ?_
      refine w_lcmp rfl (show inrJ (z12) from pz12_0) (show inrJ ((u2_1 - u0_17)) from q_2995 h3 h4) (fun z13 gz13 gaz13 gbz13 => ?_)
      refine w_ifeq (t := 131) rfl rfl (show inr (z13) from gz13) (fun b14 => ?_) (fun b14 => ?_)
      · refine Ew_of (pcₚ := 132) (fun _ => x_iconst rfl) ?_
        exact w_ireturn rfl (k (0) _ _ _ H O (cF12) (cA12) (yc90_0_9) (((((show F12 0 9 = F10 0 9 from (eF12 0 9).trans (hS12 0 9 rfl))).trans ((show F10 0 9 = F_c90 0 9 from (eF10 0 9).trans (hS10 0 9 rfl)))).trans (eyc90_0_9))) (show inr (0) from q_20) (show 0 ≤ (0) ∧ (0) ≤ 17 by first | exact q_3589 | omega) (show 0 ≤ (yc90_0_9) ∧ (u0_9) ≤ (yc90_0_9) ∧ (yc90_0_9) ≤ (u0_8) from q_3609 jc90_0 jc90_1))
      · refine Ew_of (pcₚ := 119) (fun _ => x_aload_n rfl lc90_0) ?_
        refine Ew_of (pcₚ := 121) (fun _ => x_bipush (z := 9) rfl (by decide)) ?_
        refine Ew_of (pcₚ := 122) (fun _ => x_aload_n rfl lc90_0) ?_
        refine v_g H (o := 0) (v := I (u0_16)) rfl rfl rfl rfl rfl (congrArg (fun z : Int => I z) (((mF12 0 16 rfl).trans (eu0_16)) : F12 0 16 = u0_16)) ?_
        have r15 : (-2147483648 : Int) ≤ F 0 21 ∧ F 0 21 ≤ 2147483647 := rngE (show (-2147483648 : Int) ≤ F12 0 21 ∧ F12 0 21 ≤ 2147483647 from H.krg 0 21 (ltn len_V242_oz_H2cls rfl)) (show F12 0 21 = F 0 21 from ((((show F12 0 21 = F10 0 21 from (eF12 0 21).trans (hS12 0 21 rfl))).trans ((show F10 0 21 = F_c90 0 21 from (eF10 0 21).trans (hS10 0 21 rfl)))).trans (hS_c90 0 21 rfl)))
        refine v_inv H (o := 0) rfl rfl rfl rfl rfl rfl (by rfl) (C232 (D := puc 0 D) (N := puc 0 N) (HW_subc H oz_H2cls_34 oz_H2cls_12) (F 0 21) (((((show F12 0 21 = F10 0 21 from (eF12 0 21).trans (hS12 0 21 rfl))).trans ((show F10 0 21 = F_c90 0 21 from (eF10 0 21).trans (hS10 0 21 rfl)))).trans (hS_c90 0 21 rfl))) (show inr (9) from q_19) (show inr (u0_16) from q_3602 h2 r4) (fun z16 σ16 F16ₚ A16ₚ Hₚ Oₚ hS16 hA16 y16_0_21 (ey16_0_21 : HID _) pz16_0 pz16_1 pz16_2 => ⟨rfl, ?_⟩))
        refine v_backc (c := c) (s := s) H oz_H2cls_34 oz_H2cls_12 Hₚ Oₚ (fun F16 A16 H Oₚ eF16 eA16 => ?_)
        have O := OUT_trans O Oₚ
        -- Unpacker.fail
        have cF16 : SF oz_H2clsl_7 F F16 := SF_trans (cF12) (SF_gluc (ι := oz_H2clsl_6) oz_H2cls_12 hS16 eF16 (by decide +kernel)) (any_sub (lₚ := [(0, 21)]) (by decide +kernel))
        have mF16 := SFm_of cF16 oz_H2cls_16
        have cA16 : SA oz_H2clsl_8 A A16 := SA_trans (cA12) (SA_gluc (ι := oz_H2clsl_6) oz_H2cls_12 hA16 eA16 (by decide +kernel)) (any_subA (lₚ := []) (by decide +kernel))
        have mA16 := SAm_of cA16 oz_H2cls_17
        have r17 : (-2147483648 : Int) ≤ y16_0_21 ∧ y16_0_21 ≤ 2147483647 := rngE (show (-2147483648 : Int) ≤ F16 0 21 ∧ F16 0 21 ≤ 2147483647 from H.krg 0 21 (ltn len_V242_oz_H2cls rfl)) (show F16 0 21 = y16_0_21 from ((eF16 0 21).trans ey16_0_21))
        refine Ew_of (pcₚ := 132) (fun _ => x_goto rfl rfl) ?_
        exact w_ireturn rfl (k (z16) _ _ _ H O (cF16) (cA16) (yc90_0_9) ((((((show F16 0 9 = F12 0 9 from (eF16 0 9).trans (hS16 0 9 rfl))).trans ((show F12 0 9 = F10 0 9 from (eF12 0 9).trans (hS12 0 9 rfl)))).trans ((show F10 0 9 = F_c90 0 9 from (eF10 0 9).trans (hS10 0 9 rfl)))).trans (eyc90_0_9))) (show inr (z16) from pz16_0) (show 0 ≤ (z16) ∧ (z16) ≤ 17 from q_3610 pz16_1) (show 0 ≤ (yc90_0_9) ∧ (u0_9) ≤ (yc90_0_9) ∧ (yc90_0_9) ≤ (u0_8) from q_3609 jc90_0 jc90_1))
  refine Ew_of (pcₚ := 1) (fun _ => x_aload_n rfl rfl) ?_
  refine v_g H (o := 0) (v := I (u0_14)) rfl rfl rfl rfl rfl (congrArg (fun z : Int => I z) ((eu0_14) : F 0 14 = u0_14)) ?_
  refine Ew_of (pcₚ := 5) (fun _ => x_iconst rfl) ?_
  refine w_iand rfl (show inr (u0_14) from q_38 h1) (show inr (4) from q_2) (fun z18 gz18 gaz18 gbz18 => ?_)
  refine w_ifeq (t := 90) rfl rfl (show inr (z18) from gz18) (fun b19 => ?_) (fun b19 => ?_)
  · exact hc90  _ _ _ _  (rfl) H O (SF_refl) (SA_refl)   (u0_9) ((eu0_9))  (show 0 ≤ (u0_9) ∧ (u0_9) ≤ (u0_8) ∧ (u0_8) ≤ (n1) ∧ (n1) ≤ 65536 from h0) (show (u0_9) ≤ (u0_9) from q_102)
  · refine Ew_of (pcₚ := 10) (fun _ => x_aload_n rfl rfl) ?_
    refine v_g H (o := 0) (v := I (u0_8)) rfl rfl rfl rfl rfl (congrArg (fun z : Int => I z) ((eu0_8) : F 0 8 = u0_8)) ?_
    refine Ew_of (pcₚ := 14) (fun _ => x_aload_n rfl rfl) ?_
    refine v_g H (o := 0) (v := I (u0_9)) rfl rfl rfl rfl rfl (congrArg (fun z : Int => I z) ((eu0_9) : F 0 9 = u0_9)) ?_
    refine w_isub rfl ?_
    refine Ew_of (pcₚ := 19) (fun _ => x_iconst rfl) ?_
    refine w_icmpge (t := 32) rfl rfl (show inr ((u0_8 - u0_9)) from q_3592 h0) (show inr (4) from q_2) (fun b20 => ?_) (fun b20 => ?_)
    · refine Ew_of (pcₚ := 33) (fun _ => x_aload_n rfl rfl) ?_
      refine v_g H (o := 0) (v := .ref (D 1)) rfl rfl rfl rfl rfl (vrf (pf1)) ?_
      refine Ew_of (pcₚ := 37) (fun _ => x_aload_n rfl rfl) ?_
      refine v_g H (o := 0) (v := I (u0_9)) rfl rfl rfl rfl rfl (congrArg (fun z : Int => I z) ((eu0_9) : F 0 9 = u0_9)) ?_
      refine w_stat25 rfl rfl (by rfl) (C41_Br (D := puc 1 D) (N := puc 1 N) (HW_subc H oz_H2cls_35 oz_H2cls_18) (n1) (en1) (show inr (u0_9) from q_3598 b20 h0) (show 0 ≤ (u0_9) ∧ (u0_9) + 4 ≤ (n1) from q_3611 b20 h0) (fun z21 σ21 F21ₚ A21ₚ Hₚ Oₚ hS21 hA21 pz21_0 => ⟨rfl, ?_⟩))
      refine v_backc (c := c) (s := s) H oz_H2cls_35 oz_H2cls_18 Hₚ Oₚ (fun F21 A21 H Oₚ eF21 eA21 => ?_)
      have O := OUT_trans O Oₚ
      -- PackHouse.word
      have cF21 : SF oz_H2clsl_7 F F21 := SF_trans (SF_refl) (SF_gluc (ι := oz_H2clsl_2) oz_H2cls_18 hS21 eF21 (by decide +kernel)) (any_sub (lₚ := []) (by decide +kernel))
      have mF21 := SFm_of cF21 oz_H2cls_16
      have cA21 : SA oz_H2clsl_8 A A21 := SA_trans (SA_refl) (SA_gluc (ι := oz_H2clsl_2) oz_H2cls_18 hA21 eA21 (by decide +kernel)) (any_subA (lₚ := []) (by decide +kernel))
      have mA21 := SAm_of cA21 oz_H2cls_17
      refine Ew_of (pcₚ := 44) (fun _ => x_aload_n rfl rfl) ?_
      refine v_g H (o := 0) (v := .ref (D 2)) rfl rfl rfl rfl rfl (vrf ((mF21 0 10 rfl).trans (pf2))) ?_
      refine v_g H (o := 2) (v := .ref (D 3)) rfl rfl rfl rfl rfl (vrf ((mF21 2 0 rfl).trans (pf3))) ?_
      refine Ew_of (pcₚ := 51) (fun _ => x_aload_n rfl rfl) ?_
      refine v_g H (o := 0) (v := I (u0_17)) rfl rfl rfl rfl rfl (congrArg (fun z : Int => I z) (((mF21 0 17 rfl).trans (eu0_17)) : F21 0 17 = u0_17)) ?_
      refine Ew_of (pcₚ := 55) (fun _ => x_aload_n rfl rfl) ?_
      refine v_g H (o := 0) (v := .ref (D 2)) rfl rfl rfl rfl rfl (vrf ((mF21 0 10 rfl).trans (pf2))) ?_
      refine v_g H (o := 2) (v := I (u2_1)) rfl rfl rfl rfl rfl (congrArg (fun z : Int => I z) (((mF21 2 1 rfl).trans (eu2_1)) : F21 2 1 = u2_1)) ?_
      refine Ew_of (pcₚ := 62) (fun _ => x_lconst (z := 0) rfl (by decide)) ?_
      refine w_stat25 rfl rfl (by rfl) (C51_Br (D := puc 3 D) (N := puc 3 N) (HW_subc H oz_H2cls_36 oz_H2cls_37) (n3) (en3) (show inr (u0_17) from q_275 h4 r5) (show inr (u2_1) from q_884 h3) (show inrJ (0) from q_81) (show 0 ≤ (u0_17) ∧ (u0_17) ≤ (u2_1) ∧ (u2_1) ≤ (n3) from q_2999 h3 h4) (fun z22 σ22 F22ₚ A22ₚ Hₚ Oₚ hS22 hA22 pz22_0 => ⟨rfl, ?_⟩))
      refine v_backc (c := c) (s := s) H oz_H2cls_36 oz_H2cls_37 Hₚ Oₚ (fun F22 A22 H Oₚ eF22 eA22 => ?_)
      have O := OUT_trans O Oₚ
      -- PackHouse.wideSum
      have cF22 : SF oz_H2clsl_7 F F22 := SF_trans (cF21) (SF_gluc (ι := oz_H2clsl_12) oz_H2cls_37 hS22 eF22 (by decide +kernel)) (any_sub (lₚ := []) (by decide +kernel))
      have mF22 := SFm_of cF22 oz_H2cls_16
      have cA22 : SA oz_H2clsl_8 A A22 := SA_trans (cA21) (SA_gluc (ι := oz_H2clsl_12) oz_H2cls_37 hA22 eA22 (by decide +kernel)) (any_subA (lₚ := []) (by decide +kernel))
      have mA22 := SAm_of cA22 oz_H2cls_17
      refine w_l2iA rfl (fun z23 gz23 => ?_)
      refine w_icmpeq (t := 80) rfl rfl (show inr (z21) from pz21_0) (show inr (z23) from gz23) (fun b24 => ?_) (fun b24 => ?_)
      · refine Ew_of (pcₚ := 81) (fun _ => x_aload_n rfl rfl) ?_
        refine Ew_of (pcₚ := 82) (fun _ => x_dup rfl rfl) ?_
        refine v_g H (o := 0) (v := I (u0_9)) rfl rfl rfl rfl rfl (congrArg (fun z : Int => I z) (((((show F22 0 9 = F21 0 9 from (eF22 0 9))).trans ((show F21 0 9 = F 0 9 from (eF21 0 9)))).trans (eu0_9)) : F22 0 9 = u0_9)) ?_
        refine Ew_of (pcₚ := 86) (fun _ => x_iconst rfl) ?_
        refine w_iadd rfl ?_
        refine v_p H (o := 0) (z := (u0_9 + 4)) (v := I ((u0_9 + 4))) rfl rfl rfl rfl rfl rfl rfl rfl (show (-2147483648 : Int) ≤ (u0_9 + 4) ∧ (u0_9 + 4) ≤ 2147483647 from q_3599 b20 h0) (fun σ H Oₚ => ?_)
        have O := OUT_trans O Oₚ
        have cFu25 : SF oz_H2clsl_7 F (updF F22 0 9 ((u0_9 + 4))) := SF_upd (cF22) rfl
        have mFu25 := SFm_of cFu25 oz_H2cls_16
        exact hc90  _ _ _ _  (rfl) H O (SF_upd (SF_trans (SF_trans (SF_refl) (SF_gluc (ι := oz_H2clsl_2) oz_H2cls_18 hS21 eF21 (by decide +kernel)) (any_sub (lₚ := []) (by decide +kernel))) (SF_gluc (ι := oz_H2clsl_12) oz_H2cls_37 hS22 eF22 (by decide +kernel)) (any_sub (lₚ := []) (by decide +kernel))) rfl) (SA_trans (SA_trans (SA_refl) (SA_gluc (ι := oz_H2clsl_2) oz_H2cls_18 hA21 eA21 (by decide +kernel)) (any_subA (lₚ := []) (by decide +kernel))) (SA_gluc (ι := oz_H2clsl_12) oz_H2cls_37 hA22 eA22 (by decide +kernel)) (any_subA (lₚ := []) (by decide +kernel)))   ((u0_9 + 4)) (rfl)  (show 0 ≤ ((u0_9 + 4)) ∧ ((u0_9 + 4)) ≤ (u0_8) ∧ (u0_8) ≤ (n1) ∧ (n1) ≤ 65536 from q_3613 b20 h0) (show (u0_9) ≤ ((u0_9 + 4)) from q_3612)
      · refine Ew_of (pcₚ := 70) (fun _ => x_aload_n rfl rfl) ?_
        refine Ew_of (pcₚ := 72) (fun _ => x_bipush (z := 8) rfl (by decide)) ?_
        refine Ew_of (pcₚ := 73) (fun _ => x_aload_n rfl rfl) ?_
        refine v_g H (o := 0) (v := I (u0_9)) rfl rfl rfl rfl rfl (congrArg (fun z : Int => I z) (((((show F22 0 9 = F21 0 9 from (eF22 0 9))).trans ((show F21 0 9 = F 0 9 from (eF21 0 9)))).trans (eu0_9)) : F22 0 9 = u0_9)) ?_
        have r26 : (-2147483648 : Int) ≤ F 0 21 ∧ F 0 21 ≤ 2147483647 := rngE (show (-2147483648 : Int) ≤ F22 0 21 ∧ F22 0 21 ≤ 2147483647 from H.krg 0 21 (ltn len_V242_oz_H2cls rfl)) (show F22 0 21 = F 0 21 from (((show F22 0 21 = F21 0 21 from (eF22 0 21))).trans ((show F21 0 21 = F 0 21 from (eF21 0 21)))))
        refine v_inv H (o := 0) rfl rfl rfl rfl rfl rfl (by rfl) (C232 (D := puc 0 D) (N := puc 0 N) (HW_subc H oz_H2cls_34 oz_H2cls_12) (F 0 21) ((((show F22 0 21 = F21 0 21 from (eF22 0 21))).trans ((show F21 0 21 = F 0 21 from (eF21 0 21))))) (show inr (8) from q_96) (show inr (u0_9) from q_3598 b20 h0) (fun z27 σ27 F27ₚ A27ₚ Hₚ Oₚ hS27 hA27 y27_0_21 (ey27_0_21 : HID _) pz27_0 pz27_1 pz27_2 => ⟨rfl, ?_⟩))
        refine v_backc (c := c) (s := s) H oz_H2cls_34 oz_H2cls_12 Hₚ Oₚ (fun F27 A27 H Oₚ eF27 eA27 => ?_)
        have O := OUT_trans O Oₚ
        -- Unpacker.fail
        have cF27 : SF oz_H2clsl_7 F F27 := SF_trans (cF22) (SF_gluc (ι := oz_H2clsl_6) oz_H2cls_12 hS27 eF27 (by decide +kernel)) (any_sub (lₚ := [(0, 21)]) (by decide +kernel))
        have mF27 := SFm_of cF27 oz_H2cls_16
        have cA27 : SA oz_H2clsl_8 A A27 := SA_trans (cA22) (SA_gluc (ι := oz_H2clsl_6) oz_H2cls_12 hA27 eA27 (by decide +kernel)) (any_subA (lₚ := []) (by decide +kernel))
        have mA27 := SAm_of cA27 oz_H2cls_17
        have r28 : (-2147483648 : Int) ≤ y27_0_21 ∧ y27_0_21 ≤ 2147483647 := rngE (show (-2147483648 : Int) ≤ F27 0 21 ∧ F27 0 21 ≤ 2147483647 from H.krg 0 21 (ltn len_V242_oz_H2cls rfl)) (show F27 0 21 = y27_0_21 from ((eF27 0 21).trans ey27_0_21))
        exact w_ireturn rfl (k (z27) _ _ _ H O (cF27) (cA27) (u0_9) ((((((show F27 0 9 = F22 0 9 from (eF27 0 9).trans (hS27 0 9 rfl))).trans ((show F22 0 9 = F21 0 9 from (eF22 0 9)))).trans ((show F21 0 9 = F 0 9 from (eF21 0 9)))).trans (eu0_9))) (show inr (z27) from pz27_0) (show 0 ≤ (z27) ∧ (z27) ≤ 17 from q_3614 pz27_1) (show 0 ≤ (u0_9) ∧ (u0_9) ≤ (u0_9) ∧ (u0_9) ≤ (u0_8) from q_3590 h0))
    · refine Ew_of (pcₚ := 23) (fun _ => x_aload_n rfl rfl) ?_
      refine Ew_of (pcₚ := 24) (fun _ => x_iconst rfl) ?_
      refine Ew_of (pcₚ := 25) (fun _ => x_aload_n rfl rfl) ?_
      refine v_g H (o := 0) (v := I (u0_8)) rfl rfl rfl rfl rfl (congrArg (fun z : Int => I z) ((eu0_8) : F 0 8 = u0_8)) ?_
      have r29 : (-2147483648 : Int) ≤ F 0 21 ∧ F 0 21 ≤ 2147483647 := H.krg 0 21 (ltn len_V242_oz_H2cls rfl)
      refine v_inv H (o := 0) rfl rfl rfl rfl rfl rfl (by rfl) (C232 (D := puc 0 D) (N := puc 0 N) (HW_subc H oz_H2cls_34 oz_H2cls_12) (F 0 21) (rfl) (show inr (1) from q_23) (show inr (u0_8) from q_3584 h0) (fun z30 σ30 F30ₚ A30ₚ Hₚ Oₚ hS30 hA30 y30_0_21 (ey30_0_21 : HID _) pz30_0 pz30_1 pz30_2 => ⟨rfl, ?_⟩))
      refine v_backc (c := c) (s := s) H oz_H2cls_34 oz_H2cls_12 Hₚ Oₚ (fun F30 A30 H Oₚ eF30 eA30 => ?_)
      have O := OUT_trans O Oₚ
      -- Unpacker.fail
      have cF30 : SF oz_H2clsl_7 F F30 := SF_trans (SF_refl) (SF_gluc (ι := oz_H2clsl_6) oz_H2cls_12 hS30 eF30 (by decide +kernel)) (any_sub (lₚ := [(0, 21)]) (by decide +kernel))
      have mF30 := SFm_of cF30 oz_H2cls_16
      have cA30 : SA oz_H2clsl_8 A A30 := SA_trans (SA_refl) (SA_gluc (ι := oz_H2clsl_6) oz_H2cls_12 hA30 eA30 (by decide +kernel)) (any_subA (lₚ := []) (by decide +kernel))
      have mA30 := SAm_of cA30 oz_H2cls_17
      have r31 : (-2147483648 : Int) ≤ y30_0_21 ∧ y30_0_21 ≤ 2147483647 := rngE (show (-2147483648 : Int) ≤ F30 0 21 ∧ F30 0 21 ≤ 2147483647 from H.krg 0 21 (ltn len_V242_oz_H2cls rfl)) (show F30 0 21 = y30_0_21 from ((eF30 0 21).trans ey30_0_21))
      exact w_ireturn rfl (k (z30) _ _ _ H O (cF30) (cA30) (u0_9) ((((show F30 0 9 = F 0 9 from (eF30 0 9).trans (hS30 0 9 rfl))).trans (eu0_9))) (show inr (z30) from pz30_0) (show 0 ≤ (z30) ∧ (z30) ≤ 17 from q_3591 pz30_1) (show 0 ≤ (u0_9) ∧ (u0_9) ≤ (u0_9) ∧ (u0_9) ≤ (u0_8) from q_3590 h0))
abbrev V243 : vV := [(0, 12, [(4, 0), (4, 0), (4, 0), (4, 0), (4, 0), (4, 0), (4, 0), (4, 0), (0, 0), (0, 0), (4, 0), (0, 0), (4, 0), (4, 0), (0, 0), (2, 0), (0, 0), (0, 0), (0, 0), (0, 0), (0, 0), (0, 0)]), (1, 0, []), (0, 7, [(4, 0), (0, 0), (1, 0), (0, 0), (0, 0)]), (1, 0, []), (1, 1, [])]
theorem len_V243_oz_H2cls : (V243).length = 5 := by decide +kernel
theorem oz_H2cls_39 : vsub V243 V42_Br [1] = true := by decide +kernel
theorem oz_H2cls_40 : vsub V243 V234 [0] = true := by decide +kernel
theorem oz_H2cls_41 : vsub V243 V161_Br [2, 1, 3] = true := by decide +kernel
theorem oz_H2cls_42 : vmov V243 [2, 1, 3] [2] = true := by decide +kernel
theorem oz_H2cls_43 : vsub V243 V162 [2, 3] = true := by decide +kernel
theorem oz_H2cls_44 : vmov V243 [2, 3] [1] = true := by decide +kernel
theorem oz_H2cls_45 : vsub V243 V232 [0] = true := by decide +kernel
def oz_H2clsl_13 : List (Nat × Nat) := [(0, 9), (0, 18), (0, 21), (2, 0), (2, 1), (2, 2)]
theorem oz_H2cls_46 : (oz_H2clsl_13).all (fun p => !tbz 129127208515969221120 (Nat.add (Nat.mul 32 p.1) p.2)) = true := by decide +kernel
def oz_H2clsl_14 : List Nat := [3, 4]
theorem oz_H2cls_47 : (oz_H2clsl_14).all (fun p => !tbz 24 p) = true := by decide +kernel
theorem oz_H2cls_48 : (oz_H2clsl_12).all (fun p => !tbz 8 p) = true := by decide +kernel
def oz_H2clsl_15 : List Nat := [2, 1, 3]
theorem oz_H2cls_49 : okc oz_H2clsl_15 786946 = true := by decide +kernel
def oz_H2clsl_16 : List Nat := [2, 3]
theorem oz_H2cls_50 : okc oz_H2clsl_16 1538 = true := by decide +kernel
set_option maxHeartbeats 16000000 in
/-- Unpacker.unpackBlockHead: this, this.in, this.result, this.result.bytes, this.counts -/
theorem C243 {σE : rS} {D N : Nat → Nat} {F : hF} {A : hA} {d c s : Nat} {Q : wQ} (H : HW V243 σE D N F A)  (pf1 : HID (F 0 7 = (D 1 : Int))) (pf2 : HID (F 0 10 = (D 2 : Int))) (pf3 : HID (F 2 0 = (D 3 : Int))) (pf4 : HID (F 0 13 = (D 4 : Int))) (n1 : Int) (en1 : HID ((N 1 : Int) = n1)) (n3 : Int) (en3 : HID ((N 3 : Int) = n3)) (n4 : Int) (en4 : HID ((N 4 : Int) = n4)) (u0_8 : Int) (eu0_8 : HID (F 0 8 = u0_8)) (u0_9 : Int) (eu0_9 : HID (F 0 9 = u0_9)) (u0_11 : Int) (eu0_11 : HID (F 0 11 = u0_11)) (u0_15 : Int) (eu0_15 : HID (F 0 15 = u0_15)) (u0_18 : Int) (eu0_18 : HID (F 0 18 = u0_18)) (u2_1 : Int) (eu2_1 : HID (F 2 1 = u2_1)) (h0 : 0 ≤ (u0_9) ∧ (u0_9) ≤ (u0_8) ∧ (u0_8) ≤ (n1) ∧ (n1) ≤ 65536) (h1 : 0 ≤ (u2_1) ∧ (u2_1) ≤ (n3) ∧ (n3) ≤ 65536) (h2 : 0 ≤ (u0_11) ∧ (u0_11) ≤ 65536 ∧ (u2_1) ≤ (u0_11)) (h3 : (n4) = 5) (h4 : 0 ≤ (u0_15)) (k : ∀ (z : Int) (σ : rS) (Dₚ Nₚ : Nat → Nat) (Fₚ : hF) (Aₚ : hA) (cₚ sₚ : Nat), HW V243 σ Dₚ Nₚ Fₚ Aₚ → OUT (V243).length D N σE c s Dₚ Nₚ σ cₚ sₚ → SD [3] D Dₚ → SD [3] N Nₚ → SF [(0, 9), (0, 18), (0, 21), (2, 0), (2, 1), (2, 2)] F Fₚ → SA [3, 4] A Aₚ → Fₚ 2 0 = (Dₚ 3 : Int) → ∀ m3 : Int, (Nₚ 3 : Int) = m3 → ∀ y0_9 : Int, Fₚ 0 9 = y0_9 → ∀ y0_18 : Int, Fₚ 0 18 = y0_18 → ∀ y2_1 : Int, Fₚ 2 1 = y2_1 → (inr (z)) → (0 ≤ (z) ∧ (z) ≤ 17) → (0 ≤ (y0_9) ∧ (u0_9) ≤ (y0_9) ∧ (y0_9) ≤ (u0_8)) → (0 ≤ (y2_1) ∧ (y2_1) ≤ (m3) ∧ (m3) ≤ 65536) → ((u2_1) ≤ (y2_1) ∧ (y2_1) ≤ (u0_11)) → ((y0_18) = 0 ∨ (y0_9) ≤ (y0_18) ∧ (y0_18) ≤ (u0_8)) → Q (some (I z)) σ cₚ sₚ) : Ew 243 (d + 3) 0 (rargs 0 [.ref (D 0)]) [] σE c s Q := by
  have O := OUT_refl (n := (V243).length) (D := D) (N := N) (σ := σE) (c := c) (s := s)
  have HE := H
  have r1 : (-2147483648 : Int) ≤ u0_8 ∧ u0_8 ≤ 2147483647 := rngE (show (-2147483648 : Int) ≤ F 0 8 ∧ F 0 8 ≤ 2147483647 from H.krg 0 8 (ltn len_V243_oz_H2cls rfl)) (show F 0 8 = u0_8 from (eu0_8))
  have r2 : (-2147483648 : Int) ≤ u0_9 ∧ u0_9 ≤ 2147483647 := rngE (show (-2147483648 : Int) ≤ F 0 9 ∧ F 0 9 ≤ 2147483647 from H.krg 0 9 (ltn len_V243_oz_H2cls rfl)) (show F 0 9 = u0_9 from (eu0_9))
  have r3 : (-2147483648 : Int) ≤ u0_11 ∧ u0_11 ≤ 2147483647 := rngE (show (-2147483648 : Int) ≤ F 0 11 ∧ F 0 11 ≤ 2147483647 from H.krg 0 11 (ltn len_V243_oz_H2cls rfl)) (show F 0 11 = u0_11 from (eu0_11))
  have r4 : (-9223372036854775808 : Int) ≤ u0_15 ∧ u0_15 ≤ 9223372036854775807 := rngE (show (-9223372036854775808 : Int) ≤ F 0 15 ∧ F 0 15 ≤ 9223372036854775807 from H.krg 0 15 (ltn len_V243_oz_H2cls rfl)) (show F 0 15 = u0_15 from (eu0_15))
  have r5 : (-2147483648 : Int) ≤ u0_18 ∧ u0_18 ≤ 2147483647 := rngE (show (-2147483648 : Int) ≤ F 0 18 ∧ F 0 18 ≤ 2147483647 from H.krg 0 18 (ltn len_V243_oz_H2cls rfl)) (show F 0 18 = u0_18 from (eu0_18))
  have r6 : (-2147483648 : Int) ≤ u2_1 ∧ u2_1 ≤ 2147483647 := rngE (show (-2147483648 : Int) ≤ F 2 1 ∧ F 2 1 ≤ 2147483647 from H.krg 2 1 (ltn len_V243_oz_H2cls rfl)) (show F 2 1 = u2_1 from (eu2_1))
  have r7 : (0 : Int) ≤ n1 ∧ n1 ≤ 1000000 := nleE (H.nle 1 (ltn len_V243_oz_H2cls rfl)) (show (N 1 : Int) = n1 from en1)
  have r8 : (0 : Int) ≤ n3 ∧ n3 ≤ 1000000 := nleE (H.nle 3 (ltn len_V243_oz_H2cls rfl)) (show (N 3 : Int) = n3 from en3)
  have r9 : (0 : Int) ≤ n4 ∧ n4 ≤ 1000000 := nleE (H.nle 4 (ltn len_V243_oz_H2cls rfl)) (show (N 4 : Int) = n4 from en4)
  refine Ew_of (pcₚ := 1) (fun _ => x_aload_n rfl rfl) ?_
  refine Ew_of (pcₚ := 2) (fun _ => x_iconst rfl) ?_
  refine v_p H (o := 0) (z := 0) (v := I (0)) rfl rfl rfl rfl rfl rfl rfl rfl (show (-2147483648 : Int) ≤ 0 ∧ 0 ≤ 2147483647 from q_240) (fun σ H Oₚ => ?_)
  have O := OUT_trans O Oₚ
  have cFu10 : SF oz_H2clsl_13 F (updF F 0 18 (0)) := SF_upd (SF_refl) rfl
  have mFu10 := SFm_of cFu10 oz_H2cls_46
  refine Ew_of (pcₚ := 6) (fun _ => x_aload_n rfl rfl) ?_
  refine v_g H (o := 0) (v := I (u0_8)) rfl rfl rfl rfl rfl (congrArg (fun z : Int => I z) (((mFu10 0 8 rfl).trans (eu0_8)) : (updF F 0 18 (0)) 0 8 = u0_8)) ?_
  refine Ew_of (pcₚ := 10) (fun _ => x_aload_n rfl rfl) ?_
  refine v_g H (o := 0) (v := I (u0_9)) rfl rfl rfl rfl rfl (congrArg (fun z : Int => I z) ((eu0_9) : (updF F 0 18 (0)) 0 9 = u0_9)) ?_
  refine w_isub rfl ?_
  refine Ew_of (pcₚ := 15) (fun _ => x_iconst rfl) ?_
  refine w_icmpge (t := 28) rfl rfl (show inr ((u0_8 - u0_9)) from q_3592 h0) (show inr (3) from q_66) (fun b11 => ?_) (fun b11 => ?_)
  · refine Ew_of (pcₚ := 29) (fun _ => x_aload_n rfl rfl) ?_
    refine v_g H (o := 0) (v := .ref (D 4)) rfl rfl rfl rfl rfl (vrf ((mFu10 0 13 rfl).trans (pf4))) ?_
    refine Ew_of (pcₚ := 33) (fun _ => x_iconst rfl) ?_
    refine Ew_of (pcₚ := 34) (fun _ => x_dup2 rfl rfl rfl) ?_
    refine v_lI H (o := 4) rfl rfl rfl rfl (n := n4) (en4) (show 0 ≤ 1 ∧ 1 < n4 from q_3615 h3 r9) (fun v12 ev12 qv12 => ?_)
    have ev12 : (A 4) (1) = v12 := (congrFun (rfl : A 4 = A 4) (1)).symm.trans ev12
    refine Ew_of (pcₚ := 36) (fun _ => x_iconst rfl) ?_
    refine w_iaddA rfl (fun z13 gz13 => ?_)
    refine v_sI H (o := 4) (z := z13) rfl rfl rfl rfl (n := n4) (en4) (show 0 ≤ 1 ∧ 1 < n4 from q_3615 h3 r9) (show inr (z13) from gz13) (fun σ H Oₚ => ?_)
    have O := OUT_trans O Oₚ
    have cAu14 : SA oz_H2clsl_14 A (updA A 4 (1) (z13)) := SA_upd (SA_refl) rfl
    have mAu14 := SAm_of cAu14 oz_H2cls_47
    refine Ew_of (pcₚ := 39) (fun _ => x_aload_n rfl rfl) ?_
    refine v_g H (o := 0) (v := .ref (D 1)) rfl rfl rfl rfl rfl (vrf ((mFu10 0 7 rfl).trans (pf1))) ?_
    refine Ew_of (pcₚ := 43) (fun _ => x_aload_n rfl rfl) ?_
    refine v_g H (o := 0) (v := I (u0_9)) rfl rfl rfl rfl rfl (congrArg (fun z : Int => I z) ((eu0_9) : (updF F 0 18 (0)) 0 9 = u0_9)) ?_
    refine Ew_of (pcₚ := 47) (fun _ => x_iconst rfl) ?_
    refine w_stat25 rfl rfl (by rfl) (C42_Brf (D := puc 1 D) (N := puc 1 N) (HW_subc H oz_H2cls_39 oz_H2cls_18) (n1) (en1) (A 1) (funext (mAu14 1 rfl)) (show inr (u0_9) from q_3617 b11 h0) (show inr (3) from q_66) (show (3) ≤ 0 ∨ 0 ≤ (u0_9) ∧ (u0_9) + (3) ≤ (n1) from q_3616 b11 h0) (show 0 ≤ (3) ∧ (3) ≤ 8 from q_1880) (fun z15 σ15 F15ₚ A15ₚ Hₚ Oₚ hS15 hA15 pz15_0 pz15_1 pz15_2 => ⟨rfl, ?_⟩))
    refine v_backc (c := c) (s := s) H oz_H2cls_39 oz_H2cls_18 Hₚ Oₚ (fun F15 A15 H Oₚ eF15 eA15 => ?_)
    have O := OUT_trans O Oₚ
    -- PackHouse.number
    have cF15 : SF oz_H2clsl_13 F F15 := SF_trans (cFu10) (SF_gluc (ι := oz_H2clsl_2) oz_H2cls_18 hS15 eF15 (by decide +kernel)) (any_sub (lₚ := []) (by decide +kernel))
    have mF15 := SFm_of cF15 oz_H2cls_46
    have cA15 : SA oz_H2clsl_14 A A15 := SA_trans (cAu14) (SA_gluc (ι := oz_H2clsl_2) oz_H2cls_18 hA15 eA15 (by decide +kernel)) (any_subA (lₚ := []) (by decide +kernel))
    have mA15 := SAm_of cA15 oz_H2cls_47
    have hnb := nb3 pz15_1
    refine w_l2i rfl ?_
    refine Ew_of (pcₚ := 52) (fun _ => x_istore_n rfl) ?_
    refine Ew_of (pcₚ := 53) (fun _ => x_iload_n rfl rk_s) ?_
    refine Ew_of (pcₚ := 54) (fun _ => x_iconst rfl) ?_
    refine w_ishrA rfl (fun z16 gz16 => ?_)
    refine Ew_of (pcₚ := 56) (fun _ => x_iconst rfl) ?_
    refine w_iand rfl (show inr (z16) from gz16) (show inr (3) from q_66) (fun z17 gz17 gaz17 gbz17 => ?_)
    refine Ew_of (pcₚ := 58) (fun _ => x_istore_n rfl) ?_
    refine Ew_of (pcₚ := 59) (fun _ => x_iload_n rfl (rk_o (rk_s) rfl rfl)) ?_
    refine Ew_of (pcₚ := 60) (fun _ => x_iconst rfl) ?_
    refine w_ishrK 3 8 (by decide) (by decide) rfl (show inr (z15) by omega) (fun z18 gz18 dz18 => ?_)
    refine Ew_of (pcₚ := 62) (fun _ => x_istore_n rfl) ?_
    refine Ew_of (pcₚ := 63) (fun _ => x_iload_n rfl (rk_o (rk_s) rfl rfl)) ?_
    refine Ew_of (pcₚ := 64) (fun _ => x_iconst rfl) ?_
    refine w_icmpne (t := 77) rfl rfl (show inr (z17) from gz17) (show inr (3) from q_66) (fun b19 => ?_) (fun b19 => ?_)
    · refine Ew_of (pcₚ := 78) (fun _ => x_iload_n rfl rk_s) ?_
      refine Ew_of (pcₚ := 79) (fun _ => x_aload_n rfl (rk_o (rk_o (rk_o (rfl) rfl rfl) rfl rfl) rfl rfl)) ?_
      refine v_inv H (o := 0) rfl rfl rfl rfl rfl rfl (by rfl) (C234 (D := puc 0 D) (N := puc 0 N) (HW_subc H oz_H2cls_40 oz_H2cls_12) (u0_15) (((mF15 0 15 rfl).trans (eu0_15))) (show 0 ≤ (u0_15) from h4) (fun z20 σ20 F20ₚ A20ₚ Hₚ Oₚ hS20 hA20 pz20_0 pz20_1 => ⟨rfl, ?_⟩))
      refine v_backc (c := c) (s := s) H oz_H2cls_40 oz_H2cls_12 Hₚ Oₚ (fun F20 A20 H Oₚ eF20 eA20 => ?_)
      have O := OUT_trans O Oₚ
      -- Unpacker.blockMost
      have cF20 : SF oz_H2clsl_13 F F20 := SF_trans (cF15) (SF_gluc (ι := oz_H2clsl_6) oz_H2cls_12 hS20 eF20 (by decide +kernel)) (any_sub (lₚ := []) (by decide +kernel))
      have mF20 := SFm_of cF20 oz_H2cls_46
      have cA20 : SA oz_H2clsl_14 A A20 := SA_trans (cA15) (SA_gluc (ι := oz_H2clsl_6) oz_H2cls_12 hA20 eA20 (by decide +kernel)) (any_subA (lₚ := []) (by decide +kernel))
      have mA20 := SAm_of cA20 oz_H2cls_47
      refine w_icmple (t := 96) rfl rfl (show inr (z18) from gz18) (show inr (z20) from pz20_0) (fun b21 => ?_) (fun b21 => ?_)
      · refine Ew_of (pcₚ := 97) (fun _ => x_iload_n rfl (rk_o (rk_s) rfl rfl)) ?_
        refine Ew_of (pcₚ := 98) (fun _ => x_iconst rfl) ?_
        have hc106 : ∀ (tc106_0 : Int), ∀ (ls : rO) (σ : rS) (F_c106 : hF) (A_c106 : hA) , rlook ls 0 = some (.ref (D 0)) → rlook ls 2 = some (I (z17)) → rlook ls 3 = some (I (z18)) → HW V243 σ D N F_c106 A_c106 → OUT (V243).length D N σE c s D N σ c s → SF [] F20 F_c106 → SA [] A20 A_c106 → (inr (tc106_0)) → (((z17) ≠ (1) ∧ (tc106_0) = (z18)) ∨ ((z17) = (1) ∧ (tc106_0) = (1))) → Ew 243 (d + 3) 106 ls [I (tc106_0)] σ c s Q := by
         as_aux_lemma =>
          intro tc106_0 ls σ F_c106 A_c106  lc106_0 lc106_2 lc106_3 H O hS_c106 hA_c106     jc106_0 jc106_1
          have cF_c106 : SF oz_H2clsl_13 F F_c106 := SF_trans (cF20) hS_c106 (any_sub (by decide +kernel))
          have mF_c106 := SFm_of cF_c106 oz_H2cls_46
          have cA_c106 : SA oz_H2clsl_14 A A_c106 := SA_trans (cA20) hA_c106 (any_subA (by decide +kernel))
          have mA_c106 := SAm_of cA_c106 oz_H2cls_47
          refine Ew_of (pcₚ := 108) (fun _ => x_istore rfl) ?_
          refine Ew_of (pcₚ := 109) (fun _ => x_aload_n rfl (rk_o (lc106_0) rfl rfl)) ?_
          refine v_g H (o := 0) (v := I (u0_8)) rfl rfl rfl rfl rfl (congrArg (fun z : Int => I z) (((mF_c106 0 8 rfl).trans (eu0_8)) : F_c106 0 8 = u0_8)) ?_
          refine Ew_of (pcₚ := 113) (fun _ => x_aload_n rfl (rk_o (lc106_0) rfl rfl)) ?_
          refine v_g H (o := 0) (v := I (u0_9)) rfl rfl rfl rfl rfl (congrArg (fun z : Int => I z) (((((hS_c106 0 9 rfl).trans ((show F20 0 9 = F15 0 9 from (eF20 0 9).trans (hS20 0 9 rfl)))).trans ((show F15 0 9 = (updF F 0 18 (0)) 0 9 from (eF15 0 9)))).trans (eu0_9)) : F_c106 0 9 = u0_9)) ?_
          refine w_isub rfl ?_
          refine Ew_of (pcₚ := 118) (fun _ => x_iconst rfl) ?_
          refine w_isub rfl ?_
          refine Ew_of (pcₚ := 121) (fun _ => x_iload rfl rk_s) ?_
          refine w_icmpge (t := 134) rfl rfl (show inr (((u0_8 - u0_9) - 3)) from q_3618 b11 h0) (show inr (tc106_0) from jc106_0) (fun b22 => ?_) (fun b22 => ?_)
          · refine Ew_of (pcₚ := 135) (fun _ => x_iload_n rfl (rk_o (lc106_2) rfl rfl)) ?_
            refine Ew_of (pcₚ := 136) (fun _ => x_iconst rfl) ?_
            have hc166 : ∀ (ls : rO) (σ : rS) (F_c166 : hF) (A_c166 : hA) , rlook ls 0 = some (.ref (D 0)) → rlook ls 2 = some (I (z17)) → rlook ls 3 = some (I (z18)) → rlook ls 4 = some (I (tc106_0)) → HW V243 σ D N F_c166 A_c166 → OUT (V243).length D N σE c s D N σ c s → SF [] F_c106 F_c166 → SA [] A_c106 A_c166 → (((z17) = (2)) ∨ ((z17) ≠ (2) ∧ (z18) ≤ ((u0_11 - u2_1)))) → Ew 243 (d + 3) 166 ls [] σ c s Q := by
             as_aux_lemma =>
              intro  ls σ F_c166 A_c166  lc166_0 lc166_2 lc166_3 lc166_4 H O hS_c166 hA_c166     jc166_0
              have cF_c166 : SF oz_H2clsl_13 F F_c166 := SF_trans (cF_c106) hS_c166 (any_sub (by decide +kernel))
              have mF_c166 := SFm_of cF_c166 oz_H2cls_46
              have cA_c166 : SA oz_H2clsl_14 A A_c166 := SA_trans (cA_c106) hA_c166 (any_subA (by decide +kernel))
              have mA_c166 := SAm_of cA_c166 oz_H2cls_47
              refine Ew_of (pcₚ := 167) (fun _ => x_aload_n rfl lc166_0) ?_
              refine Ew_of (pcₚ := 168) (fun _ => x_dup rfl rfl) ?_
              refine v_g H (o := 0) (v := I (u0_9)) rfl rfl rfl rfl rfl (congrArg (fun z : Int => I z) ((((((hS_c166 0 9 rfl).trans (hS_c106 0 9 rfl)).trans ((show F20 0 9 = F15 0 9 from (eF20 0 9).trans (hS20 0 9 rfl)))).trans ((show F15 0 9 = (updF F 0 18 (0)) 0 9 from (eF15 0 9)))).trans (eu0_9)) : F_c166 0 9 = u0_9)) ?_
              refine Ew_of (pcₚ := 172) (fun _ => x_iconst rfl) ?_
              refine w_iadd rfl ?_
              refine v_p H (o := 0) (z := (u0_9 + 3)) (v := I ((u0_9 + 3))) rfl rfl rfl rfl rfl rfl rfl rfl (show (-2147483648 : Int) ≤ (u0_9 + 3) ∧ (u0_9 + 3) ≤ 2147483647 from q_3619 b11 h0) (fun σ H Oₚ => ?_)
              have O := OUT_trans O Oₚ
              have cFu23 : SF oz_H2clsl_13 F (updF F_c166 0 9 ((u0_9 + 3))) := SF_upd (cF_c166) rfl
              have mFu23 := SFm_of cFu23 oz_H2cls_46
              refine Ew_of (pcₚ := 177) (fun _ => x_iload_n rfl lc166_2) ?_
              refine Ew_of (pcₚ := 178) (fun _ => x_iconst rfl) ?_
              refine w_icmpne (t := 193) rfl rfl (show inr (z17) from gz17) (show inr (2) from q_55) (fun b24 => ?_) (fun b24 => ?_)
              · have hc234 : ∀ (ls : rO) (σ : rS) (D_c234 N_c234 : Nat → Nat) (c_c234 s_c234 : Nat) (F_c234 : hF) (A_c234 : hA) , rlook ls 0 = some (.ref (D_c234 0)) → rlook ls 4 = some (I (tc106_0)) → HW V243 σ D_c234 N_c234 F_c234 A_c234 → OUT (V243).length D N σE c s D_c234 N_c234 σ c_c234 s_c234 → SD [3] D D_c234 → SD [3] N N_c234 → SF [(2, 0), (2, 1), (2, 2)] (updF F_c166 0 9 ((u0_9 + 3))) F_c234 → SA [3] A_c166 A_c234 → F_c234 2 0 = (D_c234 3 : Int) → ∀ mc234_3 : Int, (N_c234 3 : Int) = mc234_3 → ∀ yc234_2_1 : Int, F_c234 2 1 = yc234_2_1 → (0 ≤ (yc234_2_1) ∧ (yc234_2_1) ≤ (mc234_3) ∧ (mc234_3) ≤ 65536) → ((u2_1) ≤ (yc234_2_1) ∧ (yc234_2_1) ≤ (u0_11)) → Ew 243 (d + 3) 234 ls [] σ c_c234 s_c234 Q := by
                 as_aux_lemma =>
                  intro  ls σ D_c234 N_c234 c_c234 s_c234 F_c234 A_c234  lc234_0 lc234_4 H O hD_c234 hN_c234 hS_c234 hA_c234 pmc234_3 mc234_3 emc234_3 yc234_2_1 eyc234_2_1  jc234_0 jc234_1
                  have cF_c234 : SF oz_H2clsl_13 F F_c234 := SF_trans (cFu23) hS_c234 (any_sub (by decide +kernel))
                  have mF_c234 := SFm_of cF_c234 oz_H2cls_46
                  have cA_c234 : SA oz_H2clsl_14 A A_c234 := SA_trans (cA_c166) hA_c234 (any_subA (by decide +kernel))
                  have mA_c234 := SAm_of cA_c234 oz_H2cls_47
                  have cD_c234 : SD oz_H2clsl_12 D D_c234 := SD_trans (SD_refl) hD_c234 (any_subA (by decide +kernel))
                  have mD_c234 := SDm_of cD_c234 oz_H2cls_48
                  have cN_c234 : SD oz_H2clsl_12 N N_c234 := SD_trans (SD_refl) hN_c234 (any_subA (by decide +kernel))
                  have mN_c234 := SDm_of cN_c234 oz_H2cls_48
                  replace pmc234_3 := HIDm pmc234_3
                  replace emc234_3 := HIDm emc234_3
                  replace eyc234_2_1 := HIDm eyc234_2_1
                  try clear jc166_0
                  have r25 : (0 : Int) ≤ mc234_3 ∧ mc234_3 ≤ 1000000 := nleE (H.nle 3 (ltn len_V243_oz_H2cls rfl)) (show (N_c234 3 : Int) = mc234_3 from emc234_3)
                  have r26 : (-2147483648 : Int) ≤ yc234_2_1 ∧ yc234_2_1 ≤ 2147483647 := rngE (show (-2147483648 : Int) ≤ F_c234 2 1 ∧ F_c234 2 1 ≤ 2147483647 from H.krg 2 1 (ltn len_V243_oz_H2cls rfl)) (show F_c234 2 1 = yc234_2_1 from (eyc234_2_1))
                  refine Ew_of (pcₚ := 235) (fun _ => x_aload_n rfl lc234_0) ?_
                  refine Ew_of (pcₚ := 236) (fun _ => x_dup rfl rfl) ?_
                  refine v_g H (o := 0) (v := I ((u0_9 + 3))) rfl rfl rfl rfl rfl (congrArg (fun z : Int => I z) ((hS_c234 0 9 rfl) : F_c234 0 9 = (u0_9 + 3))) ?_
                  refine Ew_of (pcₚ := 241) (fun _ => x_iload rfl lc234_4) ?_
                  refine w_iadd rfl ?_
                  refine v_p H (o := 0) (z := ((u0_9 + 3) + tc106_0)) (v := I (((u0_9 + 3) + tc106_0))) rfl rfl rfl rfl rfl rfl rfl rfl (show (-2147483648 : Int) ≤ ((u0_9 + 3) + tc106_0) ∧ ((u0_9 + 3) + tc106_0) ≤ 2147483647 from q_3620 b22 h0 jc106_0) (fun σ H Oₚ => ?_)
                  have O := OUT_trans O Oₚ
                  have cFu27 : SF oz_H2clsl_13 F (updF F_c234 0 9 (((u0_9 + 3) + tc106_0))) := SF_upd (cF_c234) rfl
                  have mFu27 := SFm_of cFu27 oz_H2cls_46
                  refine Ew_of (pcₚ := 246) (fun _ => x_iconst rfl) ?_
                  exact w_ireturn rfl (k (0) _ _ _ _ _ _ _ H O (cD_c234) (cN_c234) (cFu27) (cA_c234) (pmc234_3) (mc234_3) (emc234_3) (((u0_9 + 3) + tc106_0)) (rfl) (0) ((((((hS_c234 0 18 rfl).trans (hS_c166 0 18 rfl)).trans (hS_c106 0 18 rfl)).trans ((show F20 0 18 = F15 0 18 from (eF20 0 18).trans (hS20 0 18 rfl)))).trans ((show F15 0 18 = (updF F 0 18 (0)) 0 18 from (eF15 0 18))))) (yc234_2_1) ((eyc234_2_1)) (show inr (0) from q_20) (show 0 ≤ (0) ∧ (0) ≤ 17 by first | exact q_3589 | omega) (show 0 ≤ (((u0_9 + 3) + tc106_0)) ∧ (u0_9) ≤ (((u0_9 + 3) + tc106_0)) ∧ (((u0_9 + 3) + tc106_0)) ≤ (u0_8) by omega) (show 0 ≤ (yc234_2_1) ∧ (yc234_2_1) ≤ (mc234_3) ∧ (mc234_3) ≤ 65536 from jc234_0) (show (u2_1) ≤ (yc234_2_1) ∧ (yc234_2_1) ≤ (u0_11) from jc234_1) (show (0) = 0 ∨ (((u0_9 + 3) + tc106_0)) ≤ (0) ∧ (0) ≤ (u0_8) by first | exact q_3621 | omega))
                refine Ew_of (pcₚ := 194) (fun _ => x_iload_n rfl lc166_2) ?_
                refine Ew_of (pcₚ := 195) (fun _ => x_iconst rfl) ?_
                refine w_icmpne (t := 218) rfl rfl (show inr (z17) from gz17) (show inr (1) from q_23) (fun b28 => ?_) (fun b28 => ?_)
                · refine Ew_of (pcₚ := 219) (fun _ => x_aload_n rfl lc166_0) ?_
                  refine v_g H (o := 0) (v := .ref (D 2)) rfl rfl rfl rfl rfl (vrf ((mFu23 0 10 rfl).trans (pf2))) ?_
                  refine Ew_of (pcₚ := 223) (fun _ => x_aload_n rfl lc166_0) ?_
                  refine v_g H (o := 0) (v := .ref (D 1)) rfl rfl rfl rfl rfl (vrf ((mFu23 0 7 rfl).trans (pf1))) ?_
                  refine Ew_of (pcₚ := 227) (fun _ => x_aload_n rfl lc166_0) ?_
                  refine v_g H (o := 0) (v := I ((u0_9 + 3))) rfl rfl rfl rfl rfl (congrArg (fun z : Int => I z) (rfl : (updF F_c166 0 9 ((u0_9 + 3))) 0 9 = (u0_9 + 3))) ?_
                  refine Ew_of (pcₚ := 231) (fun _ => x_iload_n rfl lc166_3) ?_
                  refine v_inv H (o := 2) rfl rfl rfl rfl rfl rfl (by rfl) (C161_Br (D := puc 786946 D) (N := puc 786946 N) (HW_subc H oz_H2cls_41 oz_H2cls_49) ((((((hS_c166 2 0 rfl).trans (hS_c106 2 0 rfl)).trans ((show F20 2 0 = F15 2 0 from (eF20 2 0)))).trans ((show F15 2 0 = (updF F 0 18 (0)) 2 0 from (eF15 2 0))))).trans (pf3)) (n1) (en1) (n3) (en3) (u2_1) ((((((hS_c166 2 1 rfl).trans (hS_c106 2 1 rfl)).trans ((show F20 2 1 = F15 2 1 from (eF20 2 1)))).trans ((show F15 2 1 = (updF F 0 18 (0)) 2 1 from (eF15 2 1)))).trans (eu2_1))) (A 3) ((funext (hA_c166 3 rfl)).trans ((funext (hA_c106 3 rfl)).trans (((show A20 3 = A15 3 from (eA20 3))).trans ((show A15 3 = (updA A 4 (1) (z13)) 3 from (eA15 3)))))) (show inr ((u0_9 + 3)) from q_3622 b11 h0) (show inr (z18) from gz18) (show 0 ≤ (u2_1) ∧ (u2_1) ≤ (n3) ∧ (n3) ≤ 65536 from h1) (show (z18) < 0 ∨ 0 ≤ ((u0_9 + 3)) ∧ ((u0_9 + 3)) + (z18) ≤ (n1) by omega) (fun σ29 D29ₚ N29ₚ F29ₚ A29ₚ c29 s29 Hₚ Oₚ hD29 hN29 hS29 hA29 (pm29_2 : HID _) m29_2 (em29_2 : HID _) y29_0_1 (ey29_0_1 : HID _) w29_2 ew29_2 pz29_0 pz29_1 pz29_2 => ⟨rfl, ?_⟩))
                  refine v_backMc (c := c) (s := s) H oz_H2cls_41 oz_H2cls_49 Hₚ Oₚ hD29 oz_H2cls_42 (fun D29 N29 F29 A29 H Oₚ eD29 eN29 eF29 eA29 => ?_)
                  have O := OUT_trans O Oₚ
                  -- Row.addPart
                  have cF29 : SF oz_H2clsl_13 F F29 := SF_trans (cFu23) (SF_gluc (ι := oz_H2clsl_15) oz_H2cls_49 hS29 eF29 (by decide +kernel)) (any_sub (lₚ := [(2, 0), (2, 1), (2, 2)]) (by decide +kernel))
                  have mF29 := SFm_of cF29 oz_H2cls_46
                  have cA29 : SA oz_H2clsl_14 A A29 := SA_trans (cA_c166) (SA_gluc (ι := oz_H2clsl_15) oz_H2cls_49 hA29 eA29 (by decide +kernel)) (any_subA (lₚ := [3]) (by decide +kernel))
                  have mA29 := SAm_of cA29 oz_H2cls_47
                  have cD29 : SD oz_H2clsl_12 D D29 := SD_trans (SD_refl) (SD_gluc (ι := oz_H2clsl_15) oz_H2cls_49 hD29 eD29 (by decide +kernel)) (any_subA (lₚ := [3]) (by decide +kernel))
                  have mD29 := SDm_of cD29 oz_H2cls_48
                  have cN29 : SD oz_H2clsl_12 N N29 := SD_trans (SD_refl) (SD_gluc (ι := oz_H2clsl_15) oz_H2cls_49 hN29 eN29 (by decide +kernel)) (any_subA (lₚ := [3]) (by decide +kernel))
                  have mN29 := SDm_of cN29 oz_H2cls_48
                  have pf29_2_0 : HID (F29 2 0 = (D29 3 : Int)) := (eF29 2 0).trans (pm29_2.trans (congrArg (fun q : Nat => (q : Int)) (eD29 3).symm))
                  have r30 : (0 : Int) ≤ m29_2 ∧ m29_2 ≤ 1000000 := nleE (H.nle 3 (ltn len_V243_oz_H2cls rfl)) (show (N29 3 : Int) = m29_2 from (congrArg (fun q : Nat => (q : Int)) (eN29 3)).trans em29_2)
                  have r31 : (-2147483648 : Int) ≤ y29_0_1 ∧ y29_0_1 ≤ 2147483647 := rngE (show (-2147483648 : Int) ≤ F29 2 1 ∧ F29 2 1 ≤ 2147483647 from H.krg 2 1 (ltn len_V243_oz_H2cls rfl)) (show F29 2 1 = y29_0_1 from ((eF29 2 1).trans ey29_0_1))
                  exact hc234  _ _ _ _ _ _ _ _  ((lc166_0).trans (congrArg (fun q : Nat => some (Value.ref q)) (mD29 0 rfl).symm)) (lc166_4) H O (SD_trans (SD_refl) (SD_gluc (ι := oz_H2clsl_15) oz_H2cls_49 hD29 eD29 (by decide +kernel)) (any_subA (lₚ := [3]) (by decide +kernel))) (SD_trans (SD_refl) (SD_gluc (ι := oz_H2clsl_15) oz_H2cls_49 hN29 eN29 (by decide +kernel)) (any_subA (lₚ := [3]) (by decide +kernel))) (SF_trans (SF_refl) (SF_gluc (ι := oz_H2clsl_15) oz_H2cls_49 hS29 eF29 (by decide +kernel)) (any_sub (lₚ := [(2, 0), (2, 1), (2, 2)]) (by decide +kernel))) (SA_trans (SA_refl) (SA_gluc (ι := oz_H2clsl_15) oz_H2cls_49 hA29 eA29 (by decide +kernel)) (any_subA (lₚ := [3]) (by decide +kernel))) (pf29_2_0) (m29_2) ((congrArg (fun q : Nat => (q : Int)) (eN29 3)).trans em29_2) (y29_0_1) (((eF29 2 1).trans ey29_0_1))  (show 0 ≤ (y29_0_1) ∧ (y29_0_1) ≤ (m29_2) ∧ (m29_2) ≤ 65536 from pz29_0) (show (u2_1) ≤ (y29_0_1) ∧ (y29_0_1) ≤ (u0_11) by omega)
                · refine Ew_of (pcₚ := 199) (fun _ => x_aload_n rfl lc166_0) ?_
                  refine v_g H (o := 0) (v := .ref (D 2)) rfl rfl rfl rfl rfl (vrf ((mFu23 0 10 rfl).trans (pf2))) ?_
                  refine Ew_of (pcₚ := 203) (fun _ => x_aload_n rfl lc166_0) ?_
                  refine v_g H (o := 0) (v := .ref (D 1)) rfl rfl rfl rfl rfl (vrf ((mFu23 0 7 rfl).trans (pf1))) ?_
                  refine Ew_of (pcₚ := 207) (fun _ => x_aload_n rfl lc166_0) ?_
                  refine v_g H (o := 0) (v := I ((u0_9 + 3))) rfl rfl rfl rfl rfl (congrArg (fun z : Int => I z) (rfl : (updF F_c166 0 9 ((u0_9 + 3))) 0 9 = (u0_9 + 3))) ?_
                  refine v_lB H (o := 1) rfl rfl rfl rfl (n := n1) (en1) (show 0 ≤ (u0_9 + 3) ∧ (u0_9 + 3) < n1 by omega) (fun v32 ev32 qv32 => ?_)
                  have ev32 : (A 1) ((u0_9 + 3)) = v32 := (congrFun (funext (mA_c166 1 rfl)) ((u0_9 + 3))).symm.trans ev32
                  refine Ew_of (pcₚ := 212) (fun _ => x_iload_n rfl lc166_3) ?_
                  refine v_inv H (o := 2) rfl rfl rfl rfl rfl rfl (by rfl) (C162 (D := puc 1538 D) (N := puc 1538 N) (HW_subc H oz_H2cls_43 oz_H2cls_50) ((((((hS_c166 2 0 rfl).trans (hS_c106 2 0 rfl)).trans ((show F20 2 0 = F15 2 0 from (eF20 2 0)))).trans ((show F15 2 0 = (updF F 0 18 (0)) 2 0 from (eF15 2 0))))).trans (pf3)) (n3) (en3) (u2_1) ((((((hS_c166 2 1 rfl).trans (hS_c106 2 1 rfl)).trans ((show F20 2 1 = F15 2 1 from (eF20 2 1)))).trans ((show F15 2 1 = (updF F 0 18 (0)) 2 1 from (eF15 2 1)))).trans (eu2_1))) (show inr (v32) from q_2536 qv32) (show inr (z18) from gz18) (show 0 ≤ (u2_1) ∧ (u2_1) ≤ (n3) ∧ (n3) ≤ 65536 from h1) (fun σ33 D33ₚ N33ₚ F33ₚ A33ₚ c33 s33 Hₚ Oₚ hD33 hN33 hS33 hA33 (pm33_1 : HID _) m33_1 (em33_1 : HID _) y33_0_1 (ey33_0_1 : HID _) pz33_0 pz33_1 => ⟨rfl, ?_⟩))
                  refine v_backMc (c := c) (s := s) H oz_H2cls_43 oz_H2cls_50 Hₚ Oₚ hD33 oz_H2cls_44 (fun D33 N33 F33 A33 H Oₚ eD33 eN33 eF33 eA33 => ?_)
                  have O := OUT_trans O Oₚ
                  -- Row.addSame
                  have cF33 : SF oz_H2clsl_13 F F33 := SF_trans (cFu23) (SF_gluc (ι := oz_H2clsl_16) oz_H2cls_50 hS33 eF33 (by decide +kernel)) (any_sub (lₚ := [(2, 0), (2, 1), (2, 2)]) (by decide +kernel))
                  have mF33 := SFm_of cF33 oz_H2cls_46
                  have cA33 : SA oz_H2clsl_14 A A33 := SA_trans (cA_c166) (SA_gluc (ι := oz_H2clsl_16) oz_H2cls_50 hA33 eA33 (by decide +kernel)) (any_subA (lₚ := [3]) (by decide +kernel))
                  have mA33 := SAm_of cA33 oz_H2cls_47
                  have cD33 : SD oz_H2clsl_12 D D33 := SD_trans (SD_refl) (SD_gluc (ι := oz_H2clsl_16) oz_H2cls_50 hD33 eD33 (by decide +kernel)) (any_subA (lₚ := [3]) (by decide +kernel))
                  have mD33 := SDm_of cD33 oz_H2cls_48
                  have cN33 : SD oz_H2clsl_12 N N33 := SD_trans (SD_refl) (SD_gluc (ι := oz_H2clsl_16) oz_H2cls_50 hN33 eN33 (by decide +kernel)) (any_subA (lₚ := [3]) (by decide +kernel))
                  have mN33 := SDm_of cN33 oz_H2cls_48
                  have pf33_2_0 : HID (F33 2 0 = (D33 3 : Int)) := (eF33 2 0).trans (pm33_1.trans (congrArg (fun q : Nat => (q : Int)) (eD33 3).symm))
                  have r34 : (0 : Int) ≤ m33_1 ∧ m33_1 ≤ 1000000 := nleE (H.nle 3 (ltn len_V243_oz_H2cls rfl)) (show (N33 3 : Int) = m33_1 from (congrArg (fun q : Nat => (q : Int)) (eN33 3)).trans em33_1)
                  have r35 : (-2147483648 : Int) ≤ y33_0_1 ∧ y33_0_1 ≤ 2147483647 := rngE (show (-2147483648 : Int) ≤ F33 2 1 ∧ F33 2 1 ≤ 2147483647 from H.krg 2 1 (ltn len_V243_oz_H2cls rfl)) (show F33 2 1 = y33_0_1 from ((eF33 2 1).trans ey33_0_1))
                  refine Ew_of (pcₚ := 234) (fun _ => x_goto rfl rfl) ?_
                  exact hc234  _ _ _ _ _ _ _ _  ((lc166_0).trans (congrArg (fun q : Nat => some (Value.ref q)) (mD33 0 rfl).symm)) (lc166_4) H O (SD_trans (SD_refl) (SD_gluc (ι := oz_H2clsl_16) oz_H2cls_50 hD33 eD33 (by decide +kernel)) (any_subA (lₚ := [3]) (by decide +kernel))) (SD_trans (SD_refl) (SD_gluc (ι := oz_H2clsl_16) oz_H2cls_50 hN33 eN33 (by decide +kernel)) (any_subA (lₚ := [3]) (by decide +kernel))) (SF_trans (SF_refl) (SF_gluc (ι := oz_H2clsl_16) oz_H2cls_50 hS33 eF33 (by decide +kernel)) (any_sub (lₚ := [(2, 0), (2, 1), (2, 2)]) (by decide +kernel))) (SA_trans (SA_refl) (SA_gluc (ι := oz_H2clsl_16) oz_H2cls_50 hA33 eA33 (by decide +kernel)) (any_subA (lₚ := [3]) (by decide +kernel))) (pf33_2_0) (m33_1) ((congrArg (fun q : Nat => (q : Int)) (eN33 3)).trans em33_1) (y33_0_1) (((eF33 2 1).trans ey33_0_1))  (show 0 ≤ (y33_0_1) ∧ (y33_0_1) ≤ (m33_1) ∧ (m33_1) ≤ 65536 from pz33_0) (show (u2_1) ≤ (y33_0_1) ∧ (y33_0_1) ≤ (u0_11) from q_3623 b28 h2 jc166_0 pz33_0 pz33_1)
              · refine Ew_of (pcₚ := 182) (fun _ => x_aload_n rfl lc166_0) ?_
                refine Ew_of (pcₚ := 183) (fun _ => x_aload_n rfl lc166_0) ?_
                refine v_g H (o := 0) (v := I ((u0_9 + 3))) rfl rfl rfl rfl rfl (congrArg (fun z : Int => I z) (rfl : (updF F_c166 0 9 ((u0_9 + 3))) 0 9 = (u0_9 + 3))) ?_
                refine Ew_of (pcₚ := 187) (fun _ => x_iload_n rfl lc166_3) ?_
                refine w_iadd rfl ?_
                refine v_p H (o := 0) (z := ((u0_9 + 3) + z18)) (v := I (((u0_9 + 3) + z18))) rfl rfl rfl rfl rfl rfl rfl rfl (show (-2147483648 : Int) ≤ ((u0_9 + 3) + z18) ∧ ((u0_9 + 3) + z18) ≤ 2147483647 from q_3624 b11 b21 gz18 h0 pz20_1) (fun σ H Oₚ => ?_)
                have O := OUT_trans O Oₚ
                have cFu36 : SF oz_H2clsl_13 F (updF (updF F_c166 0 9 ((u0_9 + 3))) 0 18 (((u0_9 + 3) + z18))) := SF_upd (cFu23) rfl
                have mFu36 := SFm_of cFu36 oz_H2cls_46
                refine Ew_of (pcₚ := 192) (fun _ => x_iconst rfl) ?_
                exact w_ireturn rfl (k (0) _ _ _ _ _ _ _ H O (SD_refl) (SD_refl) (cFu36) (cA_c166) ((((((hS_c166 2 0 rfl).trans (hS_c106 2 0 rfl)).trans ((show F20 2 0 = F15 2 0 from (eF20 2 0)))).trans ((show F15 2 0 = (updF F 0 18 (0)) 2 0 from (eF15 2 0))))).trans (pf3)) (n3) (en3) ((u0_9 + 3)) (rfl) (((u0_9 + 3) + z18)) (rfl) (u2_1) ((((((hS_c166 2 1 rfl).trans (hS_c106 2 1 rfl)).trans ((show F20 2 1 = F15 2 1 from (eF20 2 1)))).trans ((show F15 2 1 = (updF F 0 18 (0)) 2 1 from (eF15 2 1)))).trans (eu2_1))) (show inr (0) from q_20) (show 0 ≤ (0) ∧ (0) ≤ 17 by first | exact q_3589 | omega) (show 0 ≤ ((u0_9 + 3)) ∧ (u0_9) ≤ ((u0_9 + 3)) ∧ ((u0_9 + 3)) ≤ (u0_8) from q_3625 b11 h0) (show 0 ≤ (u2_1) ∧ (u2_1) ≤ (n3) ∧ (n3) ≤ 65536 from h1) (show (u2_1) ≤ (u2_1) ∧ (u2_1) ≤ (u0_11) from q_518 h2) (show (((u0_9 + 3) + z18)) = 0 ∨ ((u0_9 + 3)) ≤ (((u0_9 + 3) + z18)) ∧ (((u0_9 + 3) + z18)) ≤ (u0_8) by omega))
            refine w_icmpeq (t := 166) rfl rfl (show inr (z17) from gz17) (show inr (2) from q_55) (fun b37 => ?_) (fun b37 => ?_)
            · exact hc166  _ _ _ _  (rk_o (lc106_0) rfl rfl) (rk_o (lc106_2) rfl rfl) (rk_o (lc106_3) rfl rfl) (rk_s) H O (SF_refl) (SA_refl)     (show ((z17) = (2)) ∨ ((z17) ≠ (2) ∧ (z18) ≤ ((u0_11 - u2_1))) from q_3626 b37)
            · refine Ew_of (pcₚ := 140) (fun _ => x_iload_n rfl (rk_o (lc106_3) rfl rfl)) ?_
              refine Ew_of (pcₚ := 141) (fun _ => x_aload_n rfl (rk_o (lc106_0) rfl rfl)) ?_
              refine v_g H (o := 0) (v := I (u0_11)) rfl rfl rfl rfl rfl (congrArg (fun z : Int => I z) (((mF_c106 0 11 rfl).trans (eu0_11)) : F_c106 0 11 = u0_11)) ?_
              refine Ew_of (pcₚ := 145) (fun _ => x_aload_n rfl (rk_o (lc106_0) rfl rfl)) ?_
              refine v_g H (o := 0) (v := .ref (D 2)) rfl rfl rfl rfl rfl (vrf ((mF_c106 0 10 rfl).trans (pf2))) ?_
              refine v_g H (o := 2) (v := I (u2_1)) rfl rfl rfl rfl rfl (congrArg (fun z : Int => I z) (((((hS_c106 2 1 rfl).trans ((show F20 2 1 = F15 2 1 from (eF20 2 1)))).trans ((show F15 2 1 = (updF F 0 18 (0)) 2 1 from (eF15 2 1)))).trans (eu2_1)) : F_c106 2 1 = u2_1)) ?_
              refine w_isub rfl ?_
              refine w_icmple (t := 166) rfl rfl (show inr (z18) from gz18) (show inr ((u0_11 - u2_1)) from q_3039 h1 h2) (fun b38 => ?_) (fun b38 => ?_)
              · exact hc166  _ _ _ _  (rk_o (lc106_0) rfl rfl) (rk_o (lc106_2) rfl rfl) (rk_o (lc106_3) rfl rfl) (rk_s) H O (SF_refl) (SA_refl)     (show ((z17) = (2)) ∨ ((z17) ≠ (2) ∧ (z18) ≤ ((u0_11 - u2_1))) from q_3627 b37 b38)
              · refine Ew_of (pcₚ := 156) (fun _ => x_aload_n rfl (rk_o (lc106_0) rfl rfl)) ?_
                refine Ew_of (pcₚ := 158) (fun _ => x_bipush (z := 7) rfl (by decide)) ?_
                refine Ew_of (pcₚ := 159) (fun _ => x_aload_n rfl (rk_o (lc106_0) rfl rfl)) ?_
                refine v_g H (o := 0) (v := I (u0_9)) rfl rfl rfl rfl rfl (congrArg (fun z : Int => I z) (((((hS_c106 0 9 rfl).trans ((show F20 0 9 = F15 0 9 from (eF20 0 9).trans (hS20 0 9 rfl)))).trans ((show F15 0 9 = (updF F 0 18 (0)) 0 9 from (eF15 0 9)))).trans (eu0_9)) : F_c106 0 9 = u0_9)) ?_
                have r39 : (-2147483648 : Int) ≤ F 0 21 ∧ F 0 21 ≤ 2147483647 := rngE (show (-2147483648 : Int) ≤ F_c106 0 21 ∧ F_c106 0 21 ≤ 2147483647 from H.krg 0 21 (ltn len_V243_oz_H2cls rfl)) (show F_c106 0 21 = F 0 21 from (((hS_c106 0 21 rfl).trans ((show F20 0 21 = F15 0 21 from (eF20 0 21).trans (hS20 0 21 rfl)))).trans ((show F15 0 21 = (updF F 0 18 (0)) 0 21 from (eF15 0 21)))))
                refine v_inv H (o := 0) rfl rfl rfl rfl rfl rfl (by rfl) (C232 (D := puc 0 D) (N := puc 0 N) (HW_subc H oz_H2cls_45 oz_H2cls_12) (F 0 21) ((((hS_c106 0 21 rfl).trans ((show F20 0 21 = F15 0 21 from (eF20 0 21).trans (hS20 0 21 rfl)))).trans ((show F15 0 21 = (updF F 0 18 (0)) 0 21 from (eF15 0 21))))) (show inr (7) from q_355) (show inr (u0_9) from q_3617 b11 h0) (fun z40 σ40 F40ₚ A40ₚ Hₚ Oₚ hS40 hA40 y40_0_21 (ey40_0_21 : HID _) pz40_0 pz40_1 pz40_2 => ⟨rfl, ?_⟩))
                refine v_backc (c := c) (s := s) H oz_H2cls_45 oz_H2cls_12 Hₚ Oₚ (fun F40 A40 H Oₚ eF40 eA40 => ?_)
                have O := OUT_trans O Oₚ
                -- Unpacker.fail
                have cF40 : SF oz_H2clsl_13 F F40 := SF_trans (cF_c106) (SF_gluc (ι := oz_H2clsl_6) oz_H2cls_12 hS40 eF40 (by decide +kernel)) (any_sub (lₚ := [(0, 21)]) (by decide +kernel))
                have mF40 := SFm_of cF40 oz_H2cls_46
                have cA40 : SA oz_H2clsl_14 A A40 := SA_trans (cA_c106) (SA_gluc (ι := oz_H2clsl_6) oz_H2cls_12 hA40 eA40 (by decide +kernel)) (any_subA (lₚ := []) (by decide +kernel))
                have mA40 := SAm_of cA40 oz_H2cls_47
                have r41 : (-2147483648 : Int) ≤ y40_0_21 ∧ y40_0_21 ≤ 2147483647 := rngE (show (-2147483648 : Int) ≤ F40 0 21 ∧ F40 0 21 ≤ 2147483647 from H.krg 0 21 (ltn len_V243_oz_H2cls rfl)) (show F40 0 21 = y40_0_21 from ((eF40 0 21).trans ey40_0_21))
                exact w_ireturn rfl (k (z40) _ _ _ _ _ _ _ H O (SD_refl) (SD_refl) (cF40) (cA40) (((((((show F40 2 0 = F_c106 2 0 from (eF40 2 0))).trans (hS_c106 2 0 rfl)).trans ((show F20 2 0 = F15 2 0 from (eF20 2 0)))).trans ((show F15 2 0 = (updF F 0 18 (0)) 2 0 from (eF15 2 0))))).trans (pf3)) (n3) (en3) (u0_9) (((((((show F40 0 9 = F_c106 0 9 from (eF40 0 9).trans (hS40 0 9 rfl))).trans (hS_c106 0 9 rfl)).trans ((show F20 0 9 = F15 0 9 from (eF20 0 9).trans (hS20 0 9 rfl)))).trans ((show F15 0 9 = (updF F 0 18 (0)) 0 9 from (eF15 0 9)))).trans (eu0_9))) (0) ((((((show F40 0 18 = F_c106 0 18 from (eF40 0 18).trans (hS40 0 18 rfl))).trans (hS_c106 0 18 rfl)).trans ((show F20 0 18 = F15 0 18 from (eF20 0 18).trans (hS20 0 18 rfl)))).trans ((show F15 0 18 = (updF F 0 18 (0)) 0 18 from (eF15 0 18))))) (u2_1) (((((((show F40 2 1 = F_c106 2 1 from (eF40 2 1))).trans (hS_c106 2 1 rfl)).trans ((show F20 2 1 = F15 2 1 from (eF20 2 1)))).trans ((show F15 2 1 = (updF F 0 18 (0)) 2 1 from (eF15 2 1)))).trans (eu2_1))) (show inr (z40) from pz40_0) (show 0 ≤ (z40) ∧ (z40) ≤ 17 from q_3629 pz40_1) (show 0 ≤ (u0_9) ∧ (u0_9) ≤ (u0_9) ∧ (u0_9) ≤ (u0_8) from q_3590 h0) (show 0 ≤ (u2_1) ∧ (u2_1) ≤ (n3) ∧ (n3) ≤ 65536 from h1) (show (u2_1) ≤ (u2_1) ∧ (u2_1) ≤ (u0_11) from q_518 h2) (show (0) = 0 ∨ (u0_9) ≤ (0) ∧ (0) ≤ (u0_8) by first | exact q_3628 | omega))
          · refine Ew_of (pcₚ := 125) (fun _ => x_aload_n rfl (rk_o (lc106_0) rfl rfl)) ?_
            refine Ew_of (pcₚ := 126) (fun _ => x_iconst rfl) ?_
            refine Ew_of (pcₚ := 127) (fun _ => x_aload_n rfl (rk_o (lc106_0) rfl rfl)) ?_
            refine v_g H (o := 0) (v := I (u0_8)) rfl rfl rfl rfl rfl (congrArg (fun z : Int => I z) (((mF_c106 0 8 rfl).trans (eu0_8)) : F_c106 0 8 = u0_8)) ?_
            have r42 : (-2147483648 : Int) ≤ F 0 21 ∧ F 0 21 ≤ 2147483647 := rngE (show (-2147483648 : Int) ≤ F_c106 0 21 ∧ F_c106 0 21 ≤ 2147483647 from H.krg 0 21 (ltn len_V243_oz_H2cls rfl)) (show F_c106 0 21 = F 0 21 from (((hS_c106 0 21 rfl).trans ((show F20 0 21 = F15 0 21 from (eF20 0 21).trans (hS20 0 21 rfl)))).trans ((show F15 0 21 = (updF F 0 18 (0)) 0 21 from (eF15 0 21)))))
            refine v_inv H (o := 0) rfl rfl rfl rfl rfl rfl (by rfl) (C232 (D := puc 0 D) (N := puc 0 N) (HW_subc H oz_H2cls_45 oz_H2cls_12) (F 0 21) ((((hS_c106 0 21 rfl).trans ((show F20 0 21 = F15 0 21 from (eF20 0 21).trans (hS20 0 21 rfl)))).trans ((show F15 0 21 = (updF F 0 18 (0)) 0 21 from (eF15 0 21))))) (show inr (1) from q_23) (show inr (u0_8) from q_3630 b11 h0) (fun z43 σ43 F43ₚ A43ₚ Hₚ Oₚ hS43 hA43 y43_0_21 (ey43_0_21 : HID _) pz43_0 pz43_1 pz43_2 => ⟨rfl, ?_⟩))
            refine v_backc (c := c) (s := s) H oz_H2cls_45 oz_H2cls_12 Hₚ Oₚ (fun F43 A43 H Oₚ eF43 eA43 => ?_)
            have O := OUT_trans O Oₚ
            -- Unpacker.fail
            have cF43 : SF oz_H2clsl_13 F F43 := SF_trans (cF_c106) (SF_gluc (ι := oz_H2clsl_6) oz_H2cls_12 hS43 eF43 (by decide +kernel)) (any_sub (lₚ := [(0, 21)]) (by decide +kernel))
            have mF43 := SFm_of cF43 oz_H2cls_46
            have cA43 : SA oz_H2clsl_14 A A43 := SA_trans (cA_c106) (SA_gluc (ι := oz_H2clsl_6) oz_H2cls_12 hA43 eA43 (by decide +kernel)) (any_subA (lₚ := []) (by decide +kernel))
            have mA43 := SAm_of cA43 oz_H2cls_47
            have r44 : (-2147483648 : Int) ≤ y43_0_21 ∧ y43_0_21 ≤ 2147483647 := rngE (show (-2147483648 : Int) ≤ F43 0 21 ∧ F43 0 21 ≤ 2147483647 from H.krg 0 21 (ltn len_V243_oz_H2cls rfl)) (show F43 0 21 = y43_0_21 from ((eF43 0 21).trans ey43_0_21))
            exact w_ireturn rfl (k (z43) _ _ _ _ _ _ _ H O (SD_refl) (SD_refl) (cF43) (cA43) (((((((show F43 2 0 = F_c106 2 0 from (eF43 2 0))).trans (hS_c106 2 0 rfl)).trans ((show F20 2 0 = F15 2 0 from (eF20 2 0)))).trans ((show F15 2 0 = (updF F 0 18 (0)) 2 0 from (eF15 2 0))))).trans (pf3)) (n3) (en3) (u0_9) (((((((show F43 0 9 = F_c106 0 9 from (eF43 0 9).trans (hS43 0 9 rfl))).trans (hS_c106 0 9 rfl)).trans ((show F20 0 9 = F15 0 9 from (eF20 0 9).trans (hS20 0 9 rfl)))).trans ((show F15 0 9 = (updF F 0 18 (0)) 0 9 from (eF15 0 9)))).trans (eu0_9))) (0) ((((((show F43 0 18 = F_c106 0 18 from (eF43 0 18).trans (hS43 0 18 rfl))).trans (hS_c106 0 18 rfl)).trans ((show F20 0 18 = F15 0 18 from (eF20 0 18).trans (hS20 0 18 rfl)))).trans ((show F15 0 18 = (updF F 0 18 (0)) 0 18 from (eF15 0 18))))) (u2_1) (((((((show F43 2 1 = F_c106 2 1 from (eF43 2 1))).trans (hS_c106 2 1 rfl)).trans ((show F20 2 1 = F15 2 1 from (eF20 2 1)))).trans ((show F15 2 1 = (updF F 0 18 (0)) 2 1 from (eF15 2 1)))).trans (eu2_1))) (show inr (z43) from pz43_0) (show 0 ≤ (z43) ∧ (z43) ≤ 17 from q_3591 pz43_1) (show 0 ≤ (u0_9) ∧ (u0_9) ≤ (u0_9) ∧ (u0_9) ≤ (u0_8) from q_3590 h0) (show 0 ≤ (u2_1) ∧ (u2_1) ≤ (n3) ∧ (n3) ≤ 65536 from h1) (show (u2_1) ≤ (u2_1) ∧ (u2_1) ≤ (u0_11) from q_518 h2) (show (0) = 0 ∨ (u0_9) ≤ (0) ∧ (0) ≤ (u0_8) by first | exact q_3628 | omega))
        refine w_icmpne (t := 105) rfl rfl (show inr (z17) from gz17) (show inr (1) from q_23) (fun b45 => ?_) (fun b45 => ?_)
        · refine Ew_of (pcₚ := 106) (fun _ => x_iload_n rfl rk_s) ?_
          exact hc106 (z18) _ _ _ _  (rk_o (rk_o (rk_o (rfl) rfl rfl) rfl rfl) rfl rfl) (rk_o (rk_s) rfl rfl) (rk_s) H O (SF_refl) (SA_refl)     (show inr (z18) from gz18) (show ((z17) ≠ (1) ∧ (z18) = (z18)) ∨ ((z17) = (1) ∧ (z18) = (1)) from q_3631 b45)
        · refine Ew_of (pcₚ := 102) (fun _ => x_iconst rfl) ?_
          refine Ew_of (pcₚ := 106) (fun _ => x_goto rfl rfl) ?_
          exact hc106 (1) _ _ _ _  (rk_o (rk_o (rk_o (rfl) rfl rfl) rfl rfl) rfl rfl) (rk_o (rk_s) rfl rfl) (rk_s) H O (SF_refl) (SA_refl)     (show inr (1) from q_23) (show ((z17) ≠ (1) ∧ (1) = (z18)) ∨ ((z17) = (1) ∧ (1) = (1)) from q_3632 b45)
      · refine Ew_of (pcₚ := 86) (fun _ => x_aload_n rfl (rk_o (rk_o (rk_o (rfl) rfl rfl) rfl rfl) rfl rfl)) ?_
        refine Ew_of (pcₚ := 88) (fun _ => x_bipush (z := 6) rfl (by decide)) ?_
        refine Ew_of (pcₚ := 89) (fun _ => x_aload_n rfl (rk_o (rk_o (rk_o (rfl) rfl rfl) rfl rfl) rfl rfl)) ?_
        refine v_g H (o := 0) (v := I (u0_9)) rfl rfl rfl rfl rfl (congrArg (fun z : Int => I z) (((((show F20 0 9 = F15 0 9 from (eF20 0 9).trans (hS20 0 9 rfl))).trans ((show F15 0 9 = (updF F 0 18 (0)) 0 9 from (eF15 0 9)))).trans (eu0_9)) : F20 0 9 = u0_9)) ?_
        have r46 : (-2147483648 : Int) ≤ F 0 21 ∧ F 0 21 ≤ 2147483647 := rngE (show (-2147483648 : Int) ≤ F20 0 21 ∧ F20 0 21 ≤ 2147483647 from H.krg 0 21 (ltn len_V243_oz_H2cls rfl)) (show F20 0 21 = F 0 21 from (((show F20 0 21 = F15 0 21 from (eF20 0 21).trans (hS20 0 21 rfl))).trans ((show F15 0 21 = (updF F 0 18 (0)) 0 21 from (eF15 0 21)))))
        refine v_inv H (o := 0) rfl rfl rfl rfl rfl rfl (by rfl) (C232 (D := puc 0 D) (N := puc 0 N) (HW_subc H oz_H2cls_45 oz_H2cls_12) (F 0 21) ((((show F20 0 21 = F15 0 21 from (eF20 0 21).trans (hS20 0 21 rfl))).trans ((show F15 0 21 = (updF F 0 18 (0)) 0 21 from (eF15 0 21))))) (show inr (6) from q_545) (show inr (u0_9) from q_3617 b11 h0) (fun z47 σ47 F47ₚ A47ₚ Hₚ Oₚ hS47 hA47 y47_0_21 (ey47_0_21 : HID _) pz47_0 pz47_1 pz47_2 => ⟨rfl, ?_⟩))
        refine v_backc (c := c) (s := s) H oz_H2cls_45 oz_H2cls_12 Hₚ Oₚ (fun F47 A47 H Oₚ eF47 eA47 => ?_)
        have O := OUT_trans O Oₚ
        -- Unpacker.fail
        have cF47 : SF oz_H2clsl_13 F F47 := SF_trans (cF20) (SF_gluc (ι := oz_H2clsl_6) oz_H2cls_12 hS47 eF47 (by decide +kernel)) (any_sub (lₚ := [(0, 21)]) (by decide +kernel))
        have mF47 := SFm_of cF47 oz_H2cls_46
        have cA47 : SA oz_H2clsl_14 A A47 := SA_trans (cA20) (SA_gluc (ι := oz_H2clsl_6) oz_H2cls_12 hA47 eA47 (by decide +kernel)) (any_subA (lₚ := []) (by decide +kernel))
        have mA47 := SAm_of cA47 oz_H2cls_47
        have r48 : (-2147483648 : Int) ≤ y47_0_21 ∧ y47_0_21 ≤ 2147483647 := rngE (show (-2147483648 : Int) ≤ F47 0 21 ∧ F47 0 21 ≤ 2147483647 from H.krg 0 21 (ltn len_V243_oz_H2cls rfl)) (show F47 0 21 = y47_0_21 from ((eF47 0 21).trans ey47_0_21))
        exact w_ireturn rfl (k (z47) _ _ _ _ _ _ _ H O (SD_refl) (SD_refl) (cF47) (cA47) ((((((show F47 2 0 = F20 2 0 from (eF47 2 0))).trans ((show F20 2 0 = F15 2 0 from (eF20 2 0)))).trans ((show F15 2 0 = (updF F 0 18 (0)) 2 0 from (eF15 2 0))))).trans (pf3)) (n3) (en3) (u0_9) ((((((show F47 0 9 = F20 0 9 from (eF47 0 9).trans (hS47 0 9 rfl))).trans ((show F20 0 9 = F15 0 9 from (eF20 0 9).trans (hS20 0 9 rfl)))).trans ((show F15 0 9 = (updF F 0 18 (0)) 0 9 from (eF15 0 9)))).trans (eu0_9))) (0) (((((show F47 0 18 = F20 0 18 from (eF47 0 18).trans (hS47 0 18 rfl))).trans ((show F20 0 18 = F15 0 18 from (eF20 0 18).trans (hS20 0 18 rfl)))).trans ((show F15 0 18 = (updF F 0 18 (0)) 0 18 from (eF15 0 18))))) (u2_1) ((((((show F47 2 1 = F20 2 1 from (eF47 2 1))).trans ((show F20 2 1 = F15 2 1 from (eF20 2 1)))).trans ((show F15 2 1 = (updF F 0 18 (0)) 2 1 from (eF15 2 1)))).trans (eu2_1))) (show inr (z47) from pz47_0) (show 0 ≤ (z47) ∧ (z47) ≤ 17 from q_3633 pz47_1) (show 0 ≤ (u0_9) ∧ (u0_9) ≤ (u0_9) ∧ (u0_9) ≤ (u0_8) from q_3590 h0) (show 0 ≤ (u2_1) ∧ (u2_1) ≤ (n3) ∧ (n3) ≤ 65536 from h1) (show (u2_1) ≤ (u2_1) ∧ (u2_1) ≤ (u0_11) from q_518 h2) (show (0) = 0 ∨ (u0_9) ≤ (0) ∧ (0) ≤ (u0_8) by first | exact q_3628 | omega))
    · refine Ew_of (pcₚ := 68) (fun _ => x_aload_n rfl (rk_o (rk_o (rk_o (rfl) rfl rfl) rfl rfl) rfl rfl)) ?_
      refine Ew_of (pcₚ := 69) (fun _ => x_iconst rfl) ?_
      refine Ew_of (pcₚ := 70) (fun _ => x_aload_n rfl (rk_o (rk_o (rk_o (rfl) rfl rfl) rfl rfl) rfl rfl)) ?_
      refine v_g H (o := 0) (v := I (u0_9)) rfl rfl rfl rfl rfl (congrArg (fun z : Int => I z) ((((show F15 0 9 = (updF F 0 18 (0)) 0 9 from (eF15 0 9))).trans (eu0_9)) : F15 0 9 = u0_9)) ?_
      have r49 : (-2147483648 : Int) ≤ F 0 21 ∧ F 0 21 ≤ 2147483647 := rngE (show (-2147483648 : Int) ≤ F15 0 21 ∧ F15 0 21 ≤ 2147483647 from H.krg 0 21 (ltn len_V243_oz_H2cls rfl)) (show F15 0 21 = F 0 21 from ((show F15 0 21 = (updF F 0 18 (0)) 0 21 from (eF15 0 21))))
      refine v_inv H (o := 0) rfl rfl rfl rfl rfl rfl (by rfl) (C232 (D := puc 0 D) (N := puc 0 N) (HW_subc H oz_H2cls_45 oz_H2cls_12) (F 0 21) (((show F15 0 21 = (updF F 0 18 (0)) 0 21 from (eF15 0 21)))) (show inr (5) from q_509) (show inr (u0_9) from q_3617 b11 h0) (fun z50 σ50 F50ₚ A50ₚ Hₚ Oₚ hS50 hA50 y50_0_21 (ey50_0_21 : HID _) pz50_0 pz50_1 pz50_2 => ⟨rfl, ?_⟩))
      refine v_backc (c := c) (s := s) H oz_H2cls_45 oz_H2cls_12 Hₚ Oₚ (fun F50 A50 H Oₚ eF50 eA50 => ?_)
      have O := OUT_trans O Oₚ
      -- Unpacker.fail
      have cF50 : SF oz_H2clsl_13 F F50 := SF_trans (cF15) (SF_gluc (ι := oz_H2clsl_6) oz_H2cls_12 hS50 eF50 (by decide +kernel)) (any_sub (lₚ := [(0, 21)]) (by decide +kernel))
      have mF50 := SFm_of cF50 oz_H2cls_46
      have cA50 : SA oz_H2clsl_14 A A50 := SA_trans (cA15) (SA_gluc (ι := oz_H2clsl_6) oz_H2cls_12 hA50 eA50 (by decide +kernel)) (any_subA (lₚ := []) (by decide +kernel))
      have mA50 := SAm_of cA50 oz_H2cls_47
      have r51 : (-2147483648 : Int) ≤ y50_0_21 ∧ y50_0_21 ≤ 2147483647 := rngE (show (-2147483648 : Int) ≤ F50 0 21 ∧ F50 0 21 ≤ 2147483647 from H.krg 0 21 (ltn len_V243_oz_H2cls rfl)) (show F50 0 21 = y50_0_21 from ((eF50 0 21).trans ey50_0_21))
      exact w_ireturn rfl (k (z50) _ _ _ _ _ _ _ H O (SD_refl) (SD_refl) (cF50) (cA50) (((((show F50 2 0 = F15 2 0 from (eF50 2 0))).trans ((show F15 2 0 = (updF F 0 18 (0)) 2 0 from (eF15 2 0))))).trans (pf3)) (n3) (en3) (u0_9) (((((show F50 0 9 = F15 0 9 from (eF50 0 9).trans (hS50 0 9 rfl))).trans ((show F15 0 9 = (updF F 0 18 (0)) 0 9 from (eF15 0 9)))).trans (eu0_9))) (0) ((((show F50 0 18 = F15 0 18 from (eF50 0 18).trans (hS50 0 18 rfl))).trans ((show F15 0 18 = (updF F 0 18 (0)) 0 18 from (eF15 0 18))))) (u2_1) (((((show F50 2 1 = F15 2 1 from (eF50 2 1))).trans ((show F15 2 1 = (updF F 0 18 (0)) 2 1 from (eF15 2 1)))).trans (eu2_1))) (show inr (z50) from pz50_0) (show 0 ≤ (z50) ∧ (z50) ≤ 17 from q_3634 pz50_1) (show 0 ≤ (u0_9) ∧ (u0_9) ≤ (u0_9) ∧ (u0_9) ≤ (u0_8) from q_3590 h0) (show 0 ≤ (u2_1) ∧ (u2_1) ≤ (n3) ∧ (n3) ≤ 65536 from h1) (show (u2_1) ≤ (u2_1) ∧ (u2_1) ≤ (u0_11) from q_518 h2) (show (0) = 0 ∨ (u0_9) ≤ (0) ∧ (0) ≤ (u0_8) by first | exact q_3628 | omega))
  · refine Ew_of (pcₚ := 19) (fun _ => x_aload_n rfl rfl) ?_
    refine Ew_of (pcₚ := 20) (fun _ => x_iconst rfl) ?_
    refine Ew_of (pcₚ := 21) (fun _ => x_aload_n rfl rfl) ?_
    refine v_g H (o := 0) (v := I (u0_8)) rfl rfl rfl rfl rfl (congrArg (fun z : Int => I z) (((mFu10 0 8 rfl).trans (eu0_8)) : (updF F 0 18 (0)) 0 8 = u0_8)) ?_
    have r52 : (-2147483648 : Int) ≤ F 0 21 ∧ F 0 21 ≤ 2147483647 := H.krg 0 21 (ltn len_V243_oz_H2cls rfl)
    refine v_inv H (o := 0) rfl rfl rfl rfl rfl rfl (by rfl) (C232 (D := puc 0 D) (N := puc 0 N) (HW_subc H oz_H2cls_45 oz_H2cls_12) (F 0 21) (rfl) (show inr (1) from q_23) (show inr (u0_8) from q_3584 h0) (fun z53 σ53 F53ₚ A53ₚ Hₚ Oₚ hS53 hA53 y53_0_21 (ey53_0_21 : HID _) pz53_0 pz53_1 pz53_2 => ⟨rfl, ?_⟩))
    refine v_backc (c := c) (s := s) H oz_H2cls_45 oz_H2cls_12 Hₚ Oₚ (fun F53 A53 H Oₚ eF53 eA53 => ?_)
    have O := OUT_trans O Oₚ
    -- Unpacker.fail
    have cF53 : SF oz_H2clsl_13 F F53 := SF_trans (cFu10) (SF_gluc (ι := oz_H2clsl_6) oz_H2cls_12 hS53 eF53 (by decide +kernel)) (any_sub (lₚ := [(0, 21)]) (by decide +kernel))
    have mF53 := SFm_of cF53 oz_H2cls_46
    have cA53 : SA oz_H2clsl_14 A A53 := SA_trans (SA_refl) (SA_gluc (ι := oz_H2clsl_6) oz_H2cls_12 hA53 eA53 (by decide +kernel)) (any_subA (lₚ := []) (by decide +kernel))
    have mA53 := SAm_of cA53 oz_H2cls_47
    have r54 : (-2147483648 : Int) ≤ y53_0_21 ∧ y53_0_21 ≤ 2147483647 := rngE (show (-2147483648 : Int) ≤ F53 0 21 ∧ F53 0 21 ≤ 2147483647 from H.krg 0 21 (ltn len_V243_oz_H2cls rfl)) (show F53 0 21 = y53_0_21 from ((eF53 0 21).trans ey53_0_21))
    exact w_ireturn rfl (k (z53) _ _ _ _ _ _ _ H O (SD_refl) (SD_refl) (cF53) (cA53) ((((show F53 2 0 = (updF F 0 18 (0)) 2 0 from (eF53 2 0)))).trans (pf3)) (n3) (en3) (u0_9) ((((show F53 0 9 = (updF F 0 18 (0)) 0 9 from (eF53 0 9).trans (hS53 0 9 rfl))).trans (eu0_9))) (0) (((show F53 0 18 = (updF F 0 18 (0)) 0 18 from (eF53 0 18).trans (hS53 0 18 rfl)))) (u2_1) ((((show F53 2 1 = (updF F 0 18 (0)) 2 1 from (eF53 2 1))).trans (eu2_1))) (show inr (z53) from pz53_0) (show 0 ≤ (z53) ∧ (z53) ≤ 17 from q_3591 pz53_1) (show 0 ≤ (u0_9) ∧ (u0_9) ≤ (u0_9) ∧ (u0_9) ≤ (u0_8) from q_3590 h0) (show 0 ≤ (u2_1) ∧ (u2_1) ≤ (n3) ∧ (n3) ≤ 65536 from h1) (show (u2_1) ≤ (u2_1) ∧ (u2_1) ≤ (u0_11) from q_518 h2) (show (0) = 0 ∨ (u0_9) ≤ (0) ∧ (0) ≤ (u0_8) by first | exact q_3628 | omega))
abbrev V244 : vV := [(0, 12, [(4, 0), (4, 0), (4, 0), (4, 0), (4, 0), (4, 0), (4, 0), (4, 0), (0, 0), (0, 0), (4, 0), (0, 0), (4, 0), (4, 0), (0, 0), (2, 0), (0, 0), (0, 0), (0, 0), (0, 0), (0, 0), (0, 0)]), (1, 0, []), (0, 7, [(4, 0), (0, 0), (1, 0), (0, 0), (0, 0)]), (1, 0, [])]
theorem len_V244_oz_H2cls : (V244).length = 4 := by decide +kernel
theorem oz_H2cls_52 : vsub V244 V42_Br [1] = true := by decide +kernel
theorem oz_H2cls_53 : vsub V244 V234 [0] = true := by decide +kernel
theorem oz_H2cls_54 : vsub V244 V162 [2, 3] = true := by decide +kernel
theorem oz_H2cls_55 : vmov V244 [2, 3] [1] = true := by decide +kernel
theorem oz_H2cls_56 : vsub V244 V161_Br [2, 1, 3] = true := by decide +kernel
theorem oz_H2cls_57 : vmov V244 [2, 1, 3] [2] = true := by decide +kernel
theorem oz_H2cls_58 : vsub V244 V232 [0] = true := by decide +kernel
def oz_H2clsl_17 : List (Nat × Nat) := [(0, 9), (0, 19), (0, 21), (2, 0), (2, 1), (2, 2)]
theorem oz_H2cls_59 : (oz_H2clsl_17).all (fun p => !tbz 129127208515969483264 (Nat.add (Nat.mul 32 p.1) p.2)) = true := by decide +kernel
set_option maxHeartbeats 16000000 in
/-- Unpacker.unpackPlain: this, this.in, this.literals, this.literals.bytes -/
theorem C244 {σE : rS} {D N : Nat → Nat} {F : hF} {A : hA} {d c s : Nat} {Q : wQ} (H : HW V244 σE D N F A)  (pf1 : HID (F 0 7 = (D 1 : Int))) (pf2 : HID (F 0 4 = (D 2 : Int))) (pf3 : HID (F 2 0 = (D 3 : Int))) (n1 : Int) (en1 : HID ((N 1 : Int) = n1)) (n3 : Int) (en3 : HID ((N 3 : Int) = n3)) (u0_8 : Int) (eu0_8 : HID (F 0 8 = u0_8)) (u0_9 : Int) (eu0_9 : HID (F 0 9 = u0_9)) (u0_15 : Int) (eu0_15 : HID (F 0 15 = u0_15)) (u0_18 : Int) (eu0_18 : HID (F 0 18 = u0_18)) (u0_19 : Int) (eu0_19 : HID (F 0 19 = u0_19)) (u2_1 : Int) (eu2_1 : HID (F 2 1 = u2_1)) (h0 : 0 ≤ (u0_9) ∧ (u0_9) ≤ (u0_8) ∧ (u0_8) ≤ (n1) ∧ (n1) ≤ 65536) (h1 : (u0_9) ≤ (u0_18) ∧ (u0_18) ≤ (u0_8)) (h2 : 0 ≤ (u2_1) ∧ (u2_1) ≤ (n3) ∧ (n3) ≤ 65536) (h3 : (u2_1) = 0) (h4 : 0 ≤ (u0_15)) (k : ∀ (z : Int) (σ : rS) (Dₚ Nₚ : Nat → Nat) (Fₚ : hF) (Aₚ : hA) (cₚ sₚ : Nat), HW V244 σ Dₚ Nₚ Fₚ Aₚ → OUT (V244).length D N σE c s Dₚ Nₚ σ cₚ sₚ → SD [3] D Dₚ → SD [3] N Nₚ → SF [(0, 9), (0, 19), (0, 21), (2, 0), (2, 1), (2, 2)] F Fₚ → SA [3] A Aₚ → Fₚ 2 0 = (Dₚ 3 : Int) → ∀ m3 : Int, (Nₚ 3 : Int) = m3 → ∀ y0_9 : Int, Fₚ 0 9 = y0_9 → ∀ y0_19 : Int, Fₚ 0 19 = y0_19 → ∀ y2_1 : Int, Fₚ 2 1 = y2_1 → (inr (z)) → (0 ≤ (z) ∧ (z) ≤ 17) → (0 ≤ (y0_9) ∧ (u0_9) ≤ (y0_9) ∧ (y0_9) ≤ (u0_8)) → ((y0_9) ≤ (u0_18)) → (0 ≤ (y2_1) ∧ (y2_1) ≤ (m3) ∧ (m3) ≤ 65536) → ((z) ≠ 0 ∨ 0 ≤ (y0_19) ∧ (y0_19) ≤ 131072 ∧ ((y0_19) ≤ (m3) ∨ (m3) = 65536)) → Q (some (I z)) σ cₚ sₚ) : Ew 244 (d + 3) 0 (rargs 0 [.ref (D 0)]) [] σE c s Q := by
  have O := OUT_refl (n := (V244).length) (D := D) (N := N) (σ := σE) (c := c) (s := s)
  have HE := H
  have r1 : (-2147483648 : Int) ≤ u0_8 ∧ u0_8 ≤ 2147483647 := rngE (show (-2147483648 : Int) ≤ F 0 8 ∧ F 0 8 ≤ 2147483647 from H.krg 0 8 (ltn len_V244_oz_H2cls rfl)) (show F 0 8 = u0_8 from (eu0_8))
  have r2 : (-2147483648 : Int) ≤ u0_9 ∧ u0_9 ≤ 2147483647 := rngE (show (-2147483648 : Int) ≤ F 0 9 ∧ F 0 9 ≤ 2147483647 from H.krg 0 9 (ltn len_V244_oz_H2cls rfl)) (show F 0 9 = u0_9 from (eu0_9))
  have r3 : (-9223372036854775808 : Int) ≤ u0_15 ∧ u0_15 ≤ 9223372036854775807 := rngE (show (-9223372036854775808 : Int) ≤ F 0 15 ∧ F 0 15 ≤ 9223372036854775807 from H.krg 0 15 (ltn len_V244_oz_H2cls rfl)) (show F 0 15 = u0_15 from (eu0_15))
  have r4 : (-2147483648 : Int) ≤ u0_18 ∧ u0_18 ≤ 2147483647 := rngE (show (-2147483648 : Int) ≤ F 0 18 ∧ F 0 18 ≤ 2147483647 from H.krg 0 18 (ltn len_V244_oz_H2cls rfl)) (show F 0 18 = u0_18 from (eu0_18))
  have r5 : (-2147483648 : Int) ≤ u0_19 ∧ u0_19 ≤ 2147483647 := rngE (show (-2147483648 : Int) ≤ F 0 19 ∧ F 0 19 ≤ 2147483647 from H.krg 0 19 (ltn len_V244_oz_H2cls rfl)) (show F 0 19 = u0_19 from (eu0_19))
  have r6 : (-2147483648 : Int) ≤ u2_1 ∧ u2_1 ≤ 2147483647 := rngE (show (-2147483648 : Int) ≤ F 2 1 ∧ F 2 1 ≤ 2147483647 from H.krg 2 1 (ltn len_V244_oz_H2cls rfl)) (show F 2 1 = u2_1 from (eu2_1))
  have r7 : (0 : Int) ≤ n1 ∧ n1 ≤ 1000000 := nleE (H.nle 1 (ltn len_V244_oz_H2cls rfl)) (show (N 1 : Int) = n1 from en1)
  have r8 : (0 : Int) ≤ n3 ∧ n3 ≤ 1000000 := nleE (H.nle 3 (ltn len_V244_oz_H2cls rfl)) (show (N 3 : Int) = n3 from en3)
  refine Ew_of (pcₚ := 1) (fun _ => x_aload_n rfl rfl) ?_
  refine v_g H (o := 0) (v := I (u0_9)) rfl rfl rfl rfl rfl (congrArg (fun z : Int => I z) ((eu0_9) : F 0 9 = u0_9)) ?_
  refine Ew_of (pcₚ := 5) (fun _ => x_aload_n rfl rfl) ?_
  refine v_g H (o := 0) (v := I (u0_18)) rfl rfl rfl rfl rfl (congrArg (fun z : Int => I z) ((eu0_18) : F 0 18 = u0_18)) ?_
  refine w_icmplt (t := 22) rfl rfl (show inr (u0_9) from q_3585 h0) (show inr (u0_18) from q_22 r4) (fun b9 => ?_) (fun b9 => ?_)
  · refine Ew_of (pcₚ := 23) (fun _ => x_aload_n rfl rfl) ?_
    refine v_g H (o := 0) (v := .ref (D 1)) rfl rfl rfl rfl rfl (vrf (pf1)) ?_
    refine Ew_of (pcₚ := 27) (fun _ => x_aload_n rfl rfl) ?_
    refine v_g H (o := 0) (v := I (u0_9)) rfl rfl rfl rfl rfl (congrArg (fun z : Int => I z) ((eu0_9) : F 0 9 = u0_9)) ?_
    refine v_lB H (o := 1) rfl rfl rfl rfl (n := n1) (en1) (show 0 ≤ u0_9 ∧ u0_9 < n1 from q_3635 b9 h0 h1) (fun v10 ev10 qv10 => ?_)
    have ev10 : (A 1) (u0_9) = v10 := (congrFun (rfl : A 1 = A 1) (u0_9)).symm.trans ev10
    refine Ew_of (pcₚ := 34) (fun _ => x_sipush (z := 255) rfl (by decide)) ?_
    refine w_iand rfl (show inr (v10) from q_2536 qv10) (show inr (255) from q_36) (fun z11 gz11 gaz11 gbz11 => ?_)
    refine Ew_of (pcₚ := 36) (fun _ => x_istore_n rfl) ?_
    refine Ew_of (pcₚ := 37) (fun _ => x_iload_n rfl rk_s) ?_
    refine Ew_of (pcₚ := 38) (fun _ => x_iconst rfl) ?_
    refine w_ishrK 2 4 (by decide) (by decide) rfl (show inr (z11) from gz11) (fun z12 gz12 dz12 => ?_)
    refine Ew_of (pcₚ := 40) (fun _ => x_iconst rfl) ?_
    refine w_iand rfl (show inr (z12) from gz12) (show inr (3) from q_66) (fun z13 gz13 gaz13 gbz13 => ?_)
    refine Ew_of (pcₚ := 42) (fun _ => x_istore_n rfl) ?_
    refine Ew_of (pcₚ := 43) (fun _ => x_iload_n rfl rk_s) ?_
    refine Ew_of (pcₚ := 44) (fun _ => x_iconst rfl) ?_
    refine w_irem rfl (show inr (z13) ∧ 0 ≤ z13 by omega) (show inr (2) ∧ 0 < 2 from q_967) ?_
    have hc62 : ∀ (tc62_0 : Int), ∀ (ls : rO) (σ : rS) (F_c62 : hF) (A_c62 : hA) , rlook ls 0 = some (.ref (D 0)) → rlook ls 1 = some (I (z11)) → HW V244 σ D N F_c62 A_c62 → OUT (V244).length D N σE c s D N σ c s → SF [] F F_c62 → SA [] A A_c62 → (inr (tc62_0)) → ((((z13 % 2)) ≠ (0) ∧ (z13) ≠ (1) ∧ (tc62_0) = (3)) ∨ (((z13 % 2)) ≠ (0) ∧ (z13) = (1) ∧ (tc62_0) = (2)) ∨ (((z13 % 2)) = (0) ∧ (tc62_0) = (1))) → Ew 244 (d + 3) 62 ls [I (tc62_0)] σ c s Q := by
     as_aux_lemma =>
      intro tc62_0 ls σ F_c62 A_c62  lc62_0 lc62_1 H O hS_c62 hA_c62     jc62_0 jc62_1
      have cF_c62 : SF oz_H2clsl_17 F F_c62 := SF_trans (SF_refl) hS_c62 (any_sub (by decide +kernel))
      have mF_c62 := SFm_of cF_c62 oz_H2cls_59
      have cA_c62 : SA oz_H2clsl_12 A A_c62 := SA_trans (SA_refl) hA_c62 (any_subA (by decide +kernel))
      have mA_c62 := SAm_of cA_c62 oz_H2cls_48
      refine Ew_of (pcₚ := 63) (fun _ => x_istore_n rfl) ?_
      refine Ew_of (pcₚ := 64) (fun _ => x_aload_n rfl (rk_o (lc62_0) rfl rfl)) ?_
      refine v_g H (o := 0) (v := I (u0_18)) rfl rfl rfl rfl rfl (congrArg (fun z : Int => I z) (((mF_c62 0 18 rfl).trans (eu0_18)) : F_c62 0 18 = u0_18)) ?_
      refine Ew_of (pcₚ := 68) (fun _ => x_aload_n rfl (rk_o (lc62_0) rfl rfl)) ?_
      refine v_g H (o := 0) (v := I (u0_9)) rfl rfl rfl rfl rfl (congrArg (fun z : Int => I z) (((hS_c62 0 9 rfl).trans (eu0_9)) : F_c62 0 9 = u0_9)) ?_
      refine w_isub rfl ?_
      refine Ew_of (pcₚ := 73) (fun _ => x_iload_n rfl rk_s) ?_
      refine w_icmpge (t := 87) rfl rfl (show inr ((u0_18 - u0_9)) from q_3636 b9 h0 h1) (show inr (tc62_0) from jc62_0) (fun b14 => ?_) (fun b14 => ?_)
      · refine Ew_of (pcₚ := 88) (fun _ => x_aload_n rfl (rk_o (lc62_0) rfl rfl)) ?_
        refine v_g H (o := 0) (v := .ref (D 1)) rfl rfl rfl rfl rfl (vrf ((mF_c62 0 7 rfl).trans (pf1))) ?_
        refine Ew_of (pcₚ := 92) (fun _ => x_aload_n rfl (rk_o (lc62_0) rfl rfl)) ?_
        refine v_g H (o := 0) (v := I (u0_9)) rfl rfl rfl rfl rfl (congrArg (fun z : Int => I z) (((hS_c62 0 9 rfl).trans (eu0_9)) : F_c62 0 9 = u0_9)) ?_
        refine Ew_of (pcₚ := 96) (fun _ => x_iload_n rfl rk_s) ?_
        refine w_stat25 rfl rfl (by rfl) (C42_Brf (D := puc 1 D) (N := puc 1 N) (HW_subc H oz_H2cls_52 oz_H2cls_18) (n1) (en1) (A 1) (funext (mA_c62 1 rfl)) (show inr (u0_9) from q_3585 h0) (show inr (tc62_0) from jc62_0) (show (tc62_0) ≤ 0 ∨ 0 ≤ (u0_9) ∧ (u0_9) + (tc62_0) ≤ (n1) from q_3638 b14 h0 h1) (show 0 ≤ (tc62_0) ∧ (tc62_0) ≤ 8 from q_3637 jc62_1) (fun z15 σ15 F15ₚ A15ₚ Hₚ Oₚ hS15 hA15 pz15_0 pz15_1 pz15_2 => ⟨rfl, ?_⟩))
        refine v_backc (c := c) (s := s) H oz_H2cls_52 oz_H2cls_18 Hₚ Oₚ (fun F15 A15 H Oₚ eF15 eA15 => ?_)
        have O := OUT_trans O Oₚ
        -- PackHouse.number
        have cF15 : SF oz_H2clsl_17 F F15 := SF_trans (cF_c62) (SF_gluc (ι := oz_H2clsl_2) oz_H2cls_18 hS15 eF15 (by decide +kernel)) (any_sub (lₚ := []) (by decide +kernel))
        have mF15 := SFm_of cF15 oz_H2cls_59
        have cA15 : SA oz_H2clsl_12 A A15 := SA_trans (cA_c62) (SA_gluc (ι := oz_H2clsl_2) oz_H2cls_18 hA15 eA15 (by decide +kernel)) (any_subA (lₚ := []) (by decide +kernel))
        have mA15 := SAm_of cA15 oz_H2cls_48
        have hnb : 0 ≤ ((z15) : Int) ∧ (z15) ≤ 16777215 := nb3 (NBY_up pz15_1 (by omega) (by omega))
        refine Ew_of (pcₚ := 100) (fun _ => x_iload_n rfl rk_s) ?_
        refine Ew_of (pcₚ := 101) (fun _ => x_iconst rfl) ?_
        have hc109 : ∀ (tc109_0 : Int), ∀ (ls : rO) (σ : rS) (F_c109 : hF) (A_c109 : hA) , rlook ls 0 = some (.ref (D 0)) → rlook ls 1 = some (I (z11)) → rlook ls 3 = some (I (tc62_0)) → HW V244 σ D N F_c109 A_c109 → OUT (V244).length D N σE c s D N σ c s → SF [] F15 F_c109 → SA [] A15 A_c109 → (inr (tc109_0)) → (((tc62_0) ≠ (1) ∧ (tc109_0) = (4)) ∨ ((tc62_0) = (1) ∧ (tc109_0) = (3))) → Ew 244 (d + 3) 109 ls [I (tc109_0), J (z15)] σ c s Q := by
         as_aux_lemma =>
          intro tc109_0 ls σ F_c109 A_c109  lc109_0 lc109_1 lc109_3 H O hS_c109 hA_c109     jc109_0 jc109_1
          have cF_c109 : SF oz_H2clsl_17 F F_c109 := SF_trans (cF15) hS_c109 (any_sub (by decide +kernel))
          have mF_c109 := SFm_of cF_c109 oz_H2cls_59
          have cA_c109 : SA oz_H2clsl_12 A A_c109 := SA_trans (cA15) hA_c109 (any_subA (by decide +kernel))
          have mA_c109 := SAm_of cA_c109 oz_H2cls_48
          have hy : p2 ((tc109_0)) = 8 ∨ p2 ((tc109_0)) = 16 := by rcases (show ((tc109_0) : Int) = 3 ∨ ((tc109_0) : Int) = 4 by omega) with q | q <;> rw [q] <;> decide
          have hdv : 0 ≤ ((z15) : Int) / p2 ((tc109_0)) ∧ ((z15) : Int) / p2 ((tc109_0)) ≤ 2097152 := by rcases hy with q | q <;> rw [q] <;> omega
          refine w_lshrX rfl (show inrJ (z15) from pz15_0) (fun z16 gz16 dz16 => ?_)
          have hzz : 0 ≤ ((z16) : Int) ∧ (z16) ≤ 2097152 := by omega
          refine w_l2i rfl ?_
          refine Ew_of (pcₚ := 113) (fun _ => x_istore rfl) ?_
          refine Ew_of (pcₚ := 115) (fun _ => x_iload rfl rk_s) ?_
          refine Ew_of (pcₚ := 116) (fun _ => x_aload_n rfl (rk_o (lc109_0) rfl rfl)) ?_
          refine v_inv H (o := 0) rfl rfl rfl rfl rfl rfl (by rfl) (C234 (D := puc 0 D) (N := puc 0 N) (HW_subc H oz_H2cls_53 oz_H2cls_12) (u0_15) (((mF_c109 0 15 rfl).trans (eu0_15))) (show 0 ≤ (u0_15) from h4) (fun z17 σ17 F17ₚ A17ₚ Hₚ Oₚ hS17 hA17 pz17_0 pz17_1 => ⟨rfl, ?_⟩))
          refine v_backc (c := c) (s := s) H oz_H2cls_53 oz_H2cls_12 Hₚ Oₚ (fun F17 A17 H Oₚ eF17 eA17 => ?_)
          have O := OUT_trans O Oₚ
          -- Unpacker.blockMost
          have cF17 : SF oz_H2clsl_17 F F17 := SF_trans (cF_c109) (SF_gluc (ι := oz_H2clsl_6) oz_H2cls_12 hS17 eF17 (by decide +kernel)) (any_sub (lₚ := []) (by decide +kernel))
          have mF17 := SFm_of cF17 oz_H2cls_59
          have cA17 : SA oz_H2clsl_12 A A17 := SA_trans (cA_c109) (SA_gluc (ι := oz_H2clsl_6) oz_H2cls_12 hA17 eA17 (by decide +kernel)) (any_subA (lₚ := []) (by decide +kernel))
          have mA17 := SAm_of cA17 oz_H2cls_48
          refine w_icmple (t := 133) rfl rfl (show inr (z16) from q_3639 hzz) (show inr (z17) from pz17_0) (fun b18 => ?_) (fun b18 => ?_)
          · refine Ew_of (pcₚ := 134) (fun _ => x_aload_n rfl (rk_o (lc109_0) rfl rfl)) ?_
            refine Ew_of (pcₚ := 135) (fun _ => x_dup rfl rfl) ?_
            refine v_g H (o := 0) (v := I (u0_9)) rfl rfl rfl rfl rfl (congrArg (fun z : Int => I z) (((((((show F17 0 9 = F_c109 0 9 from (eF17 0 9).trans (hS17 0 9 rfl))).trans (hS_c109 0 9 rfl)).trans ((show F15 0 9 = F_c62 0 9 from (eF15 0 9)))).trans (hS_c62 0 9 rfl)).trans (eu0_9)) : F17 0 9 = u0_9)) ?_
            refine Ew_of (pcₚ := 139) (fun _ => x_iload_n rfl (rk_o (lc109_3) rfl rfl)) ?_
            refine w_iadd rfl ?_
            refine v_p H (o := 0) (z := (u0_9 + tc62_0)) (v := I ((u0_9 + tc62_0))) rfl rfl rfl rfl rfl rfl rfl rfl (show (-2147483648 : Int) ≤ (u0_9 + tc62_0) ∧ (u0_9 + tc62_0) ≤ 2147483647 from q_3640 b14 h0 h1 jc62_0) (fun σ H Oₚ => ?_)
            have O := OUT_trans O Oₚ
            have cFu19 : SF oz_H2clsl_17 F (updF F17 0 9 ((u0_9 + tc62_0))) := SF_upd (cF17) rfl
            have mFu19 := SFm_of cFu19 oz_H2cls_59
            refine Ew_of (pcₚ := 144) (fun _ => x_iload_n rfl (rk_o (lc109_1) rfl rfl)) ?_
            refine Ew_of (pcₚ := 145) (fun _ => x_iconst rfl) ?_
            refine w_iand rfl (show inr (z11) from gz11) (show inr (3) from q_66) (fun z20 gz20 gaz20 gbz20 => ?_)
            have hc154 : ∀ (tc154_0 : Int), ∀ (ls : rO) (σ : rS) (F_c154 : hF) (A_c154 : hA) , rlook ls 0 = some (.ref (D 0)) → rlook ls 4 = some (I (z16)) → HW V244 σ D N F_c154 A_c154 → OUT (V244).length D N σE c s D N σ c s → SF [] (updF F17 0 9 ((u0_9 + tc62_0))) F_c154 → SA [] A17 A_c154 → (inr (tc154_0)) → (((z20) ≠ (0) ∧ (tc154_0) = (0)) ∨ ((z20) = (0) ∧ (tc154_0) = (1))) → Ew 244 (d + 3) 154 ls [I (tc154_0)] σ c s Q := by
             as_aux_lemma =>
              intro tc154_0 ls σ F_c154 A_c154  lc154_0 lc154_4 H O hS_c154 hA_c154     jc154_0 jc154_1
              have cF_c154 : SF oz_H2clsl_17 F F_c154 := SF_trans (cFu19) hS_c154 (any_sub (by decide +kernel))
              have mF_c154 := SFm_of cF_c154 oz_H2cls_59
              have cA_c154 : SA oz_H2clsl_12 A A_c154 := SA_trans (cA17) hA_c154 (any_subA (by decide +kernel))
              have mA_c154 := SAm_of cA_c154 oz_H2cls_48
              refine Ew_of (pcₚ := 156) (fun _ => x_istore rfl) ?_
              refine Ew_of (pcₚ := 158) (fun _ => x_iload rfl rk_s) ?_
              have hc167 : ∀ (tc167_0 : Int), ∀ (ls : rO) (σ : rS) (F_c167 : hF) (A_c167 : hA) , rlook ls 0 = some (.ref (D 0)) → rlook ls 4 = some (I (z16)) → rlook ls 5 = some (I (tc154_0)) → HW V244 σ D N F_c167 A_c167 → OUT (V244).length D N σE c s D N σ c s → SF [] F_c154 F_c167 → SA [] A_c154 A_c167 → (inr (tc167_0)) → (((tc154_0) = (0) ∧ (tc167_0) = (1)) ∨ ((tc154_0) ≠ (0) ∧ (tc167_0) = (z16))) → Ew 244 (d + 3) 167 ls [I (tc167_0)] σ c s Q := by
               as_aux_lemma =>
                intro tc167_0 ls σ F_c167 A_c167  lc167_0 lc167_4 lc167_5 H O hS_c167 hA_c167     jc167_0 jc167_1
                have cF_c167 : SF oz_H2clsl_17 F F_c167 := SF_trans (cF_c154) hS_c167 (any_sub (by decide +kernel))
                have mF_c167 := SFm_of cF_c167 oz_H2cls_59
                have cA_c167 : SA oz_H2clsl_12 A A_c167 := SA_trans (cA_c154) hA_c167 (any_subA (by decide +kernel))
                have mA_c167 := SAm_of cA_c167 oz_H2cls_48
                refine Ew_of (pcₚ := 169) (fun _ => x_istore rfl) ?_
                refine Ew_of (pcₚ := 170) (fun _ => x_aload_n rfl (rk_o (lc167_0) rfl rfl)) ?_
                refine v_g H (o := 0) (v := I (u0_18)) rfl rfl rfl rfl rfl (congrArg (fun z : Int => I z) (((mF_c167 0 18 rfl).trans (eu0_18)) : F_c167 0 18 = u0_18)) ?_
                refine Ew_of (pcₚ := 174) (fun _ => x_aload_n rfl (rk_o (lc167_0) rfl rfl)) ?_
                refine v_g H (o := 0) (v := I ((u0_9 + tc62_0))) rfl rfl rfl rfl rfl (congrArg (fun z : Int => I z) (((hS_c167 0 9 rfl).trans (hS_c154 0 9 rfl)) : F_c167 0 9 = (u0_9 + tc62_0))) ?_
                refine w_isub rfl ?_
                refine Ew_of (pcₚ := 180) (fun _ => x_iload rfl rk_s) ?_
                refine w_icmpge (t := 194) rfl rfl (show inr ((u0_18 - (u0_9 + tc62_0))) from q_3641 b14 h0 h1 jc62_1) (show inr (tc167_0) from jc167_0) (fun b21 => ?_) (fun b21 => ?_)
                · refine Ew_of (pcₚ := 195) (fun _ => x_aload_n rfl (rk_o (lc167_0) rfl rfl)) ?_
                  refine Ew_of (pcₚ := 197) (fun _ => x_iload rfl (rk_o (lc167_4) rfl rfl)) ?_
                  refine v_p H (o := 0) (z := z16) (v := I (z16)) rfl rfl rfl rfl rfl rfl rfl rfl (show (-2147483648 : Int) ≤ z16 ∧ z16 ≤ 2147483647 from q_3642 hzz) (fun σ H Oₚ => ?_)
                  have O := OUT_trans O Oₚ
                  have cFu22 : SF oz_H2clsl_17 F (updF F_c167 0 19 (z16)) := SF_upd (cF_c167) rfl
                  have mFu22 := SFm_of cFu22 oz_H2cls_59
                  have hc248 : ∀ (ls : rO) (σ : rS) (D_c248 N_c248 : Nat → Nat) (c_c248 s_c248 : Nat) (F_c248 : hF) (A_c248 : hA) , rlook ls 0 = some (.ref (D_c248 0)) → rlook ls 6 = some (I (tc167_0)) → HW V244 σ D_c248 N_c248 F_c248 A_c248 → OUT (V244).length D N σE c s D_c248 N_c248 σ c_c248 s_c248 → SD [3] D D_c248 → SD [3] N N_c248 → SF [(2, 0), (2, 1), (2, 2)] (updF F_c167 0 19 (z16)) F_c248 → SA [3] A_c167 A_c248 → F_c248 2 0 = (D_c248 3 : Int) → ∀ mc248_3 : Int, (N_c248 3 : Int) = mc248_3 → ∀ yc248_2_1 : Int, F_c248 2 1 = yc248_2_1 → (0 ≤ (yc248_2_1) ∧ (yc248_2_1) ≤ (mc248_3) ∧ (mc248_3) ≤ 65536) → (((z16) ≤ (mc248_3) ∨ (mc248_3) = 65536)) → Ew 244 (d + 3) 248 ls [] σ c_c248 s_c248 Q := by
                   as_aux_lemma =>
                    intro  ls σ D_c248 N_c248 c_c248 s_c248 F_c248 A_c248  lc248_0 lc248_6 H O hD_c248 hN_c248 hS_c248 hA_c248 pmc248_3 mc248_3 emc248_3 yc248_2_1 eyc248_2_1  jc248_0 jc248_1
                    have cF_c248 : SF oz_H2clsl_17 F F_c248 := SF_trans (cFu22) hS_c248 (any_sub (by decide +kernel))
                    have mF_c248 := SFm_of cF_c248 oz_H2cls_59
                    have cA_c248 : SA oz_H2clsl_12 A A_c248 := SA_trans (cA_c167) hA_c248 (any_subA (by decide +kernel))
                    have mA_c248 := SAm_of cA_c248 oz_H2cls_48
                    have cD_c248 : SD oz_H2clsl_12 D D_c248 := SD_trans (SD_refl) hD_c248 (any_subA (by decide +kernel))
                    have mD_c248 := SDm_of cD_c248 oz_H2cls_48
                    have cN_c248 : SD oz_H2clsl_12 N N_c248 := SD_trans (SD_refl) hN_c248 (any_subA (by decide +kernel))
                    have mN_c248 := SDm_of cN_c248 oz_H2cls_48
                    replace pmc248_3 := HIDm pmc248_3
                    replace emc248_3 := HIDm emc248_3
                    replace eyc248_2_1 := HIDm eyc248_2_1
                    have r23 : (0 : Int) ≤ mc248_3 ∧ mc248_3 ≤ 1000000 := nleE (H.nle 3 (ltn len_V244_oz_H2cls rfl)) (show (N_c248 3 : Int) = mc248_3 from emc248_3)
                    have r24 : (-2147483648 : Int) ≤ yc248_2_1 ∧ yc248_2_1 ≤ 2147483647 := rngE (show (-2147483648 : Int) ≤ F_c248 2 1 ∧ F_c248 2 1 ≤ 2147483647 from H.krg 2 1 (ltn len_V244_oz_H2cls rfl)) (show F_c248 2 1 = yc248_2_1 from (eyc248_2_1))
                    refine Ew_of (pcₚ := 249) (fun _ => x_aload_n rfl lc248_0) ?_
                    refine Ew_of (pcₚ := 250) (fun _ => x_dup rfl rfl) ?_
                    refine v_g H (o := 0) (v := I ((u0_9 + tc62_0))) rfl rfl rfl rfl rfl (congrArg (fun z : Int => I z) ((((hS_c248 0 9 rfl).trans (hS_c167 0 9 rfl)).trans (hS_c154 0 9 rfl)) : F_c248 0 9 = (u0_9 + tc62_0))) ?_
                    refine Ew_of (pcₚ := 255) (fun _ => x_iload rfl lc248_6) ?_
                    refine w_iadd rfl ?_
                    refine v_p H (o := 0) (z := ((u0_9 + tc62_0) + tc167_0)) (v := I (((u0_9 + tc62_0) + tc167_0))) rfl rfl rfl rfl rfl rfl rfl rfl (show (-2147483648 : Int) ≤ ((u0_9 + tc62_0) + tc167_0) ∧ ((u0_9 + tc62_0) + tc167_0) ≤ 2147483647 from q_3643 b21 h0 h1 hzz jc167_1 jc62_0) (fun σ H Oₚ => ?_)
                    have O := OUT_trans O Oₚ
                    have cFu25 : SF oz_H2clsl_17 F (updF F_c248 0 9 (((u0_9 + tc62_0) + tc167_0))) := SF_upd (cF_c248) rfl
                    have mFu25 := SFm_of cFu25 oz_H2cls_59
                    refine Ew_of (pcₚ := 260) (fun _ => x_iconst rfl) ?_
                    exact w_ireturn rfl (k (0) _ _ _ _ _ _ _ H O (cD_c248) (cN_c248) (cFu25) (cA_c248) (pmc248_3) (mc248_3) (emc248_3) (((u0_9 + tc62_0) + tc167_0)) (rfl) (z16) ((hS_c248 0 19 rfl)) (yc248_2_1) ((eyc248_2_1)) (show inr (0) from q_20) (show 0 ≤ (0) ∧ (0) ≤ 17 by first | exact q_3589 | omega) (show 0 ≤ (((u0_9 + tc62_0) + tc167_0)) ∧ (u0_9) ≤ (((u0_9 + tc62_0) + tc167_0)) ∧ (((u0_9 + tc62_0) + tc167_0)) ≤ (u0_8) by omega) (show (((u0_9 + tc62_0) + tc167_0)) ≤ (u0_18) from q_3645 b21) (show 0 ≤ (yc248_2_1) ∧ (yc248_2_1) ≤ (mc248_3) ∧ (mc248_3) ≤ 65536 from jc248_0) (show (0) ≠ 0 ∨ 0 ≤ (z16) ∧ (z16) ≤ 131072 ∧ ((z16) ≤ (mc248_3) ∨ (mc248_3) = 65536) by first | exact q_3644 b18 hzz jc248_1 pz17_1 | omega))
                  refine Ew_of (pcₚ := 202) (fun _ => x_iload rfl (rk_o (lc167_5) rfl rfl)) ?_
                  refine w_ifeq (t := 225) rfl rfl (show inr (tc154_0) from jc154_0) (fun b26 => ?_) (fun b26 => ?_)
                  · refine Ew_of (pcₚ := 226) (fun _ => x_aload_n rfl (rk_o (lc167_0) rfl rfl)) ?_
                    refine v_g H (o := 0) (v := .ref (D 2)) rfl rfl rfl rfl rfl (vrf ((mFu22 0 4 rfl).trans (pf2))) ?_
                    refine Ew_of (pcₚ := 230) (fun _ => x_aload_n rfl (rk_o (lc167_0) rfl rfl)) ?_
                    refine v_g H (o := 0) (v := .ref (D 1)) rfl rfl rfl rfl rfl (vrf ((mFu22 0 7 rfl).trans (pf1))) ?_
                    refine Ew_of (pcₚ := 234) (fun _ => x_aload_n rfl (rk_o (lc167_0) rfl rfl)) ?_
                    refine v_g H (o := 0) (v := I ((u0_9 + tc62_0))) rfl rfl rfl rfl rfl (congrArg (fun z : Int => I z) (((hS_c167 0 9 rfl).trans (hS_c154 0 9 rfl)) : (updF F_c167 0 19 (z16)) 0 9 = (u0_9 + tc62_0))) ?_
                    refine v_lB H (o := 1) rfl rfl rfl rfl (n := n1) (en1) (show 0 ≤ (u0_9 + tc62_0) ∧ (u0_9 + tc62_0) < n1 by omega) (fun v27 ev27 qv27 => ?_)
                    have ev27 : (A 1) ((u0_9 + tc62_0)) = v27 := (congrFun (funext (mA_c167 1 rfl)) ((u0_9 + tc62_0))).symm.trans ev27
                    refine Ew_of (pcₚ := 240) (fun _ => x_iload rfl (rk_o (lc167_4) rfl rfl)) ?_
                    refine Ew_of (pcₚ := 242) (fun _ => x_ldc (z := 65536) rfl (by decide)) ?_
                    refine v_min rfl rfl (show inr (z16) from q_3639 hzz) (show inr (65536) from q_35) (fun z28 gz28 => ?_)
                    refine v_inv H (o := 2) rfl rfl rfl rfl rfl rfl (by rfl) (C162 (D := puc 1538 D) (N := puc 1538 N) (HW_subc H oz_H2cls_54 oz_H2cls_50) ((((((((hS_c167 2 0 rfl).trans (hS_c154 2 0 rfl)).trans ((show F17 2 0 = F_c109 2 0 from (eF17 2 0)))).trans (hS_c109 2 0 rfl)).trans ((show F15 2 0 = F_c62 2 0 from (eF15 2 0)))).trans (hS_c62 2 0 rfl))).trans (pf3)) (n3) (en3) (u2_1) ((((((((hS_c167 2 1 rfl).trans (hS_c154 2 1 rfl)).trans ((show F17 2 1 = F_c109 2 1 from (eF17 2 1)))).trans (hS_c109 2 1 rfl)).trans ((show F15 2 1 = F_c62 2 1 from (eF15 2 1)))).trans (hS_c62 2 1 rfl)).trans (eu2_1))) (show inr (v27) from q_2536 qv27) (show inr (z28) from q_3646 gz28 hzz) (show 0 ≤ (u2_1) ∧ (u2_1) ≤ (n3) ∧ (n3) ≤ 65536 from h2) (fun σ29 D29ₚ N29ₚ F29ₚ A29ₚ c29 s29 Hₚ Oₚ hD29 hN29 hS29 hA29 (pm29_1 : HID _) m29_1 (em29_1 : HID _) y29_0_1 (ey29_0_1 : HID _) pz29_0 pz29_1 => ⟨rfl, ?_⟩))
                    refine v_backMc (c := c) (s := s) H oz_H2cls_54 oz_H2cls_50 Hₚ Oₚ hD29 oz_H2cls_55 (fun D29 N29 F29 A29 H Oₚ eD29 eN29 eF29 eA29 => ?_)
                    have O := OUT_trans O Oₚ
                    -- Row.addSame
                    have cF29 : SF oz_H2clsl_17 F F29 := SF_trans (cFu22) (SF_gluc (ι := oz_H2clsl_16) oz_H2cls_50 hS29 eF29 (by decide +kernel)) (any_sub (lₚ := [(2, 0), (2, 1), (2, 2)]) (by decide +kernel))
                    have mF29 := SFm_of cF29 oz_H2cls_59
                    have cA29 : SA oz_H2clsl_12 A A29 := SA_trans (cA_c167) (SA_gluc (ι := oz_H2clsl_16) oz_H2cls_50 hA29 eA29 (by decide +kernel)) (any_subA (lₚ := [3]) (by decide +kernel))
                    have mA29 := SAm_of cA29 oz_H2cls_48
                    have cD29 : SD oz_H2clsl_12 D D29 := SD_trans (SD_refl) (SD_gluc (ι := oz_H2clsl_16) oz_H2cls_50 hD29 eD29 (by decide +kernel)) (any_subA (lₚ := [3]) (by decide +kernel))
                    have mD29 := SDm_of cD29 oz_H2cls_48
                    have cN29 : SD oz_H2clsl_12 N N29 := SD_trans (SD_refl) (SD_gluc (ι := oz_H2clsl_16) oz_H2cls_50 hN29 eN29 (by decide +kernel)) (any_subA (lₚ := [3]) (by decide +kernel))
                    have mN29 := SDm_of cN29 oz_H2cls_48
                    have pf29_2_0 : HID (F29 2 0 = (D29 3 : Int)) := (eF29 2 0).trans (pm29_1.trans (congrArg (fun q : Nat => (q : Int)) (eD29 3).symm))
                    have r30 : (0 : Int) ≤ m29_1 ∧ m29_1 ≤ 1000000 := nleE (H.nle 3 (ltn len_V244_oz_H2cls rfl)) (show (N29 3 : Int) = m29_1 from (congrArg (fun q : Nat => (q : Int)) (eN29 3)).trans em29_1)
                    have r31 : (-2147483648 : Int) ≤ y29_0_1 ∧ y29_0_1 ≤ 2147483647 := rngE (show (-2147483648 : Int) ≤ F29 2 1 ∧ F29 2 1 ≤ 2147483647 from H.krg 2 1 (ltn len_V244_oz_H2cls rfl)) (show F29 2 1 = y29_0_1 from ((eF29 2 1).trans ey29_0_1))
                    exact hc248  _ _ _ _ _ _ _ _  ((rk_o (lc167_0) rfl rfl).trans (congrArg (fun q : Nat => some (Value.ref q)) (mD29 0 rfl).symm)) (rk_s) H O (SD_trans (SD_refl) (SD_gluc (ι := oz_H2clsl_16) oz_H2cls_50 hD29 eD29 (by decide +kernel)) (any_subA (lₚ := [3]) (by decide +kernel))) (SD_trans (SD_refl) (SD_gluc (ι := oz_H2clsl_16) oz_H2cls_50 hN29 eN29 (by decide +kernel)) (any_subA (lₚ := [3]) (by decide +kernel))) (SF_trans (SF_refl) (SF_gluc (ι := oz_H2clsl_16) oz_H2cls_50 hS29 eF29 (by decide +kernel)) (any_sub (lₚ := [(2, 0), (2, 1), (2, 2)]) (by decide +kernel))) (SA_trans (SA_refl) (SA_gluc (ι := oz_H2clsl_16) oz_H2cls_50 hA29 eA29 (by decide +kernel)) (any_subA (lₚ := [3]) (by decide +kernel))) (pf29_2_0) (m29_1) ((congrArg (fun q : Nat => (q : Int)) (eN29 3)).trans em29_1) (y29_0_1) (((eF29 2 1).trans ey29_0_1))  (show 0 ≤ (y29_0_1) ∧ (y29_0_1) ≤ (m29_1) ∧ (m29_1) ≤ 65536 from pz29_0) (show ((z16) ≤ (m29_1) ∨ (m29_1) = 65536) by omega)
                  · refine Ew_of (pcₚ := 206) (fun _ => x_aload_n rfl (rk_o (lc167_0) rfl rfl)) ?_
                    refine v_g H (o := 0) (v := .ref (D 2)) rfl rfl rfl rfl rfl (vrf ((mFu22 0 4 rfl).trans (pf2))) ?_
                    refine Ew_of (pcₚ := 210) (fun _ => x_aload_n rfl (rk_o (lc167_0) rfl rfl)) ?_
                    refine v_g H (o := 0) (v := .ref (D 1)) rfl rfl rfl rfl rfl (vrf ((mFu22 0 7 rfl).trans (pf1))) ?_
                    refine Ew_of (pcₚ := 214) (fun _ => x_aload_n rfl (rk_o (lc167_0) rfl rfl)) ?_
                    refine v_g H (o := 0) (v := I ((u0_9 + tc62_0))) rfl rfl rfl rfl rfl (congrArg (fun z : Int => I z) (((hS_c167 0 9 rfl).trans (hS_c154 0 9 rfl)) : (updF F_c167 0 19 (z16)) 0 9 = (u0_9 + tc62_0))) ?_
                    refine Ew_of (pcₚ := 219) (fun _ => x_iload rfl (rk_o (lc167_4) rfl rfl)) ?_
                    refine v_inv H (o := 2) rfl rfl rfl rfl rfl rfl (by rfl) (C161_Br (D := puc 786946 D) (N := puc 786946 N) (HW_subc H oz_H2cls_56 oz_H2cls_49) ((((((((hS_c167 2 0 rfl).trans (hS_c154 2 0 rfl)).trans ((show F17 2 0 = F_c109 2 0 from (eF17 2 0)))).trans (hS_c109 2 0 rfl)).trans ((show F15 2 0 = F_c62 2 0 from (eF15 2 0)))).trans (hS_c62 2 0 rfl))).trans (pf3)) (n1) (en1) (n3) (en3) (u2_1) ((((((((hS_c167 2 1 rfl).trans (hS_c154 2 1 rfl)).trans ((show F17 2 1 = F_c109 2 1 from (eF17 2 1)))).trans (hS_c109 2 1 rfl)).trans ((show F15 2 1 = F_c62 2 1 from (eF15 2 1)))).trans (hS_c62 2 1 rfl)).trans (eu2_1))) (A 3) ((funext (hA_c167 3 rfl)).trans ((funext (hA_c154 3 rfl)).trans (((show A17 3 = A_c109 3 from (eA17 3))).trans ((funext (hA_c109 3 rfl)).trans (((show A15 3 = A_c62 3 from (eA15 3))).trans (funext (hA_c62 3 rfl))))))) (show inr ((u0_9 + tc62_0)) from q_3647 b14 h0 h1 jc62_0) (show inr (z16) from q_3639 hzz) (show 0 ≤ (u2_1) ∧ (u2_1) ≤ (n3) ∧ (n3) ≤ 65536 from h2) (show (z16) < 0 ∨ 0 ≤ ((u0_9 + tc62_0)) ∧ ((u0_9 + tc62_0)) + (z16) ≤ (n1) by omega) (fun σ32 D32ₚ N32ₚ F32ₚ A32ₚ c32 s32 Hₚ Oₚ hD32 hN32 hS32 hA32 (pm32_2 : HID _) m32_2 (em32_2 : HID _) y32_0_1 (ey32_0_1 : HID _) w32_2 ew32_2 pz32_0 pz32_1 pz32_2 => ⟨rfl, ?_⟩))
                    refine v_backMc (c := c) (s := s) H oz_H2cls_56 oz_H2cls_49 Hₚ Oₚ hD32 oz_H2cls_57 (fun D32 N32 F32 A32 H Oₚ eD32 eN32 eF32 eA32 => ?_)
                    have O := OUT_trans O Oₚ
                    -- Row.addPart
                    have cF32 : SF oz_H2clsl_17 F F32 := SF_trans (cFu22) (SF_gluc (ι := oz_H2clsl_15) oz_H2cls_49 hS32 eF32 (by decide +kernel)) (any_sub (lₚ := [(2, 0), (2, 1), (2, 2)]) (by decide +kernel))
                    have mF32 := SFm_of cF32 oz_H2cls_59
                    have cA32 : SA oz_H2clsl_12 A A32 := SA_trans (cA_c167) (SA_gluc (ι := oz_H2clsl_15) oz_H2cls_49 hA32 eA32 (by decide +kernel)) (any_subA (lₚ := [3]) (by decide +kernel))
                    have mA32 := SAm_of cA32 oz_H2cls_48
                    have cD32 : SD oz_H2clsl_12 D D32 := SD_trans (SD_refl) (SD_gluc (ι := oz_H2clsl_15) oz_H2cls_49 hD32 eD32 (by decide +kernel)) (any_subA (lₚ := [3]) (by decide +kernel))
                    have mD32 := SDm_of cD32 oz_H2cls_48
                    have cN32 : SD oz_H2clsl_12 N N32 := SD_trans (SD_refl) (SD_gluc (ι := oz_H2clsl_15) oz_H2cls_49 hN32 eN32 (by decide +kernel)) (any_subA (lₚ := [3]) (by decide +kernel))
                    have mN32 := SDm_of cN32 oz_H2cls_48
                    have pf32_2_0 : HID (F32 2 0 = (D32 3 : Int)) := (eF32 2 0).trans (pm32_2.trans (congrArg (fun q : Nat => (q : Int)) (eD32 3).symm))
                    have r33 : (0 : Int) ≤ m32_2 ∧ m32_2 ≤ 1000000 := nleE (H.nle 3 (ltn len_V244_oz_H2cls rfl)) (show (N32 3 : Int) = m32_2 from (congrArg (fun q : Nat => (q : Int)) (eN32 3)).trans em32_2)
                    have r34 : (-2147483648 : Int) ≤ y32_0_1 ∧ y32_0_1 ≤ 2147483647 := rngE (show (-2147483648 : Int) ≤ F32 2 1 ∧ F32 2 1 ≤ 2147483647 from H.krg 2 1 (ltn len_V244_oz_H2cls rfl)) (show F32 2 1 = y32_0_1 from ((eF32 2 1).trans ey32_0_1))
                    refine Ew_of (pcₚ := 248) (fun _ => x_goto rfl rfl) ?_
                    exact hc248  _ _ _ _ _ _ _ _  ((rk_o (lc167_0) rfl rfl).trans (congrArg (fun q : Nat => some (Value.ref q)) (mD32 0 rfl).symm)) (rk_s) H O (SD_trans (SD_refl) (SD_gluc (ι := oz_H2clsl_15) oz_H2cls_49 hD32 eD32 (by decide +kernel)) (any_subA (lₚ := [3]) (by decide +kernel))) (SD_trans (SD_refl) (SD_gluc (ι := oz_H2clsl_15) oz_H2cls_49 hN32 eN32 (by decide +kernel)) (any_subA (lₚ := [3]) (by decide +kernel))) (SF_trans (SF_refl) (SF_gluc (ι := oz_H2clsl_15) oz_H2cls_49 hS32 eF32 (by decide +kernel)) (any_sub (lₚ := [(2, 0), (2, 1), (2, 2)]) (by decide +kernel))) (SA_trans (SA_refl) (SA_gluc (ι := oz_H2clsl_15) oz_H2cls_49 hA32 eA32 (by decide +kernel)) (any_subA (lₚ := [3]) (by decide +kernel))) (pf32_2_0) (m32_2) ((congrArg (fun q : Nat => (q : Int)) (eN32 3)).trans em32_2) (y32_0_1) (((eF32 2 1).trans ey32_0_1))  (show 0 ≤ (y32_0_1) ∧ (y32_0_1) ≤ (m32_2) ∧ (m32_2) ≤ 65536 from pz32_0) (show ((z16) ≤ (m32_2) ∨ (m32_2) = 65536) by omega)
                · refine Ew_of (pcₚ := 184) (fun _ => x_aload_n rfl (rk_o (lc167_0) rfl rfl)) ?_
                  refine Ew_of (pcₚ := 186) (fun _ => x_bipush (z := 10) rfl (by decide)) ?_
                  refine Ew_of (pcₚ := 187) (fun _ => x_aload_n rfl (rk_o (lc167_0) rfl rfl)) ?_
                  refine v_g H (o := 0) (v := I (u0_18)) rfl rfl rfl rfl rfl (congrArg (fun z : Int => I z) (((mF_c167 0 18 rfl).trans (eu0_18)) : F_c167 0 18 = u0_18)) ?_
                  have r35 : (-2147483648 : Int) ≤ F 0 21 ∧ F 0 21 ≤ 2147483647 := rngE (show (-2147483648 : Int) ≤ F_c167 0 21 ∧ F_c167 0 21 ≤ 2147483647 from H.krg 0 21 (ltn len_V244_oz_H2cls rfl)) (show F_c167 0 21 = F 0 21 from ((((((hS_c167 0 21 rfl).trans (hS_c154 0 21 rfl)).trans ((show F17 0 21 = F_c109 0 21 from (eF17 0 21).trans (hS17 0 21 rfl)))).trans (hS_c109 0 21 rfl)).trans ((show F15 0 21 = F_c62 0 21 from (eF15 0 21)))).trans (hS_c62 0 21 rfl)))
                  refine v_inv H (o := 0) rfl rfl rfl rfl rfl rfl (by rfl) (C232 (D := puc 0 D) (N := puc 0 N) (HW_subc H oz_H2cls_58 oz_H2cls_12) (F 0 21) (((((((hS_c167 0 21 rfl).trans (hS_c154 0 21 rfl)).trans ((show F17 0 21 = F_c109 0 21 from (eF17 0 21).trans (hS17 0 21 rfl)))).trans (hS_c109 0 21 rfl)).trans ((show F15 0 21 = F_c62 0 21 from (eF15 0 21)))).trans (hS_c62 0 21 rfl))) (show inr (10) from q_532) (show inr (u0_18) from q_22 r4) (fun z36 σ36 F36ₚ A36ₚ Hₚ Oₚ hS36 hA36 y36_0_21 (ey36_0_21 : HID _) pz36_0 pz36_1 pz36_2 => ⟨rfl, ?_⟩))
                  refine v_backc (c := c) (s := s) H oz_H2cls_58 oz_H2cls_12 Hₚ Oₚ (fun F36 A36 H Oₚ eF36 eA36 => ?_)
                  have O := OUT_trans O Oₚ
                  -- Unpacker.fail
                  have cF36 : SF oz_H2clsl_17 F F36 := SF_trans (cF_c167) (SF_gluc (ι := oz_H2clsl_6) oz_H2cls_12 hS36 eF36 (by decide +kernel)) (any_sub (lₚ := [(0, 21)]) (by decide +kernel))
                  have mF36 := SFm_of cF36 oz_H2cls_59
                  have cA36 : SA oz_H2clsl_12 A A36 := SA_trans (cA_c167) (SA_gluc (ι := oz_H2clsl_6) oz_H2cls_12 hA36 eA36 (by decide +kernel)) (any_subA (lₚ := []) (by decide +kernel))
                  have mA36 := SAm_of cA36 oz_H2cls_48
                  have r37 : (-2147483648 : Int) ≤ y36_0_21 ∧ y36_0_21 ≤ 2147483647 := rngE (show (-2147483648 : Int) ≤ F36 0 21 ∧ F36 0 21 ≤ 2147483647 from H.krg 0 21 (ltn len_V244_oz_H2cls rfl)) (show F36 0 21 = y36_0_21 from ((eF36 0 21).trans ey36_0_21))
                  exact w_ireturn rfl (k (z36) _ _ _ _ _ _ _ H O (SD_refl) (SD_refl) (cF36) (cA36) ((((((((((show F36 2 0 = F_c167 2 0 from (eF36 2 0))).trans (hS_c167 2 0 rfl)).trans (hS_c154 2 0 rfl)).trans ((show F17 2 0 = F_c109 2 0 from (eF17 2 0)))).trans (hS_c109 2 0 rfl)).trans ((show F15 2 0 = F_c62 2 0 from (eF15 2 0)))).trans (hS_c62 2 0 rfl))).trans (pf3)) (n3) (en3) ((u0_9 + tc62_0)) (((((show F36 0 9 = F_c167 0 9 from (eF36 0 9).trans (hS36 0 9 rfl))).trans (hS_c167 0 9 rfl)).trans (hS_c154 0 9 rfl))) (u0_19) ((((((((((show F36 0 19 = F_c167 0 19 from (eF36 0 19).trans (hS36 0 19 rfl))).trans (hS_c167 0 19 rfl)).trans (hS_c154 0 19 rfl)).trans ((show F17 0 19 = F_c109 0 19 from (eF17 0 19).trans (hS17 0 19 rfl)))).trans (hS_c109 0 19 rfl)).trans ((show F15 0 19 = F_c62 0 19 from (eF15 0 19)))).trans (hS_c62 0 19 rfl)).trans (eu0_19))) (u2_1) ((((((((((show F36 2 1 = F_c167 2 1 from (eF36 2 1))).trans (hS_c167 2 1 rfl)).trans (hS_c154 2 1 rfl)).trans ((show F17 2 1 = F_c109 2 1 from (eF17 2 1)))).trans (hS_c109 2 1 rfl)).trans ((show F15 2 1 = F_c62 2 1 from (eF15 2 1)))).trans (hS_c62 2 1 rfl)).trans (eu2_1))) (show inr (z36) from pz36_0) (show 0 ≤ (z36) ∧ (z36) ≤ 17 from q_3651 pz36_1) (show 0 ≤ ((u0_9 + tc62_0)) ∧ (u0_9) ≤ ((u0_9 + tc62_0)) ∧ ((u0_9 + tc62_0)) ≤ (u0_8) from q_3650 b14 h0 h1 jc62_1) (show ((u0_9 + tc62_0)) ≤ (u0_18) from q_3649 b14) (show 0 ≤ (u2_1) ∧ (u2_1) ≤ (n3) ∧ (n3) ≤ 65536 from h2) (show (z36) ≠ 0 ∨ 0 ≤ (u0_19) ∧ (u0_19) ≤ 131072 ∧ ((u0_19) ≤ (n3) ∨ (n3) = 65536) from q_3648 pz36_1))
              refine w_ifeq (t := 166) rfl rfl (show inr (tc154_0) from jc154_0) (fun b38 => ?_) (fun b38 => ?_)
              · refine Ew_of (pcₚ := 167) (fun _ => x_iconst rfl) ?_
                exact hc167 (1) _ _ _ _  (rk_o (lc154_0) rfl rfl) (rk_o (lc154_4) rfl rfl) (rk_s) H O (SF_refl) (SA_refl)     (show inr (1) from q_23) (show ((tc154_0) = (0) ∧ (1) = (1)) ∨ ((tc154_0) ≠ (0) ∧ (1) = (z16)) from q_3652 b38)
              · refine Ew_of (pcₚ := 163) (fun _ => x_iload rfl (rk_o (lc154_4) rfl rfl)) ?_
                refine Ew_of (pcₚ := 167) (fun _ => x_goto rfl rfl) ?_
                exact hc167 (z16) _ _ _ _  (rk_o (lc154_0) rfl rfl) (rk_o (lc154_4) rfl rfl) (rk_s) H O (SF_refl) (SA_refl)     (show inr (z16) from q_3639 hzz) (show ((tc154_0) = (0) ∧ (z16) = (1)) ∨ ((tc154_0) ≠ (0) ∧ (z16) = (z16)) from q_3653 b38)
            refine w_ifne (t := 153) rfl rfl (show inr (z20) from gz20) (fun b39 => ?_) (fun b39 => ?_)
            · refine Ew_of (pcₚ := 154) (fun _ => x_iconst rfl) ?_
              exact hc154 (0) _ _ _ _  (rk_o (lc109_0) rfl rfl) (rk_s) H O (SF_refl) (SA_refl)     (show inr (0) from q_20) (show ((z20) ≠ (0) ∧ (0) = (0)) ∨ ((z20) = (0) ∧ (0) = (1)) from q_1808 b39)
            · refine Ew_of (pcₚ := 150) (fun _ => x_iconst rfl) ?_
              refine Ew_of (pcₚ := 154) (fun _ => x_goto rfl rfl) ?_
              exact hc154 (1) _ _ _ _  (rk_o (lc109_0) rfl rfl) (rk_s) H O (SF_refl) (SA_refl)     (show inr (1) from q_23) (show ((z20) ≠ (0) ∧ (1) = (0)) ∨ ((z20) = (0) ∧ (1) = (1)) from q_1809 b39)
          · refine Ew_of (pcₚ := 123) (fun _ => x_aload_n rfl (rk_o (lc109_0) rfl rfl)) ?_
            refine Ew_of (pcₚ := 125) (fun _ => x_bipush (z := 11) rfl (by decide)) ?_
            refine Ew_of (pcₚ := 126) (fun _ => x_aload_n rfl (rk_o (lc109_0) rfl rfl)) ?_
            refine v_g H (o := 0) (v := I (u0_9)) rfl rfl rfl rfl rfl (congrArg (fun z : Int => I z) (((((((show F17 0 9 = F_c109 0 9 from (eF17 0 9).trans (hS17 0 9 rfl))).trans (hS_c109 0 9 rfl)).trans ((show F15 0 9 = F_c62 0 9 from (eF15 0 9)))).trans (hS_c62 0 9 rfl)).trans (eu0_9)) : F17 0 9 = u0_9)) ?_
            have r40 : (-2147483648 : Int) ≤ F 0 21 ∧ F 0 21 ≤ 2147483647 := rngE (show (-2147483648 : Int) ≤ F17 0 21 ∧ F17 0 21 ≤ 2147483647 from H.krg 0 21 (ltn len_V244_oz_H2cls rfl)) (show F17 0 21 = F 0 21 from (((((show F17 0 21 = F_c109 0 21 from (eF17 0 21).trans (hS17 0 21 rfl))).trans (hS_c109 0 21 rfl)).trans ((show F15 0 21 = F_c62 0 21 from (eF15 0 21)))).trans (hS_c62 0 21 rfl)))
            refine v_inv H (o := 0) rfl rfl rfl rfl rfl rfl (by rfl) (C232 (D := puc 0 D) (N := puc 0 N) (HW_subc H oz_H2cls_58 oz_H2cls_12) (F 0 21) ((((((show F17 0 21 = F_c109 0 21 from (eF17 0 21).trans (hS17 0 21 rfl))).trans (hS_c109 0 21 rfl)).trans ((show F15 0 21 = F_c62 0 21 from (eF15 0 21)))).trans (hS_c62 0 21 rfl))) (show inr (11) from q_67) (show inr (u0_9) from q_3585 h0) (fun z41 σ41 F41ₚ A41ₚ Hₚ Oₚ hS41 hA41 y41_0_21 (ey41_0_21 : HID _) pz41_0 pz41_1 pz41_2 => ⟨rfl, ?_⟩))
            refine v_backc (c := c) (s := s) H oz_H2cls_58 oz_H2cls_12 Hₚ Oₚ (fun F41 A41 H Oₚ eF41 eA41 => ?_)
            have O := OUT_trans O Oₚ
            -- Unpacker.fail
            have cF41 : SF oz_H2clsl_17 F F41 := SF_trans (cF17) (SF_gluc (ι := oz_H2clsl_6) oz_H2cls_12 hS41 eF41 (by decide +kernel)) (any_sub (lₚ := [(0, 21)]) (by decide +kernel))
            have mF41 := SFm_of cF41 oz_H2cls_59
            have cA41 : SA oz_H2clsl_12 A A41 := SA_trans (cA17) (SA_gluc (ι := oz_H2clsl_6) oz_H2cls_12 hA41 eA41 (by decide +kernel)) (any_subA (lₚ := []) (by decide +kernel))
            have mA41 := SAm_of cA41 oz_H2cls_48
            have r42 : (-2147483648 : Int) ≤ y41_0_21 ∧ y41_0_21 ≤ 2147483647 := rngE (show (-2147483648 : Int) ≤ F41 0 21 ∧ F41 0 21 ≤ 2147483647 from H.krg 0 21 (ltn len_V244_oz_H2cls rfl)) (show F41 0 21 = y41_0_21 from ((eF41 0 21).trans ey41_0_21))
            exact w_ireturn rfl (k (z41) _ _ _ _ _ _ _ H O (SD_refl) (SD_refl) (cF41) (cA41) ((((((((show F41 2 0 = F17 2 0 from (eF41 2 0))).trans ((show F17 2 0 = F_c109 2 0 from (eF17 2 0)))).trans (hS_c109 2 0 rfl)).trans ((show F15 2 0 = F_c62 2 0 from (eF15 2 0)))).trans (hS_c62 2 0 rfl))).trans (pf3)) (n3) (en3) (u0_9) ((((((((show F41 0 9 = F17 0 9 from (eF41 0 9).trans (hS41 0 9 rfl))).trans ((show F17 0 9 = F_c109 0 9 from (eF17 0 9).trans (hS17 0 9 rfl)))).trans (hS_c109 0 9 rfl)).trans ((show F15 0 9 = F_c62 0 9 from (eF15 0 9)))).trans (hS_c62 0 9 rfl)).trans (eu0_9))) (u0_19) ((((((((show F41 0 19 = F17 0 19 from (eF41 0 19).trans (hS41 0 19 rfl))).trans ((show F17 0 19 = F_c109 0 19 from (eF17 0 19).trans (hS17 0 19 rfl)))).trans (hS_c109 0 19 rfl)).trans ((show F15 0 19 = F_c62 0 19 from (eF15 0 19)))).trans (hS_c62 0 19 rfl)).trans (eu0_19))) (u2_1) ((((((((show F41 2 1 = F17 2 1 from (eF41 2 1))).trans ((show F17 2 1 = F_c109 2 1 from (eF17 2 1)))).trans (hS_c109 2 1 rfl)).trans ((show F15 2 1 = F_c62 2 1 from (eF15 2 1)))).trans (hS_c62 2 1 rfl)).trans (eu2_1))) (show inr (z41) from pz41_0) (show 0 ≤ (z41) ∧ (z41) ≤ 17 from q_3655 pz41_1) (show 0 ≤ (u0_9) ∧ (u0_9) ≤ (u0_9) ∧ (u0_9) ≤ (u0_8) from q_3590 h0) (show (u0_9) ≤ (u0_18) from q_1468 h1) (show 0 ≤ (u2_1) ∧ (u2_1) ≤ (n3) ∧ (n3) ≤ 65536 from h2) (show (z41) ≠ 0 ∨ 0 ≤ (u0_19) ∧ (u0_19) ≤ 131072 ∧ ((u0_19) ≤ (n3) ∨ (n3) = 65536) from q_3654 pz41_1))
        refine w_icmpne (t := 108) rfl rfl (show inr (tc62_0) from jc62_0) (show inr (1) from q_23) (fun b43 => ?_) (fun b43 => ?_)
        · refine Ew_of (pcₚ := 109) (fun _ => x_iconst rfl) ?_
          exact hc109 (4) _ _ _ _  (rk_o (lc62_0) rfl rfl) (rk_o (lc62_1) rfl rfl) (rk_s) H O (SF_refl) (SA_refl)     (show inr (4) from q_2) (show ((tc62_0) ≠ (1) ∧ (4) = (4)) ∨ ((tc62_0) = (1) ∧ (4) = (3)) from q_3656 b43)
        · refine Ew_of (pcₚ := 105) (fun _ => x_iconst rfl) ?_
          refine Ew_of (pcₚ := 109) (fun _ => x_goto rfl rfl) ?_
          exact hc109 (3) _ _ _ _  (rk_o (lc62_0) rfl rfl) (rk_o (lc62_1) rfl rfl) (rk_s) H O (SF_refl) (SA_refl)     (show inr (3) from q_66) (show ((tc62_0) ≠ (1) ∧ (3) = (4)) ∨ ((tc62_0) = (1) ∧ (3) = (3)) from q_3657 b43)
      · refine Ew_of (pcₚ := 77) (fun _ => x_aload_n rfl (rk_o (lc62_0) rfl rfl)) ?_
        refine Ew_of (pcₚ := 79) (fun _ => x_bipush (z := 10) rfl (by decide)) ?_
        refine Ew_of (pcₚ := 80) (fun _ => x_aload_n rfl (rk_o (lc62_0) rfl rfl)) ?_
        refine v_g H (o := 0) (v := I (u0_18)) rfl rfl rfl rfl rfl (congrArg (fun z : Int => I z) (((mF_c62 0 18 rfl).trans (eu0_18)) : F_c62 0 18 = u0_18)) ?_
        have r44 : (-2147483648 : Int) ≤ F 0 21 ∧ F 0 21 ≤ 2147483647 := rngE (show (-2147483648 : Int) ≤ F_c62 0 21 ∧ F_c62 0 21 ≤ 2147483647 from H.krg 0 21 (ltn len_V244_oz_H2cls rfl)) (show F_c62 0 21 = F 0 21 from (hS_c62 0 21 rfl))
        refine v_inv H (o := 0) rfl rfl rfl rfl rfl rfl (by rfl) (C232 (D := puc 0 D) (N := puc 0 N) (HW_subc H oz_H2cls_58 oz_H2cls_12) (F 0 21) ((hS_c62 0 21 rfl)) (show inr (10) from q_532) (show inr (u0_18) from q_22 r4) (fun z45 σ45 F45ₚ A45ₚ Hₚ Oₚ hS45 hA45 y45_0_21 (ey45_0_21 : HID _) pz45_0 pz45_1 pz45_2 => ⟨rfl, ?_⟩))
        refine v_backc (c := c) (s := s) H oz_H2cls_58 oz_H2cls_12 Hₚ Oₚ (fun F45 A45 H Oₚ eF45 eA45 => ?_)
        have O := OUT_trans O Oₚ
        -- Unpacker.fail
        have cF45 : SF oz_H2clsl_17 F F45 := SF_trans (cF_c62) (SF_gluc (ι := oz_H2clsl_6) oz_H2cls_12 hS45 eF45 (by decide +kernel)) (any_sub (lₚ := [(0, 21)]) (by decide +kernel))
        have mF45 := SFm_of cF45 oz_H2cls_59
        have cA45 : SA oz_H2clsl_12 A A45 := SA_trans (cA_c62) (SA_gluc (ι := oz_H2clsl_6) oz_H2cls_12 hA45 eA45 (by decide +kernel)) (any_subA (lₚ := []) (by decide +kernel))
        have mA45 := SAm_of cA45 oz_H2cls_48
        have r46 : (-2147483648 : Int) ≤ y45_0_21 ∧ y45_0_21 ≤ 2147483647 := rngE (show (-2147483648 : Int) ≤ F45 0 21 ∧ F45 0 21 ≤ 2147483647 from H.krg 0 21 (ltn len_V244_oz_H2cls rfl)) (show F45 0 21 = y45_0_21 from ((eF45 0 21).trans ey45_0_21))
        exact w_ireturn rfl (k (z45) _ _ _ _ _ _ _ H O (SD_refl) (SD_refl) (cF45) (cA45) (((((show F45 2 0 = F_c62 2 0 from (eF45 2 0))).trans (hS_c62 2 0 rfl))).trans (pf3)) (n3) (en3) (u0_9) (((((show F45 0 9 = F_c62 0 9 from (eF45 0 9).trans (hS45 0 9 rfl))).trans (hS_c62 0 9 rfl)).trans (eu0_9))) (u0_19) (((((show F45 0 19 = F_c62 0 19 from (eF45 0 19).trans (hS45 0 19 rfl))).trans (hS_c62 0 19 rfl)).trans (eu0_19))) (u2_1) (((((show F45 2 1 = F_c62 2 1 from (eF45 2 1))).trans (hS_c62 2 1 rfl)).trans (eu2_1))) (show inr (z45) from pz45_0) (show 0 ≤ (z45) ∧ (z45) ≤ 17 from q_3651 pz45_1) (show 0 ≤ (u0_9) ∧ (u0_9) ≤ (u0_9) ∧ (u0_9) ≤ (u0_8) from q_3590 h0) (show (u0_9) ≤ (u0_18) from q_1468 h1) (show 0 ≤ (u2_1) ∧ (u2_1) ≤ (n3) ∧ (n3) ≤ 65536 from h2) (show (z45) ≠ 0 ∨ 0 ≤ (u0_19) ∧ (u0_19) ≤ 131072 ∧ ((u0_19) ≤ (n3) ∨ (n3) = 65536) from q_3648 pz45_1))
    refine w_ifne (t := 52) rfl rfl (show inr ((z13 % 2)) from q_1225) (fun b47 => ?_) (fun b47 => ?_)
    · refine Ew_of (pcₚ := 53) (fun _ => x_iload_n rfl rk_s) ?_
      refine Ew_of (pcₚ := 54) (fun _ => x_iconst rfl) ?_
      refine w_icmpne (t := 61) rfl rfl (show inr (z13) from gz13) (show inr (1) from q_23) (fun b48 => ?_) (fun b48 => ?_)
      · refine Ew_of (pcₚ := 62) (fun _ => x_iconst rfl) ?_
        exact hc62 (3) _ _ _ _  (rk_o (rk_o (rfl) rfl rfl) rfl rfl) (rk_o (rk_s) rfl rfl) H O (SF_refl) (SA_refl)     (show inr (3) from q_66) (show (((z13 % 2)) ≠ (0) ∧ (z13) ≠ (1) ∧ (3) = (3)) ∨ (((z13 % 2)) ≠ (0) ∧ (z13) = (1) ∧ (3) = (2)) ∨ (((z13 % 2)) = (0) ∧ (3) = (1)) from q_3658 b47 b48)
      · refine Ew_of (pcₚ := 58) (fun _ => x_iconst rfl) ?_
        refine Ew_of (pcₚ := 62) (fun _ => x_goto rfl rfl) ?_
        exact hc62 (2) _ _ _ _  (rk_o (rk_o (rfl) rfl rfl) rfl rfl) (rk_o (rk_s) rfl rfl) H O (SF_refl) (SA_refl)     (show inr (2) from q_55) (show (((z13 % 2)) ≠ (0) ∧ (z13) ≠ (1) ∧ (2) = (3)) ∨ (((z13 % 2)) ≠ (0) ∧ (z13) = (1) ∧ (2) = (2)) ∨ (((z13 % 2)) = (0) ∧ (2) = (1)) from q_3659 b47 b48)
    · refine Ew_of (pcₚ := 49) (fun _ => x_iconst rfl) ?_
      refine Ew_of (pcₚ := 62) (fun _ => x_goto rfl rfl) ?_
      exact hc62 (1) _ _ _ _  (rk_o (rk_o (rfl) rfl rfl) rfl rfl) (rk_o (rk_s) rfl rfl) H O (SF_refl) (SA_refl)     (show inr (1) from q_23) (show (((z13 % 2)) ≠ (0) ∧ (z13) ≠ (1) ∧ (1) = (3)) ∨ (((z13 % 2)) ≠ (0) ∧ (z13) = (1) ∧ (1) = (2)) ∨ (((z13 % 2)) = (0) ∧ (1) = (1)) from q_3660 b47)
  · refine Ew_of (pcₚ := 12) (fun _ => x_aload_n rfl rfl) ?_
    refine Ew_of (pcₚ := 14) (fun _ => x_bipush (z := 10) rfl (by decide)) ?_
    refine Ew_of (pcₚ := 15) (fun _ => x_aload_n rfl rfl) ?_
    refine v_g H (o := 0) (v := I (u0_18)) rfl rfl rfl rfl rfl (congrArg (fun z : Int => I z) ((eu0_18) : F 0 18 = u0_18)) ?_
    have r49 : (-2147483648 : Int) ≤ F 0 21 ∧ F 0 21 ≤ 2147483647 := H.krg 0 21 (ltn len_V244_oz_H2cls rfl)
    refine v_inv H (o := 0) rfl rfl rfl rfl rfl rfl (by rfl) (C232 (D := puc 0 D) (N := puc 0 N) (HW_subc H oz_H2cls_58 oz_H2cls_12) (F 0 21) (rfl) (show inr (10) from q_532) (show inr (u0_18) from q_22 r4) (fun z50 σ50 F50ₚ A50ₚ Hₚ Oₚ hS50 hA50 y50_0_21 (ey50_0_21 : HID _) pz50_0 pz50_1 pz50_2 => ⟨rfl, ?_⟩))
    refine v_backc (c := c) (s := s) H oz_H2cls_58 oz_H2cls_12 Hₚ Oₚ (fun F50 A50 H Oₚ eF50 eA50 => ?_)
    have O := OUT_trans O Oₚ
    -- Unpacker.fail
    have cF50 : SF oz_H2clsl_17 F F50 := SF_trans (SF_refl) (SF_gluc (ι := oz_H2clsl_6) oz_H2cls_12 hS50 eF50 (by decide +kernel)) (any_sub (lₚ := [(0, 21)]) (by decide +kernel))
    have mF50 := SFm_of cF50 oz_H2cls_59
    have cA50 : SA oz_H2clsl_12 A A50 := SA_trans (SA_refl) (SA_gluc (ι := oz_H2clsl_6) oz_H2cls_12 hA50 eA50 (by decide +kernel)) (any_subA (lₚ := []) (by decide +kernel))
    have mA50 := SAm_of cA50 oz_H2cls_48
    have r51 : (-2147483648 : Int) ≤ y50_0_21 ∧ y50_0_21 ≤ 2147483647 := rngE (show (-2147483648 : Int) ≤ F50 0 21 ∧ F50 0 21 ≤ 2147483647 from H.krg 0 21 (ltn len_V244_oz_H2cls rfl)) (show F50 0 21 = y50_0_21 from ((eF50 0 21).trans ey50_0_21))
    exact w_ireturn rfl (k (z50) _ _ _ _ _ _ _ H O (SD_refl) (SD_refl) (cF50) (cA50) ((((show F50 2 0 = F 2 0 from (eF50 2 0)))).trans (pf3)) (n3) (en3) (u0_9) ((((show F50 0 9 = F 0 9 from (eF50 0 9).trans (hS50 0 9 rfl))).trans (eu0_9))) (u0_19) ((((show F50 0 19 = F 0 19 from (eF50 0 19).trans (hS50 0 19 rfl))).trans (eu0_19))) (u2_1) ((((show F50 2 1 = F 2 1 from (eF50 2 1))).trans (eu2_1))) (show inr (z50) from pz50_0) (show 0 ≤ (z50) ∧ (z50) ≤ 17 from q_3651 pz50_1) (show 0 ≤ (u0_9) ∧ (u0_9) ≤ (u0_9) ∧ (u0_9) ≤ (u0_8) from q_3590 h0) (show (u0_9) ≤ (u0_18) from q_1468 h1) (show 0 ≤ (u2_1) ∧ (u2_1) ≤ (n3) ∧ (n3) ≤ 65536 from h2) (show (z50) ≠ 0 ∨ 0 ≤ (u0_19) ∧ (u0_19) ≤ 131072 ∧ ((u0_19) ≤ (n3) ∨ (n3) = 65536) from q_3648 pz50_1))
