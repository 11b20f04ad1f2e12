abbrev V232 : vV := [(0, 12, [(4, 0), (4, 0), (4, 0), (4, 0), (4, 0), (4, 0), (4, 0), (4, 0), (0, 0), (0, 0), (4, 0), (0, 0), (4, 0), (4, 0), (0, 0), (2, 0), (0, 0), (0, 0), (0, 0), (0, 0), (0, 0), (0, 0)])]
theorem len_V232_oz_H2cls : (V232).length = 1 := by decide +kernel
def oz_H2clsl_0 : List (Nat × Nat) := [(0, 21)]
theorem oz_H2cls_1 : (oz_H2clsl_0).all (fun p => !tbz 2097152 (Nat.add (Nat.mul 32 p.1) p.2)) = true := by decide +kernel

theorem C232 {σE : rS} {D N : Nat → Nat} {F : hF} {A : hA} {d c s : Nat} {Q : wQ} (H : HW V232 σE D N F A) {a1 a2 : Int} (u0_21 : Int) (eu0_21 : HID (F 0 21 = u0_21)) (h0 : inr (a1)) (h1 : inr (a2)) (k : ∀ (z : Int) (σ : rS) (Fₚ : hF) (Aₚ : hA), HW V232 σ D N Fₚ Aₚ → OUT (V232).length D N σE c s D N σ c s → SF [(0, 21)] F Fₚ → SA [] A Aₚ → ∀ y0_21 : Int, Fₚ 0 21 = y0_21 → (inr (z)) → ((z) = (a1)) → ((y0_21) = (a2)) → Q (some (I z)) σ c s) : Ew 232 (d + 0) 0 (rargs 0 [.ref (D 0), I a1, I a2]) [] σE c s Q := by
  have O := OUT_refl (n := (V232).length) (D := D) (N := N) (σ := σE) (c := c) (s := s)
  have HE := H
  have r1 : (-2147483648 : Int) ≤ u0_21 ∧ u0_21 ≤ 2147483647 := rngE (show (-2147483648 : Int) ≤ F 0 21 ∧ F 0 21 ≤ 2147483647 from H.krg 0 21 (ltn len_V232_oz_H2cls rfl)) (show F 0 21 = u0_21 from (eu0_21))
  refine Ew_of (pcₚ := 1) (fun _ => x_aload_n rfl rfl) ?_
  refine Ew_of (pcₚ := 2) (fun _ => x_iload_n rfl rfl) ?_
  refine v_p H (o := 0) (z := a2) (v := I (a2)) rfl rfl rfl rfl rfl rfl rfl rfl (show (-2147483648 : Int) ≤ a2 ∧ a2 ≤ 2147483647 from q_31 h1) (fun σ H Oₚ => ?_)
  have O := OUT_trans O Oₚ
  have cFu2 : SF oz_H2clsl_0 F (updF F 0 21 (a2)) := SF_upd (SF_refl) rfl
  have mFu2 := SFm_of cFu2 oz_H2cls_1
  refine Ew_of (pcₚ := 6) (fun _ => x_iload_n rfl rfl) ?_
  exact w_ireturn rfl (k (a1) _ _ _ H O (cFu2) (SA_refl) (a2) (rfl) (show inr (a1) from h0) (show (a1) = a1 from q_303) (show (a2) = a2 from q_303))
abbrev V234 : vV := [(0, 12, [(4, 0), (4, 0), (4, 0), (4, 0), (4, 0), (4, 0), (4, 0), (4, 0), (0, 0), (0, 0), (4, 0), (0, 0), (4, 0), (4, 0), (0, 0), (2, 0), (0, 0), (0, 0), (0, 0), (0, 0), (0, 0), (0, 0)])]
theorem len_V234_oz_H2cls : (V234).length = 1 := by decide +kernel

theorem C234 {σE : rS} {D N : Nat → Nat} {F : hF} {A : hA} {d c s : Nat} {Q : wQ} (H : HW V234 σE D N F A)  (u0_15 : Int) (eu0_15 : HID (F 0 15 = u0_15)) (h0 : 0 ≤ (u0_15)) (k : ∀ (z : Int) (σ : rS) (Fₚ : hF) (Aₚ : hA), HW V234 σ D N Fₚ Aₚ → OUT (V234).length D N σE c s D N σ c s → SF [] F Fₚ → SA [] A Aₚ → (inr (z)) → (0 ≤ (z) ∧ (z) ≤ 131072) → ((z) = moF ((u0_15))) → Q (some (I z)) σ c s) : Ew 234 (d + 0) 0 (rargs 0 [.ref (D 0)]) [] σE c s Q := by
  have O := OUT_refl (n := (V234).length) (D := D) (N := N) (σ := σE) (c := c) (s := s)
  have HE := H
  have r1 : (-9223372036854775808 : Int) ≤ u0_15 ∧ u0_15 ≤ 9223372036854775807 := rngE (show (-9223372036854775808 : Int) ≤ F 0 15 ∧ F 0 15 ≤ 9223372036854775807 from H.krg 0 15 (ltn len_V234_oz_H2cls rfl)) (show F 0 15 = u0_15 from (eu0_15))
  have hmo := moF_eq ((u0_15))
  refine Ew_of (pcₚ := 1) (fun _ => x_aload_n rfl rfl) ?_
  refine v_g H (o := 0) (v := J (u0_15)) rfl rfl rfl rfl rfl (congrArg (fun z : Int => J z) ((eu0_15) : F 0 15 = u0_15)) ?_
  refine Ew_of (pcₚ := 7) (fun _ => x_ldc2 (z := 131072) rfl (by decide)) ?_
  refine w_lcmp rfl (show inrJ (u0_15) by omega) (show inrJ (131072) from q_1878) (fun z2 gz2 gaz2 gbz2 => ?_)
  refine w_ifge (t := 19) rfl rfl (show inr (z2) from gz2) (fun b3 => ?_) (fun b3 => ?_)
  · refine Ew_of (pcₚ := 21) (fun _ => x_ldc (z := 131072) rfl (by decide)) ?_
    exact w_ireturn rfl (k (131072) _ _ _ H O (SF_refl) (SA_refl) (show inr (131072) from q_1877) (show 0 ≤ (131072) ∧ (131072) ≤ 131072 by first | exact q_3937 | omega) (show (131072) = moF ((u0_15)) by omega))
  · refine Ew_of (pcₚ := 12) (fun _ => x_aload_n rfl rfl) ?_
    refine v_g H (o := 0) (v := J (u0_15)) rfl rfl rfl rfl rfl (congrArg (fun z : Int => J z) ((eu0_15) : F 0 15 = u0_15)) ?_
    refine w_l2i rfl ?_
    refine Ew_of (pcₚ := 21) (fun _ => x_goto rfl rfl) ?_
    exact w_ireturn rfl (k (u0_15) _ _ _ H O (SF_refl) (SA_refl) (show inr (u0_15) by omega) (show 0 ≤ (u0_15) ∧ (u0_15) ≤ 131072 by omega) (show (u0_15) = moF ((u0_15)) by omega))
abbrev V236 : vV := [(0, 12, [(4, 0), (4, 0), (4, 0), (4, 0), (4, 0), (4, 0), (4, 0), (4, 0), (0, 0), (0, 0), (4, 0), (0, 0), (4, 0), (4, 0), (0, 0), (2, 0), (0, 0), (0, 0), (0, 0), (0, 0), (0, 0), (0, 0)]), (1, 1, [])]
theorem len_V236_oz_H2cls : (V236).length = 2 := by decide +kernel
def oz_H2clsl_1 : List (Nat × Nat) := [(0, 15)]
theorem oz_H2cls_4 : (oz_H2clsl_1).all (fun p => !tbz 32768 (Nat.add (Nat.mul 32 p.1) p.2)) = true := by decide +kernel
def oz_H2clsl_2 : List Nat := [1]
theorem oz_H2cls_5 : (oz_H2clsl_2).all (fun p => !tbz 2 p) = true := by decide +kernel

theorem C236 {σE : rS} {D N : Nat → Nat} {F : hF} {A : hA} {d c s : Nat} {Q : wQ} (H : HW V236 σE D N F A) {a1 : Int} (pf1 : HID (F 0 13 = (D 1 : Int))) (n1 : Int) (en1 : HID ((N 1 : Int) = n1)) (u0_15 : Int) (eu0_15 : HID (F 0 15 = u0_15)) (w1 : Int → Int) (ew1 : A 1 = w1) (h0 : inrJ (a1)) (h1 : (n1) = 5) (k : ∀ (σ : rS) (Fₚ : hF) (Aₚ : hA), HW V236 σ D N Fₚ Aₚ → OUT (V236).length D N σE c s D N σ c s → SF [(0, 15)] F Fₚ → SA [1] A Aₚ → ∀ y0_15 : Int, Fₚ 0 15 = y0_15 → ∀ v1 : Int → Int, Aₚ 1 = v1 → (0 ≤ (y0_15)) → ((y0_15) = wnF ((a1))) → (((v1)) 4 = tdF (wnF ((a1)))) → (((v1)) 0 = ((w1)) 0) → (((v1)) 1 = ((w1)) 1) → (((v1)) 2 = ((w1)) 2) → (((v1)) 3 = ((w1)) 3) → Q none σ c s) : Ew 236 (d + 0) 0 (rargs 0 [.ref (D 0), J a1]) [] σE c s Q := by
  have O := OUT_refl (n := (V236).length) (D := D) (N := N) (σ := σE) (c := c) (s := s)
  have HE := H
  have r1 : (-9223372036854775808 : Int) ≤ u0_15 ∧ u0_15 ≤ 9223372036854775807 := rngE (show (-9223372036854775808 : Int) ≤ F 0 15 ∧ F 0 15 ≤ 9223372036854775807 from H.krg 0 15 (ltn len_V236_oz_H2cls rfl)) (show F 0 15 = u0_15 from (eu0_15))
  have r2 : (0 : Int) ≤ n1 ∧ n1 ≤ 1000000 := nleE (H.nle 1 (ltn len_V236_oz_H2cls rfl)) (show (N 1 : Int) = n1 from en1)
  have hwf := wnF_eq ((a1))
  have htd := tdF_eq (wnF ((a1)))
  refine Ew_of (pcₚ := 1) (fun _ => x_aload_n rfl rfl) ?_
  refine Ew_of (pcₚ := 2) (fun _ => x_lload_n rfl rfl) ?_
  refine Ew_of (pcₚ := 3) (fun _ => x_lconst (z := 0) rfl (by decide)) ?_
  refine w_lcmp rfl (show inrJ (a1) from h0) (show inrJ (0) from q_340) (fun z3 gz3 gaz3 gbz3 => ?_)
  have hc14 : ∀ (tc14_0 : Int), ∀ (ls : rO) (σ : rS) (F_c14 : hF) (A_c14 : hA) , rlook ls 0 = some (.ref (D 0)) → HW V236 σ D N F_c14 A_c14 → OUT (V236).length D N σE c s D N σ c s → SF [] F F_c14 → SA [] A A_c14 → (inrJ (tc14_0)) → (((z3) ≥ (0) ∧ (tc14_0) = (a1)) ∨ ((z3) < (0) ∧ (tc14_0) = (4611686018427387904))) → Ew 236 (d + 0) 14 ls [J (tc14_0), .ref (D 0)] σ c s Q := by
   as_aux_lemma =>
    intro tc14_0 ls σ F_c14 A_c14  lc14_0 H O hS_c14 hA_c14     jc14_0 jc14_1
    have cF_c14 : SF oz_H2clsl_1 F F_c14 := SF_trans (SF_refl) hS_c14 (any_sub (by decide +kernel))
    have mF_c14 := SFm_of cF_c14 oz_H2cls_4
    have cA_c14 : SA oz_H2clsl_2 A A_c14 := SA_trans (SA_refl) hA_c14 (any_subA (by decide +kernel))
    have mA_c14 := SAm_of cA_c14 oz_H2cls_5
    refine v_p H (o := 0) (z := tc14_0) (v := J (tc14_0)) rfl rfl rfl rfl rfl rfl rfl rfl (show (-9223372036854775808 : Int) ≤ tc14_0 ∧ tc14_0 ≤ 9223372036854775807 by omega) (fun σ H Oₚ => ?_)
    have O := OUT_trans O Oₚ
    have cFu4 : SF oz_H2clsl_1 F (updF F_c14 0 15 (tc14_0)) := SF_upd (cF_c14) rfl
    have mFu4 := SFm_of cFu4 oz_H2cls_4
    refine Ew_of (pcₚ := 18) (fun _ => x_aload_n rfl lc14_0) ?_
    refine v_g H (o := 0) (v := .ref (D 1)) rfl rfl rfl rfl rfl (vrf ((mFu4 0 13 rfl).trans (pf1))) ?_
    refine Ew_of (pcₚ := 22) (fun _ => x_iconst rfl) ?_
    refine Ew_of (pcₚ := 23) (fun _ => x_aload_n rfl lc14_0) ?_
    refine v_g H (o := 0) (v := J (tc14_0)) rfl rfl rfl rfl rfl (congrArg (fun z : Int => J z) (rfl : (updF F_c14 0 15 (tc14_0)) 0 15 = tc14_0)) ?_
    refine Ew_of (pcₚ := 29) (fun _ => x_ldc2 (z := 2147483647) rfl (by decide)) ?_
    refine w_lcmp rfl (show inrJ (tc14_0) from jc14_0) (show inrJ (2147483647) from q_1498) (fun z5 gz5 gaz5 gbz5 => ?_)
    refine w_ifge (t := 41) rfl rfl (show inr (z5) from gz5) (fun b6 => ?_) (fun b6 => ?_)
    · refine Ew_of (pcₚ := 43) (fun _ => x_ldc (z := 2147483647) rfl (by decide)) ?_
      refine v_sI H (o := 1) (z := 2147483647) rfl rfl rfl rfl (n := n1) (en1) (show 0 ≤ 4 ∧ 4 < n1 from q_3938 h1) (show inr (2147483647) from q_3318) (fun σ H Oₚ => ?_)
      have O := OUT_trans O Oₚ
      have cAu7 : SA oz_H2clsl_2 A (updA A_c14 1 (4) (2147483647)) := SA_upd (cA_c14) rfl
      have mAu7 := SAm_of cAu7 oz_H2cls_5
      have hc4 : ((upd1 (w1) (4) (2147483647))) 4 = tdF (wnF ((a1))) := by rw [upd1_s]; omega
      have hck0 : ((upd1 (w1) (4) (2147483647))) 0 = ((w1)) 0 := upd1_o (by decide)
      have hck1 : ((upd1 (w1) (4) (2147483647))) 1 = ((w1)) 1 := upd1_o (by decide)
      have hck2 : ((upd1 (w1) (4) (2147483647))) 2 = ((w1)) 2 := upd1_o (by decide)
      have hck3 : ((upd1 (w1) (4) (2147483647))) 3 = ((w1)) 3 := upd1_o (by decide)
      exact w_ret rfl (k _ _ _ H O (cFu4) (cAu7) (tc14_0) (rfl) (upd1 (w1) (4) (2147483647)) (congrArg (fun q => upd1 q (4) (2147483647)) ((funext (hA_c14 1 rfl)).trans (ew1))) (show 0 ≤ (tc14_0) by omega) (show (tc14_0) = wnF (a1) by omega) (show ((upd1 (w1) (4) (2147483647))) 4 = tdF (wnF (a1)) from hc4) (show ((upd1 (w1) (4) (2147483647))) 0 = ((w1)) 0 from hck0) (show ((upd1 (w1) (4) (2147483647))) 1 = ((w1)) 1 from hck1) (show ((upd1 (w1) (4) (2147483647))) 2 = ((w1)) 2 from hck2) (show ((upd1 (w1) (4) (2147483647))) 3 = ((w1)) 3 from hck3))
    · refine Ew_of (pcₚ := 34) (fun _ => x_aload_n rfl lc14_0) ?_
      refine v_g H (o := 0) (v := J (tc14_0)) rfl rfl rfl rfl rfl (congrArg (fun z : Int => J z) (rfl : (updF F_c14 0 15 (tc14_0)) 0 15 = tc14_0)) ?_
      refine w_l2i rfl ?_
      refine Ew_of (pcₚ := 43) (fun _ => x_goto rfl rfl) ?_
      refine v_sI H (o := 1) (z := tc14_0) rfl rfl rfl rfl (n := n1) (en1) (show 0 ≤ 4 ∧ 4 < n1 from q_3938 h1) (show inr (tc14_0) by omega) (fun σ H Oₚ => ?_)
      have O := OUT_trans O Oₚ
      have cAu8 : SA oz_H2clsl_2 A (updA A_c14 1 (4) (tc14_0)) := SA_upd (cA_c14) rfl
      have mAu8 := SAm_of cAu8 oz_H2cls_5
      have hc4 : ((upd1 (w1) (4) (tc14_0))) 4 = tdF (wnF ((a1))) := by rw [upd1_s]; omega
      have hck0 : ((upd1 (w1) (4) (tc14_0))) 0 = ((w1)) 0 := upd1_o (by decide)
      have hck1 : ((upd1 (w1) (4) (tc14_0))) 1 = ((w1)) 1 := upd1_o (by decide)
      have hck2 : ((upd1 (w1) (4) (tc14_0))) 2 = ((w1)) 2 := upd1_o (by decide)
      have hck3 : ((upd1 (w1) (4) (tc14_0))) 3 = ((w1)) 3 := upd1_o (by decide)
      exact w_ret rfl (k _ _ _ H O (cFu4) (cAu8) (tc14_0) (rfl) (upd1 (w1) (4) (tc14_0)) (congrArg (fun q => upd1 q (4) (tc14_0)) ((funext (hA_c14 1 rfl)).trans (ew1))) (show 0 ≤ (tc14_0) by omega) (show (tc14_0) = wnF (a1) by omega) (show ((upd1 (w1) (4) (tc14_0))) 4 = tdF (wnF (a1)) from hc4) (show ((upd1 (w1) (4) (tc14_0))) 0 = ((w1)) 0 from hck0) (show ((upd1 (w1) (4) (tc14_0))) 1 = ((w1)) 1 from hck1) (show ((upd1 (w1) (4) (tc14_0))) 2 = ((w1)) 2 from hck2) (show ((upd1 (w1) (4) (tc14_0))) 3 = ((w1)) 3 from hck3))
  refine w_ifge (t := 13) rfl rfl (show inr (z3) from gz3) (fun b9 => ?_) (fun b9 => ?_)
  · refine Ew_of (pcₚ := 14) (fun _ => x_lload_n rfl rfl) ?_
    exact hc14 (a1) _ _ _ _  (rfl) H O (SF_refl) (SA_refl)     (show inrJ (a1) from h0) (show ((z3) ≥ (0) ∧ (a1) = (a1)) ∨ ((z3) < (0) ∧ (a1) = (4611686018427387904)) from q_3939 b9)
  · refine Ew_of (pcₚ := 10) (fun _ => x_ldc2 (z := 4611686018427387904) rfl (by decide)) ?_
    refine Ew_of (pcₚ := 14) (fun _ => x_goto rfl rfl) ?_
    exact hc14 (4611686018427387904) _ _ _ _  (rfl) H O (SF_refl) (SA_refl)     (show inrJ (4611686018427387904) from q_3941) (show ((z3) ≥ (0) ∧ (4611686018427387904) = (a1)) ∨ ((z3) < (0) ∧ (4611686018427387904) = (4611686018427387904)) from q_3940 b9)
abbrev V237 : vV := [(0, 12, [(4, 0), (4, 0), (4, 0), (4, 0), (4, 0), (4, 0), (4, 0), (4, 0), (0, 0), (0, 0), (4, 0), (0, 0), (4, 0), (4, 0), (0, 0), (2, 0), (0, 0), (0, 0), (0, 0), (0, 0), (0, 0), (0, 0)]), (1, 0, []), (1, 1, [])]
theorem len_V237_oz_H2cls : (V237).length = 3 := by decide +kernel
theorem oz_H2cls_7 : vsub V237 V236 [0, 2] = true := by decide +kernel
theorem oz_H2cls_8 : vsub V237 V232 [0] = true := by decide +kernel
def oz_H2clsl_3 : List (Nat × Nat) := [(0, 9), (0, 15), (0, 21)]
theorem oz_H2cls_9 : (oz_H2clsl_3).all (fun p => !tbz 2130432 (Nat.add (Nat.mul 32 p.1) p.2)) = true := by decide +kernel
def oz_H2clsl_4 : List Nat := [2]
theorem oz_H2cls_10 : (oz_H2clsl_4).all (fun p => !tbz 4 p) = true := by decide +kernel
def oz_H2clsl_5 : List Nat := [0, 2]
theorem oz_H2cls_11 : okc oz_H2clsl_5 1024 = true := by decide +kernel
def oz_H2clsl_6 : List Nat := [0]
theorem oz_H2cls_12 : okc oz_H2clsl_6 0 = true := by decide +kernel

theorem C237 {σE : rS} {D N : Nat → Nat} {F : hF} {A : hA} {d c s : Nat} {Q : wQ} (H : HW V237 σE D N F A)  (pf1 : HID (F 0 7 = (D 1 : Int))) (pf2 : HID (F 0 13 = (D 2 : Int))) (n1 : Int) (en1 : HID ((N 1 : Int) = n1)) (n2 : Int) (en2 : HID ((N 2 : Int) = n2)) (u0_8 : Int) (eu0_8 : HID (F 0 8 = u0_8)) (u0_9 : Int) (eu0_9 : HID (F 0 9 = u0_9)) (u0_15 : Int) (eu0_15 : HID (F 0 15 = u0_15)) (u0_21 : Int) (eu0_21 : HID (F 0 21 = u0_21)) (w1 : Int → Int) (ew1 : A 1 = w1) (w2 : Int → Int) (ew2 : A 2 = w2) (h0 : 0 ≤ (u0_9) ∧ (u0_9) ≤ (u0_8) ∧ (u0_8) ≤ (n1) ∧ (n1) ≤ 65536) (h1 : (n2) = 5) (h2 : 0 ≤ (u0_15)) (k : ∀ (z : Int) (σ : rS) (Fₚ : hF) (Aₚ : hA), HW V237 σ D N Fₚ Aₚ → OUT (V237).length D N σE c s D N σ c s → SF [(0, 9), (0, 15), (0, 21)] F Fₚ → SA [2] A Aₚ → ∀ y0_9 : Int, Fₚ 0 9 = y0_9 → ∀ y0_15 : Int, Fₚ 0 15 = y0_15 → ∀ y0_21 : Int, Fₚ 0 21 = y0_21 → ∀ v2 : Int → Int, Aₚ 2 = v2 → (inr (z)) → (0 ≤ (z) ∧ (z) ≤ 17) → (0 ≤ (y0_9) ∧ (u0_9) ≤ (y0_9) ∧ (y0_9) ≤ (u0_8)) → (0 ≤ (y0_15)) → (UWA (ub8 ((w1))) ((u0_8)) ((u0_9)) (((w2)) 4) ((z)) ((y0_21)) ((y0_9)) ((y0_15)) (((v2)) 4)) → (((v2)) 0 = ((w2)) 0) → (((v2)) 1 = ((w2)) 1) → (((v2)) 2 = ((w2)) 2) → (((v2)) 3 = ((w2)) 3) → ((z) ≠ 0 ∨ (y0_21) = (u0_21)) → Q (some (I z)) σ c s) : Ew 237 (d + 1) 0 (rargs 0 [.ref (D 0)]) [] σE c s Q := by
  have O := OUT_refl (n := (V237).length) (D := D) (N := N) (σ := σE) (c := c) (s := s)
  have HE := H
  have r1 : (-2147483648 : Int) ≤ u0_8 ∧ u0_8 ≤ 2147483647 := rngE (show (-2147483648 : Int) ≤ F 0 8 ∧ F 0 8 ≤ 2147483647 from H.krg 0 8 (ltn len_V237_oz_H2cls rfl)) (show F 0 8 = u0_8 from (eu0_8))
  have r2 : (-2147483648 : Int) ≤ u0_9 ∧ u0_9 ≤ 2147483647 := rngE (show (-2147483648 : Int) ≤ F 0 9 ∧ F 0 9 ≤ 2147483647 from H.krg 0 9 (ltn len_V237_oz_H2cls rfl)) (show F 0 9 = u0_9 from (eu0_9))
  have r3 : (-9223372036854775808 : Int) ≤ u0_15 ∧ u0_15 ≤ 9223372036854775807 := rngE (show (-9223372036854775808 : Int) ≤ F 0 15 ∧ F 0 15 ≤ 9223372036854775807 from H.krg 0 15 (ltn len_V237_oz_H2cls rfl)) (show F 0 15 = u0_15 from (eu0_15))
  have r4 : (-2147483648 : Int) ≤ u0_21 ∧ u0_21 ≤ 2147483647 := rngE (show (-2147483648 : Int) ≤ F 0 21 ∧ F 0 21 ≤ 2147483647 from H.krg 0 21 (ltn len_V237_oz_H2cls rfl)) (show F 0 21 = u0_21 from (eu0_21))
  have r5 : (0 : Int) ≤ n1 ∧ n1 ≤ 1000000 := nleE (H.nle 1 (ltn len_V237_oz_H2cls rfl)) (show (N 1 : Int) = n1 from en1)
  have r6 : (0 : Int) ≤ n2 ∧ n2 ≤ 1000000 := nleE (H.nle 2 (ltn len_V237_oz_H2cls rfl)) (show (N 2 : Int) = n2 from en2)
  refine Ew_of (pcₚ := 1) (fun _ => x_aload_n rfl rfl) ?_
  refine v_g H (o := 0) (v := I (u0_9)) rfl rfl rfl rfl rfl (congrArg (fun z : Int => I z) ((eu0_9) : F 0 9 = u0_9)) ?_
  refine Ew_of (pcₚ := 5) (fun _ => x_aload_n rfl rfl) ?_
  refine v_g H (o := 0) (v := I (u0_8)) rfl rfl rfl rfl rfl (congrArg (fun z : Int => I z) ((eu0_8) : F 0 8 = u0_8)) ?_
  refine w_icmplt (t := 21) rfl rfl (show inr (u0_9) from q_3943 h0) (show inr (u0_8) from q_3942 h0) (fun b7 => ?_) (fun b7 => ?_)
  · refine Ew_of (pcₚ := 22) (fun _ => x_aload_n rfl rfl) ?_
    refine v_g H (o := 0) (v := .ref (D 1)) rfl rfl rfl rfl rfl (vrf (pf1)) ?_
    refine Ew_of (pcₚ := 26) (fun _ => x_aload_n rfl rfl) ?_
    refine v_g H (o := 0) (v := I (u0_9)) rfl rfl rfl rfl rfl (congrArg (fun z : Int => I z) ((eu0_9) : F 0 9 = u0_9)) ?_
    refine v_lB H (o := 1) rfl rfl rfl rfl (n := n1) (en1) (show 0 ≤ u0_9 ∧ u0_9 < n1 from q_3944 b7 h0) (fun v8 ev8 qv8 => ?_)
    have ev8 : (w1) (u0_9) = v8 := (congrFun (ew1) (u0_9)).symm.trans ev8
    have hvx := ev8
    have hbx : (ub8 ((w1))) ((u0_9)) = (v8) % 256 := by show u8 _ = _; rw [hvx]; rfl
    refine Ew_of (pcₚ := 33) (fun _ => x_sipush (z := 255) rfl (by decide)) ?_
    refine v_and255 rfl ?_
    refine Ew_of (pcₚ := 35) (fun _ => x_iconst rfl) ?_
    refine w_ishrK 3 8 (by decide) (by decide) rfl (show inr ((v8 % 256)) from q_461) (fun z9 gz9 dz9 => ?_)
    have hwr := wnW_r (x := (ub8 ((w1))) ((u0_9))) (u8_rng _)
    refine Ew_of (pcₚ := 37) (fun _ => x_istore_n rfl) ?_
    refine Ew_of (pcₚ := 38) (fun _ => x_aload_n rfl (rk_o (rfl) rfl rfl)) ?_
    refine Ew_of (pcₚ := 39) (fun _ => x_lconst (z := 1) rfl (by decide)) ?_
    refine Ew_of (pcₚ := 41) (fun _ => x_bipush (z := 10) rfl (by decide)) ?_
    refine Ew_of (pcₚ := 42) (fun _ => x_iload_n rfl rk_s) ?_
    refine w_iadd rfl ?_
    refine w_lshl1 rfl (show 0 ≤ (10 + z9) ∧ (10 + z9) ≤ 63 from q_3945 dz9) ?_
    refine Ew_of (pcₚ := 45) (fun _ => x_lconst (z := 1) rfl (by decide)) ?_
    refine Ew_of (pcₚ := 47) (fun _ => x_bipush (z := 7) rfl (by decide)) ?_
    refine Ew_of (pcₚ := 48) (fun _ => x_iload_n rfl rk_s) ?_
    refine w_iadd rfl ?_
    refine w_lshl1 rfl (show 0 ≤ (7 + z9) ∧ (7 + z9) ≤ 63 from q_3946 dz9) ?_
    refine Ew_of (pcₚ := 51) (fun _ => x_aload_n rfl (rk_o (rfl) rfl rfl)) ?_
    refine v_g H (o := 0) (v := .ref (D 1)) rfl rfl rfl rfl rfl (vrf (pf1)) ?_
    refine Ew_of (pcₚ := 55) (fun _ => x_aload_n rfl (rk_o (rfl) rfl rfl)) ?_
    refine v_g H (o := 0) (v := I (u0_9)) rfl rfl rfl rfl rfl (congrArg (fun z : Int => I z) ((eu0_9) : F 0 9 = u0_9)) ?_
    refine v_lB H (o := 1) rfl rfl rfl rfl (n := n1) (en1) (show 0 ≤ u0_9 ∧ u0_9 < n1 from q_3944 b7 h0) (fun v12 ev12 qv12 => ?_)
    have ev12 : (w1) (u0_9) = v12 := (congrFun (ew1) (u0_9)).symm.trans ev12
    have hvy := ev12
    refine Ew_of (pcₚ := 61) (fun _ => x_bipush (z := 7) rfl (by decide)) ?_
    refine w_iandE rfl (show inr (v12) from q_97 qv12) (show inr (7) from q_597) (fun z13 gz13 gaz13 gbz13 gez13 => ?_)
    refine w_i2l rfl (show inr (z13) from gz13) ?_
    refine w_lmul rfl ?_
    refine w_ladd rfl ?_
    have hwv : ((p2 ((10 + z9)) + (p2 ((7 + z9)) * z13))) = wnW (ub8 ((w1))) ((u0_9)) := by unfold wnW; rw [show (z9) = (ub8 ((w1))) ((u0_9)) / 8 by omega]; congr 1; congr 1; have := andI_7 (((w1)) ((u0_9))); rw [hvy] at this; omega
    have hwb : 0 ≤ ((p2 ((10 + z9)) + (p2 ((7 + z9)) * z13))) ∧ ((p2 ((10 + z9)) + (p2 ((7 + z9)) * z13))) ≤ 8796093022208 := by rw [hwv]; unfold wnW; omega
    obtain ⟨qw, hqw⟩ : ∃ q : Int, q = ((p2 ((10 + z9)) + (p2 ((7 + z9)) * z13))) := ⟨_, rfl⟩
    rw [← hqw] at hwv hwb
    refine v_inv H (o := 0) rfl rfl rfl rfl rfl rfl (by rfl) (C236 (D := puc 1024 D) (N := puc 1024 N) (HW_subc H oz_H2cls_7 oz_H2cls_11) (pf2) (n2) (en2) (u0_15) ((eu0_15)) (w2) (ew2) (show inrJ ((p2 ((10 + z9)) + (p2 ((7 + z9)) * z13))) by omega) (show (n2) = 5 from h1) (fun σ14 F14ₚ A14ₚ Hₚ Oₚ hS14 hA14 y14_0_15 (ey14_0_15 : HID _) w14_1 ew14_1 pz14_0 pz14_1 pz14_2 pz14_3 pz14_4 pz14_5 pz14_6 => ⟨rfl, ?_⟩))
    refine v_backc (c := c) (s := s) H oz_H2cls_7 oz_H2cls_11 Hₚ Oₚ (fun F14 A14 H Oₚ eF14 eA14 => ?_)
    have O := OUT_trans O Oₚ
    -- Unpacker.tellWindow
    have cF14 : SF oz_H2clsl_3 F F14 := SF_trans (SF_refl) (SF_gluc (ι := oz_H2clsl_5) oz_H2cls_11 hS14 eF14 (by decide +kernel)) (any_sub (lₚ := [(0, 15)]) (by decide +kernel))
    have mF14 := SFm_of cF14 oz_H2cls_9
    have cA14 : SA oz_H2clsl_4 A A14 := SA_trans (SA_refl) (SA_gluc (ι := oz_H2clsl_5) oz_H2cls_11 hA14 eA14 (by decide +kernel)) (any_subA (lₚ := [2]) (by decide +kernel))
    have mA14 := SAm_of cA14 oz_H2cls_10
    have r15 : (-9223372036854775808 : Int) ≤ y14_0_15 ∧ y14_0_15 ≤ 9223372036854775807 := rngE (show (-9223372036854775808 : Int) ≤ F14 0 15 ∧ F14 0 15 ≤ 9223372036854775807 from H.krg 0 15 (ltn len_V237_oz_H2cls rfl)) (show F14 0 15 = y14_0_15 from ((eF14 0 15).trans ey14_0_15))
    have hwf := wnF_eq qw
    have hw1 : (y14_0_15) = wnF qw := by rw [hqw]; exact pz14_1
    have hw2 : ((w14_1)) 4 = tdF (wnF qw) := by rw [hqw]; exact pz14_2
    refine Ew_of (pcₚ := 69) (fun _ => x_aload_n rfl (rk_o (rfl) rfl rfl)) ?_
    refine Ew_of (pcₚ := 70) (fun _ => x_dup rfl rfl) ?_
    refine v_g H (o := 0) (v := I (u0_9)) rfl rfl rfl rfl rfl (congrArg (fun z : Int => I z) ((((show F14 0 9 = F 0 9 from (eF14 0 9).trans (hS14 0 9 rfl))).trans (eu0_9)) : F14 0 9 = u0_9)) ?_
    refine Ew_of (pcₚ := 74) (fun _ => x_iconst rfl) ?_
    refine w_iadd rfl ?_
    refine v_p H (o := 0) (z := (u0_9 + 1)) (v := I ((u0_9 + 1))) rfl rfl rfl rfl rfl rfl rfl rfl (show (-2147483648 : Int) ≤ (u0_9 + 1) ∧ (u0_9 + 1) ≤ 2147483647 from q_3947 b7 h0) (fun σ H Oₚ => ?_)
    have O := OUT_trans O Oₚ
    have cFu16 : SF oz_H2clsl_3 F (updF F14 0 9 ((u0_9 + 1))) := SF_upd (cF14) rfl
    have mFu16 := SFm_of cFu16 oz_H2cls_9
    refine Ew_of (pcₚ := 79) (fun _ => x_iconst rfl) ?_
    have : UWA (ub8 ((w1))) ((u0_8)) ((u0_9)) (((w2)) 4) ((0)) ((u0_21)) (((u0_9 + 1))) ((y14_0_15)) (((w14_1)) 4) := .inr ⟨by omega, by omega, by omega, by rw [← hwv]; omega, by rw [hw1]; exact hw2⟩
    exact w_ireturn rfl (k (0) _ _ _ H O (cFu16) (cA14) ((u0_9 + 1)) (rfl) (y14_0_15) (((eF14 0 15).trans ey14_0_15)) (u0_21) ((((show F14 0 21 = F 0 21 from (eF14 0 21).trans (hS14 0 21 rfl))).trans (eu0_21))) (w14_1) ((eA14 2).trans ew14_1) (show inr (0) from q_2) (show 0 ≤ (0) ∧ (0) ≤ 17 by first | exact q_3949 | omega) (show 0 ≤ ((u0_9 + 1)) ∧ (u0_9) ≤ ((u0_9 + 1)) ∧ ((u0_9 + 1)) ≤ (u0_8) from q_3948 b7 h0) (show 0 ≤ (y14_0_15) from pz14_0) (show UWA (ub8 ((w1))) ((u0_8)) ((u0_9)) (((w2)) 4) ((0)) ((u0_21)) (((u0_9 + 1))) ((y14_0_15)) (((w14_1)) 4) by assumption) (show ((w14_1)) 0 = ((w2)) 0 from pz14_3) (show ((w14_1)) 1 = ((w2)) 1 from pz14_4) (show ((w14_1)) 2 = ((w2)) 2 from pz14_5) (show ((w14_1)) 3 = ((w2)) 3 from pz14_6) (show (0) ≠ 0 ∨ (u0_21) = (u0_21) by first | exact q_3137 | omega))
  · refine Ew_of (pcₚ := 12) (fun _ => x_aload_n rfl rfl) ?_
    refine Ew_of (pcₚ := 13) (fun _ => x_iconst rfl) ?_
    refine Ew_of (pcₚ := 14) (fun _ => x_aload_n rfl rfl) ?_
    refine v_g H (o := 0) (v := I (u0_8)) rfl rfl rfl rfl rfl (congrArg (fun z : Int => I z) ((eu0_8) : F 0 8 = u0_8)) ?_
    refine v_inv H (o := 0) rfl rfl rfl rfl rfl rfl (by rfl) (C232 (D := puc 0 D) (N := puc 0 N) (HW_subc H oz_H2cls_8 oz_H2cls_12) (u0_21) ((eu0_21)) (show inr (1) from q_135) (show inr (u0_8) from q_3942 h0) (fun z17 σ17 F17ₚ A17ₚ Hₚ Oₚ hS17 hA17 y17_0_21 (ey17_0_21 : HID _) pz17_0 pz17_1 pz17_2 => ⟨rfl, ?_⟩))
    refine v_backc (c := c) (s := s) H oz_H2cls_8 oz_H2cls_12 Hₚ Oₚ (fun F17 A17 H Oₚ eF17 eA17 => ?_)
    have O := OUT_trans O Oₚ
    -- Unpacker.fail
    have cF17 : SF oz_H2clsl_3 F F17 := SF_trans (SF_refl) (SF_gluc (ι := oz_H2clsl_6) oz_H2cls_12 hS17 eF17 (by decide +kernel)) (any_sub (lₚ := [(0, 21)]) (by decide +kernel))
    have mF17 := SFm_of cF17 oz_H2cls_9
    have cA17 : SA oz_H2clsl_4 A A17 := SA_trans (SA_refl) (SA_gluc (ι := oz_H2clsl_6) oz_H2cls_12 hA17 eA17 (by decide +kernel)) (any_subA (lₚ := []) (by decide +kernel))
    have mA17 := SAm_of cA17 oz_H2cls_10
    have r18 : (-2147483648 : Int) ≤ y17_0_21 ∧ y17_0_21 ≤ 2147483647 := rngE (show (-2147483648 : Int) ≤ F17 0 21 ∧ F17 0 21 ≤ 2147483647 from H.krg 0 21 (ltn len_V237_oz_H2cls rfl)) (show F17 0 21 = y17_0_21 from ((eF17 0 21).trans ey17_0_21))
    have : UWA (ub8 ((w1))) ((u0_8)) ((u0_9)) (((w2)) 4) ((z17)) ((y17_0_21)) ((u0_9)) ((u0_15)) (((w2)) 4) := .inl ⟨by omega, by omega, by omega, rfl⟩
    exact w_ireturn rfl (k (z17) _ _ _ H O (cF17) (cA17) (u0_9) ((((show F17 0 9 = F 0 9 from (eF17 0 9).trans (hS17 0 9 rfl))).trans (eu0_9))) (u0_15) ((((show F17 0 15 = F 0 15 from (eF17 0 15).trans (hS17 0 15 rfl))).trans (eu0_15))) (y17_0_21) (((eF17 0 21).trans ey17_0_21)) (w2) (((show A17 2 = A 2 from (eA17 2))).trans (ew2)) (show inr (z17) from pz17_0) (show 0 ≤ (z17) ∧ (z17) ≤ 17 from q_3951 pz17_1) (show 0 ≤ (u0_9) ∧ (u0_9) ≤ (u0_9) ∧ (u0_9) ≤ (u0_8) from q_3950 h0) (show 0 ≤ (u0_15) from h2) (show UWA (ub8 ((w1))) ((u0_8)) ((u0_9)) (((w2)) 4) ((z17)) ((y17_0_21)) ((u0_9)) ((u0_15)) (((w2)) 4) by assumption) (show ((w2)) 0 = ((w2)) 0 from q_303) (show ((w2)) 1 = ((w2)) 1 from q_303) (show ((w2)) 2 = ((w2)) 2 from q_303) (show ((w2)) 3 = ((w2)) 3 from q_303) (show (z17) ≠ 0 ∨ (y17_0_21) = (u0_21) from q_3108 pz17_1))
abbrev V238 : vV := [(0, 12, [(4, 0), (4, 0), (4, 0), (4, 0), (4, 0), (4, 0), (4, 0), (4, 0), (0, 0), (0, 0), (4, 0), (0, 0), (4, 0), (4, 0), (0, 0), (2, 0), (0, 0), (0, 0), (0, 0), (0, 0), (0, 0), (0, 0)]), (1, 0, []), (0, 4, [(4, 0), (4, 0), (0, 0), (4, 0), (4, 0)])]
theorem len_V238_oz_H2cls : (V238).length = 3 := by decide +kernel
theorem oz_H2cls_14 : vsub V238 V42_Br [1] = true := by decide +kernel
theorem oz_H2cls_15 : vsub V238 V232 [0] = true := by decide +kernel
def oz_H2clsl_7 : List (Nat × Nat) := [(0, 9), (0, 21)]
theorem oz_H2cls_16 : (oz_H2clsl_7).all (fun p => !tbz 2097664 (Nat.add (Nat.mul 32 p.1) p.2)) = true := by decide +kernel
def oz_H2clsl_8 : List Nat := []
theorem oz_H2cls_17 : (oz_H2clsl_8).all (fun p => !tbz 0 p) = true := by decide +kernel
theorem oz_H2cls_18 : okc oz_H2clsl_2 1 = true := by decide +kernel

theorem C238 {σE : rS} {D N : Nat → Nat} {F : hF} {A : hA} {d c s : Nat} {Q : wQ} (H : HW V238 σE D N F A)  (pf1 : HID (F 0 7 = (D 1 : Int))) (pf2 : HID (F 0 12 = (D 2 : Int))) (n1 : Int) (en1 : HID ((N 1 : Int) = n1)) (u0_8 : Int) (eu0_8 : HID (F 0 8 = u0_8)) (u0_9 : Int) (eu0_9 : HID (F 0 9 = u0_9)) (u0_14 : Int) (eu0_14 : HID (F 0 14 = u0_14)) (u0_21 : Int) (eu0_21 : HID (F 0 21 = u0_21)) (u2_2 : Int) (eu2_2 : HID (F 2 2 = u2_2)) (w1 : Int → Int) (ew1 : A 1 = w1) (h0 : 0 ≤ (u0_9) ∧ (u0_9) ≤ (u0_8) ∧ (u0_8) ≤ (n1) ∧ (n1) ≤ 65536) (h1 : 0 ≤ (u0_14) ∧ (u0_14) ≤ 255) (k : ∀ (z : Int) (σ : rS) (Fₚ : hF) (Aₚ : hA), HW V238 σ D N Fₚ Aₚ → OUT (V238).length D N σE c s D N σ c s → SF [(0, 9), (0, 21)] F Fₚ → SA [] A Aₚ → ∀ y0_9 : Int, Fₚ 0 9 = y0_9 → ∀ y0_21 : Int, Fₚ 0 21 = y0_21 → (inr (z)) → (0 ≤ (z) ∧ (z) ≤ 17) → (0 ≤ (y0_9) ∧ (u0_9) ≤ (y0_9) ∧ (y0_9) ≤ (u0_8)) → (UIA (ub8 ((w1))) ((u0_8)) ((u0_9)) ((u2_2) % 4294967296) ((u0_14)) ((z)) ((y0_21)) ((y0_9))) → ((z) ≠ 0 ∨ (y0_21) = (u0_21)) → Q (some (I z)) σ c s) : Ew 238 (d + 1) 0 (rargs 0 [.ref (D 0)]) [] σE c s Q := by
  have O := OUT_refl (n := (V238).length) (D := D) (N := N) (σ := σE) (c := c) (s := s)
  have HE := H
  have r1 : (-2147483648 : Int) ≤ u0_8 ∧ u0_8 ≤ 2147483647 := rngE (show (-2147483648 : Int) ≤ F 0 8 ∧ F 0 8 ≤ 2147483647 from H.krg 0 8 (ltn len_V238_oz_H2cls rfl)) (show F 0 8 = u0_8 from (eu0_8))
  have r2 : (-2147483648 : Int) ≤ u0_9 ∧ u0_9 ≤ 2147483647 := rngE (show (-2147483648 : Int) ≤ F 0 9 ∧ F 0 9 ≤ 2147483647 from H.krg 0 9 (ltn len_V238_oz_H2cls rfl)) (show F 0 9 = u0_9 from (eu0_9))
  have r3 : (-2147483648 : Int) ≤ u0_14 ∧ u0_14 ≤ 2147483647 := rngE (show (-2147483648 : Int) ≤ F 0 14 ∧ F 0 14 ≤ 2147483647 from H.krg 0 14 (ltn len_V238_oz_H2cls rfl)) (show F 0 14 = u0_14 from (eu0_14))
  have r4 : (-2147483648 : Int) ≤ u0_21 ∧ u0_21 ≤ 2147483647 := rngE (show (-2147483648 : Int) ≤ F 0 21 ∧ F 0 21 ≤ 2147483647 from H.krg 0 21 (ltn len_V238_oz_H2cls rfl)) (show F 0 21 = u0_21 from (eu0_21))
  have r5 : (-2147483648 : Int) ≤ u2_2 ∧ u2_2 ≤ 2147483647 := rngE (show (-2147483648 : Int) ≤ F 2 2 ∧ F 2 2 ≤ 2147483647 from H.krg 2 2 (ltn len_V238_oz_H2cls rfl)) (show F 2 2 = u2_2 from (eu2_2))
  have r6 : (0 : Int) ≤ n1 ∧ n1 ≤ 1000000 := nleE (H.nle 1 (ltn len_V238_oz_H2cls rfl)) (show (N 1 : Int) = n1 from en1)
  have hib := idB_eq ((u0_14))
  have ha3 := andI_3 ((u0_14))
  refine Ew_of (pcₚ := 1) (fun _ => x_aload_n rfl rfl) ?_
  refine v_g H (o := 0) (v := I (u0_14)) rfl rfl rfl rfl rfl (congrArg (fun z : Int => I z) ((eu0_14) : F 0 14 = u0_14)) ?_
  refine Ew_of (pcₚ := 5) (fun _ => x_iconst rfl) ?_
  refine w_iandE rfl (show inr (u0_14) from q_299 h1) (show inr (3) from q_246) (fun z7 gz7 gaz7 gbz7 gez7 => ?_)
  refine Ew_of (pcₚ := 7) (fun _ => x_iconst rfl) ?_
  refine w_icmpne (t := 14) rfl rfl (show inr (z7) from gz7) (show inr (3) from q_246) (fun b8 => ?_) (fun b8 => ?_)
  · refine Ew_of (pcₚ := 15) (fun _ => x_aload_n rfl rfl) ?_
    refine v_g H (o := 0) (v := I (u0_14)) rfl rfl rfl rfl rfl (congrArg (fun z : Int => I z) ((eu0_14) : F 0 14 = u0_14)) ?_
    refine Ew_of (pcₚ := 19) (fun _ => x_iconst rfl) ?_
    refine w_iandE rfl (show inr (u0_14) from q_299 h1) (show inr (3) from q_246) (fun z9 gz9 gaz9 gbz9 gez9 => ?_)
    refine Ew_of (pcₚ := 21) (fun _ => x_istore_n rfl) ?_
    have hl1 : (z9) = idB ((u0_14)) := by omega
    refine Ew_of (pcₚ := 22) (fun _ => x_aload_n rfl (rk_o (rfl) rfl rfl)) ?_
    refine v_g H (o := 0) (v := I (u0_8)) rfl rfl rfl rfl rfl (congrArg (fun z : Int => I z) ((eu0_8) : F 0 8 = u0_8)) ?_
    refine Ew_of (pcₚ := 26) (fun _ => x_aload_n rfl (rk_o (rfl) rfl rfl)) ?_
    refine v_g H (o := 0) (v := I (u0_9)) rfl rfl rfl rfl rfl (congrArg (fun z : Int => I z) ((eu0_9) : F 0 9 = u0_9)) ?_
    refine w_isub rfl ?_
    refine Ew_of (pcₚ := 31) (fun _ => x_iload_n rfl rk_s) ?_
    refine w_icmpge (t := 44) rfl rfl (show inr ((u0_8 - u0_9)) from q_3952 h0) (show inr (z9) from gz9) (fun b10 => ?_) (fun b10 => ?_)
    · refine Ew_of (pcₚ := 45) (fun _ => x_aload_n rfl (rk_o (rfl) rfl rfl)) ?_
      refine v_g H (o := 0) (v := .ref (D 1)) rfl rfl rfl rfl rfl (vrf (pf1)) ?_
      refine Ew_of (pcₚ := 49) (fun _ => x_aload_n rfl (rk_o (rfl) rfl rfl)) ?_
      refine v_g H (o := 0) (v := I (u0_9)) rfl rfl rfl rfl rfl (congrArg (fun z : Int => I z) ((eu0_9) : F 0 9 = u0_9)) ?_
      refine Ew_of (pcₚ := 53) (fun _ => x_iload_n rfl rk_s) ?_
      refine w_stat25 rfl rfl (by rfl) (C42_Brf (D := puc 1 D) (N := puc 1 N) (HW_subc H oz_H2cls_14 oz_H2cls_18) (n1) (en1) (w1) (ew1) (show inr (u0_9) from q_3943 h0) (show inr (z9) from gz9) (show (z9) ≤ 0 ∨ 0 ≤ (u0_9) ∧ (u0_9) + (z9) ≤ (n1) from q_3953 b10 h0) (show 0 ≤ (z9) ∧ (z9) ≤ 8 by omega) (fun z11 σ11 F11ₚ A11ₚ Hₚ Oₚ hS11 hA11 pz11_0 pz11_1 pz11_2 => ⟨rfl, ?_⟩))
      refine v_backc (c := c) (s := s) H oz_H2cls_14 oz_H2cls_18 Hₚ Oₚ (fun F11 A11 H Oₚ eF11 eA11 => ?_)
      have O := OUT_trans O Oₚ
      -- PackHouse.number
      have cF11 : SF oz_H2clsl_7 F F11 := SF_trans (SF_refl) (SF_gluc (ι := oz_H2clsl_2) oz_H2cls_18 hS11 eF11 (by decide +kernel)) (any_sub (lₚ := []) (by decide +kernel))
      have mF11 := SFm_of cF11 oz_H2cls_16
      have cA11 : SA oz_H2clsl_8 A A11 := SA_trans (SA_refl) (SA_gluc (ι := oz_H2clsl_2) oz_H2cls_18 hA11 eA11 (by decide +kernel)) (any_subA (lₚ := []) (by decide +kernel))
      have mA11 := SAm_of cA11 oz_H2cls_17
      have hN : z11 = nvl (ub8 ((w1))) ((u0_9)) (idB ((u0_14))).toNat := by rw [← hl1]; exact (nmb_nn pz11_2 (by omega) pz11_0).trans nvl_u
      refine Ew_of (pcₚ := 57) (fun _ => x_lstore_n rfl) ?_
      refine Ew_of (pcₚ := 58) (fun _ => x_lload_n rfl rk2_s) ?_
      refine Ew_of (pcₚ := 59) (fun _ => x_lconst (z := 0) rfl (by decide)) ?_
      refine w_lcmp rfl (show inrJ (z11) from pz11_0) (show inrJ (0) from q_340) (fun z12 gz12 gaz12 gbz12 => ?_)
      refine w_ifeq (t := 90) rfl rfl (show inr (z12) from gz12) (fun b13 => ?_) (fun b13 => ?_)
      · refine Ew_of (pcₚ := 91) (fun _ => x_aload_n rfl (rk2_o (rk_o (rfl) rfl rfl) rfl rfl)) ?_
        refine Ew_of (pcₚ := 92) (fun _ => x_dup rfl rfl) ?_
        refine v_g H (o := 0) (v := I (u0_9)) rfl rfl rfl rfl rfl (congrArg (fun z : Int => I z) ((((show F11 0 9 = F 0 9 from (eF11 0 9))).trans (eu0_9)) : F11 0 9 = u0_9)) ?_
        refine Ew_of (pcₚ := 96) (fun _ => x_iload_n rfl (rk2_o (rk_s) rfl rfl)) ?_
        refine w_iadd rfl ?_
        refine v_p H (o := 0) (z := (u0_9 + z9)) (v := I ((u0_9 + z9))) rfl rfl rfl rfl rfl rfl rfl rfl (show (-2147483648 : Int) ≤ (u0_9 + z9) ∧ (u0_9 + z9) ≤ 2147483647 from q_3954 b10 gz9 h0) (fun σ H Oₚ => ?_)
        have O := OUT_trans O Oₚ
        have cFu14 : SF oz_H2clsl_7 F (updF F11 0 9 ((u0_9 + z9))) := SF_upd (cF11) rfl
        have mFu14 := SFm_of cFu14 oz_H2cls_16
        refine Ew_of (pcₚ := 101) (fun _ => x_iconst rfl) ?_
        have : UIA (ub8 ((w1))) ((u0_8)) ((u0_9)) ((u2_2) % 4294967296) ((u0_14)) ((0)) ((u0_21)) (((u0_9 + z9))) := .inr (.inr ⟨by omega, by rw [← hN]; omega, by omega, by omega⟩)
        exact w_ireturn rfl (k (0) _ _ _ H O (cFu14) (cA11) ((u0_9 + z9)) (rfl) (u0_21) ((((show F11 0 21 = F 0 21 from (eF11 0 21))).trans (eu0_21))) (show inr (0) from q_2) (show 0 ≤ (0) ∧ (0) ≤ 17 by first | exact q_3949 | omega) (show 0 ≤ ((u0_9 + z9)) ∧ (u0_9) ≤ ((u0_9 + z9)) ∧ ((u0_9 + z9)) ≤ (u0_8) from q_3955 b10 gaz9 h0 h1) (show UIA (ub8 ((w1))) ((u0_8)) ((u0_9)) ((u2_2) % 4294967296) ((u0_14)) ((0)) ((u0_21)) (((u0_9 + z9))) by assumption) (show (0) ≠ 0 ∨ (u0_21) = (u0_21) by first | exact q_3137 | omega))
      · refine Ew_of (pcₚ := 64) (fun _ => x_lload_n rfl rk2_s) ?_
        refine Ew_of (pcₚ := 65) (fun _ => x_aload_n rfl (rk2_o (rk_o (rfl) rfl rfl) rfl rfl)) ?_
        refine v_g H (o := 0) (v := .ref (D 2)) rfl rfl rfl rfl rfl (vrf ((mF11 0 12 rfl).trans (pf2))) ?_
        refine v_g H (o := 2) (v := I (u2_2)) rfl rfl rfl rfl rfl (congrArg (fun z : Int => I z) (((mF11 2 2 rfl).trans (eu2_2)) : F11 2 2 = u2_2)) ?_
        refine w_i2l rfl (show inr (u2_2) from q_18 r5) ?_
        refine Ew_of (pcₚ := 75) (fun _ => x_ldc2 (z := 4294967295) rfl (by decide)) ?_
        refine w_landE rfl ?_
        have g15 : inrJ (anJ (u2_2) (4294967295)) := toJ_inr _
        have han : ((anJ (u2_2) (4294967295))) = (u2_2) % 4294967296 := anJ_w (by omega)
        refine w_lcmp rfl (show inrJ (z11) from pz11_0) (show inrJ ((anJ (u2_2) (4294967295))) from g15) (fun z16 gz16 gaz16 gbz16 => ?_)
        refine w_ifeq (t := 90) rfl rfl (show inr (z16) from gz16) (fun b17 => ?_) (fun b17 => ?_)
        · refine Ew_of (pcₚ := 91) (fun _ => x_aload_n rfl (rk2_o (rk_o (rfl) rfl rfl) rfl rfl)) ?_
          refine Ew_of (pcₚ := 92) (fun _ => x_dup rfl rfl) ?_
          refine v_g H (o := 0) (v := I (u0_9)) rfl rfl rfl rfl rfl (congrArg (fun z : Int => I z) ((((show F11 0 9 = F 0 9 from (eF11 0 9))).trans (eu0_9)) : F11 0 9 = u0_9)) ?_
          refine Ew_of (pcₚ := 96) (fun _ => x_iload_n rfl (rk2_o (rk_s) rfl rfl)) ?_
          refine w_iadd rfl ?_
          refine v_p H (o := 0) (z := (u0_9 + z9)) (v := I ((u0_9 + z9))) rfl rfl rfl rfl rfl rfl rfl rfl (show (-2147483648 : Int) ≤ (u0_9 + z9) ∧ (u0_9 + z9) ≤ 2147483647 from q_3954 b10 gz9 h0) (fun σ H Oₚ => ?_)
          have O := OUT_trans O Oₚ
          have cFu18 : SF oz_H2clsl_7 F (updF F11 0 9 ((u0_9 + z9))) := SF_upd (cF11) rfl
          have mFu18 := SFm_of cFu18 oz_H2cls_16
          refine Ew_of (pcₚ := 101) (fun _ => x_iconst rfl) ?_
          have : UIA (ub8 ((w1))) ((u0_8)) ((u0_9)) ((u2_2) % 4294967296) ((u0_14)) ((0)) ((u0_21)) (((u0_9 + z9))) := .inr (.inr ⟨by omega, by rw [← hN]; omega, by omega, by omega⟩)
          exact w_ireturn rfl (k (0) _ _ _ H O (cFu18) (cA11) ((u0_9 + z9)) (rfl) (u0_21) ((((show F11 0 21 = F 0 21 from (eF11 0 21))).trans (eu0_21))) (show inr (0) from q_2) (show 0 ≤ (0) ∧ (0) ≤ 17 by first | exact q_3949 | omega) (show 0 ≤ ((u0_9 + z9)) ∧ (u0_9) ≤ ((u0_9 + z9)) ∧ ((u0_9 + z9)) ≤ (u0_8) from q_3955 b10 gaz9 h0 h1) (show UIA (ub8 ((w1))) ((u0_8)) ((u0_9)) ((u2_2) % 4294967296) ((u0_14)) ((0)) ((u0_21)) (((u0_9 + z9))) by assumption) (show (0) ≠ 0 ∨ (u0_21) = (u0_21) by first | exact q_3137 | omega))
        · refine Ew_of (pcₚ := 81) (fun _ => x_aload_n rfl (rk2_o (rk_o (rfl) rfl rfl) rfl rfl)) ?_
          refine Ew_of (pcₚ := 82) (fun _ => x_iconst rfl) ?_
          refine Ew_of (pcₚ := 83) (fun _ => x_aload_n rfl (rk2_o (rk_o (rfl) rfl rfl) rfl rfl)) ?_
          refine v_g H (o := 0) (v := I (u0_9)) rfl rfl rfl rfl rfl (congrArg (fun z : Int => I z) ((((show F11 0 9 = F 0 9 from (eF11 0 9))).trans (eu0_9)) : F11 0 9 = u0_9)) ?_
          refine v_inv H (o := 0) rfl rfl rfl rfl rfl rfl (by rfl) (C232 (D := puc 0 D) (N := puc 0 N) (HW_subc H oz_H2cls_15 oz_H2cls_12) (u0_21) ((((show F11 0 21 = F 0 21 from (eF11 0 21))).trans (eu0_21))) (show inr (4) from q_216) (show inr (u0_9) from q_3943 h0) (fun z19 σ19 F19ₚ A19ₚ Hₚ Oₚ hS19 hA19 y19_0_21 (ey19_0_21 : HID _) pz19_0 pz19_1 pz19_2 => ⟨rfl, ?_⟩))
          refine v_backc (c := c) (s := s) H oz_H2cls_15 oz_H2cls_12 Hₚ Oₚ (fun F19 A19 H Oₚ eF19 eA19 => ?_)
          have O := OUT_trans O Oₚ
          -- Unpacker.fail
          have cF19 : SF oz_H2clsl_7 F F19 := SF_trans (cF11) (SF_gluc (ι := oz_H2clsl_6) oz_H2cls_12 hS19 eF19 (by decide +kernel)) (any_sub (lₚ := [(0, 21)]) (by decide +kernel))
          have mF19 := SFm_of cF19 oz_H2cls_16
          have cA19 : SA oz_H2clsl_8 A A19 := SA_trans (cA11) (SA_gluc (ι := oz_H2clsl_6) oz_H2cls_12 hA19 eA19 (by decide +kernel)) (any_subA (lₚ := []) (by decide +kernel))
          have mA19 := SAm_of cA19 oz_H2cls_17
          have r20 : (-2147483648 : Int) ≤ y19_0_21 ∧ y19_0_21 ≤ 2147483647 := rngE (show (-2147483648 : Int) ≤ F19 0 21 ∧ F19 0 21 ≤ 2147483647 from H.krg 0 21 (ltn len_V238_oz_H2cls rfl)) (show F19 0 21 = y19_0_21 from ((eF19 0 21).trans ey19_0_21))
          have : UIA (ub8 ((w1))) ((u0_8)) ((u0_9)) ((u2_2) % 4294967296) ((u0_14)) ((z19)) ((y19_0_21)) ((u0_9)) := .inr (.inl ⟨by omega, ⟨by rw [← hN]; omega, by rw [← hN]; omega⟩, by omega, by omega⟩)
          exact w_ireturn rfl (k (z19) _ _ _ H O (cF19) (cA19) (u0_9) (((((show F19 0 9 = F11 0 9 from (eF19 0 9).trans (hS19 0 9 rfl))).trans ((show F11 0 9 = F 0 9 from (eF11 0 9)))).trans (eu0_9))) (y19_0_21) (((eF19 0 21).trans ey19_0_21)) (show inr (z19) from pz19_0) (show 0 ≤ (z19) ∧ (z19) ≤ 17 from q_3956 pz19_1) (show 0 ≤ (u0_9) ∧ (u0_9) ≤ (u0_9) ∧ (u0_9) ≤ (u0_8) from q_3950 h0) (show UIA (ub8 ((w1))) ((u0_8)) ((u0_9)) ((u2_2) % 4294967296) ((u0_14)) ((z19)) ((y19_0_21)) ((u0_9)) by assumption) (show (z19) ≠ 0 ∨ (y19_0_21) = (u0_21) from q_3246 pz19_1))
    · refine Ew_of (pcₚ := 35) (fun _ => x_aload_n rfl (rk_o (rfl) rfl rfl)) ?_
      refine Ew_of (pcₚ := 36) (fun _ => x_iconst rfl) ?_
      refine Ew_of (pcₚ := 37) (fun _ => x_aload_n rfl (rk_o (rfl) rfl rfl)) ?_
      refine v_g H (o := 0) (v := I (u0_8)) rfl rfl rfl rfl rfl (congrArg (fun z : Int => I z) ((eu0_8) : F 0 8 = u0_8)) ?_
      refine v_inv H (o := 0) rfl rfl rfl rfl rfl rfl (by rfl) (C232 (D := puc 0 D) (N := puc 0 N) (HW_subc H oz_H2cls_15 oz_H2cls_12) (u0_21) ((eu0_21)) (show inr (1) from q_135) (show inr (u0_8) from q_3942 h0) (fun z21 σ21 F21ₚ A21ₚ Hₚ Oₚ hS21 hA21 y21_0_21 (ey21_0_21 : HID _) pz21_0 pz21_1 pz21_2 => ⟨rfl, ?_⟩))
      refine v_backc (c := c) (s := s) H oz_H2cls_15 oz_H2cls_12 Hₚ Oₚ (fun F21 A21 H Oₚ eF21 eA21 => ?_)
      have O := OUT_trans O Oₚ
      -- Unpacker.fail
      have cF21 : SF oz_H2clsl_7 F F21 := SF_trans (SF_refl) (SF_gluc (ι := oz_H2clsl_6) oz_H2cls_12 hS21 eF21 (by decide +kernel)) (any_sub (lₚ := [(0, 21)]) (by decide +kernel))
      have mF21 := SFm_of cF21 oz_H2cls_16
      have cA21 : SA oz_H2clsl_8 A A21 := SA_trans (SA_refl) (SA_gluc (ι := oz_H2clsl_6) oz_H2cls_12 hA21 eA21 (by decide +kernel)) (any_subA (lₚ := []) (by decide +kernel))
      have mA21 := SAm_of cA21 oz_H2cls_17
      have r22 : (-2147483648 : Int) ≤ y21_0_21 ∧ y21_0_21 ≤ 2147483647 := rngE (show (-2147483648 : Int) ≤ F21 0 21 ∧ F21 0 21 ≤ 2147483647 from H.krg 0 21 (ltn len_V238_oz_H2cls rfl)) (show F21 0 21 = y21_0_21 from ((eF21 0 21).trans ey21_0_21))
      have : UIA (ub8 ((w1))) ((u0_8)) ((u0_9)) ((u2_2) % 4294967296) ((u0_14)) ((z21)) ((y21_0_21)) ((u0_9)) := .inl ⟨by omega, by omega, by omega⟩
      exact w_ireturn rfl (k (z21) _ _ _ H O (cF21) (cA21) (u0_9) ((((show F21 0 9 = F 0 9 from (eF21 0 9).trans (hS21 0 9 rfl))).trans (eu0_9))) (y21_0_21) (((eF21 0 21).trans ey21_0_21)) (show inr (z21) from pz21_0) (show 0 ≤ (z21) ∧ (z21) ≤ 17 from q_3951 pz21_1) (show 0 ≤ (u0_9) ∧ (u0_9) ≤ (u0_9) ∧ (u0_9) ≤ (u0_8) from q_3950 h0) (show UIA (ub8 ((w1))) ((u0_8)) ((u0_9)) ((u2_2) % 4294967296) ((u0_14)) ((z21)) ((y21_0_21)) ((u0_9)) by assumption) (show (z21) ≠ 0 ∨ (y21_0_21) = (u0_21) from q_3108 pz21_1))
  · refine Ew_of (pcₚ := 11) (fun _ => x_iconst rfl) ?_
    refine Ew_of (pcₚ := 20) (fun _ => x_goto rfl rfl) ?_
    refine Ew_of (pcₚ := 21) (fun _ => x_istore_n rfl) ?_
    have hl1 : (4) = idB ((u0_14)) := by omega
    refine Ew_of (pcₚ := 22) (fun _ => x_aload_n rfl (rk_o (rfl) rfl rfl)) ?_
    refine v_g H (o := 0) (v := I (u0_8)) rfl rfl rfl rfl rfl (congrArg (fun z : Int => I z) ((eu0_8) : F 0 8 = u0_8)) ?_
    refine Ew_of (pcₚ := 26) (fun _ => x_aload_n rfl (rk_o (rfl) rfl rfl)) ?_
    refine v_g H (o := 0) (v := I (u0_9)) rfl rfl rfl rfl rfl (congrArg (fun z : Int => I z) ((eu0_9) : F 0 9 = u0_9)) ?_
    refine w_isub rfl ?_
    refine Ew_of (pcₚ := 31) (fun _ => x_iload_n rfl rk_s) ?_
    refine w_icmpge (t := 44) rfl rfl (show inr ((u0_8 - u0_9)) from q_3952 h0) (show inr (4) from q_216) (fun b23 => ?_) (fun b23 => ?_)
    · refine Ew_of (pcₚ := 45) (fun _ => x_aload_n rfl (rk_o (rfl) rfl rfl)) ?_
      refine v_g H (o := 0) (v := .ref (D 1)) rfl rfl rfl rfl rfl (vrf (pf1)) ?_
      refine Ew_of (pcₚ := 49) (fun _ => x_aload_n rfl (rk_o (rfl) rfl rfl)) ?_
      refine v_g H (o := 0) (v := I (u0_9)) rfl rfl rfl rfl rfl (congrArg (fun z : Int => I z) ((eu0_9) : F 0 9 = u0_9)) ?_
      refine Ew_of (pcₚ := 53) (fun _ => x_iload_n rfl rk_s) ?_
      refine w_stat25 rfl rfl (by rfl) (C42_Brf (D := puc 1 D) (N := puc 1 N) (HW_subc H oz_H2cls_14 oz_H2cls_18) (n1) (en1) (w1) (ew1) (show inr (u0_9) from q_3958 b23 h0) (show inr (4) from q_216) (show (4) ≤ 0 ∨ 0 ≤ (u0_9) ∧ (u0_9) + (4) ≤ (n1) from q_3957 b23 h0) (show 0 ≤ (4) ∧ (4) ≤ 8 from q_623) (fun z24 σ24 F24ₚ A24ₚ Hₚ Oₚ hS24 hA24 pz24_0 pz24_1 pz24_2 => ⟨rfl, ?_⟩))
      refine v_backc (c := c) (s := s) H oz_H2cls_14 oz_H2cls_18 Hₚ Oₚ (fun F24 A24 H Oₚ eF24 eA24 => ?_)
      have O := OUT_trans O Oₚ
      -- PackHouse.number
      have cF24 : SF oz_H2clsl_7 F F24 := SF_trans (SF_refl) (SF_gluc (ι := oz_H2clsl_2) oz_H2cls_18 hS24 eF24 (by decide +kernel)) (any_sub (lₚ := []) (by decide +kernel))
      have mF24 := SFm_of cF24 oz_H2cls_16
      have cA24 : SA oz_H2clsl_8 A A24 := SA_trans (SA_refl) (SA_gluc (ι := oz_H2clsl_2) oz_H2cls_18 hA24 eA24 (by decide +kernel)) (any_subA (lₚ := []) (by decide +kernel))
      have mA24 := SAm_of cA24 oz_H2cls_17
      have hN : z24 = nvl (ub8 ((w1))) ((u0_9)) (idB ((u0_14))).toNat := by rw [← hl1]; exact (nmb_nn pz24_2 (by omega) pz24_0).trans nvl_u
      refine Ew_of (pcₚ := 57) (fun _ => x_lstore_n rfl) ?_
      refine Ew_of (pcₚ := 58) (fun _ => x_lload_n rfl rk2_s) ?_
      refine Ew_of (pcₚ := 59) (fun _ => x_lconst (z := 0) rfl (by decide)) ?_
      refine w_lcmp rfl (show inrJ (z24) from pz24_0) (show inrJ (0) from q_340) (fun z25 gz25 gaz25 gbz25 => ?_)
      refine w_ifeq (t := 90) rfl rfl (show inr (z25) from gz25) (fun b26 => ?_) (fun b26 => ?_)
      · refine Ew_of (pcₚ := 91) (fun _ => x_aload_n rfl (rk2_o (rk_o (rfl) rfl rfl) rfl rfl)) ?_
        refine Ew_of (pcₚ := 92) (fun _ => x_dup rfl rfl) ?_
        refine v_g H (o := 0) (v := I (u0_9)) rfl rfl rfl rfl rfl (congrArg (fun z : Int => I z) ((((show F24 0 9 = F 0 9 from (eF24 0 9))).trans (eu0_9)) : F24 0 9 = u0_9)) ?_
        refine Ew_of (pcₚ := 96) (fun _ => x_iload_n rfl (rk2_o (rk_s) rfl rfl)) ?_
        refine w_iadd rfl ?_
        refine v_p H (o := 0) (z := (u0_9 + 4)) (v := I ((u0_9 + 4))) rfl rfl rfl rfl rfl rfl rfl rfl (show (-2147483648 : Int) ≤ (u0_9 + 4) ∧ (u0_9 + 4) ≤ 2147483647 from q_3959 b23 h0) (fun σ H Oₚ => ?_)
        have O := OUT_trans O Oₚ
        have cFu27 : SF oz_H2clsl_7 F (updF F24 0 9 ((u0_9 + 4))) := SF_upd (cF24) rfl
        have mFu27 := SFm_of cFu27 oz_H2cls_16
        refine Ew_of (pcₚ := 101) (fun _ => x_iconst rfl) ?_
        have : UIA (ub8 ((w1))) ((u0_8)) ((u0_9)) ((u2_2) % 4294967296) ((u0_14)) ((0)) ((u0_21)) (((u0_9 + 4))) := .inr (.inr ⟨by omega, by rw [← hN]; omega, by omega, by omega⟩)
        exact w_ireturn rfl (k (0) _ _ _ H O (cFu27) (cA24) ((u0_9 + 4)) (rfl) (u0_21) ((((show F24 0 21 = F 0 21 from (eF24 0 21))).trans (eu0_21))) (show inr (0) from q_2) (show 0 ≤ (0) ∧ (0) ≤ 17 by first | exact q_3949 | omega) (show 0 ≤ ((u0_9 + 4)) ∧ (u0_9) ≤ ((u0_9 + 4)) ∧ ((u0_9 + 4)) ≤ (u0_8) from q_3960 b23 h0) (show UIA (ub8 ((w1))) ((u0_8)) ((u0_9)) ((u2_2) % 4294967296) ((u0_14)) ((0)) ((u0_21)) (((u0_9 + 4))) by assumption) (show (0) ≠ 0 ∨ (u0_21) = (u0_21) by first | exact q_3137 | omega))
      · refine Ew_of (pcₚ := 64) (fun _ => x_lload_n rfl rk2_s) ?_
        refine Ew_of (pcₚ := 65) (fun _ => x_aload_n rfl (rk2_o (rk_o (rfl) rfl rfl) rfl rfl)) ?_
        refine v_g H (o := 0) (v := .ref (D 2)) rfl rfl rfl rfl rfl (vrf ((mF24 0 12 rfl).trans (pf2))) ?_
        refine v_g H (o := 2) (v := I (u2_2)) rfl rfl rfl rfl rfl (congrArg (fun z : Int => I z) (((mF24 2 2 rfl).trans (eu2_2)) : F24 2 2 = u2_2)) ?_
        refine w_i2l rfl (show inr (u2_2) from q_18 r5) ?_
        refine Ew_of (pcₚ := 75) (fun _ => x_ldc2 (z := 4294967295) rfl (by decide)) ?_
        refine w_landE rfl ?_
        have g28 : inrJ (anJ (u2_2) (4294967295)) := toJ_inr _
        have han : ((anJ (u2_2) (4294967295))) = (u2_2) % 4294967296 := anJ_w (by omega)
        refine w_lcmp rfl (show inrJ (z24) from pz24_0) (show inrJ ((anJ (u2_2) (4294967295))) from g28) (fun z29 gz29 gaz29 gbz29 => ?_)
        refine w_ifeq (t := 90) rfl rfl (show inr (z29) from gz29) (fun b30 => ?_) (fun b30 => ?_)
        · refine Ew_of (pcₚ := 91) (fun _ => x_aload_n rfl (rk2_o (rk_o (rfl) rfl rfl) rfl rfl)) ?_
          refine Ew_of (pcₚ := 92) (fun _ => x_dup rfl rfl) ?_
          refine v_g H (o := 0) (v := I (u0_9)) rfl rfl rfl rfl rfl (congrArg (fun z : Int => I z) ((((show F24 0 9 = F 0 9 from (eF24 0 9))).trans (eu0_9)) : F24 0 9 = u0_9)) ?_
          refine Ew_of (pcₚ := 96) (fun _ => x_iload_n rfl (rk2_o (rk_s) rfl rfl)) ?_
          refine w_iadd rfl ?_
          refine v_p H (o := 0) (z := (u0_9 + 4)) (v := I ((u0_9 + 4))) rfl rfl rfl rfl rfl rfl rfl rfl (show (-2147483648 : Int) ≤ (u0_9 + 4) ∧ (u0_9 + 4) ≤ 2147483647 from q_3959 b23 h0) (fun σ H Oₚ => ?_)
          have O := OUT_trans O Oₚ
          have cFu31 : SF oz_H2clsl_7 F (updF F24 0 9 ((u0_9 + 4))) := SF_upd (cF24) rfl
          have mFu31 := SFm_of cFu31 oz_H2cls_16
          refine Ew_of (pcₚ := 101) (fun _ => x_iconst rfl) ?_
          have : UIA (ub8 ((w1))) ((u0_8)) ((u0_9)) ((u2_2) % 4294967296) ((u0_14)) ((0)) ((u0_21)) (((u0_9 + 4))) := .inr (.inr ⟨by omega, by rw [← hN]; omega, by omega, by omega⟩)
          exact w_ireturn rfl (k (0) _ _ _ H O (cFu31) (cA24) ((u0_9 + 4)) (rfl) (u0_21) ((((show F24 0 21 = F 0 21 from (eF24 0 21))).trans (eu0_21))) (show inr (0) from q_2) (show 0 ≤ (0) ∧ (0) ≤ 17 by first | exact q_3949 | omega) (show 0 ≤ ((u0_9 + 4)) ∧ (u0_9) ≤ ((u0_9 + 4)) ∧ ((u0_9 + 4)) ≤ (u0_8) from q_3960 b23 h0) (show UIA (ub8 ((w1))) ((u0_8)) ((u0_9)) ((u2_2) % 4294967296) ((u0_14)) ((0)) ((u0_21)) (((u0_9 + 4))) by assumption) (show (0) ≠ 0 ∨ (u0_21) = (u0_21) by first | exact q_3137 | omega))
        · refine Ew_of (pcₚ := 81) (fun _ => x_aload_n rfl (rk2_o (rk_o (rfl) rfl rfl) rfl rfl)) ?_
          refine Ew_of (pcₚ := 82) (fun _ => x_iconst rfl) ?_
          refine Ew_of (pcₚ := 83) (fun _ => x_aload_n rfl (rk2_o (rk_o (rfl) rfl rfl) rfl rfl)) ?_
          refine v_g H (o := 0) (v := I (u0_9)) rfl rfl rfl rfl rfl (congrArg (fun z : Int => I z) ((((show F24 0 9 = F 0 9 from (eF24 0 9))).trans (eu0_9)) : F24 0 9 = u0_9)) ?_
          refine v_inv H (o := 0) rfl rfl rfl rfl rfl rfl (by rfl) (C232 (D := puc 0 D) (N := puc 0 N) (HW_subc H oz_H2cls_15 oz_H2cls_12) (u0_21) ((((show F24 0 21 = F 0 21 from (eF24 0 21))).trans (eu0_21))) (show inr (4) from q_216) (show inr (u0_9) from q_3958 b23 h0) (fun z32 σ32 F32ₚ A32ₚ Hₚ Oₚ hS32 hA32 y32_0_21 (ey32_0_21 : HID _) pz32_0 pz32_1 pz32_2 => ⟨rfl, ?_⟩))
          refine v_backc (c := c) (s := s) H oz_H2cls_15 oz_H2cls_12 Hₚ Oₚ (fun F32 A32 H Oₚ eF32 eA32 => ?_)
          have O := OUT_trans O Oₚ
          -- Unpacker.fail
          have cF32 : SF oz_H2clsl_7 F F32 := SF_trans (cF24) (SF_gluc (ι := oz_H2clsl_6) oz_H2cls_12 hS32 eF32 (by decide +kernel)) (any_sub (lₚ := [(0, 21)]) (by decide +kernel))
          have mF32 := SFm_of cF32 oz_H2cls_16
          have cA32 : SA oz_H2clsl_8 A A32 := SA_trans (cA24) (SA_gluc (ι := oz_H2clsl_6) oz_H2cls_12 hA32 eA32 (by decide +kernel)) (any_subA (lₚ := []) (by decide +kernel))
          have mA32 := SAm_of cA32 oz_H2cls_17
          have r33 : (-2147483648 : Int) ≤ y32_0_21 ∧ y32_0_21 ≤ 2147483647 := rngE (show (-2147483648 : Int) ≤ F32 0 21 ∧ F32 0 21 ≤ 2147483647 from H.krg 0 21 (ltn len_V238_oz_H2cls rfl)) (show F32 0 21 = y32_0_21 from ((eF32 0 21).trans ey32_0_21))
          have : UIA (ub8 ((w1))) ((u0_8)) ((u0_9)) ((u2_2) % 4294967296) ((u0_14)) ((z32)) ((y32_0_21)) ((u0_9)) := .inr (.inl ⟨by omega, ⟨by rw [← hN]; omega, by rw [← hN]; omega⟩, by omega, by omega⟩)
          exact w_ireturn rfl (k (z32) _ _ _ H O (cF32) (cA32) (u0_9) (((((show F32 0 9 = F24 0 9 from (eF32 0 9).trans (hS32 0 9 rfl))).trans ((show F24 0 9 = F 0 9 from (eF24 0 9)))).trans (eu0_9))) (y32_0_21) (((eF32 0 21).trans ey32_0_21)) (show inr (z32) from pz32_0) (show 0 ≤ (z32) ∧ (z32) ≤ 17 from q_3956 pz32_1) (show 0 ≤ (u0_9) ∧ (u0_9) ≤ (u0_9) ∧ (u0_9) ≤ (u0_8) from q_3950 h0) (show UIA (ub8 ((w1))) ((u0_8)) ((u0_9)) ((u2_2) % 4294967296) ((u0_14)) ((z32)) ((y32_0_21)) ((u0_9)) by assumption) (show (z32) ≠ 0 ∨ (y32_0_21) = (u0_21) from q_3246 pz32_1))
    · refine Ew_of (pcₚ := 35) (fun _ => x_aload_n rfl (rk_o (rfl) rfl rfl)) ?_
      refine Ew_of (pcₚ := 36) (fun _ => x_iconst rfl) ?_
      refine Ew_of (pcₚ := 37) (fun _ => x_aload_n rfl (rk_o (rfl) rfl rfl)) ?_
      refine v_g H (o := 0) (v := I (u0_8)) rfl rfl rfl rfl rfl (congrArg (fun z : Int => I z) ((eu0_8) : F 0 8 = u0_8)) ?_
      refine v_inv H (o := 0) rfl rfl rfl rfl rfl rfl (by rfl) (C232 (D := puc 0 D) (N := puc 0 N) (HW_subc H oz_H2cls_15 oz_H2cls_12) (u0_21) ((eu0_21)) (show inr (1) from q_135) (show inr (u0_8) from q_3942 h0) (fun z34 σ34 F34ₚ A34ₚ Hₚ Oₚ hS34 hA34 y34_0_21 (ey34_0_21 : HID _) pz34_0 pz34_1 pz34_2 => ⟨rfl, ?_⟩))
      refine v_backc (c := c) (s := s) H oz_H2cls_15 oz_H2cls_12 Hₚ Oₚ (fun F34 A34 H Oₚ eF34 eA34 => ?_)
      have O := OUT_trans O Oₚ
      -- Unpacker.fail
      have cF34 : SF oz_H2clsl_7 F F34 := SF_trans (SF_refl) (SF_gluc (ι := oz_H2clsl_6) oz_H2cls_12 hS34 eF34 (by decide +kernel)) (any_sub (lₚ := [(0, 21)]) (by decide +kernel))
      have mF34 := SFm_of cF34 oz_H2cls_16
      have cA34 : SA oz_H2clsl_8 A A34 := SA_trans (SA_refl) (SA_gluc (ι := oz_H2clsl_6) oz_H2cls_12 hA34 eA34 (by decide +kernel)) (any_subA (lₚ := []) (by decide +kernel))
      have mA34 := SAm_of cA34 oz_H2cls_17
      have r35 : (-2147483648 : Int) ≤ y34_0_21 ∧ y34_0_21 ≤ 2147483647 := rngE (show (-2147483648 : Int) ≤ F34 0 21 ∧ F34 0 21 ≤ 2147483647 from H.krg 0 21 (ltn len_V238_oz_H2cls rfl)) (show F34 0 21 = y34_0_21 from ((eF34 0 21).trans ey34_0_21))
      have : UIA (ub8 ((w1))) ((u0_8)) ((u0_9)) ((u2_2) % 4294967296) ((u0_14)) ((z34)) ((y34_0_21)) ((u0_9)) := .inl ⟨by omega, by omega, by omega⟩
      exact w_ireturn rfl (k (z34) _ _ _ H O (cF34) (cA34) (u0_9) ((((show F34 0 9 = F 0 9 from (eF34 0 9).trans (hS34 0 9 rfl))).trans (eu0_9))) (y34_0_21) (((eF34 0 21).trans ey34_0_21)) (show inr (z34) from pz34_0) (show 0 ≤ (z34) ∧ (z34) ≤ 17 from q_3951 pz34_1) (show 0 ≤ (u0_9) ∧ (u0_9) ≤ (u0_9) ∧ (u0_9) ≤ (u0_8) from q_3950 h0) (show UIA (ub8 ((w1))) ((u0_8)) ((u0_9)) ((u2_2) % 4294967296) ((u0_14)) ((z34)) ((y34_0_21)) ((u0_9)) by assumption) (show (z34) ≠ 0 ∨ (y34_0_21) = (u0_21) from q_3108 pz34_1))
abbrev V239 : vV := [(0, 12, [(4, 0), (4, 0), (4, 0), (4, 0), (4, 0), (4, 0), (4, 0), (4, 0), (0, 0), (0, 0), (4, 0), (0, 0), (4, 0), (4, 0), (0, 0), (2, 0), (0, 0), (0, 0), (0, 0), (0, 0), (0, 0), (0, 0)])]
theorem len_V239_oz_H2cls : (V239).length = 1 := by decide +kernel

theorem C239 {σE : rS} {D N : Nat → Nat} {F : hF} {A : hA} {d c s : Nat} {Q : wQ} (H : HW V239 σE D N F A)  (u0_14 : Int) (eu0_14 : HID (F 0 14 = u0_14)) (h0 : 0 ≤ (u0_14) ∧ (u0_14) ≤ 255) (k : ∀ (z : Int) (σ : rS) (Fₚ : hF) (Aₚ : hA), HW V239 σ D N Fₚ Aₚ → OUT (V239).length D N σE c s D N σ c s → SF [] F Fₚ → SA [] A Aₚ → (inr (z)) → (0 ≤ (z) ∧ (z) ≤ 8) → ((z) = sbt ((u0_14))) → ((z) = szB ((u0_14))) → Q (some (I z)) σ c s) : Ew 239 (d + 0) 0 (rargs 0 [.ref (D 0)]) [] σE c s Q := by
  have O := OUT_refl (n := (V239).length) (D := D) (N := N) (σ := σE) (c := c) (s := s)
  have HE := H
  have r1 : (-2147483648 : Int) ≤ u0_14 ∧ u0_14 ≤ 2147483647 := rngE (show (-2147483648 : Int) ≤ F 0 14 ∧ F 0 14 ≤ 2147483647 from H.krg 0 14 (ltn len_V239_oz_H2cls rfl)) (show F 0 14 = u0_14 from (eu0_14))
  have hbz := sbt_sz (h := (u0_14)) (by omega)
  refine Ew_of (pcₚ := 1) (fun _ => x_aload_n rfl rfl) ?_
  refine v_g H (o := 0) (v := I (u0_14)) rfl rfl rfl rfl rfl (congrArg (fun z : Int => I z) ((eu0_14) : F 0 14 = u0_14)) ?_
  refine Ew_of (pcₚ := 6) (fun _ => x_bipush (z := 6) rfl (by decide)) ?_
  refine w_ishrK 6 64 (by decide) (by decide) rfl (show inr (u0_14) from q_299 h0) (fun z2 gz2 dz2 => ?_)
  refine Ew_of (pcₚ := 8) (fun _ => x_istore_n rfl) ?_
  refine Ew_of (pcₚ := 9) (fun _ => x_iload_n rfl rk_s) ?_
  refine w_ifle (t := 18) rfl rfl (show inr (z2) from gz2) (fun b3 => ?_) (fun b3 => ?_)
  · refine Ew_of (pcₚ := 19) (fun _ => x_aload_n rfl (rk_o (rfl) rfl rfl)) ?_
    refine v_g H (o := 0) (v := I (u0_14)) rfl rfl rfl rfl rfl (congrArg (fun z : Int => I z) ((eu0_14) : F 0 14 = u0_14)) ?_
    refine Ew_of (pcₚ := 24) (fun _ => x_bipush (z := 32) rfl (by decide)) ?_
    refine w_iandE rfl (show inr (u0_14) from q_299 h0) (show inr (32) from q_655) (fun z4 gz4 gaz4 gbz4 gez4 => ?_)
    refine w_ifeq (t := 32) rfl rfl (show inr (z4) from gz4) (fun b5 => ?_) (fun b5 => ?_)
    · refine Ew_of (pcₚ := 33) (fun _ => x_iconst rfl) ?_
      have hsb : ((0) : Int) = sbt ((u0_14)) := by first | exact sbt_1 (by omega) (by omega) | exact sbt_2 (by omega) (by omega) | exact sbt_3 (by omega) (by omega)
      exact w_ireturn rfl (k (0) _ _ _ H O (SF_refl) (SA_refl) (show inr (0) from q_2) (show 0 ≤ (0) ∧ (0) ≤ 8 by first | exact q_1888 | omega) (show (0) = sbt ((u0_14)) from hsb) (show (0) = szB ((u0_14)) by omega))
    · refine Ew_of (pcₚ := 29) (fun _ => x_iconst rfl) ?_
      refine Ew_of (pcₚ := 33) (fun _ => x_goto rfl rfl) ?_
      have hsb : ((1) : Int) = sbt ((u0_14)) := by first | exact sbt_1 (by omega) (by omega) | exact sbt_2 (by omega) (by omega) | exact sbt_3 (by omega) (by omega)
      exact w_ireturn rfl (k (1) _ _ _ H O (SF_refl) (SA_refl) (show inr (1) from q_135) (show 0 ≤ (1) ∧ (1) ≤ 8 by first | exact q_1889 | omega) (show (1) = sbt ((u0_14)) from hsb) (show (1) = szB ((u0_14)) by omega))
  · refine Ew_of (pcₚ := 13) (fun _ => x_iconst rfl) ?_
    refine Ew_of (pcₚ := 14) (fun _ => x_iload_n rfl rk_s) ?_
    have hp3 : p2 ((z2)) ≤ p2 3 := p2_mono (by omega)
    have hp8 : p2 3 = 8 := by decide
    have hpp := p2_pos ((z2))
    refine w_ishl1 rfl (show 0 ≤ z2 ∧ z2 ≤ 31 by omega) ?_
    refine Ew_of (pcₚ := 33) (fun _ => x_goto rfl rfl) ?_
    have hsb : ((p2 (z2)) : Int) = sbt ((u0_14)) := by first | exact sbt_1 (by omega) (by omega) | exact sbt_2 (by omega) (by omega) | exact sbt_3 (by omega) (by omega)
    exact w_ireturn rfl (k (p2 (z2)) _ _ _ H O (SF_refl) (SA_refl) (show inr (p2 (z2)) by omega) (show 0 ≤ (p2 (z2)) ∧ (p2 (z2)) ≤ 8 by omega) (show (p2 (z2)) = sbt ((u0_14)) by omega) (show (p2 (z2)) = szB ((u0_14)) by omega))
abbrev V240 : vV := [(0, 12, [(4, 0), (4, 0), (4, 0), (4, 0), (4, 0), (4, 0), (4, 0), (4, 0), (0, 0), (0, 0), (4, 0), (0, 0), (4, 0), (4, 0), (0, 0), (2, 0), (0, 0), (0, 0), (0, 0), (0, 0), (0, 0), (0, 0)]), (1, 0, [])]
theorem len_V240_oz_H2cls : (V240).length = 2 := by decide +kernel
theorem oz_H2cls_21 : vsub V240 V239 [0] = true := by decide +kernel
theorem oz_H2cls_22 : vsub V240 V42_Br [1] = true := by decide +kernel
def oz_H2clsl_9 : List (Nat × Nat) := []
theorem oz_H2cls_23 : (oz_H2clsl_9).all (fun p => !tbz 0 (Nat.add (Nat.mul 32 p.1) p.2)) = true := by decide +kernel

theorem C240 {σE : rS} {D N : Nat → Nat} {F : hF} {A : hA} {d c s : Nat} {Q : wQ} (H : HW V240 σE D N F A)  (pf1 : HID (F 0 7 = (D 1 : Int))) (n1 : Int) (en1 : HID ((N 1 : Int) = n1)) (u0_14 : Int) (eu0_14 : HID (F 0 14 = u0_14)) (u0_16 : Int) (eu0_16 : HID (F 0 16 = u0_16)) (w1 : Int → Int) (ew1 : A 1 = w1) (h0 : 0 ≤ (u0_14) ∧ (u0_14) ≤ 255) (h1 : 0 ≤ (u0_16) ∧ (u0_16) + sbt ((u0_14)) ≤ (n1)) (h2 : (n1) ≤ 65536) (k : ∀ (z : Int) (σ : rS) (Fₚ : hF) (Aₚ : hA), HW V240 σ D N Fₚ Aₚ → OUT (V240).length D N σE c s D N σ c s → SF [] F Fₚ → SA [] A Aₚ → (inrJ (z)) → (SGD (dueF (ub8 ((w1))) ((u0_16)) (szB ((u0_14)))) ((z))) → Q (some (J z)) σ c s) : Ew 240 (d + 1) 0 (rargs 0 [.ref (D 0)]) [] σE c s Q := by
  have O := OUT_refl (n := (V240).length) (D := D) (N := N) (σ := σE) (c := c) (s := s)
  have HE := H
  have r1 : (-2147483648 : Int) ≤ u0_14 ∧ u0_14 ≤ 2147483647 := rngE (show (-2147483648 : Int) ≤ F 0 14 ∧ F 0 14 ≤ 2147483647 from H.krg 0 14 (ltn len_V240_oz_H2cls rfl)) (show F 0 14 = u0_14 from (eu0_14))
  have r2 : (-2147483648 : Int) ≤ u0_16 ∧ u0_16 ≤ 2147483647 := rngE (show (-2147483648 : Int) ≤ F 0 16 ∧ F 0 16 ≤ 2147483647 from H.krg 0 16 (ltn len_V240_oz_H2cls rfl)) (show F 0 16 = u0_16 from (eu0_16))
  have r3 : (0 : Int) ≤ n1 ∧ n1 ≤ 1000000 := nleE (H.nle 1 (ltn len_V240_oz_H2cls rfl)) (show (N 1 : Int) = n1 from en1)
  refine Ew_of (pcₚ := 1) (fun _ => x_aload_n rfl rfl) ?_
  refine v_inv H (o := 0) rfl rfl rfl rfl rfl rfl (by rfl) (C239 (D := puc 0 D) (N := puc 0 N) (HW_subc H oz_H2cls_21 oz_H2cls_12) (u0_14) ((eu0_14)) (show 0 ≤ (u0_14) ∧ (u0_14) ≤ 255 from h0) (fun z4 σ4 F4ₚ A4ₚ Hₚ Oₚ hS4 hA4 pz4_0 pz4_1 pz4_2 pz4_3 => ⟨rfl, ?_⟩))
  refine v_backc (c := c) (s := s) H oz_H2cls_21 oz_H2cls_12 Hₚ Oₚ (fun F4 A4 H Oₚ eF4 eA4 => ?_)
  have O := OUT_trans O Oₚ
  -- Unpacker.sizeBytes
  have cF4 : SF oz_H2clsl_9 F F4 := SF_trans (SF_refl) (SF_gluc (ι := oz_H2clsl_6) oz_H2cls_12 hS4 eF4 (by decide +kernel)) (any_sub (lₚ := []) (by decide +kernel))
  have mF4 := SFm_of cF4 oz_H2cls_23
  have cA4 : SA oz_H2clsl_8 A A4 := SA_trans (SA_refl) (SA_gluc (ι := oz_H2clsl_6) oz_H2cls_12 hA4 eA4 (by decide +kernel)) (any_subA (lₚ := []) (by decide +kernel))
  have mA4 := SAm_of cA4 oz_H2cls_17
  have hl1 := pz4_3
  refine Ew_of (pcₚ := 5) (fun _ => x_istore_n rfl) ?_
  refine Ew_of (pcₚ := 6) (fun _ => x_aload_n rfl (rk_o (rfl) rfl rfl)) ?_
  refine v_g H (o := 0) (v := .ref (D 1)) rfl rfl rfl rfl rfl (vrf ((mF4 0 7 rfl).trans (pf1))) ?_
  refine Ew_of (pcₚ := 10) (fun _ => x_aload_n rfl (rk_o (rfl) rfl rfl)) ?_
  refine v_g H (o := 0) (v := I (u0_16)) rfl rfl rfl rfl rfl (congrArg (fun z : Int => I z) (((mF4 0 16 rfl).trans (eu0_16)) : F4 0 16 = u0_16)) ?_
  refine Ew_of (pcₚ := 14) (fun _ => x_iload_n rfl rk_s) ?_
  refine w_stat25 rfl rfl (by rfl) (C42_Brf (D := puc 1 D) (N := puc 1 N) (HW_subc H oz_H2cls_22 oz_H2cls_18) (n1) (en1) (w1) ((funext (mA4 1 rfl)).trans (ew1)) (show inr (u0_16) from q_3962 h1 r2) (show inr (z4) from pz4_0) (show (z4) ≤ 0 ∨ 0 ≤ (u0_16) ∧ (u0_16) + (z4) ≤ (n1) from q_3961 h1 pz4_2) (show 0 ≤ (z4) ∧ (z4) ≤ 8 from pz4_1) (fun z5 σ5 F5ₚ A5ₚ Hₚ Oₚ hS5 hA5 pz5_0 pz5_1 pz5_2 => ⟨rfl, ?_⟩))
  refine v_backc (c := c) (s := s) H oz_H2cls_22 oz_H2cls_18 Hₚ Oₚ (fun F5 A5 H Oₚ eF5 eA5 => ?_)
  have O := OUT_trans O Oₚ
  -- PackHouse.number
  have cF5 : SF oz_H2clsl_9 F F5 := SF_trans (cF4) (SF_gluc (ι := oz_H2clsl_2) oz_H2cls_18 hS5 eF5 (by decide +kernel)) (any_sub (lₚ := []) (by decide +kernel))
  have mF5 := SFm_of cF5 oz_H2cls_23
  have cA5 : SA oz_H2clsl_8 A A5 := SA_trans (cA4) (SA_gluc (ι := oz_H2clsl_2) oz_H2cls_18 hA5 eA5 (by decide +kernel)) (any_subA (lₚ := []) (by decide +kernel))
  have mA5 := SAm_of cA5 oz_H2cls_17
  have hq2 : ((z4) : Int) ≠ 2 ∨ (0 ≤ z5 ∧ z5 ≤ 16777215) := (Decidable.em (((z4) : Int) = 2)).elim (fun w => .inr (nb3 (NBY_up pz5_1 (by omega) (by omega)))) .inl
  refine Ew_of (pcₚ := 18) (fun _ => x_iload_n rfl rk_s) ?_
  refine Ew_of (pcₚ := 19) (fun _ => x_iconst rfl) ?_
  refine w_icmpne (t := 28) rfl rfl (show inr (z4) from pz4_0) (show inr (2) from q_122) (fun b6 => ?_) (fun b6 => ?_)
  · refine Ew_of (pcₚ := 29) (fun _ => x_iconst rfl) ?_
    refine w_i2l rfl (show inr (0) from q_2) ?_
    refine w_ladd rfl ?_
    have : SGD (dueF (ub8 ((w1))) ((u0_16)) (szB ((u0_14)))) (((z5 + 0))) := by rw [← hl1]; exact SGD_of pz5_2 (by omega) pz5_0 (by omega) rfl
    exact w_lreturn rfl (k ((z5 + 0)) _ _ _ H O (cF5) (cA5) (show inrJ ((z5 + 0)) by omega) (show SGD (dueF (ub8 ((w1))) ((u0_16)) (szB ((u0_14)))) (((z5 + 0))) by assumption))
  · refine Ew_of (pcₚ := 25) (fun _ => x_sipush (z := 256) rfl (by decide)) ?_
    refine Ew_of (pcₚ := 29) (fun _ => x_goto rfl rfl) ?_
    refine w_i2l rfl (show inr (256) from q_3) ?_
    refine w_ladd rfl ?_
    have : SGD (dueF (ub8 ((w1))) ((u0_16)) (szB ((u0_14)))) (((z5 + 256))) := by rw [← hl1]; exact SGD_of pz5_2 (by omega) pz5_0 (by omega) rfl
    exact w_lreturn rfl (k ((z5 + 256)) _ _ _ H O (cF5) (cA5) (show inrJ ((z5 + 256)) by omega) (show SGD (dueF (ub8 ((w1))) ((u0_16)) (szB ((u0_14)))) (((z5 + 256))) by assumption))
abbrev V241 : vV := [(0, 12, [(4, 0), (4, 0), (4, 0), (4, 0), (4, 0), (4, 0), (4, 0), (4, 0), (0, 0), (0, 0), (4, 0), (0, 0), (4, 0), (4, 0), (0, 0), (2, 0), (0, 0), (0, 0), (0, 0), (0, 0), (0, 0), (0, 0)]), (1, 0, []), (1, 1, [])]
theorem len_V241_oz_H2cls : (V241).length = 3 := by decide +kernel
theorem oz_H2cls_25 : vsub V241 V239 [0] = true := by decide +kernel
theorem oz_H2cls_26 : vsub V241 V240 [0, 1] = true := by decide +kernel
theorem oz_H2cls_27 : vsub V241 V236 [0, 2] = true := by decide +kernel
theorem oz_H2cls_28 : vsub V241 V232 [0] = true := by decide +kernel
def oz_H2clsl_10 : List (Nat × Nat) := [(0, 9), (0, 15), (0, 16), (0, 21)]
theorem oz_H2cls_29 : (oz_H2clsl_10).all (fun p => !tbz 2195968 (Nat.add (Nat.mul 32 p.1) p.2)) = true := by decide +kernel
def oz_H2clsl_11 : List Nat := [0, 1]
theorem oz_H2cls_30 : okc oz_H2clsl_11 512 = true := by decide +kernel

theorem C241 {σE : rS} {D N : Nat → Nat} {F : hF} {A : hA} {d c s : Nat} {Q : wQ} (H : HW V241 σE D N F A)  (pf1 : HID (F 0 7 = (D 1 : Int))) (pf2 : HID (F 0 13 = (D 2 : Int))) (n1 : Int) (en1 : HID ((N 1 : Int) = n1)) (n2 : Int) (en2 : HID ((N 2 : Int) = n2)) (u0_8 : Int) (eu0_8 : HID (F 0 8 = u0_8)) (u0_9 : Int) (eu0_9 : HID (F 0 9 = u0_9)) (u0_14 : Int) (eu0_14 : HID (F 0 14 = u0_14)) (u0_15 : Int) (eu0_15 : HID (F 0 15 = u0_15)) (u0_16 : Int) (eu0_16 : HID (F 0 16 = u0_16)) (u0_21 : Int) (eu0_21 : HID (F 0 21 = u0_21)) (w1 : Int → Int) (ew1 : A 1 = w1) (w2 : Int → Int) (ew2 : A 2 = w2) (h0 : 0 ≤ (u0_9) ∧ (u0_9) ≤ (u0_8) ∧ (u0_8) ≤ (n1) ∧ (n1) ≤ 65536) (h1 : 0 ≤ (u0_14) ∧ (u0_14) ≤ 255) (h2 : (n2) = 5) (h3 : 0 ≤ (u0_15)) (k : ∀ (z : Int) (σ : rS) (Fₚ : hF) (Aₚ : hA), HW V241 σ D N Fₚ Aₚ → OUT (V241).length D N σE c s D N σ c s → SF [(0, 9), (0, 15), (0, 16), (0, 21)] F Fₚ → SA [2] A Aₚ → ∀ y0_9 : Int, Fₚ 0 9 = y0_9 → ∀ y0_15 : Int, Fₚ 0 15 = y0_15 → ∀ y0_16 : Int, Fₚ 0 16 = y0_16 → ∀ y0_21 : Int, Fₚ 0 21 = y0_21 → ∀ v2 : Int → Int, Aₚ 2 = v2 → (inr (z)) → (0 ≤ (z) ∧ (z) ≤ 17) → (0 ≤ (y0_9) ∧ (u0_9) ≤ (y0_9) ∧ (y0_9) ≤ (u0_8)) → (0 ≤ (y0_15)) → ((z) ≠ 0 ∨ 0 ≤ (y0_16) ∧ (y0_16) + sbt ((u0_14)) ≤ (n1)) → (USA (ub8 ((w1))) ((u0_8)) ((u0_9)) ((u0_14)) ((u0_15)) (((w2)) 4) ((z)) ((y0_21)) ((y0_9)) ((y0_16)) ((y0_15)) (((v2)) 4)) → (((v2)) 0 = ((w2)) 0) → (((v2)) 1 = ((w2)) 1) → (((v2)) 2 = ((w2)) 2) → (((v2)) 3 = ((w2)) 3) → ((z) ≠ 0 ∨ (y0_21) = (u0_21)) → Q (some (I z)) σ c s) : Ew 241 (d + 2) 0 (rargs 0 [.ref (D 0)]) [] σE c s Q := by
  have O := OUT_refl (n := (V241).length) (D := D) (N := N) (σ := σE) (c := c) (s := s)
  have HE := H
  have r1 : (-2147483648 : Int) ≤ u0_8 ∧ u0_8 ≤ 2147483647 := rngE (show (-2147483648 : Int) ≤ F 0 8 ∧ F 0 8 ≤ 2147483647 from H.krg 0 8 (ltn len_V241_oz_H2cls rfl)) (show F 0 8 = u0_8 from (eu0_8))
  have r2 : (-2147483648 : Int) ≤ u0_9 ∧ u0_9 ≤ 2147483647 := rngE (show (-2147483648 : Int) ≤ F 0 9 ∧ F 0 9 ≤ 2147483647 from H.krg 0 9 (ltn len_V241_oz_H2cls rfl)) (show F 0 9 = u0_9 from (eu0_9))
  have r3 : (-2147483648 : Int) ≤ u0_14 ∧ u0_14 ≤ 2147483647 := rngE (show (-2147483648 : Int) ≤ F 0 14 ∧ F 0 14 ≤ 2147483647 from H.krg 0 14 (ltn len_V241_oz_H2cls rfl)) (show F 0 14 = u0_14 from (eu0_14))
  have r4 : (-9223372036854775808 : Int) ≤ u0_15 ∧ u0_15 ≤ 9223372036854775807 := rngE (show (-9223372036854775808 : Int) ≤ F 0 15 ∧ F 0 15 ≤ 9223372036854775807 from H.krg 0 15 (ltn len_V241_oz_H2cls rfl)) (show F 0 15 = u0_15 from (eu0_15))
  have r5 : (-2147483648 : Int) ≤ u0_16 ∧ u0_16 ≤ 2147483647 := rngE (show (-2147483648 : Int) ≤ F 0 16 ∧ F 0 16 ≤ 2147483647 from H.krg 0 16 (ltn len_V241_oz_H2cls rfl)) (show F 0 16 = u0_16 from (eu0_16))
  have r6 : (-2147483648 : Int) ≤ u0_21 ∧ u0_21 ≤ 2147483647 := rngE (show (-2147483648 : Int) ≤ F 0 21 ∧ F 0 21 ≤ 2147483647 from H.krg 0 21 (ltn len_V241_oz_H2cls rfl)) (show F 0 21 = u0_21 from (eu0_21))
  have r7 : (0 : Int) ≤ n1 ∧ n1 ≤ 1000000 := nleE (H.nle 1 (ltn len_V241_oz_H2cls rfl)) (show (N 1 : Int) = n1 from en1)
  have r8 : (0 : Int) ≤ n2 ∧ n2 ≤ 1000000 := nleE (H.nle 2 (ltn len_V241_oz_H2cls rfl)) (show (N 2 : Int) = n2 from en2)
  refine Ew_of (pcₚ := 1) (fun _ => x_aload_n rfl rfl) ?_
  refine v_inv H (o := 0) rfl rfl rfl rfl rfl rfl (by rfl) (C239 (D := puc 0 D) (N := puc 0 N) (HW_subc H oz_H2cls_25 oz_H2cls_12) (u0_14) ((eu0_14)) (show 0 ≤ (u0_14) ∧ (u0_14) ≤ 255 from h1) (fun z9 σ9 F9ₚ A9ₚ Hₚ Oₚ hS9 hA9 pz9_0 pz9_1 pz9_2 pz9_3 => ⟨rfl, ?_⟩))
  refine v_backc (c := c) (s := s) H oz_H2cls_25 oz_H2cls_12 Hₚ Oₚ (fun F9 A9 H Oₚ eF9 eA9 => ?_)
  have O := OUT_trans O Oₚ
  -- Unpacker.sizeBytes
  have cF9 : SF oz_H2clsl_10 F F9 := SF_trans (SF_refl) (SF_gluc (ι := oz_H2clsl_6) oz_H2cls_12 hS9 eF9 (by decide +kernel)) (any_sub (lₚ := []) (by decide +kernel))
  have mF9 := SFm_of cF9 oz_H2cls_29
  have cA9 : SA oz_H2clsl_4 A A9 := SA_trans (SA_refl) (SA_gluc (ι := oz_H2clsl_6) oz_H2cls_12 hA9 eA9 (by decide +kernel)) (any_subA (lₚ := []) (by decide +kernel))
  have mA9 := SAm_of cA9 oz_H2cls_10
  have hl1 := pz9_3
  have h32 := andI_32 (h := (u0_14)) (by omega)
  refine Ew_of (pcₚ := 5) (fun _ => x_istore_n rfl) ?_
  refine Ew_of (pcₚ := 6) (fun _ => x_aload_n rfl (rk_o (rfl) rfl rfl)) ?_
  refine v_g H (o := 0) (v := I (u0_8)) rfl rfl rfl rfl rfl (congrArg (fun z : Int => I z) (((mF9 0 8 rfl).trans (eu0_8)) : F9 0 8 = u0_8)) ?_
  refine Ew_of (pcₚ := 10) (fun _ => x_aload_n rfl (rk_o (rfl) rfl rfl)) ?_
  refine v_g H (o := 0) (v := I (u0_9)) rfl rfl rfl rfl rfl (congrArg (fun z : Int => I z) ((((show F9 0 9 = F 0 9 from (eF9 0 9).trans (hS9 0 9 rfl))).trans (eu0_9)) : F9 0 9 = u0_9)) ?_
  refine w_isub rfl ?_
  refine Ew_of (pcₚ := 15) (fun _ => x_iload_n rfl rk_s) ?_
  refine w_icmpge (t := 28) rfl rfl (show inr ((u0_8 - u0_9)) from q_3952 h0) (show inr (z9) from pz9_0) (fun b10 => ?_) (fun b10 => ?_)
  · refine Ew_of (pcₚ := 29) (fun _ => x_aload_n rfl (rk_o (rfl) rfl rfl)) ?_
    refine Ew_of (pcₚ := 30) (fun _ => x_aload_n rfl (rk_o (rfl) rfl rfl)) ?_
    refine v_g H (o := 0) (v := I (u0_9)) rfl rfl rfl rfl rfl (congrArg (fun z : Int => I z) ((((show F9 0 9 = F 0 9 from (eF9 0 9).trans (hS9 0 9 rfl))).trans (eu0_9)) : F9 0 9 = u0_9)) ?_
    refine v_p H (o := 0) (z := u0_9) (v := I (u0_9)) rfl rfl rfl rfl rfl rfl rfl rfl (show (-2147483648 : Int) ≤ u0_9 ∧ u0_9 ≤ 2147483647 from r2) (fun σ H Oₚ => ?_)
    have O := OUT_trans O Oₚ
    have cFu11 : SF oz_H2clsl_10 F (updF F9 0 16 (u0_9)) := SF_upd (cF9) rfl
    have mFu11 := SFm_of cFu11 oz_H2cls_29
    have hc54 : ∀ (ls : rO) (σ : rS) (F_c54 : hF) (A_c54 : hA) , rlook ls 0 = some (.ref (D 0)) → rlook ls 1 = some (I (z9)) → HW V241 σ D N F_c54 A_c54 → OUT (V241).length D N σE c s D N σ c s → SF [(0, 15)] (updF F9 0 16 (u0_9)) F_c54 → SA [2] A9 A_c54 → ∀ yc54_0_15 : Int, F_c54 0 15 = yc54_0_15 → ∀ wc54_2 : Int → Int, A_c54 2 = wc54_2 → (0 ≤ (yc54_0_15)) → (((u0_14) / 32 % 2 = 1 ∧ (yc54_0_15) = wn8 (dueF (ub8 ((w1))) ((u0_9)) (szB ((u0_14)))) ∧ (((wc54_2)) 4) = tdF ((yc54_0_15)) ∨ (u0_14) / 32 % 2 ≠ 1 ∧ (yc54_0_15) = (u0_15) ∧ (((wc54_2)) 4) = (((w2)) 4))) → (((wc54_2)) 0 = ((w2)) 0) → (((wc54_2)) 1 = ((w2)) 1) → (((wc54_2)) 2 = ((w2)) 2) → (((wc54_2)) 3 = ((w2)) 3) → Ew 241 (d + 2) 54 ls [] σ c s Q := by
     as_aux_lemma =>
      intro  ls σ F_c54 A_c54  lc54_0 lc54_1 H O hS_c54 hA_c54   yc54_0_15 eyc54_0_15 wc54_2 ewc54_2 jc54_0 jc54_1 jc54_2 jc54_3 jc54_4 jc54_5
      have cF_c54 : SF oz_H2clsl_10 F F_c54 := SF_trans (cFu11) hS_c54 (any_sub (by decide +kernel))
      have mF_c54 := SFm_of cF_c54 oz_H2cls_29
      have cA_c54 : SA oz_H2clsl_4 A A_c54 := SA_trans (cA9) hA_c54 (any_subA (by decide +kernel))
      have mA_c54 := SAm_of cA_c54 oz_H2cls_10
      replace eyc54_0_15 := HIDm eyc54_0_15
      have r12 : (-9223372036854775808 : Int) ≤ yc54_0_15 ∧ yc54_0_15 ≤ 9223372036854775807 := rngE (show (-9223372036854775808 : Int) ≤ F_c54 0 15 ∧ F_c54 0 15 ≤ 9223372036854775807 from H.krg 0 15 (ltn len_V241_oz_H2cls rfl)) (show F_c54 0 15 = yc54_0_15 from (eyc54_0_15))
      have k54 : ((u0_14) / 32 % 2 = 1 ∧ (yc54_0_15) = wn8 (dueF (ub8 ((w1))) ((u0_9)) (szB ((u0_14)))) ∧ (((wc54_2)) 4) = tdF ((yc54_0_15)) ∨ (u0_14) / 32 % 2 ≠ 1 ∧ (yc54_0_15) = (u0_15) ∧ (((wc54_2)) 4) = (((w2)) 4)) := jc54_1
      refine Ew_of (pcₚ := 55) (fun _ => x_aload_n rfl lc54_0) ?_
      refine Ew_of (pcₚ := 56) (fun _ => x_dup rfl rfl) ?_
      refine v_g H (o := 0) (v := I (u0_9)) rfl rfl rfl rfl rfl (congrArg (fun z : Int => I z) ((((hS_c54 0 9 rfl).trans ((show F9 0 9 = F 0 9 from (eF9 0 9).trans (hS9 0 9 rfl)))).trans (eu0_9)) : F_c54 0 9 = u0_9)) ?_
      refine Ew_of (pcₚ := 60) (fun _ => x_iload_n rfl lc54_1) ?_
      refine w_iadd rfl ?_
      refine v_p H (o := 0) (z := (u0_9 + z9)) (v := I ((u0_9 + z9))) rfl rfl rfl rfl rfl rfl rfl rfl (show (-2147483648 : Int) ≤ (u0_9 + z9) ∧ (u0_9 + z9) ≤ 2147483647 from q_3963 b10 h0 pz9_1) (fun σ H Oₚ => ?_)
      have O := OUT_trans O Oₚ
      have cFu13 : SF oz_H2clsl_10 F (updF F_c54 0 9 ((u0_9 + z9))) := SF_upd (cF_c54) rfl
      have mFu13 := SFm_of cFu13 oz_H2cls_29
      refine Ew_of (pcₚ := 65) (fun _ => x_iconst rfl) ?_
      have : USA (ub8 ((w1))) ((u0_8)) ((u0_9)) ((u0_14)) ((u0_15)) (((w2)) 4) ((0)) ((u0_21)) (((u0_9 + z9))) ((u0_9)) ((yc54_0_15)) (((wc54_2)) 4) := .inr ⟨by omega, by omega, by omega, by omega, k54⟩
      exact w_ireturn rfl (k (0) _ _ _ H O (cFu13) (cA_c54) ((u0_9 + z9)) (rfl) (yc54_0_15) ((eyc54_0_15)) (u0_9) ((hS_c54 0 16 rfl)) (u0_21) ((((hS_c54 0 21 rfl).trans ((show F9 0 21 = F 0 21 from (eF9 0 21).trans (hS9 0 21 rfl)))).trans (eu0_21))) (wc54_2) (ewc54_2) (show inr (0) from q_2) (show 0 ≤ (0) ∧ (0) ≤ 17 by first | exact q_3949 | omega) (show 0 ≤ ((u0_9 + z9)) ∧ (u0_9) ≤ ((u0_9 + z9)) ∧ ((u0_9 + z9)) ≤ (u0_8) from q_3965 b10 h0 pz9_1) (show 0 ≤ (yc54_0_15) from jc54_0) (show (0) ≠ 0 ∨ 0 ≤ (u0_9) ∧ (u0_9) + sbt ((u0_14)) ≤ (n1) by first | exact q_3964 b10 h0 pz9_2 | omega) (show USA (ub8 ((w1))) ((u0_8)) ((u0_9)) ((u0_14)) ((u0_15)) (((w2)) 4) ((0)) ((u0_21)) (((u0_9 + z9))) ((u0_9)) ((yc54_0_15)) (((wc54_2)) 4) by assumption) (show ((wc54_2)) 0 = ((w2)) 0 from jc54_2) (show ((wc54_2)) 1 = ((w2)) 1 from jc54_3) (show ((wc54_2)) 2 = ((w2)) 2 from jc54_4) (show ((wc54_2)) 3 = ((w2)) 3 from jc54_5) (show (0) ≠ 0 ∨ (u0_21) = (u0_21) by first | exact q_3137 | omega))
    refine Ew_of (pcₚ := 37) (fun _ => x_aload_n rfl (rk_o (rfl) rfl rfl)) ?_
    refine v_g H (o := 0) (v := I (u0_14)) rfl rfl rfl rfl rfl (congrArg (fun z : Int => I z) (((mFu11 0 14 rfl).trans (eu0_14)) : (updF F9 0 16 (u0_9)) 0 14 = u0_14)) ?_
    refine Ew_of (pcₚ := 42) (fun _ => x_bipush (z := 32) rfl (by decide)) ?_
    refine w_iandE rfl (show inr (u0_14) from q_299 h1) (show inr (32) from q_655) (fun z14 gz14 gaz14 gbz14 gez14 => ?_)
    refine w_ifeq (t := 54) rfl rfl (show inr (z14) from gz14) (fun b15 => ?_) (fun b15 => ?_)
    · have : ((u0_14) / 32 % 2 = 1 ∧ (u0_15) = wn8 (dueF (ub8 ((w1))) ((u0_9)) (szB ((u0_14)))) ∧ (((w2)) 4) = tdF ((u0_15)) ∨ (u0_14) / 32 % 2 ≠ 1 ∧ (u0_15) = (u0_15) ∧ (((w2)) 4) = (((w2)) 4)) := by first | exact .inr ⟨by omega, rfl, rfl⟩ | exact .inl ⟨by omega, by rw [← hsg]; exact pNONE_1, by rw [pNONE_1]; exact pNONE_2⟩
      exact hc54  _ _ _ _  (rk_o (rfl) rfl rfl) (rk_s) H O (SF_refl) (SA_refl)   (u0_15) ((((show F9 0 15 = F 0 15 from (eF9 0 15).trans (hS9 0 15 rfl))).trans (eu0_15))) (w2) (((show A9 2 = A 2 from (eA9 2))).trans (ew2)) (show 0 ≤ (u0_15) from h3) (show ((u0_14) / 32 % 2 = 1 ∧ (u0_15) = wn8 (dueF (ub8 ((w1))) ((u0_9)) (szB ((u0_14)))) ∧ (((w2)) 4) = tdF ((u0_15)) ∨ (u0_14) / 32 % 2 ≠ 1 ∧ (u0_15) = (u0_15) ∧ (((w2)) 4) = (((w2)) 4)) by assumption) (show ((w2)) 0 = ((w2)) 0 from q_303) (show ((w2)) 1 = ((w2)) 1 from q_303) (show ((w2)) 2 = ((w2)) 2 from q_303) (show ((w2)) 3 = ((w2)) 3 from q_303)
    · refine Ew_of (pcₚ := 47) (fun _ => x_aload_n rfl (rk_o (rfl) rfl rfl)) ?_
      refine Ew_of (pcₚ := 48) (fun _ => x_aload_n rfl (rk_o (rfl) rfl rfl)) ?_
      refine v_inv H (o := 0) rfl rfl rfl rfl rfl rfl (by rfl) (C240 (D := puc 512 D) (N := puc 512 N) (HW_subc H oz_H2cls_26 oz_H2cls_30) ((mFu11 0 7 rfl).trans (pf1)) (n1) (en1) (u0_14) (((mFu11 0 14 rfl).trans (eu0_14))) (u0_9) (rfl) (w1) ((funext (mA9 1 rfl)).trans (ew1)) (show 0 ≤ (u0_14) ∧ (u0_14) ≤ 255 from h1) (show 0 ≤ (u0_9) ∧ (u0_9) + sbt ((u0_14)) ≤ (n1) from q_3967 b10 h0 pz9_2) (show (n1) ≤ 65536 from q_3966 h0) (fun z16 σ16 F16ₚ A16ₚ Hₚ Oₚ hS16 hA16 pz16_0 pz16_1 => ⟨rfl, ?_⟩))
      refine v_backc (c := c) (s := s) H oz_H2cls_26 oz_H2cls_30 Hₚ Oₚ (fun F16 A16 H Oₚ eF16 eA16 => ?_)
      have O := OUT_trans O Oₚ
      -- Unpacker.sizeTold
      have cF16 : SF oz_H2clsl_10 F F16 := SF_trans (cFu11) (SF_gluc (ι := oz_H2clsl_11) oz_H2cls_30 hS16 eF16 (by decide +kernel)) (any_sub (lₚ := []) (by decide +kernel))
      have mF16 := SFm_of cF16 oz_H2cls_29
      have cA16 : SA oz_H2clsl_4 A A16 := SA_trans (cA9) (SA_gluc (ι := oz_H2clsl_11) oz_H2cls_30 hA16 eA16 (by decide +kernel)) (any_subA (lₚ := []) (by decide +kernel))
      have mA16 := SAm_of cA16 oz_H2cls_10
      have hsg := wnF_8 pz16_1
      refine v_inv H (o := 0) rfl rfl rfl rfl rfl rfl (by rfl) (C236 (D := puc 1024 D) (N := puc 1024 N) (HW_subc H oz_H2cls_27 oz_H2cls_11) ((mF16 0 13 rfl).trans (pf2)) (n2) (en2) (u0_15) (((((show F16 0 15 = (updF F9 0 16 (u0_9)) 0 15 from (eF16 0 15).trans (hS16 0 15 rfl))).trans ((show F9 0 15 = F 0 15 from (eF9 0 15).trans (hS9 0 15 rfl)))).trans (eu0_15))) (w2) (((show A16 2 = A9 2 from (eA16 2))).trans (((show A9 2 = A 2 from (eA9 2))).trans (ew2))) (show inrJ (z16) from pz16_0) (show (n2) = 5 from h2) (fun σ17 F17ₚ A17ₚ Hₚ Oₚ hS17 hA17 y17_0_15 (ey17_0_15 : HID _) w17_1 ew17_1 pz17_0 pz17_1 pz17_2 pz17_3 pz17_4 pz17_5 pz17_6 => ⟨rfl, ?_⟩))
      refine v_backc (c := c) (s := s) H oz_H2cls_27 oz_H2cls_11 Hₚ Oₚ (fun F17 A17 H Oₚ eF17 eA17 => ?_)
      have O := OUT_trans O Oₚ
      -- Unpacker.tellWindow
      have cF17 : SF oz_H2clsl_10 F F17 := SF_trans (cF16) (SF_gluc (ι := oz_H2clsl_5) oz_H2cls_11 hS17 eF17 (by decide +kernel)) (any_sub (lₚ := [(0, 15)]) (by decide +kernel))
      have mF17 := SFm_of cF17 oz_H2cls_29
      have cA17 : SA oz_H2clsl_4 A A17 := SA_trans (cA16) (SA_gluc (ι := oz_H2clsl_5) oz_H2cls_11 hA17 eA17 (by decide +kernel)) (any_subA (lₚ := [2]) (by decide +kernel))
      have mA17 := SAm_of cA17 oz_H2cls_10
      have r18 : (-9223372036854775808 : Int) ≤ y17_0_15 ∧ y17_0_15 ≤ 9223372036854775807 := rngE (show (-9223372036854775808 : Int) ≤ F17 0 15 ∧ F17 0 15 ≤ 9223372036854775807 from H.krg 0 15 (ltn len_V241_oz_H2cls rfl)) (show F17 0 15 = y17_0_15 from ((eF17 0 15).trans ey17_0_15))
      have : ((u0_14) / 32 % 2 = 1 ∧ (y17_0_15) = wn8 (dueF (ub8 ((w1))) ((u0_9)) (szB ((u0_14)))) ∧ (((w17_1)) 4) = tdF ((y17_0_15)) ∨ (u0_14) / 32 % 2 ≠ 1 ∧ (y17_0_15) = (u0_15) ∧ (((w17_1)) 4) = (((w2)) 4)) := by first | exact .inr ⟨by omega, rfl, rfl⟩ | exact .inl ⟨by omega, by rw [← hsg]; exact pz17_1, by rw [pz17_1]; exact pz17_2⟩
      exact hc54  _ _ _ _  (rk_o (rfl) rfl rfl) (rk_s) H O (SF_trans (SF_trans (SF_refl) (SF_gluc (ι := oz_H2clsl_11) oz_H2cls_30 hS16 eF16 (by decide +kernel)) (any_sub (lₚ := []) (by decide +kernel))) (SF_gluc (ι := oz_H2clsl_5) oz_H2cls_11 hS17 eF17 (by decide +kernel)) (any_sub (lₚ := [(0, 15)]) (by decide +kernel))) (SA_trans (SA_trans (SA_refl) (SA_gluc (ι := oz_H2clsl_11) oz_H2cls_30 hA16 eA16 (by decide +kernel)) (any_subA (lₚ := []) (by decide +kernel))) (SA_gluc (ι := oz_H2clsl_5) oz_H2cls_11 hA17 eA17 (by decide +kernel)) (any_subA (lₚ := [2]) (by decide +kernel)))   (y17_0_15) (((eF17 0 15).trans ey17_0_15)) (w17_1) ((eA17 2).trans ew17_1) (show 0 ≤ (y17_0_15) from pz17_0) (show ((u0_14) / 32 % 2 = 1 ∧ (y17_0_15) = wn8 (dueF (ub8 ((w1))) ((u0_9)) (szB ((u0_14)))) ∧ (((w17_1)) 4) = tdF ((y17_0_15)) ∨ (u0_14) / 32 % 2 ≠ 1 ∧ (y17_0_15) = (u0_15) ∧ (((w17_1)) 4) = (((w2)) 4)) by assumption) (show ((w17_1)) 0 = ((w2)) 0 from pz17_3) (show ((w17_1)) 1 = ((w2)) 1 from pz17_4) (show ((w17_1)) 2 = ((w2)) 2 from pz17_5) (show ((w17_1)) 3 = ((w2)) 3 from pz17_6)
  · refine Ew_of (pcₚ := 19) (fun _ => x_aload_n rfl (rk_o (rfl) rfl rfl)) ?_
    refine Ew_of (pcₚ := 20) (fun _ => x_iconst rfl) ?_
    refine Ew_of (pcₚ := 21) (fun _ => x_aload_n rfl (rk_o (rfl) rfl rfl)) ?_
    refine v_g H (o := 0) (v := I (u0_8)) rfl rfl rfl rfl rfl (congrArg (fun z : Int => I z) (((mF9 0 8 rfl).trans (eu0_8)) : F9 0 8 = u0_8)) ?_
    refine v_inv H (o := 0) rfl rfl rfl rfl rfl rfl (by rfl) (C232 (D := puc 0 D) (N := puc 0 N) (HW_subc H oz_H2cls_28 oz_H2cls_12) (u0_21) ((((show F9 0 21 = F 0 21 from (eF9 0 21).trans (hS9 0 21 rfl))).trans (eu0_21))) (show inr (1) from q_135) (show inr (u0_8) from q_3942 h0) (fun z19 σ19 F19ₚ A19ₚ Hₚ Oₚ hS19 hA19 y19_0_21 (ey19_0_21 : HID _) pz19_0 pz19_1 pz19_2 => ⟨rfl, ?_⟩))
    refine v_backc (c := c) (s := s) H oz_H2cls_28 oz_H2cls_12 Hₚ Oₚ (fun F19 A19 H Oₚ eF19 eA19 => ?_)
    have O := OUT_trans O Oₚ
    -- Unpacker.fail
    have cF19 : SF oz_H2clsl_10 F F19 := SF_trans (cF9) (SF_gluc (ι := oz_H2clsl_6) oz_H2cls_12 hS19 eF19 (by decide +kernel)) (any_sub (lₚ := [(0, 21)]) (by decide +kernel))
    have mF19 := SFm_of cF19 oz_H2cls_29
    have cA19 : SA oz_H2clsl_4 A A19 := SA_trans (cA9) (SA_gluc (ι := oz_H2clsl_6) oz_H2cls_12 hA19 eA19 (by decide +kernel)) (any_subA (lₚ := []) (by decide +kernel))
    have mA19 := SAm_of cA19 oz_H2cls_10
    have r20 : (-2147483648 : Int) ≤ y19_0_21 ∧ y19_0_21 ≤ 2147483647 := rngE (show (-2147483648 : Int) ≤ F19 0 21 ∧ F19 0 21 ≤ 2147483647 from H.krg 0 21 (ltn len_V241_oz_H2cls rfl)) (show F19 0 21 = y19_0_21 from ((eF19 0 21).trans ey19_0_21))
    have : USA (ub8 ((w1))) ((u0_8)) ((u0_9)) ((u0_14)) ((u0_15)) (((w2)) 4) ((z19)) ((y19_0_21)) ((u0_9)) ((u0_16)) ((u0_15)) (((w2)) 4) := .inl ⟨by omega, by omega, by omega, rfl⟩
    exact w_ireturn rfl (k (z19) _ _ _ H O (cF19) (cA19) (u0_9) (((((show F19 0 9 = F9 0 9 from (eF19 0 9).trans (hS19 0 9 rfl))).trans ((show F9 0 9 = F 0 9 from (eF9 0 9).trans (hS9 0 9 rfl)))).trans (eu0_9))) (u0_15) (((((show F19 0 15 = F9 0 15 from (eF19 0 15).trans (hS19 0 15 rfl))).trans ((show F9 0 15 = F 0 15 from (eF9 0 15).trans (hS9 0 15 rfl)))).trans (eu0_15))) (u0_16) (((((show F19 0 16 = F9 0 16 from (eF19 0 16).trans (hS19 0 16 rfl))).trans ((show F9 0 16 = F 0 16 from (eF9 0 16).trans (hS9 0 16 rfl)))).trans (eu0_16))) (y19_0_21) (((eF19 0 21).trans ey19_0_21)) (w2) (((show A19 2 = A9 2 from (eA19 2))).trans (((show A9 2 = A 2 from (eA9 2))).trans (ew2))) (show inr (z19) from pz19_0) (show 0 ≤ (z19) ∧ (z19) ≤ 17 from q_3951 pz19_1) (show 0 ≤ (u0_9) ∧ (u0_9) ≤ (u0_9) ∧ (u0_9) ≤ (u0_8) from q_3950 h0) (show 0 ≤ (u0_15) from h3) (show (z19) ≠ 0 ∨ 0 ≤ (u0_16) ∧ (u0_16) + sbt ((u0_14)) ≤ (n1) from q_3968 pz19_1) (show USA (ub8 ((w1))) ((u0_8)) ((u0_9)) ((u0_14)) ((u0_15)) (((w2)) 4) ((z19)) ((y19_0_21)) ((u0_9)) ((u0_16)) ((u0_15)) (((w2)) 4) by assumption) (show ((w2)) 0 = ((w2)) 0 from q_303) (show ((w2)) 1 = ((w2)) 1 from q_303) (show ((w2)) 2 = ((w2)) 2 from q_303) (show ((w2)) 3 = ((w2)) 3 from q_303) (show (z19) ≠ 0 ∨ (y19_0_21) = (u0_21) from q_3108 pz19_1))
abbrev V242 : vV := [(0, 12, [(4, 0), (4, 0), (4, 0), (4, 0), (4, 0), (4, 0), (4, 0), (4, 0), (0, 0), (0, 0), (4, 0), (0, 0), (4, 0), (4, 0), (0, 0), (2, 0), (0, 0), (0, 0), (0, 0), (0, 0), (0, 0), (0, 0)]), (1, 0, []), (0, 7, [(4, 0), (0, 0), (1, 0), (0, 0), (0, 0)]), (1, 0, [])]
theorem len_V242_oz_H2cls : (V242).length = 4 := by decide +kernel
theorem oz_H2cls_32 : vsub V242 V239 [0] = true := by decide +kernel
theorem oz_H2cls_33 : vsub V242 V240 [0, 1] = true := by decide +kernel
theorem oz_H2cls_34 : vsub V242 V232 [0] = true := by decide +kernel
theorem oz_H2cls_35 : vsub V242 V41_Br [1] = true := by decide +kernel
theorem oz_H2cls_36 : vsub V242 V51_Br [3] = true := by decide +kernel
def oz_H2clsl_12 : List Nat := [3]
theorem oz_H2cls_37 : okc oz_H2clsl_12 3 = true := by decide +kernel

theorem C242 {σE : rS} {D N : Nat → Nat} {F : hF} {A : hA} {d c s : Nat} {Q : wQ} (H : HW V242 σE D N F A)  (pf1 : HID (F 0 7 = (D 1 : Int))) (pf2 : HID (F 0 10 = (D 2 : Int))) (pf3 : HID (F 2 0 = (D 3 : Int))) (n1 : Int) (en1 : HID ((N 1 : Int) = n1)) (n3 : Int) (en3 : HID ((N 3 : Int) = n3)) (u0_8 : Int) (eu0_8 : HID (F 0 8 = u0_8)) (u0_9 : Int) (eu0_9 : HID (F 0 9 = u0_9)) (u0_14 : Int) (eu0_14 : HID (F 0 14 = u0_14)) (u0_16 : Int) (eu0_16 : HID (F 0 16 = u0_16)) (u0_17 : Int) (eu0_17 : HID (F 0 17 = u0_17)) (u0_21 : Int) (eu0_21 : HID (F 0 21 = u0_21)) (u2_1 : Int) (eu2_1 : HID (F 2 1 = u2_1)) (w1 : Int → Int) (ew1 : A 1 = w1) (w3 : Int → Int) (ew3 : A 3 = w3) (h0 : 0 ≤ (u0_9) ∧ (u0_9) ≤ (u0_8) ∧ (u0_8) ≤ (n1) ∧ (n1) ≤ 65536) (h1 : 0 ≤ (u0_14) ∧ (u0_14) ≤ 255) (h2 : 0 ≤ (u0_16) ∧ (u0_16) + sbt ((u0_14)) ≤ (n1)) (h3 : 0 ≤ (u2_1) ∧ (u2_1) ≤ (n3) ∧ (n3) ≤ 65536) (h4 : 0 ≤ (u0_17) ∧ (u0_17) ≤ (u2_1)) (k : ∀ (z : Int) (σ : rS) (Fₚ : hF) (Aₚ : hA), HW V242 σ D N Fₚ Aₚ → OUT (V242).length D N σE c s D N σ c s → SF [(0, 9), (0, 21)] F Fₚ → SA [] A Aₚ → ∀ y0_9 : Int, Fₚ 0 9 = y0_9 → ∀ y0_21 : Int, Fₚ 0 21 = y0_21 → (inr (z)) → (0 ≤ (z) ∧ (z) ≤ 17) → (0 ≤ (y0_9) ∧ (u0_9) ≤ (y0_9) ∧ (y0_9) ≤ (u0_8)) → (UEA (ub8 ((w1))) ((u0_8)) ((u0_14)) ((u0_16)) (szB ((u0_14))) (dueF (ub8 ((w1))) ((u0_16)) (szB ((u0_14)))) (sc ((w3)) ((u0_17)) ((u2_1))) ((u0_9)) ((z)) ((y0_21)) ((y0_9))) → ((z) ≠ 0 ∨ (y0_21) = (u0_21)) → Q (some (I z)) σ c s) : Ew 242 (d + 4) 0 (rargs 0 [.ref (D 0)]) [] σE c s Q := by
  have O := OUT_refl (n := (V242).length) (D := D) (N := N) (σ := σE) (c := c) (s := s)
  have HE := H
  have r1 : (-2147483648 : Int) ≤ u0_8 ∧ u0_8 ≤ 2147483647 := rngE (show (-2147483648 : Int) ≤ F 0 8 ∧ F 0 8 ≤ 2147483647 from H.krg 0 8 (ltn len_V242_oz_H2cls rfl)) (show F 0 8 = u0_8 from (eu0_8))
  have r2 : (-2147483648 : Int) ≤ u0_9 ∧ u0_9 ≤ 2147483647 := rngE (show (-2147483648 : Int) ≤ F 0 9 ∧ F 0 9 ≤ 2147483647 from H.krg 0 9 (ltn len_V242_oz_H2cls rfl)) (show F 0 9 = u0_9 from (eu0_9))
  have r3 : (-2147483648 : Int) ≤ u0_14 ∧ u0_14 ≤ 2147483647 := rngE (show (-2147483648 : Int) ≤ F 0 14 ∧ F 0 14 ≤ 2147483647 from H.krg 0 14 (ltn len_V242_oz_H2cls rfl)) (show F 0 14 = u0_14 from (eu0_14))
  have r4 : (-2147483648 : Int) ≤ u0_16 ∧ u0_16 ≤ 2147483647 := rngE (show (-2147483648 : Int) ≤ F 0 16 ∧ F 0 16 ≤ 2147483647 from H.krg 0 16 (ltn len_V242_oz_H2cls rfl)) (show F 0 16 = u0_16 from (eu0_16))
  have r5 : (-2147483648 : Int) ≤ u0_17 ∧ u0_17 ≤ 2147483647 := rngE (show (-2147483648 : Int) ≤ F 0 17 ∧ F 0 17 ≤ 2147483647 from H.krg 0 17 (ltn len_V242_oz_H2cls rfl)) (show F 0 17 = u0_17 from (eu0_17))
  have r6 : (-2147483648 : Int) ≤ u0_21 ∧ u0_21 ≤ 2147483647 := rngE (show (-2147483648 : Int) ≤ F 0 21 ∧ F 0 21 ≤ 2147483647 from H.krg 0 21 (ltn len_V242_oz_H2cls rfl)) (show F 0 21 = u0_21 from (eu0_21))
  have r7 : (-2147483648 : Int) ≤ u2_1 ∧ u2_1 ≤ 2147483647 := rngE (show (-2147483648 : Int) ≤ F 2 1 ∧ F 2 1 ≤ 2147483647 from H.krg 2 1 (ltn len_V242_oz_H2cls rfl)) (show F 2 1 = u2_1 from (eu2_1))
  have r8 : (0 : Int) ≤ n1 ∧ n1 ≤ 1000000 := nleE (H.nle 1 (ltn len_V242_oz_H2cls rfl)) (show (N 1 : Int) = n1 from en1)
  have r9 : (0 : Int) ≤ n3 ∧ n3 ≤ 1000000 := nleE (H.nle 3 (ltn len_V242_oz_H2cls rfl)) (show (N 3 : Int) = n3 from en3)
  have hc90 : ∀ (ls : rO) (σ : rS) (F_c90 : hF) (A_c90 : hA) , rlook ls 0 = some (.ref (D 0)) → HW V242 σ D N F_c90 A_c90 → OUT (V242).length D N σE c s D N σ c s → SF [(0, 9)] F F_c90 → SA [] A A_c90 → ∀ yc90_0_9 : Int, F_c90 0 9 = yc90_0_9 → (0 ≤ (yc90_0_9) ∧ (yc90_0_9) ≤ (u0_8) ∧ (u0_8) ≤ (n1) ∧ (n1) ≤ 65536) → ((u0_9) ≤ (yc90_0_9)) → (((u0_14) / 4 % 2 ≠ 1 ∧ (yc90_0_9) = (u0_9) ∨ (u0_14) / 4 % 2 = 1 ∧ 4 ≤ (u0_8) - (u0_9) ∧ nvl (ub8 ((w1))) ((u0_9)) 4 = WDL (sc ((w3)) ((u0_17)) ((u2_1))) % 4294967296 ∧ (yc90_0_9) = (u0_9) + 4)) → ((u0_21) = (u0_21)) → Ew 242 (d + 4) 90 ls [] σ c s Q := by
   as_aux_lemma =>
    intro  ls σ F_c90 A_c90  lc90_0 H O hS_c90 hA_c90   yc90_0_9 eyc90_0_9  jc90_0 jc90_1 jc90_2 jc90_3
    have cF_c90 : SF oz_H2clsl_7 F F_c90 := SF_trans (SF_refl) hS_c90 (any_sub (by decide +kernel))
    have mF_c90 := SFm_of cF_c90 oz_H2cls_16
    have cA_c90 : SA oz_H2clsl_8 A A_c90 := SA_trans (SA_refl) hA_c90 (any_subA (by decide +kernel))
    have mA_c90 := SAm_of cA_c90 oz_H2cls_17
    replace eyc90_0_9 := HIDm eyc90_0_9
    have r10 : (-2147483648 : Int) ≤ yc90_0_9 ∧ yc90_0_9 ≤ 2147483647 := rngE (show (-2147483648 : Int) ≤ F_c90 0 9 ∧ F_c90 0 9 ≤ 2147483647 from H.krg 0 9 (ltn len_V242_oz_H2cls rfl)) (show F_c90 0 9 = yc90_0_9 from (eyc90_0_9))
    have k90 : ((u0_14) / 4 % 2 ≠ 1 ∧ (yc90_0_9) = (u0_9) ∨ (u0_14) / 4 % 2 = 1 ∧ 4 ≤ (u0_8) - (u0_9) ∧ nvl (ub8 ((w1))) ((u0_9)) 4 = WDL (sc ((w3)) ((u0_17)) ((u2_1))) % 4294967296 ∧ (yc90_0_9) = (u0_9) + 4) := jc90_2
    have hFl : ((sc ((w3)) ((u0_17)) ((u2_1))).length : Int) = (u2_1) - (u0_17) := by rw [sc_lenI (by omega)]
    refine Ew_of (pcₚ := 91) (fun _ => x_aload_n rfl lc90_0) ?_
    refine v_inv H (o := 0) rfl rfl rfl rfl rfl rfl (by rfl) (C239 (D := puc 0 D) (N := puc 0 N) (HW_subc H oz_H2cls_32 oz_H2cls_12) (u0_14) (((mF_c90 0 14 rfl).trans (eu0_14))) (show 0 ≤ (u0_14) ∧ (u0_14) ≤ 255 from h1) (fun z11 σ11 F11ₚ A11ₚ Hₚ Oₚ hS11 hA11 pz11_0 pz11_1 pz11_2 pz11_3 => ⟨rfl, ?_⟩))
    refine v_backc (c := c) (s := s) H oz_H2cls_32 oz_H2cls_12 Hₚ Oₚ (fun F11 A11 H Oₚ eF11 eA11 => ?_)
    have O := OUT_trans O Oₚ
    -- Unpacker.sizeBytes
    have cF11 : SF oz_H2clsl_7 F F11 := SF_trans (cF_c90) (SF_gluc (ι := oz_H2clsl_6) oz_H2cls_12 hS11 eF11 (by decide +kernel)) (any_sub (lₚ := []) (by decide +kernel))
    have mF11 := SFm_of cF11 oz_H2cls_16
    have cA11 : SA oz_H2clsl_8 A A11 := SA_trans (cA_c90) (SA_gluc (ι := oz_H2clsl_6) oz_H2cls_12 hA11 eA11 (by decide +kernel)) (any_subA (lₚ := []) (by decide +kernel))
    have mA11 := SAm_of cA11 oz_H2cls_17
    have hsb := pz11_3
    refine w_ifle (t := 131) rfl rfl (show inr (z11) from pz11_0) (fun b12 => ?_) (fun b12 => ?_)
    · refine Ew_of (pcₚ := 132) (fun _ => x_iconst rfl) ?_
      have : UEA (ub8 ((w1))) ((u0_8)) ((u0_14)) ((u0_16)) (szB ((u0_14))) (dueF (ub8 ((w1))) ((u0_16)) (szB ((u0_14)))) (sc ((w3)) ((u0_17)) ((u2_1))) ((u0_9)) ((0)) ((u0_21)) ((yc90_0_9)) := .inr (.inr ⟨k90, by first | exact .inl ⟨⟨by omega, by rw [hFl]; omega⟩, by omega, by omega⟩ | exact .inr ⟨fun w => by have w1 := w.1; omega, by omega⟩ | exact .inr ⟨fun w => by have w2 := w.2; rw [hFl] at w2; omega, by omega⟩⟩)
      exact w_ireturn rfl (k (0) _ _ _ H O (cF11) (cA11) (yc90_0_9) ((((show F11 0 9 = F_c90 0 9 from (eF11 0 9).trans (hS11 0 9 rfl))).trans (eyc90_0_9))) (u0_21) (((((show F11 0 21 = F_c90 0 21 from (eF11 0 21).trans (hS11 0 21 rfl))).trans (hS_c90 0 21 rfl)).trans (eu0_21))) (show inr (0) from q_2) (show 0 ≤ (0) ∧ (0) ≤ 17 by first | exact q_3949 | omega) (show 0 ≤ (yc90_0_9) ∧ (u0_9) ≤ (yc90_0_9) ∧ (yc90_0_9) ≤ (u0_8) from q_3970 jc90_0 jc90_1) (show UEA (ub8 ((w1))) ((u0_8)) ((u0_14)) ((u0_16)) (szB ((u0_14))) (dueF (ub8 ((w1))) ((u0_16)) (szB ((u0_14)))) (sc ((w3)) ((u0_17)) ((u2_1))) ((u0_9)) ((0)) ((u0_21)) ((yc90_0_9)) by assumption) (show (0) ≠ 0 ∨ (u0_21) = (u0_21) by first | exact q_3969 jc90_3 | omega))
    · refine Ew_of (pcₚ := 98) (fun _ => x_aload_n rfl lc90_0) ?_
      refine v_inv H (o := 0) rfl rfl rfl rfl rfl rfl (by rfl) (C240 (D := puc 512 D) (N := puc 512 N) (HW_subc H oz_H2cls_33 oz_H2cls_30) ((mF11 0 7 rfl).trans (pf1)) (n1) (en1) (u0_14) (((mF11 0 14 rfl).trans (eu0_14))) (u0_16) (((mF11 0 16 rfl).trans (eu0_16))) (w1) ((funext (mA11 1 rfl)).trans (ew1)) (show 0 ≤ (u0_14) ∧ (u0_14) ≤ 255 from h1) (show 0 ≤ (u0_16) ∧ (u0_16) + sbt ((u0_14)) ≤ (n1) from h2) (show (n1) ≤ 65536 from q_3966 jc90_0) (fun z13 σ13 F13ₚ A13ₚ Hₚ Oₚ hS13 hA13 pz13_0 pz13_1 => ⟨rfl, ?_⟩))
      refine v_backc (c := c) (s := s) H oz_H2cls_33 oz_H2cls_30 Hₚ Oₚ (fun F13 A13 H Oₚ eF13 eA13 => ?_)
      have O := OUT_trans O Oₚ
      -- Unpacker.sizeTold
      have cF13 : SF oz_H2clsl_7 F F13 := SF_trans (cF11) (SF_gluc (ι := oz_H2clsl_11) oz_H2cls_30 hS13 eF13 (by decide +kernel)) (any_sub (lₚ := []) (by decide +kernel))
      have mF13 := SFm_of cF13 oz_H2cls_16
      have cA13 : SA oz_H2clsl_8 A A13 := SA_trans (cA11) (SA_gluc (ι := oz_H2clsl_11) oz_H2cls_30 hA13 eA13 (by decide +kernel)) (any_subA (lₚ := []) (by decide +kernel))
      have mA13 := SAm_of cA13 oz_H2cls_17
      have hsg := pz13_1
      have hsg2 := hsg.2.1
      have hsg3 := hsg.2.2
      have hsg1 := hsg.1
      refine Ew_of (pcₚ := 102) (fun _ => x_aload_n rfl lc90_0) ?_
      refine v_g H (o := 0) (v := .ref (D 2)) rfl rfl rfl rfl rfl (vrf ((mF13 0 10 rfl).trans (pf2))) ?_
      refine v_g H (o := 2) (v := I (u2_1)) rfl rfl rfl rfl rfl (congrArg (fun z : Int => I z) (((mF13 2 1 rfl).trans (eu2_1)) : F13 2 1 = u2_1)) ?_
      refine Ew_of (pcₚ := 109) (fun _ => x_aload_n rfl lc90_0) ?_
      refine v_g H (o := 0) (v := I (u0_17)) rfl rfl rfl rfl rfl (congrArg (fun z : Int => I z) (((mF13 0 17 rfl).trans (eu0_17)) : F13 0 17 = u0_17)) ?_
      refine w_isub rfl ?_
      refine w_i2l rfl (show inr ((u2_1 - u0_17)) from q_3014 h3 h4) ?_
      refine w_lcmp rfl (show inrJ (z13) from pz13_0) (show inrJ ((u2_1 - u0_17)) from q_3365 h3 h4) (fun z14 gz14 gaz14 gbz14 => ?_)
      refine w_ifeq (t := 131) rfl rfl (show inr (z14) from gz14) (fun b15 => ?_) (fun b15 => ?_)
      · refine Ew_of (pcₚ := 132) (fun _ => x_iconst rfl) ?_
        have : UEA (ub8 ((w1))) ((u0_8)) ((u0_14)) ((u0_16)) (szB ((u0_14))) (dueF (ub8 ((w1))) ((u0_16)) (szB ((u0_14)))) (sc ((w3)) ((u0_17)) ((u2_1))) ((u0_9)) ((0)) ((u0_21)) ((yc90_0_9)) := .inr (.inr ⟨k90, by first | exact .inl ⟨⟨by omega, by rw [hFl]; omega⟩, by omega, by omega⟩ | exact .inr ⟨fun w => by have w1 := w.1; omega, by omega⟩ | exact .inr ⟨fun w => by have w2 := w.2; rw [hFl] at w2; omega, by omega⟩⟩)
        exact w_ireturn rfl (k (0) _ _ _ H O (cF13) (cA13) (yc90_0_9) (((((show F13 0 9 = F11 0 9 from (eF13 0 9).trans (hS13 0 9 rfl))).trans ((show F11 0 9 = F_c90 0 9 from (eF11 0 9).trans (hS11 0 9 rfl)))).trans (eyc90_0_9))) (u0_21) ((((((show F13 0 21 = F11 0 21 from (eF13 0 21).trans (hS13 0 21 rfl))).trans ((show F11 0 21 = F_c90 0 21 from (eF11 0 21).trans (hS11 0 21 rfl)))).trans (hS_c90 0 21 rfl)).trans (eu0_21))) (show inr (0) from q_2) (show 0 ≤ (0) ∧ (0) ≤ 17 by first | exact q_3949 | omega) (show 0 ≤ (yc90_0_9) ∧ (u0_9) ≤ (yc90_0_9) ∧ (yc90_0_9) ≤ (u0_8) from q_3970 jc90_0 jc90_1) (show UEA (ub8 ((w1))) ((u0_8)) ((u0_14)) ((u0_16)) (szB ((u0_14))) (dueF (ub8 ((w1))) ((u0_16)) (szB ((u0_14)))) (sc ((w3)) ((u0_17)) ((u2_1))) ((u0_9)) ((0)) ((u0_21)) ((yc90_0_9)) by assumption) (show (0) ≠ 0 ∨ (u0_21) = (u0_21) by first | exact q_3969 jc90_3 | omega))
      · refine Ew_of (pcₚ := 119) (fun _ => x_aload_n rfl lc90_0) ?_
        refine Ew_of (pcₚ := 121) (fun _ => x_bipush (z := 9) rfl (by decide)) ?_
        refine Ew_of (pcₚ := 122) (fun _ => x_aload_n rfl lc90_0) ?_
        refine v_g H (o := 0) (v := I (u0_16)) rfl rfl rfl rfl rfl (congrArg (fun z : Int => I z) (((mF13 0 16 rfl).trans (eu0_16)) : F13 0 16 = u0_16)) ?_
        refine v_inv H (o := 0) rfl rfl rfl rfl rfl rfl (by rfl) (C232 (D := puc 0 D) (N := puc 0 N) (HW_subc H oz_H2cls_34 oz_H2cls_12) (u0_21) ((((((show F13 0 21 = F11 0 21 from (eF13 0 21).trans (hS13 0 21 rfl))).trans ((show F11 0 21 = F_c90 0 21 from (eF11 0 21).trans (hS11 0 21 rfl)))).trans (hS_c90 0 21 rfl)).trans (eu0_21))) (show inr (9) from q_291) (show inr (u0_16) from q_3962 h2 r4) (fun z16 σ16 F16ₚ A16ₚ Hₚ Oₚ hS16 hA16 y16_0_21 (ey16_0_21 : HID _) pz16_0 pz16_1 pz16_2 => ⟨rfl, ?_⟩))
        refine v_backc (c := c) (s := s) H oz_H2cls_34 oz_H2cls_12 Hₚ Oₚ (fun F16 A16 H Oₚ eF16 eA16 => ?_)
        have O := OUT_trans O Oₚ
        -- Unpacker.fail
        have cF16 : SF oz_H2clsl_7 F F16 := SF_trans (cF13) (SF_gluc (ι := oz_H2clsl_6) oz_H2cls_12 hS16 eF16 (by decide +kernel)) (any_sub (lₚ := [(0, 21)]) (by decide +kernel))
        have mF16 := SFm_of cF16 oz_H2cls_16
        have cA16 : SA oz_H2clsl_8 A A16 := SA_trans (cA13) (SA_gluc (ι := oz_H2clsl_6) oz_H2cls_12 hA16 eA16 (by decide +kernel)) (any_subA (lₚ := []) (by decide +kernel))
        have mA16 := SAm_of cA16 oz_H2cls_17
        have r17 : (-2147483648 : Int) ≤ y16_0_21 ∧ y16_0_21 ≤ 2147483647 := rngE (show (-2147483648 : Int) ≤ F16 0 21 ∧ F16 0 21 ≤ 2147483647 from H.krg 0 21 (ltn len_V242_oz_H2cls rfl)) (show F16 0 21 = y16_0_21 from ((eF16 0 21).trans ey16_0_21))
        refine Ew_of (pcₚ := 132) (fun _ => x_goto rfl rfl) ?_
        have : UEA (ub8 ((w1))) ((u0_8)) ((u0_14)) ((u0_16)) (szB ((u0_14))) (dueF (ub8 ((w1))) ((u0_16)) (szB ((u0_14)))) (sc ((w3)) ((u0_17)) ((u2_1))) ((u0_9)) ((z16)) ((y16_0_21)) ((yc90_0_9)) := .inr (.inr ⟨k90, by first | exact .inl ⟨⟨by omega, by rw [hFl]; omega⟩, by omega, by omega⟩ | exact .inr ⟨fun w => by have w1 := w.1; omega, by omega⟩ | exact .inr ⟨fun w => by have w2 := w.2; rw [hFl] at w2; omega, by omega⟩⟩)
        exact w_ireturn rfl (k (z16) _ _ _ H O (cF16) (cA16) (yc90_0_9) ((((((show F16 0 9 = F13 0 9 from (eF16 0 9).trans (hS16 0 9 rfl))).trans ((show F13 0 9 = F11 0 9 from (eF13 0 9).trans (hS13 0 9 rfl)))).trans ((show F11 0 9 = F_c90 0 9 from (eF11 0 9).trans (hS11 0 9 rfl)))).trans (eyc90_0_9))) (y16_0_21) (((eF16 0 21).trans ey16_0_21)) (show inr (z16) from pz16_0) (show 0 ≤ (z16) ∧ (z16) ≤ 17 from q_3971 pz16_1) (show 0 ≤ (yc90_0_9) ∧ (u0_9) ≤ (yc90_0_9) ∧ (yc90_0_9) ≤ (u0_8) from q_3970 jc90_0 jc90_1) (show UEA (ub8 ((w1))) ((u0_8)) ((u0_14)) ((u0_16)) (szB ((u0_14))) (dueF (ub8 ((w1))) ((u0_16)) (szB ((u0_14)))) (sc ((w3)) ((u0_17)) ((u2_1))) ((u0_9)) ((z16)) ((y16_0_21)) ((yc90_0_9)) by assumption) (show (z16) ≠ 0 ∨ (y16_0_21) = (u0_21) from q_3453 pz16_1))
  refine Ew_of (pcₚ := 1) (fun _ => x_aload_n rfl rfl) ?_
  refine v_g H (o := 0) (v := I (u0_14)) rfl rfl rfl rfl rfl (congrArg (fun z : Int => I z) ((eu0_14) : F 0 14 = u0_14)) ?_
  refine Ew_of (pcₚ := 5) (fun _ => x_iconst rfl) ?_
  refine w_iandE rfl (show inr (u0_14) from q_299 h1) (show inr (4) from q_216) (fun z18 gz18 gaz18 gbz18 gez18 => ?_)
  have h4_ := andI_4 (h := (u0_14)) (by omega)
  refine w_ifeq (t := 90) rfl rfl (show inr (z18) from gz18) (fun b19 => ?_) (fun b19 => ?_)
  · have : ((u0_14) / 4 % 2 ≠ 1 ∧ (u0_9) = (u0_9) ∨ (u0_14) / 4 % 2 = 1 ∧ 4 ≤ (u0_8) - (u0_9) ∧ nvl (ub8 ((w1))) ((u0_9)) 4 = WDL (sc ((w3)) ((u0_17)) ((u2_1))) % 4294967296 ∧ (u0_9) = (u0_9) + 4) := by first | exact .inl ⟨by omega, rfl⟩ | exact .inr ⟨by omega, by omega, hqy (by omega), by omega⟩
    exact hc90  _ _ _ _  (rfl) H O (SF_refl) (SA_refl)   (u0_9) ((eu0_9))  (show 0 ≤ (u0_9) ∧ (u0_9) ≤ (u0_8) ∧ (u0_8) ≤ (n1) ∧ (n1) ≤ 65536 from h0) (show (u0_9) ≤ (u0_9) from q_43) (show ((u0_14) / 4 % 2 ≠ 1 ∧ (u0_9) = (u0_9) ∨ (u0_14) / 4 % 2 = 1 ∧ 4 ≤ (u0_8) - (u0_9) ∧ nvl (ub8 ((w1))) ((u0_9)) 4 = WDL (sc ((w3)) ((u0_17)) ((u2_1))) % 4294967296 ∧ (u0_9) = (u0_9) + 4) by assumption) (show (u0_21) = (u0_21) from q_303)
  · refine Ew_of (pcₚ := 10) (fun _ => x_aload_n rfl rfl) ?_
    refine v_g H (o := 0) (v := I (u0_8)) rfl rfl rfl rfl rfl (congrArg (fun z : Int => I z) ((eu0_8) : F 0 8 = u0_8)) ?_
    refine Ew_of (pcₚ := 14) (fun _ => x_aload_n rfl rfl) ?_
    refine v_g H (o := 0) (v := I (u0_9)) rfl rfl rfl rfl rfl (congrArg (fun z : Int => I z) ((eu0_9) : F 0 9 = u0_9)) ?_
    refine w_isub rfl ?_
    refine Ew_of (pcₚ := 19) (fun _ => x_iconst rfl) ?_
    refine w_icmpge (t := 32) rfl rfl (show inr ((u0_8 - u0_9)) from q_3952 h0) (show inr (4) from q_216) (fun b20 => ?_) (fun b20 => ?_)
    · refine Ew_of (pcₚ := 33) (fun _ => x_aload_n rfl rfl) ?_
      refine v_g H (o := 0) (v := .ref (D 1)) rfl rfl rfl rfl rfl (vrf (pf1)) ?_
      refine Ew_of (pcₚ := 37) (fun _ => x_aload_n rfl rfl) ?_
      refine v_g H (o := 0) (v := I (u0_9)) rfl rfl rfl rfl rfl (congrArg (fun z : Int => I z) ((eu0_9) : F 0 9 = u0_9)) ?_
      refine w_stat25 rfl rfl (by rfl) (C41_Br (D := puc 1 D) (N := puc 1 N) (HW_subc H oz_H2cls_35 oz_H2cls_18) (n1) (en1) (w1) (ew1) (show inr (u0_9) from q_3958 b20 h0) (show 0 ≤ (u0_9) ∧ (u0_9) + 4 ≤ (n1) from q_3972 b20 h0) (fun z21 σ21 F21ₚ A21ₚ Hₚ Oₚ hS21 hA21 pz21_0 pz21_1 => ⟨rfl, ?_⟩))
      refine v_backc (c := c) (s := s) H oz_H2cls_35 oz_H2cls_18 Hₚ Oₚ (fun F21 A21 H Oₚ eF21 eA21 => ?_)
      have O := OUT_trans O Oₚ
      -- PackHouse.word
      have cF21 : SF oz_H2clsl_7 F F21 := SF_trans (SF_refl) (SF_gluc (ι := oz_H2clsl_2) oz_H2cls_18 hS21 eF21 (by decide +kernel)) (any_sub (lₚ := []) (by decide +kernel))
      have mF21 := SFm_of cF21 oz_H2cls_16
      have cA21 : SA oz_H2clsl_8 A A21 := SA_trans (SA_refl) (SA_gluc (ι := oz_H2clsl_2) oz_H2cls_18 hA21 eA21 (by decide +kernel)) (any_subA (lₚ := []) (by decide +kernel))
      have mA21 := SAm_of cA21 oz_H2cls_17
      have hwd := pz21_1
      refine Ew_of (pcₚ := 44) (fun _ => x_aload_n rfl rfl) ?_
      refine v_g H (o := 0) (v := .ref (D 2)) rfl rfl rfl rfl rfl (vrf ((mF21 0 10 rfl).trans (pf2))) ?_
      refine v_g H (o := 2) (v := .ref (D 3)) rfl rfl rfl rfl rfl (vrf ((mF21 2 0 rfl).trans (pf3))) ?_
      refine Ew_of (pcₚ := 51) (fun _ => x_aload_n rfl rfl) ?_
      refine v_g H (o := 0) (v := I (u0_17)) rfl rfl rfl rfl rfl (congrArg (fun z : Int => I z) (((mF21 0 17 rfl).trans (eu0_17)) : F21 0 17 = u0_17)) ?_
      refine Ew_of (pcₚ := 55) (fun _ => x_aload_n rfl rfl) ?_
      refine v_g H (o := 0) (v := .ref (D 2)) rfl rfl rfl rfl rfl (vrf ((mF21 0 10 rfl).trans (pf2))) ?_
      refine v_g H (o := 2) (v := I (u2_1)) rfl rfl rfl rfl rfl (congrArg (fun z : Int => I z) (((mF21 2 1 rfl).trans (eu2_1)) : F21 2 1 = u2_1)) ?_
      refine Ew_of (pcₚ := 62) (fun _ => x_lconst (z := 0) rfl (by decide)) ?_
      refine w_stat25 rfl rfl (by rfl) (C51_Br (D := puc 3 D) (N := puc 3 N) (HW_subc H oz_H2cls_36 oz_H2cls_37) (n3) (en3) (w3) ((funext (mA21 3 rfl)).trans (ew3)) (show inr (u0_17) from q_512 h4 r5) (show inr (u2_1) from q_38 h3) (show inrJ (0) from q_340) (show 0 ≤ (u0_17) ∧ (u0_17) ≤ (u2_1) ∧ (u2_1) ≤ (n3) from q_3369 h3 h4) (fun z22 σ22 F22ₚ A22ₚ Hₚ Oₚ hS22 hA22 pz22_0 pz22_1 => ⟨rfl, ?_⟩))
      refine v_backc (c := c) (s := s) H oz_H2cls_36 oz_H2cls_37 Hₚ Oₚ (fun F22 A22 H Oₚ eF22 eA22 => ?_)
      have O := OUT_trans O Oₚ
      -- PackHouse.wideSum
      have cF22 : SF oz_H2clsl_7 F F22 := SF_trans (cF21) (SF_gluc (ι := oz_H2clsl_12) oz_H2cls_37 hS22 eF22 (by decide +kernel)) (any_sub (lₚ := []) (by decide +kernel))
      have mF22 := SFm_of cF22 oz_H2cls_16
      have cA22 : SA oz_H2clsl_8 A A22 := SA_trans (cA21) (SA_gluc (ι := oz_H2clsl_12) oz_H2cls_37 hA22 eA22 (by decide +kernel)) (any_subA (lₚ := []) (by decide +kernel))
      have mA22 := SAm_of cA22 oz_H2cls_17
      have hws : z22 = WDL (sc ((w3)) ((u0_17)) ((u2_1))) := by rw [pz22_1]; exact WDS_L (by omega) (by omega)
      refine w_l2iW rfl ?_
      have g23 : inr (w32 (z22)) := w32_r _
      have hqq := wd_q (w := z22) hwd
      rw [hws] at hqq
      have hqn : (z21) ≠ ((w32 (z22))) → nvl (ub8 ((w1))) ((u0_9)) 4 ≠ WDL (sc ((w3)) ((u0_17)) ((u2_1))) % 4294967296 := fun w q => w (by rw [hws]; exact hqq.mpr q)
      have hqy : (z21) = ((w32 (z22))) → nvl (ub8 ((w1))) ((u0_9)) 4 = WDL (sc ((w3)) ((u0_17)) ((u2_1))) % 4294967296 := fun w => hqq.mp (by rw [← hws]; exact w)
      refine w_icmpeq (t := 80) rfl rfl (show inr (z21) from pz21_0) (show inr ((w32 (z22))) from g23) (fun b24 => ?_) (fun b24 => ?_)
      · refine Ew_of (pcₚ := 81) (fun _ => x_aload_n rfl rfl) ?_
        refine Ew_of (pcₚ := 82) (fun _ => x_dup rfl rfl) ?_
        refine v_g H (o := 0) (v := I (u0_9)) rfl rfl rfl rfl rfl (congrArg (fun z : Int => I z) (((((show F22 0 9 = F21 0 9 from (eF22 0 9))).trans ((show F21 0 9 = F 0 9 from (eF21 0 9)))).trans (eu0_9)) : F22 0 9 = u0_9)) ?_
        refine Ew_of (pcₚ := 86) (fun _ => x_iconst rfl) ?_
        refine w_iadd rfl ?_
        refine v_p H (o := 0) (z := (u0_9 + 4)) (v := I ((u0_9 + 4))) rfl rfl rfl rfl rfl rfl rfl rfl (show (-2147483648 : Int) ≤ (u0_9 + 4) ∧ (u0_9 + 4) ≤ 2147483647 from q_3959 b20 h0) (fun σ H Oₚ => ?_)
        have O := OUT_trans O Oₚ
        have cFu25 : SF oz_H2clsl_7 F (updF F22 0 9 ((u0_9 + 4))) := SF_upd (cF22) rfl
        have mFu25 := SFm_of cFu25 oz_H2cls_16
        have : ((u0_14) / 4 % 2 ≠ 1 ∧ ((u0_9 + 4)) = (u0_9) ∨ (u0_14) / 4 % 2 = 1 ∧ 4 ≤ (u0_8) - (u0_9) ∧ nvl (ub8 ((w1))) ((u0_9)) 4 = WDL (sc ((w3)) ((u0_17)) ((u2_1))) % 4294967296 ∧ ((u0_9 + 4)) = (u0_9) + 4) := by first | exact .inl ⟨by omega, rfl⟩ | exact .inr ⟨by omega, by omega, hqy (by omega), by omega⟩
        exact hc90  _ _ _ _  (rfl) H O (SF_upd (SF_trans (SF_trans (SF_refl) (SF_gluc (ι := oz_H2clsl_2) oz_H2cls_18 hS21 eF21 (by decide +kernel)) (any_sub (lₚ := []) (by decide +kernel))) (SF_gluc (ι := oz_H2clsl_12) oz_H2cls_37 hS22 eF22 (by decide +kernel)) (any_sub (lₚ := []) (by decide +kernel))) rfl) (SA_trans (SA_trans (SA_refl) (SA_gluc (ι := oz_H2clsl_2) oz_H2cls_18 hA21 eA21 (by decide +kernel)) (any_subA (lₚ := []) (by decide +kernel))) (SA_gluc (ι := oz_H2clsl_12) oz_H2cls_37 hA22 eA22 (by decide +kernel)) (any_subA (lₚ := []) (by decide +kernel)))   ((u0_9 + 4)) (rfl)  (show 0 ≤ ((u0_9 + 4)) ∧ ((u0_9 + 4)) ≤ (u0_8) ∧ (u0_8) ≤ (n1) ∧ (n1) ≤ 65536 from q_3974 b20 h0) (show (u0_9) ≤ ((u0_9 + 4)) from q_3973) (show ((u0_14) / 4 % 2 ≠ 1 ∧ ((u0_9 + 4)) = (u0_9) ∨ (u0_14) / 4 % 2 = 1 ∧ 4 ≤ (u0_8) - (u0_9) ∧ nvl (ub8 ((w1))) ((u0_9)) 4 = WDL (sc ((w3)) ((u0_17)) ((u2_1))) % 4294967296 ∧ ((u0_9 + 4)) = (u0_9) + 4) by assumption) (show (u0_21) = (u0_21) from q_303)
      · refine Ew_of (pcₚ := 70) (fun _ => x_aload_n rfl rfl) ?_
        refine Ew_of (pcₚ := 72) (fun _ => x_bipush (z := 8) rfl (by decide)) ?_
        refine Ew_of (pcₚ := 73) (fun _ => x_aload_n rfl rfl) ?_
        refine v_g H (o := 0) (v := I (u0_9)) rfl rfl rfl rfl rfl (congrArg (fun z : Int => I z) (((((show F22 0 9 = F21 0 9 from (eF22 0 9))).trans ((show F21 0 9 = F 0 9 from (eF21 0 9)))).trans (eu0_9)) : F22 0 9 = u0_9)) ?_
        refine v_inv H (o := 0) rfl rfl rfl rfl rfl rfl (by rfl) (C232 (D := puc 0 D) (N := puc 0 N) (HW_subc H oz_H2cls_34 oz_H2cls_12) (u0_21) (((((show F22 0 21 = F21 0 21 from (eF22 0 21))).trans ((show F21 0 21 = F 0 21 from (eF21 0 21)))).trans (eu0_21))) (show inr (8) from q_141) (show inr (u0_9) from q_3958 b20 h0) (fun z26 σ26 F26ₚ A26ₚ Hₚ Oₚ hS26 hA26 y26_0_21 (ey26_0_21 : HID _) pz26_0 pz26_1 pz26_2 => ⟨rfl, ?_⟩))
        refine v_backc (c := c) (s := s) H oz_H2cls_34 oz_H2cls_12 Hₚ Oₚ (fun F26 A26 H Oₚ eF26 eA26 => ?_)
        have O := OUT_trans O Oₚ
        -- Unpacker.fail
        have cF26 : SF oz_H2clsl_7 F F26 := SF_trans (cF22) (SF_gluc (ι := oz_H2clsl_6) oz_H2cls_12 hS26 eF26 (by decide +kernel)) (any_sub (lₚ := [(0, 21)]) (by decide +kernel))
        have mF26 := SFm_of cF26 oz_H2cls_16
        have cA26 : SA oz_H2clsl_8 A A26 := SA_trans (cA22) (SA_gluc (ι := oz_H2clsl_6) oz_H2cls_12 hA26 eA26 (by decide +kernel)) (any_subA (lₚ := []) (by decide +kernel))
        have mA26 := SAm_of cA26 oz_H2cls_17
        have r27 : (-2147483648 : Int) ≤ y26_0_21 ∧ y26_0_21 ≤ 2147483647 := rngE (show (-2147483648 : Int) ≤ F26 0 21 ∧ F26 0 21 ≤ 2147483647 from H.krg 0 21 (ltn len_V242_oz_H2cls rfl)) (show F26 0 21 = y26_0_21 from ((eF26 0 21).trans ey26_0_21))
        have : UEA (ub8 ((w1))) ((u0_8)) ((u0_14)) ((u0_16)) (szB ((u0_14))) (dueF (ub8 ((w1))) ((u0_16)) (szB ((u0_14)))) (sc ((w3)) ((u0_17)) ((u2_1))) ((u0_9)) ((z26)) ((y26_0_21)) ((u0_9)) := .inr (.inl ⟨by omega, by omega, hqn (by omega), by omega, by omega⟩)
        exact w_ireturn rfl (k (z26) _ _ _ H O (cF26) (cA26) (u0_9) ((((((show F26 0 9 = F22 0 9 from (eF26 0 9).trans (hS26 0 9 rfl))).trans ((show F22 0 9 = F21 0 9 from (eF22 0 9)))).trans ((show F21 0 9 = F 0 9 from (eF21 0 9)))).trans (eu0_9))) (y26_0_21) (((eF26 0 21).trans ey26_0_21)) (show inr (z26) from pz26_0) (show 0 ≤ (z26) ∧ (z26) ≤ 17 from q_3975 pz26_1) (show 0 ≤ (u0_9) ∧ (u0_9) ≤ (u0_9) ∧ (u0_9) ≤ (u0_8) from q_3950 h0) (show UEA (ub8 ((w1))) ((u0_8)) ((u0_14)) ((u0_16)) (szB ((u0_14))) (dueF (ub8 ((w1))) ((u0_16)) (szB ((u0_14)))) (sc ((w3)) ((u0_17)) ((u2_1))) ((u0_9)) ((z26)) ((y26_0_21)) ((u0_9)) by assumption) (show (z26) ≠ 0 ∨ (y26_0_21) = (u0_21) from q_3438 pz26_1))
    · refine Ew_of (pcₚ := 23) (fun _ => x_aload_n rfl rfl) ?_
      refine Ew_of (pcₚ := 24) (fun _ => x_iconst rfl) ?_
      refine Ew_of (pcₚ := 25) (fun _ => x_aload_n rfl rfl) ?_
      refine v_g H (o := 0) (v := I (u0_8)) rfl rfl rfl rfl rfl (congrArg (fun z : Int => I z) ((eu0_8) : F 0 8 = u0_8)) ?_
      refine v_inv H (o := 0) rfl rfl rfl rfl rfl rfl (by rfl) (C232 (D := puc 0 D) (N := puc 0 N) (HW_subc H oz_H2cls_34 oz_H2cls_12) (u0_21) ((eu0_21)) (show inr (1) from q_135) (show inr (u0_8) from q_3942 h0) (fun z28 σ28 F28ₚ A28ₚ Hₚ Oₚ hS28 hA28 y28_0_21 (ey28_0_21 : HID _) pz28_0 pz28_1 pz28_2 => ⟨rfl, ?_⟩))
      refine v_backc (c := c) (s := s) H oz_H2cls_34 oz_H2cls_12 Hₚ Oₚ (fun F28 A28 H Oₚ eF28 eA28 => ?_)
      have O := OUT_trans O Oₚ
      -- Unpacker.fail
      have cF28 : SF oz_H2clsl_7 F F28 := SF_trans (SF_refl) (SF_gluc (ι := oz_H2clsl_6) oz_H2cls_12 hS28 eF28 (by decide +kernel)) (any_sub (lₚ := [(0, 21)]) (by decide +kernel))
      have mF28 := SFm_of cF28 oz_H2cls_16
      have cA28 : SA oz_H2clsl_8 A A28 := SA_trans (SA_refl) (SA_gluc (ι := oz_H2clsl_6) oz_H2cls_12 hA28 eA28 (by decide +kernel)) (any_subA (lₚ := []) (by decide +kernel))
      have mA28 := SAm_of cA28 oz_H2cls_17
      have r29 : (-2147483648 : Int) ≤ y28_0_21 ∧ y28_0_21 ≤ 2147483647 := rngE (show (-2147483648 : Int) ≤ F28 0 21 ∧ F28 0 21 ≤ 2147483647 from H.krg 0 21 (ltn len_V242_oz_H2cls rfl)) (show F28 0 21 = y28_0_21 from ((eF28 0 21).trans ey28_0_21))
      have : UEA (ub8 ((w1))) ((u0_8)) ((u0_14)) ((u0_16)) (szB ((u0_14))) (dueF (ub8 ((w1))) ((u0_16)) (szB ((u0_14)))) (sc ((w3)) ((u0_17)) ((u2_1))) ((u0_9)) ((z28)) ((y28_0_21)) ((u0_9)) := .inl ⟨by omega, by omega, by omega, by omega⟩
      exact w_ireturn rfl (k (z28) _ _ _ H O (cF28) (cA28) (u0_9) ((((show F28 0 9 = F 0 9 from (eF28 0 9).trans (hS28 0 9 rfl))).trans (eu0_9))) (y28_0_21) (((eF28 0 21).trans ey28_0_21)) (show inr (z28) from pz28_0) (show 0 ≤ (z28) ∧ (z28) ≤ 17 from q_3951 pz28_1) (show 0 ≤ (u0_9) ∧ (u0_9) ≤ (u0_9) ∧ (u0_9) ≤ (u0_8) from q_3950 h0) (show UEA (ub8 ((w1))) ((u0_8)) ((u0_14)) ((u0_16)) (szB ((u0_14))) (dueF (ub8 ((w1))) ((u0_16)) (szB ((u0_14)))) (sc ((w3)) ((u0_17)) ((u2_1))) ((u0_9)) ((z28)) ((y28_0_21)) ((u0_9)) by assumption) (show (z28) ≠ 0 ∨ (y28_0_21) = (u0_21) from q_3108 pz28_1))
abbrev V243 : vV := [(0, 12, [(4, 0), (4, 0), (4, 0), (4, 0), (4, 0), (4, 0), (4, 0), (4, 0), (0, 0), (0, 0), (4, 0), (0, 0), (4, 0), (4, 0), (0, 0), (2, 0), (0, 0), (0, 0), (0, 0), (0, 0), (0, 0), (0, 0)]), (1, 0, []), (0, 7, [(4, 0), (0, 0), (1, 0), (0, 0), (0, 0)]), (1, 0, []), (1, 1, [])]
theorem len_V243_oz_H2cls : (V243).length = 5 := by decide +kernel
theorem oz_H2cls_39 : vsub V243 V42_Br [1] = true := by decide +kernel
theorem oz_H2cls_40 : vsub V243 V234 [0] = true := by decide +kernel
theorem oz_H2cls_41 : vsub V243 V161_Br [2, 1, 3] = true := by decide +kernel
theorem oz_H2cls_42 : vmov V243 [2, 1, 3] [2] = true := by decide +kernel
theorem oz_H2cls_43 : vsub V243 V162 [2, 3] = true := by decide +kernel
theorem oz_H2cls_44 : vmov V243 [2, 3] [1] = true := by decide +kernel
theorem oz_H2cls_45 : vsub V243 V232 [0] = true := by decide +kernel
def oz_H2clsl_13 : List (Nat × Nat) := [(0, 9), (0, 18), (0, 21), (2, 0), (2, 1), (2, 2)]
theorem oz_H2cls_46 : (oz_H2clsl_13).all (fun p => !tbz 129127208515969221120 (Nat.add (Nat.mul 32 p.1) p.2)) = true := by decide +kernel
def oz_H2clsl_14 : List Nat := [3, 4]
theorem oz_H2cls_47 : (oz_H2clsl_14).all (fun p => !tbz 24 p) = true := by decide +kernel
theorem oz_H2cls_48 : (oz_H2clsl_12).all (fun p => !tbz 8 p) = true := by decide +kernel
def oz_H2clsl_15 : List Nat := [2, 1, 3]
theorem oz_H2cls_49 : okc oz_H2clsl_15 786946 = true := by decide +kernel
def oz_H2clsl_16 : List Nat := [2, 3]
theorem oz_H2cls_50 : okc oz_H2clsl_16 1538 = true := by decide +kernel
set_option maxHeartbeats 16000000 in
theorem C243 {σE : rS} {D N : Nat → Nat} {F : hF} {A : hA} {d c s : Nat} {Q : wQ} (H : HW V243 σE D N F A)  (pf1 : HID (F 0 7 = (D 1 : Int))) (pf2 : HID (F 0 10 = (D 2 : Int))) (pf3 : HID (F 2 0 = (D 3 : Int))) (pf4 : HID (F 0 13 = (D 4 : Int))) (n1 : Int) (en1 : HID ((N 1 : Int) = n1)) (n3 : Int) (en3 : HID ((N 3 : Int) = n3)) (n4 : Int) (en4 : HID ((N 4 : Int) = n4)) (u0_8 : Int) (eu0_8 : HID (F 0 8 = u0_8)) (u0_9 : Int) (eu0_9 : HID (F 0 9 = u0_9)) (u0_11 : Int) (eu0_11 : HID (F 0 11 = u0_11)) (u0_15 : Int) (eu0_15 : HID (F 0 15 = u0_15)) (u0_18 : Int) (eu0_18 : HID (F 0 18 = u0_18)) (u0_21 : Int) (eu0_21 : HID (F 0 21 = u0_21)) (u2_1 : Int) (eu2_1 : HID (F 2 1 = u2_1)) (u2_2 : Int) (eu2_2 : HID (F 2 2 = u2_2)) (w1 : Int → Int) (ew1 : A 1 = w1) (w3 : Int → Int) (ew3 : A 3 = w3) (w4 : Int → Int) (ew4 : A 4 = w4) (h0 : 0 ≤ (u0_9) ∧ (u0_9) ≤ (u0_8) ∧ (u0_8) ≤ (n1) ∧ (n1) ≤ 65536) (h1 : 0 ≤ (u2_1) ∧ (u2_1) ≤ (n3) ∧ (n3) ≤ 65536) (h2 : 0 ≤ (u0_11) ∧ (u0_11) ≤ 65536 ∧ (u2_1) ≤ (u0_11)) (h3 : (n4) = 5) (h4 : 0 ≤ (u0_15)) (h5 : (u2_2) = 0) (h6 : 0 ≤ ((w4)) 1 ∧ ((w4)) 1 ≤ (u0_9)) (k : ∀ (z : Int) (σ : rS) (Dₚ Nₚ : Nat → Nat) (Fₚ : hF) (Aₚ : hA) (cₚ sₚ : Nat), HW V243 σ Dₚ Nₚ Fₚ Aₚ → OUT (V243).length D N σE c s Dₚ Nₚ σ cₚ sₚ → SD [3] D Dₚ → SD [3] N Nₚ → SF [(0, 9), (0, 18), (0, 21), (2, 0), (2, 1), (2, 2)] F Fₚ → SA [3, 4] A Aₚ → Fₚ 2 0 = (Dₚ 3 : Int) → ∀ m3 : Int, (Nₚ 3 : Int) = m3 → ∀ y0_9 : Int, Fₚ 0 9 = y0_9 → ∀ y0_18 : Int, Fₚ 0 18 = y0_18 → ∀ y0_21 : Int, Fₚ 0 21 = y0_21 → ∀ y2_1 : Int, Fₚ 2 1 = y2_1 → ∀ y2_2 : Int, Fₚ 2 2 = y2_2 → ∀ v3 : Int → Int, Aₚ 3 = v3 → ∀ v4 : Int → Int, Aₚ 4 = v4 → (inr (z)) → (0 ≤ (z) ∧ (z) ≤ 17) → (0 ≤ (y0_9) ∧ (u0_9) ≤ (y0_9) ∧ (y0_9) ≤ (u0_8)) → (0 ≤ (y2_1) ∧ (y2_1) ≤ (m3) ∧ (m3) ≤ 65536) → ((u2_1) ≤ (y2_1) ∧ (y2_1) ≤ (u0_11)) → ((y0_18) = 0 ∨ (y0_9) ≤ (y0_18) ∧ (y0_18) ≤ (u0_8)) → (UBA (ub8 ((w1))) ((u0_8)) (moF ((u0_15))) ((u0_11) - (u2_1)) ((u0_9)) ((z)) ((y0_21)) ((y0_9)) ((y0_18)) (sc ((v3)) ((u2_1)) ((y2_1)))) → (sc ((v3)) 0 ((u2_1)) = sc ((w3)) 0 ((u2_1))) → ((y2_2) = 0) → (3 ≤ (u0_8) - (u0_9) ∧ ((v4)) 1 = ((w4)) 1 + 1 ∨ (u0_8) - (u0_9) < 3 ∧ ((v4)) 1 = ((w4)) 1) → (((v4)) 0 = ((w4)) 0) → (((v4)) 2 = ((w4)) 2) → (((v4)) 3 = ((w4)) 3) → (((v4)) 4 = ((w4)) 4) → ((z) ≠ 0 ∨ (y0_21) = (u0_21)) → Q (some (I z)) σ cₚ sₚ) : Ew 243 (d + 3) 0 (rargs 0 [.ref (D 0)]) [] σE c s Q := by
  have O := OUT_refl (n := (V243).length) (D := D) (N := N) (σ := σE) (c := c) (s := s)
  have HE := H
  have r1 : (-2147483648 : Int) ≤ u0_8 ∧ u0_8 ≤ 2147483647 := rngE (show (-2147483648 : Int) ≤ F 0 8 ∧ F 0 8 ≤ 2147483647 from H.krg 0 8 (ltn len_V243_oz_H2cls rfl)) (show F 0 8 = u0_8 from (eu0_8))
  have r2 : (-2147483648 : Int) ≤ u0_9 ∧ u0_9 ≤ 2147483647 := rngE (show (-2147483648 : Int) ≤ F 0 9 ∧ F 0 9 ≤ 2147483647 from H.krg 0 9 (ltn len_V243_oz_H2cls rfl)) (show F 0 9 = u0_9 from (eu0_9))
  have r3 : (-2147483648 : Int) ≤ u0_11 ∧ u0_11 ≤ 2147483647 := rngE (show (-2147483648 : Int) ≤ F 0 11 ∧ F 0 11 ≤ 2147483647 from H.krg 0 11 (ltn len_V243_oz_H2cls rfl)) (show F 0 11 = u0_11 from (eu0_11))
  have r4 : (-9223372036854775808 : Int) ≤ u0_15 ∧ u0_15 ≤ 9223372036854775807 := rngE (show (-9223372036854775808 : Int) ≤ F 0 15 ∧ F 0 15 ≤ 9223372036854775807 from H.krg 0 15 (ltn len_V243_oz_H2cls rfl)) (show F 0 15 = u0_15 from (eu0_15))
  have r5 : (-2147483648 : Int) ≤ u0_18 ∧ u0_18 ≤ 2147483647 := rngE (show (-2147483648 : Int) ≤ F 0 18 ∧ F 0 18 ≤ 2147483647 from H.krg 0 18 (ltn len_V243_oz_H2cls rfl)) (show F 0 18 = u0_18 from (eu0_18))
  have r6 : (-2147483648 : Int) ≤ u0_21 ∧ u0_21 ≤ 2147483647 := rngE (show (-2147483648 : Int) ≤ F 0 21 ∧ F 0 21 ≤ 2147483647 from H.krg 0 21 (ltn len_V243_oz_H2cls rfl)) (show F 0 21 = u0_21 from (eu0_21))
  have r7 : (-2147483648 : Int) ≤ u2_1 ∧ u2_1 ≤ 2147483647 := rngE (show (-2147483648 : Int) ≤ F 2 1 ∧ F 2 1 ≤ 2147483647 from H.krg 2 1 (ltn len_V243_oz_H2cls rfl)) (show F 2 1 = u2_1 from (eu2_1))
  have r8 : (0 : Int) ≤ u2_2 ∧ u2_2 ≤ 1 := rngE (show (0 : Int) ≤ F 2 2 ∧ F 2 2 ≤ 1 from H.krg 2 2 (ltn len_V243_oz_H2cls rfl)) (show F 2 2 = u2_2 from (eu2_2))
  have r9 : (0 : Int) ≤ n1 ∧ n1 ≤ 1000000 := nleE (H.nle 1 (ltn len_V243_oz_H2cls rfl)) (show (N 1 : Int) = n1 from en1)
  have r10 : (0 : Int) ≤ n3 ∧ n3 ≤ 1000000 := nleE (H.nle 3 (ltn len_V243_oz_H2cls rfl)) (show (N 3 : Int) = n3 from en3)
  have r11 : (0 : Int) ≤ n4 ∧ n4 ≤ 1000000 := nleE (H.nle 4 (ltn len_V243_oz_H2cls rfl)) (show (N 4 : Int) = n4 from en4)
  refine Ew_of (pcₚ := 1) (fun _ => x_aload_n rfl rfl) ?_
  refine Ew_of (pcₚ := 2) (fun _ => x_iconst rfl) ?_
  refine v_p H (o := 0) (z := 0) (v := I (0)) rfl rfl rfl rfl rfl rfl rfl rfl (show (-2147483648 : Int) ≤ 0 ∧ 0 ≤ 2147483647 from q_22) (fun σ H Oₚ => ?_)
  have O := OUT_trans O Oₚ
  have cFu12 : SF oz_H2clsl_13 F (updF F 0 18 (0)) := SF_upd (SF_refl) rfl
  have mFu12 := SFm_of cFu12 oz_H2cls_46
  refine Ew_of (pcₚ := 6) (fun _ => x_aload_n rfl rfl) ?_
  refine v_g H (o := 0) (v := I (u0_8)) rfl rfl rfl rfl rfl (congrArg (fun z : Int => I z) (((mFu12 0 8 rfl).trans (eu0_8)) : (updF F 0 18 (0)) 0 8 = u0_8)) ?_
  refine Ew_of (pcₚ := 10) (fun _ => x_aload_n rfl rfl) ?_
  refine v_g H (o := 0) (v := I (u0_9)) rfl rfl rfl rfl rfl (congrArg (fun z : Int => I z) ((eu0_9) : (updF F 0 18 (0)) 0 9 = u0_9)) ?_
  refine w_isub rfl ?_
  refine Ew_of (pcₚ := 15) (fun _ => x_iconst rfl) ?_
  refine w_icmpge (t := 28) rfl rfl (show inr ((u0_8 - u0_9)) from q_3952 h0) (show inr (3) from q_246) (fun b13 => ?_) (fun b13 => ?_)
  · refine Ew_of (pcₚ := 29) (fun _ => x_aload_n rfl rfl) ?_
    refine v_g H (o := 0) (v := .ref (D 4)) rfl rfl rfl rfl rfl (vrf ((mFu12 0 13 rfl).trans (pf4))) ?_
    refine Ew_of (pcₚ := 33) (fun _ => x_iconst rfl) ?_
    refine Ew_of (pcₚ := 34) (fun _ => x_dup2 rfl rfl rfl) ?_
    refine v_lI H (o := 4) rfl rfl rfl rfl (n := n4) (en4) (show 0 ≤ 1 ∧ 1 < n4 from q_3976 h3 r11) (fun v14 ev14 qv14 => ?_)
    have ev14 : (w4) (1) = v14 := (congrFun (ew4) (1)).symm.trans ev14
    refine Ew_of (pcₚ := 36) (fun _ => x_iconst rfl) ?_
    refine w_iadd rfl ?_
    refine v_sI H (o := 4) (z := (v14 + 1)) rfl rfl rfl rfl (n := n4) (en4) (show 0 ≤ 1 ∧ 1 < n4 from q_3976 h3 r11) (show inr ((v14 + 1)) from q_3977 b13 ev14 h0 h6 qv14) (fun σ H Oₚ => ?_)
    have O := OUT_trans O Oₚ
    have cAu15 : SA oz_H2clsl_14 A (updA A 4 (1) ((v14 + 1))) := SA_upd (SA_refl) rfl
    have mAu15 := SAm_of cAu15 oz_H2cls_47
    refine Ew_of (pcₚ := 39) (fun _ => x_aload_n rfl rfl) ?_
    have hc1 : ((upd1 (w4) (1) ((v14 + 1)))) 1 = ((w4)) 1 + 1 := by rw [upd1_s]; omega
    have hck0 : ((upd1 (w4) (1) ((v14 + 1)))) 0 = ((w4)) 0 := upd1_o (by decide)
    have hck2 : ((upd1 (w4) (1) ((v14 + 1)))) 2 = ((w4)) 2 := upd1_o (by decide)
    have hck3 : ((upd1 (w4) (1) ((v14 + 1)))) 3 = ((w4)) 3 := upd1_o (by decide)
    have hck4 : ((upd1 (w4) (1) ((v14 + 1)))) 4 = ((w4)) 4 := upd1_o (by decide)
    refine v_g H (o := 0) (v := .ref (D 1)) rfl rfl rfl rfl rfl (vrf ((mFu12 0 7 rfl).trans (pf1))) ?_
    refine Ew_of (pcₚ := 43) (fun _ => x_aload_n rfl rfl) ?_
    refine v_g H (o := 0) (v := I (u0_9)) rfl rfl rfl rfl rfl (congrArg (fun z : Int => I z) ((eu0_9) : (updF F 0 18 (0)) 0 9 = u0_9)) ?_
    refine Ew_of (pcₚ := 47) (fun _ => x_iconst rfl) ?_
    refine w_stat25 rfl rfl (by rfl) (C42_Brf (D := puc 1 D) (N := puc 1 N) (HW_subc H oz_H2cls_39 oz_H2cls_18) (n1) (en1) (w1) ((funext (mAu15 1 rfl)).trans (ew1)) (show inr (u0_9) from q_3979 b13 h0) (show inr (3) from q_246) (show (3) ≤ 0 ∨ 0 ≤ (u0_9) ∧ (u0_9) + (3) ≤ (n1) from q_3978 b13 h0) (show 0 ≤ (3) ∧ (3) ≤ 8 from q_2174) (fun z16 σ16 F16ₚ A16ₚ Hₚ Oₚ hS16 hA16 pz16_0 pz16_1 pz16_2 => ⟨rfl, ?_⟩))
    refine v_backc (c := c) (s := s) H oz_H2cls_39 oz_H2cls_18 Hₚ Oₚ (fun F16 A16 H Oₚ eF16 eA16 => ?_)
    have O := OUT_trans O Oₚ
    -- PackHouse.number
    have cF16 : SF oz_H2clsl_13 F F16 := SF_trans (cFu12) (SF_gluc (ι := oz_H2clsl_2) oz_H2cls_18 hS16 eF16 (by decide +kernel)) (any_sub (lₚ := []) (by decide +kernel))
    have mF16 := SFm_of cF16 oz_H2cls_46
    have cA16 : SA oz_H2clsl_14 A A16 := SA_trans (cAu15) (SA_gluc (ι := oz_H2clsl_2) oz_H2cls_18 hA16 eA16 (by decide +kernel)) (any_subA (lₚ := []) (by decide +kernel))
    have mA16 := SAm_of cA16 oz_H2cls_47
    have hnb := nb3 pz16_1
    have hN3 : z16 = nvl (ub8 ((w1))) ((u0_9)) 3 := (nmb_nn pz16_2 (by omega) pz16_0).trans nvl_u
    refine w_l2i rfl ?_
    refine Ew_of (pcₚ := 52) (fun _ => x_istore_n rfl) ?_
    refine Ew_of (pcₚ := 53) (fun _ => x_iload_n rfl rk_s) ?_
    refine Ew_of (pcₚ := 54) (fun _ => x_iconst rfl) ?_
    refine w_ishrK 1 2 (by decide) (by decide) rfl (show inr (z16) by omega) (fun z17 gz17 dz17 => ?_)
    have ha3 := andI_3 ((z17))
    refine Ew_of (pcₚ := 56) (fun _ => x_iconst rfl) ?_
    refine w_iandE rfl (show inr (z17) from gz17) (show inr (3) from q_246) (fun z18 gz18 gaz18 gbz18 gez18 => ?_)
    refine Ew_of (pcₚ := 58) (fun _ => x_istore_n rfl) ?_
    refine Ew_of (pcₚ := 59) (fun _ => x_iload_n rfl (rk_o (rk_s) rfl rfl)) ?_
    refine Ew_of (pcₚ := 60) (fun _ => x_iconst rfl) ?_
    refine w_ishrK 3 8 (by decide) (by decide) rfl (show inr (z16) by omega) (fun z19 gz19 dz19 => ?_)
    refine Ew_of (pcₚ := 62) (fun _ => x_istore_n rfl) ?_
    have hkk : (z18) = bkK (ub8 ((w1))) ((u0_9)) := by unfold bkK; rw [← hN3]; omega
    have hkn : (z19) = bkN (ub8 ((w1))) ((u0_9)) := by unfold bkN; rw [← hN3]; omega
    have hbb : bkB (ub8 ((w1))) ((u0_9)) = (if bkK (ub8 ((w1))) ((u0_9)) = 1 then 1 else bkN (ub8 ((w1))) ((u0_9))) := rfl
    refine Ew_of (pcₚ := 63) (fun _ => x_iload_n rfl (rk_o (rk_s) rfl rfl)) ?_
    refine Ew_of (pcₚ := 64) (fun _ => x_iconst rfl) ?_
    refine w_icmpne (t := 77) rfl rfl (show inr (z18) from gz18) (show inr (3) from q_246) (fun b20 => ?_) (fun b20 => ?_)
    · refine Ew_of (pcₚ := 78) (fun _ => x_iload_n rfl rk_s) ?_
      refine Ew_of (pcₚ := 79) (fun _ => x_aload_n rfl (rk_o (rk_o (rk_o (rfl) rfl rfl) rfl rfl) rfl rfl)) ?_
      refine v_inv H (o := 0) rfl rfl rfl rfl rfl rfl (by rfl) (C234 (D := puc 0 D) (N := puc 0 N) (HW_subc H oz_H2cls_40 oz_H2cls_12) (u0_15) (((mF16 0 15 rfl).trans (eu0_15))) (show 0 ≤ (u0_15) from h4) (fun z21 σ21 F21ₚ A21ₚ Hₚ Oₚ hS21 hA21 pz21_0 pz21_1 pz21_2 => ⟨rfl, ?_⟩))
      refine v_backc (c := c) (s := s) H oz_H2cls_40 oz_H2cls_12 Hₚ Oₚ (fun F21 A21 H Oₚ eF21 eA21 => ?_)
      have O := OUT_trans O Oₚ
      -- Unpacker.blockMost
      have cF21 : SF oz_H2clsl_13 F F21 := SF_trans (cF16) (SF_gluc (ι := oz_H2clsl_6) oz_H2cls_12 hS21 eF21 (by decide +kernel)) (any_sub (lₚ := []) (by decide +kernel))
      have mF21 := SFm_of cF21 oz_H2cls_46
      have cA21 : SA oz_H2clsl_14 A A21 := SA_trans (cA16) (SA_gluc (ι := oz_H2clsl_6) oz_H2cls_12 hA21 eA21 (by decide +kernel)) (any_subA (lₚ := []) (by decide +kernel))
      have mA21 := SAm_of cA21 oz_H2cls_47
      have hmo := pz21_2
      refine w_icmple (t := 96) rfl rfl (show inr (z19) from gz19) (show inr (z21) from pz21_0) (fun b22 => ?_) (fun b22 => ?_)
      · refine Ew_of (pcₚ := 97) (fun _ => x_iload_n rfl (rk_o (rk_s) rfl rfl)) ?_
        refine Ew_of (pcₚ := 98) (fun _ => x_iconst rfl) ?_
        have hc106 : ∀ (tc106_0 : Int), ∀ (ls : rO) (σ : rS) (F_c106 : hF) (A_c106 : hA) , rlook ls 0 = some (.ref (D 0)) → rlook ls 2 = some (I (z18)) → rlook ls 3 = some (I (z19)) → HW V243 σ D N F_c106 A_c106 → OUT (V243).length D N σE c s D N σ c s → SF [] F21 F_c106 → SA [] A21 A_c106 → (inr (tc106_0)) → (((z18) ≠ (1) ∧ (tc106_0) = (z19)) ∨ ((z18) = (1) ∧ (tc106_0) = (1))) → Ew 243 (d + 3) 106 ls [I (tc106_0)] σ c s Q := by
         as_aux_lemma =>
          intro tc106_0 ls σ F_c106 A_c106  lc106_0 lc106_2 lc106_3 H O hS_c106 hA_c106     jc106_0 jc106_1
          have cF_c106 : SF oz_H2clsl_13 F F_c106 := SF_trans (cF21) hS_c106 (any_sub (by decide +kernel))
          have mF_c106 := SFm_of cF_c106 oz_H2cls_46
          have cA_c106 : SA oz_H2clsl_14 A A_c106 := SA_trans (cA21) hA_c106 (any_subA (by decide +kernel))
          have mA_c106 := SAm_of cA_c106 oz_H2cls_47
          refine Ew_of (pcₚ := 108) (fun _ => x_istore rfl) ?_
          refine Ew_of (pcₚ := 109) (fun _ => x_aload_n rfl (rk_o (lc106_0) rfl rfl)) ?_
          refine v_g H (o := 0) (v := I (u0_8)) rfl rfl rfl rfl rfl (congrArg (fun z : Int => I z) (((mF_c106 0 8 rfl).trans (eu0_8)) : F_c106 0 8 = u0_8)) ?_
          refine Ew_of (pcₚ := 113) (fun _ => x_aload_n rfl (rk_o (lc106_0) rfl rfl)) ?_
          refine v_g H (o := 0) (v := I (u0_9)) rfl rfl rfl rfl rfl (congrArg (fun z : Int => I z) (((((hS_c106 0 9 rfl).trans ((show F21 0 9 = F16 0 9 from (eF21 0 9).trans (hS21 0 9 rfl)))).trans ((show F16 0 9 = (updF F 0 18 (0)) 0 9 from (eF16 0 9)))).trans (eu0_9)) : F_c106 0 9 = u0_9)) ?_
          refine w_isub rfl ?_
          refine Ew_of (pcₚ := 118) (fun _ => x_iconst rfl) ?_
          refine w_isub rfl ?_
          refine Ew_of (pcₚ := 121) (fun _ => x_iload rfl rk_s) ?_
          refine w_icmpge (t := 134) rfl rfl (show inr (((u0_8 - u0_9) - 3)) from q_3980 b13 h0) (show inr (tc106_0) from jc106_0) (fun b23 => ?_) (fun b23 => ?_)
          · have hc166 : ∀ (ls : rO) (σ : rS) (F_c166 : hF) (A_c166 : hA) , rlook ls 0 = some (.ref (D 0)) → rlook ls 2 = some (I (z18)) → rlook ls 3 = some (I (z19)) → rlook ls 4 = some (I (tc106_0)) → HW V243 σ D N F_c166 A_c166 → OUT (V243).length D N σE c s D N σ c s → SF [] F_c106 F_c166 → SA [] A_c106 A_c166 → (((z18) : Int) = 2 ∨ (z19) ≤ (u0_11) - (u2_1)) → Ew 243 (d + 3) 166 ls [] σ c s Q := by
             as_aux_lemma =>
              intro  ls σ F_c166 A_c166  lc166_0 lc166_2 lc166_3 lc166_4 H O hS_c166 hA_c166     jc166_0
              have cF_c166 : SF oz_H2clsl_13 F F_c166 := SF_trans (cF_c106) hS_c166 (any_sub (by decide +kernel))
              have mF_c166 := SFm_of cF_c166 oz_H2cls_46
              have cA_c166 : SA oz_H2clsl_14 A A_c166 := SA_trans (cA_c106) hA_c166 (any_subA (by decide +kernel))
              have mA_c166 := SAm_of cA_c166 oz_H2cls_47
              refine Ew_of (pcₚ := 167) (fun _ => x_aload_n rfl lc166_0) ?_
              refine Ew_of (pcₚ := 168) (fun _ => x_dup rfl rfl) ?_
              refine v_g H (o := 0) (v := I (u0_9)) rfl rfl rfl rfl rfl (congrArg (fun z : Int => I z) ((((((hS_c166 0 9 rfl).trans (hS_c106 0 9 rfl)).trans ((show F21 0 9 = F16 0 9 from (eF21 0 9).trans (hS21 0 9 rfl)))).trans ((show F16 0 9 = (updF F 0 18 (0)) 0 9 from (eF16 0 9)))).trans (eu0_9)) : F_c166 0 9 = u0_9)) ?_
              refine Ew_of (pcₚ := 172) (fun _ => x_iconst rfl) ?_
              refine w_iadd rfl ?_
              refine v_p H (o := 0) (z := (u0_9 + 3)) (v := I ((u0_9 + 3))) rfl rfl rfl rfl rfl rfl rfl rfl (show (-2147483648 : Int) ≤ (u0_9 + 3) ∧ (u0_9 + 3) ≤ 2147483647 from q_3981 b13 h0) (fun σ H Oₚ => ?_)
              have O := OUT_trans O Oₚ
              have cFu24 : SF oz_H2clsl_13 F (updF F_c166 0 9 ((u0_9 + 3))) := SF_upd (cF_c166) rfl
              have mFu24 := SFm_of cFu24 oz_H2cls_46
              refine Ew_of (pcₚ := 177) (fun _ => x_iload_n rfl lc166_2) ?_
              refine Ew_of (pcₚ := 178) (fun _ => x_iconst rfl) ?_
              refine w_icmpne (t := 193) rfl rfl (show inr (z18) from gz18) (show inr (2) from q_122) (fun b25 => ?_) (fun b25 => ?_)
              · have hc234 : ∀ (ls : rO) (σ : rS) (D_c234 N_c234 : Nat → Nat) (c_c234 s_c234 : Nat) (F_c234 : hF) (A_c234 : hA) , rlook ls 0 = some (.ref (D_c234 0)) → rlook ls 4 = some (I (tc106_0)) → HW V243 σ D_c234 N_c234 F_c234 A_c234 → OUT (V243).length D N σE c s D_c234 N_c234 σ c_c234 s_c234 → SD [3] D D_c234 → SD [3] N N_c234 → SF [(2, 0), (2, 1), (2, 2)] (updF F_c166 0 9 ((u0_9 + 3))) F_c234 → SA [3] A_c166 A_c234 → F_c234 2 0 = (D_c234 3 : Int) → ∀ mc234_3 : Int, (N_c234 3 : Int) = mc234_3 → ∀ yc234_2_1 : Int, F_c234 2 1 = yc234_2_1 → ∀ yc234_2_2 : Int, F_c234 2 2 = yc234_2_2 → ∀ wc234_3 : Int → Int, A_c234 3 = wc234_3 → (0 ≤ (yc234_2_1) ∧ (yc234_2_1) ≤ (mc234_3) ∧ (mc234_3) ≤ 65536) → ((u2_1) ≤ (yc234_2_1) ∧ (yc234_2_1) ≤ (u0_11)) → ((yc234_2_2) = 0) → (sc ((wc234_3)) ((u2_1)) ((yc234_2_1)) = (if bkK (ub8 ((w1))) ((u0_9)) = 1 then List.replicate (bkN (ub8 ((w1))) ((u0_9))).toNat ((ub8 ((w1))) ((u0_9) + 3)) else sc (ub8 ((w1))) ((u0_9) + 3) ((u0_9) + 3 + bkN (ub8 ((w1))) ((u0_9))))) → (sc ((wc234_3)) 0 ((u2_1)) = sc ((w3)) 0 ((u2_1))) → Ew 243 (d + 3) 234 ls [] σ c_c234 s_c234 Q := by
                 as_aux_lemma =>
                  intro  ls σ D_c234 N_c234 c_c234 s_c234 F_c234 A_c234  lc234_0 lc234_4 H O hD_c234 hN_c234 hS_c234 hA_c234 pmc234_3 mc234_3 emc234_3 yc234_2_1 eyc234_2_1 yc234_2_2 eyc234_2_2 wc234_3 ewc234_3 jc234_0 jc234_1 jc234_2 jc234_3 jc234_4
                  have cF_c234 : SF oz_H2clsl_13 F F_c234 := SF_trans (cFu24) hS_c234 (any_sub (by decide +kernel))
                  have mF_c234 := SFm_of cF_c234 oz_H2cls_46
                  have cA_c234 : SA oz_H2clsl_14 A A_c234 := SA_trans (cA_c166) hA_c234 (any_subA (by decide +kernel))
                  have mA_c234 := SAm_of cA_c234 oz_H2cls_47
                  have cD_c234 : SD oz_H2clsl_12 D D_c234 := SD_trans (SD_refl) hD_c234 (any_subA (by decide +kernel))
                  have mD_c234 := SDm_of cD_c234 oz_H2cls_48
                  have cN_c234 : SD oz_H2clsl_12 N N_c234 := SD_trans (SD_refl) hN_c234 (any_subA (by decide +kernel))
                  have mN_c234 := SDm_of cN_c234 oz_H2cls_48
                  replace pmc234_3 := HIDm pmc234_3
                  replace emc234_3 := HIDm emc234_3
                  replace eyc234_2_1 := HIDm eyc234_2_1
                  replace eyc234_2_2 := HIDm eyc234_2_2
                  have r26 : (0 : Int) ≤ mc234_3 ∧ mc234_3 ≤ 1000000 := nleE (H.nle 3 (ltn len_V243_oz_H2cls rfl)) (show (N_c234 3 : Int) = mc234_3 from emc234_3)
                  have r27 : (-2147483648 : Int) ≤ yc234_2_1 ∧ yc234_2_1 ≤ 2147483647 := rngE (show (-2147483648 : Int) ≤ F_c234 2 1 ∧ F_c234 2 1 ≤ 2147483647 from H.krg 2 1 (ltn len_V243_oz_H2cls rfl)) (show F_c234 2 1 = yc234_2_1 from (eyc234_2_1))
                  have r28 : (0 : Int) ≤ yc234_2_2 ∧ yc234_2_2 ≤ 1 := rngE (show (0 : Int) ≤ F_c234 2 2 ∧ F_c234 2 2 ≤ 1 from H.krg 2 2 (ltn len_V243_oz_H2cls rfl)) (show F_c234 2 2 = yc234_2_2 from (eyc234_2_2))
                  have k234 : sc ((wc234_3)) ((u2_1)) ((yc234_2_1)) = (if bkK (ub8 ((w1))) ((u0_9)) = 1 then List.replicate (bkN (ub8 ((w1))) ((u0_9))).toNat ((ub8 ((w1))) ((u0_9) + 3)) else sc (ub8 ((w1))) ((u0_9) + 3) ((u0_9) + 3 + bkN (ub8 ((w1))) ((u0_9)))) := by assumption
                  have k234b : sc ((wc234_3)) 0 ((u2_1)) = sc ((w3)) 0 ((u2_1)) := jc234_4
                  refine Ew_of (pcₚ := 235) (fun _ => x_aload_n rfl lc234_0) ?_
                  refine Ew_of (pcₚ := 236) (fun _ => x_dup rfl rfl) ?_
                  refine v_g H (o := 0) (v := I ((u0_9 + 3))) rfl rfl rfl rfl rfl (congrArg (fun z : Int => I z) ((hS_c234 0 9 rfl) : F_c234 0 9 = (u0_9 + 3))) ?_
                  refine Ew_of (pcₚ := 241) (fun _ => x_iload rfl lc234_4) ?_
                  refine w_iadd rfl ?_
                  refine v_p H (o := 0) (z := ((u0_9 + 3) + tc106_0)) (v := I (((u0_9 + 3) + tc106_0))) rfl rfl rfl rfl rfl rfl rfl rfl (show (-2147483648 : Int) ≤ ((u0_9 + 3) + tc106_0) ∧ ((u0_9 + 3) + tc106_0) ≤ 2147483647 from q_3982 b23 h0 jc106_0) (fun σ H Oₚ => ?_)
                  have O := OUT_trans O Oₚ
                  have cFu29 : SF oz_H2clsl_13 F (updF F_c234 0 9 (((u0_9 + 3) + tc106_0))) := SF_upd (cF_c234) rfl
                  have mFu29 := SFm_of cFu29 oz_H2cls_46
                  refine Ew_of (pcₚ := 246) (fun _ => x_iconst rfl) ?_
                  have hl4 : (tc106_0) = bkB (ub8 ((w1))) ((u0_9)) := by rw [hbb]; split <;> omega
                  have : UBA (ub8 ((w1))) ((u0_8)) (moF ((u0_15))) ((u0_11) - (u2_1)) ((u0_9)) ((0)) ((u0_21)) ((((u0_9 + 3) + tc106_0))) ((0)) (sc ((wc234_3)) ((u2_1)) ((yc234_2_1))) := .inr ⟨by omega, .inr (.inl ⟨by omega, by omega, by omega, fun ds wd W C X r0 r1 r2 => BL_0 (b := (tc106_0)) ⟨by omega, by omega⟩ (by omega) (by by_cases z : bkK (ub8 ((w1))) ((u0_9)) = 1; (exact .inl ⟨z, by rw [hl4, hbb, if_pos z], by rw [k234, if_pos z]⟩); (exact .inr ⟨z, by rw [hl4, hbb, if_neg z], by rw [k234, if_neg z]⟩)) (by omega) (by omega)⟩)⟩
                  exact w_ireturn rfl (k (0) _ _ _ _ _ _ _ H O (cD_c234) (cN_c234) (cFu29) (cA_c234) (pmc234_3) (mc234_3) (emc234_3) (((u0_9 + 3) + tc106_0)) (rfl) (0) ((((((hS_c234 0 18 rfl).trans (hS_c166 0 18 rfl)).trans (hS_c106 0 18 rfl)).trans ((show F21 0 18 = F16 0 18 from (eF21 0 18).trans (hS21 0 18 rfl)))).trans ((show F16 0 18 = (updF F 0 18 (0)) 0 18 from (eF16 0 18))))) (u0_21) (((((((hS_c234 0 21 rfl).trans (hS_c166 0 21 rfl)).trans (hS_c106 0 21 rfl)).trans ((show F21 0 21 = F16 0 21 from (eF21 0 21).trans (hS21 0 21 rfl)))).trans ((show F16 0 21 = (updF F 0 18 (0)) 0 21 from (eF16 0 21)))).trans (eu0_21))) (yc234_2_1) ((eyc234_2_1)) (yc234_2_2) ((eyc234_2_2)) (wc234_3) (ewc234_3) (upd1 (w4) (1) ((v14 + 1))) ((funext (hA_c234 4 rfl)).trans ((funext (hA_c166 4 rfl)).trans ((funext (hA_c106 4 rfl)).trans (((show A21 4 = A16 4 from (eA21 4))).trans (((show A16 4 = (updA A 4 (1) ((v14 + 1))) 4 from (eA16 4))).trans (congrArg (fun q => upd1 q (1) ((v14 + 1))) (ew4))))))) (show inr (0) from q_2) (show 0 ≤ (0) ∧ (0) ≤ 17 by first | exact q_3949 | omega) (show 0 ≤ (((u0_9 + 3) + tc106_0)) ∧ (u0_9) ≤ (((u0_9 + 3) + tc106_0)) ∧ (((u0_9 + 3) + tc106_0)) ≤ (u0_8) by omega) (show 0 ≤ (yc234_2_1) ∧ (yc234_2_1) ≤ (mc234_3) ∧ (mc234_3) ≤ 65536 from jc234_0) (show (u2_1) ≤ (yc234_2_1) ∧ (yc234_2_1) ≤ (u0_11) from jc234_1) (show (0) = 0 ∨ (((u0_9 + 3) + tc106_0)) ≤ (0) ∧ (0) ≤ (u0_8) by first | exact q_3984 | omega) (show UBA (ub8 ((w1))) ((u0_8)) (moF ((u0_15))) ((u0_11) - (u2_1)) ((u0_9)) ((0)) ((u0_21)) ((((u0_9 + 3) + tc106_0))) ((0)) (sc ((wc234_3)) ((u2_1)) ((yc234_2_1))) by assumption) (k234b) (show (yc234_2_2) = 0 from jc234_2) (show 3 ≤ (u0_8) - (u0_9) ∧ ((upd1 (w4) (1) ((v14 + 1)))) 1 = ((w4)) 1 + 1 ∨ (u0_8) - (u0_9) < 3 ∧ ((upd1 (w4) (1) ((v14 + 1)))) 1 = ((w4)) 1 from q_3983 b13 hc1) (show ((upd1 (w4) (1) ((v14 + 1)))) 0 = ((w4)) 0 from hck0) (show ((upd1 (w4) (1) ((v14 + 1)))) 2 = ((w4)) 2 from hck2) (show ((upd1 (w4) (1) ((v14 + 1)))) 3 = ((w4)) 3 from hck3) (show ((upd1 (w4) (1) ((v14 + 1)))) 4 = ((w4)) 4 from hck4) (show (0) ≠ 0 ∨ (u0_21) = (u0_21) by first | exact q_3137 | omega))
                refine Ew_of (pcₚ := 194) (fun _ => x_iload_n rfl lc166_2) ?_
                refine Ew_of (pcₚ := 195) (fun _ => x_iconst rfl) ?_
                refine w_icmpne (t := 218) rfl rfl (show inr (z18) from gz18) (show inr (1) from q_135) (fun b30 => ?_) (fun b30 => ?_)
                · refine Ew_of (pcₚ := 219) (fun _ => x_aload_n rfl lc166_0) ?_
                  refine v_g H (o := 0) (v := .ref (D 2)) rfl rfl rfl rfl rfl (vrf ((mFu24 0 10 rfl).trans (pf2))) ?_
                  refine Ew_of (pcₚ := 223) (fun _ => x_aload_n rfl lc166_0) ?_
                  refine v_g H (o := 0) (v := .ref (D 1)) rfl rfl rfl rfl rfl (vrf ((mFu24 0 7 rfl).trans (pf1))) ?_
                  refine Ew_of (pcₚ := 227) (fun _ => x_aload_n rfl lc166_0) ?_
                  refine v_g H (o := 0) (v := I ((u0_9 + 3))) rfl rfl rfl rfl rfl (congrArg (fun z : Int => I z) (rfl : (updF F_c166 0 9 ((u0_9 + 3))) 0 9 = (u0_9 + 3))) ?_
                  refine Ew_of (pcₚ := 231) (fun _ => x_iload_n rfl lc166_3) ?_
                  refine v_inv H (o := 2) rfl rfl rfl rfl rfl rfl (by rfl) (C161_Br (D := puc 786946 D) (N := puc 786946 N) (HW_subc H oz_H2cls_41 oz_H2cls_49) ((((((hS_c166 2 0 rfl).trans (hS_c106 2 0 rfl)).trans ((show F21 2 0 = F16 2 0 from (eF21 2 0)))).trans ((show F16 2 0 = (updF F 0 18 (0)) 2 0 from (eF16 2 0))))).trans (pf3)) (n1) (en1) (n3) (en3) (u2_1) ((((((hS_c166 2 1 rfl).trans (hS_c106 2 1 rfl)).trans ((show F21 2 1 = F16 2 1 from (eF21 2 1)))).trans ((show F16 2 1 = (updF F 0 18 (0)) 2 1 from (eF16 2 1)))).trans (eu2_1))) (u2_2) ((((((hS_c166 2 2 rfl).trans (hS_c106 2 2 rfl)).trans ((show F21 2 2 = F16 2 2 from (eF21 2 2)))).trans ((show F16 2 2 = (updF F 0 18 (0)) 2 2 from (eF16 2 2)))).trans (eu2_2))) (w1) ((funext (mA_c166 1 rfl)).trans (ew1)) (w3) ((funext (hA_c166 3 rfl)).trans ((funext (hA_c106 3 rfl)).trans (((show A21 3 = A16 3 from (eA21 3))).trans (((show A16 3 = (updA A 4 (1) ((v14 + 1))) 3 from (eA16 3))).trans (ew3))))) (show inr ((u0_9 + 3)) from q_3985 b13 h0) (show inr (z19) from gz19) (show 0 ≤ (u2_1) ∧ (u2_1) ≤ (n3) ∧ (n3) ≤ 65536 from h1) (show (z19) < 0 ∨ 0 ≤ ((u0_9 + 3)) ∧ ((u0_9 + 3)) + (z19) ≤ (n1) by omega) (fun σ31 D31ₚ N31ₚ F31ₚ A31ₚ c31 s31 Hₚ Oₚ hD31 hN31 hS31 hA31 (pm31_2 : HID _) m31_2 (em31_2 : HID _) y31_0_1 (ey31_0_1 : HID _) y31_0_2 (ey31_0_2 : HID _) w31_2 ew31_2 pz31_0 pz31_1 pz31_2 pz31_3 => ⟨rfl, ?_⟩))
                  refine v_backMc (c := c) (s := s) H oz_H2cls_41 oz_H2cls_49 Hₚ Oₚ hD31 oz_H2cls_42 (fun D31 N31 F31 A31 H Oₚ eD31 eN31 eF31 eA31 => ?_)
                  have O := OUT_trans O Oₚ
                  -- Row.addPart
                  have cF31 : SF oz_H2clsl_13 F F31 := SF_trans (cFu24) (SF_gluc (ι := oz_H2clsl_15) oz_H2cls_49 hS31 eF31 (by decide +kernel)) (any_sub (lₚ := [(2, 0), (2, 1), (2, 2)]) (by decide +kernel))
                  have mF31 := SFm_of cF31 oz_H2cls_46
                  have cA31 : SA oz_H2clsl_14 A A31 := SA_trans (cA_c166) (SA_gluc (ι := oz_H2clsl_15) oz_H2cls_49 hA31 eA31 (by decide +kernel)) (any_subA (lₚ := [3]) (by decide +kernel))
                  have mA31 := SAm_of cA31 oz_H2cls_47
                  have cD31 : SD oz_H2clsl_12 D D31 := SD_trans (SD_refl) (SD_gluc (ι := oz_H2clsl_15) oz_H2cls_49 hD31 eD31 (by decide +kernel)) (any_subA (lₚ := [3]) (by decide +kernel))
                  have mD31 := SDm_of cD31 oz_H2cls_48
                  have cN31 : SD oz_H2clsl_12 N N31 := SD_trans (SD_refl) (SD_gluc (ι := oz_H2clsl_15) oz_H2cls_49 hN31 eN31 (by decide +kernel)) (any_subA (lₚ := [3]) (by decide +kernel))
                  have mN31 := SDm_of cN31 oz_H2cls_48
                  have pf31_2_0 : HID (F31 2 0 = (D31 3 : Int)) := (eF31 2 0).trans (pm31_2.trans (congrArg (fun q : Nat => (q : Int)) (eD31 3).symm))
                  have r32 : (0 : Int) ≤ m31_2 ∧ m31_2 ≤ 1000000 := nleE (H.nle 3 (ltn len_V243_oz_H2cls rfl)) (show (N31 3 : Int) = m31_2 from (congrArg (fun q : Nat => (q : Int)) (eN31 3)).trans em31_2)
                  have r33 : (-2147483648 : Int) ≤ y31_0_1 ∧ y31_0_1 ≤ 2147483647 := rngE (show (-2147483648 : Int) ≤ F31 2 1 ∧ F31 2 1 ≤ 2147483647 from H.krg 2 1 (ltn len_V243_oz_H2cls rfl)) (show F31 2 1 = y31_0_1 from ((eF31 2 1).trans ey31_0_1))
                  have r34 : (0 : Int) ≤ y31_0_2 ∧ y31_0_2 ≤ 1 := rngE (show (0 : Int) ≤ F31 2 2 ∧ F31 2 2 ≤ 1 from H.krg 2 2 (ltn len_V243_oz_H2cls rfl)) (show F31 2 2 = y31_0_2 from ((eF31 2 2).trans ey31_0_2))
                  have : sc ((w31_2)) ((u2_1)) ((y31_0_1)) = (if bkK (ub8 ((w1))) ((u0_9)) = 1 then List.replicate (bkN (ub8 ((w1))) ((u0_9))).toNat ((ub8 ((w1))) ((u0_9) + 3)) else sc (ub8 ((w1))) ((u0_9) + 3) ((u0_9) + 3 + bkN (ub8 ((w1))) ((u0_9)))) := by first | (rw [if_pos (by omega), hap.2, sc_nil (Int.le_refl _), List.nil_append, ← hkn, hvu]) | (have h := (RAP_from (a := (u2_1)) (pz31_3 (by omega)) (by omega) (by omega) (by rw [sc_lenI (by omega)]; omega) (by omega)).2; rw [if_neg (by omega), h, sc_nil (Int.le_refl _), List.nil_append, sc_u, ← hkn, show ((u0_9 + 3)) = (u0_9) + 3 by omega])
                  have : (y31_0_2) = 0 := by first | exact hap.1 | exact (RAP_from (a := 0) (pz31_3 (by omega)) (by omega) (by omega) (by rw [sc_lenI (by omega)]; omega) (by omega)).1
                  have : sc ((w31_2)) 0 ((u2_1)) = sc ((w3)) 0 ((u2_1)) := by first | exact SMx_of hsm.2 (by omega) | exact sc_same (fun i x y => pz31_2 i x (by omega))
                  exact hc234  _ _ _ _ _ _ _ _  ((lc166_0).trans (congrArg (fun q : Nat => some (Value.ref q)) (mD31 0 rfl).symm)) (lc166_4) H O (SD_trans (SD_refl) (SD_gluc (ι := oz_H2clsl_15) oz_H2cls_49 hD31 eD31 (by decide +kernel)) (any_subA (lₚ := [3]) (by decide +kernel))) (SD_trans (SD_refl) (SD_gluc (ι := oz_H2clsl_15) oz_H2cls_49 hN31 eN31 (by decide +kernel)) (any_subA (lₚ := [3]) (by decide +kernel))) (SF_trans (SF_refl) (SF_gluc (ι := oz_H2clsl_15) oz_H2cls_49 hS31 eF31 (by decide +kernel)) (any_sub (lₚ := [(2, 0), (2, 1), (2, 2)]) (by decide +kernel))) (SA_trans (SA_refl) (SA_gluc (ι := oz_H2clsl_15) oz_H2cls_49 hA31 eA31 (by decide +kernel)) (any_subA (lₚ := [3]) (by decide +kernel))) (pf31_2_0) (m31_2) ((congrArg (fun q : Nat => (q : Int)) (eN31 3)).trans em31_2) (y31_0_1) (((eF31 2 1).trans ey31_0_1)) (y31_0_2) (((eF31 2 2).trans ey31_0_2)) (w31_2) ((eA31 3).trans ew31_2) (show 0 ≤ (y31_0_1) ∧ (y31_0_1) ≤ (m31_2) ∧ (m31_2) ≤ 65536 from pz31_0) (show (u2_1) ≤ (y31_0_1) ∧ (y31_0_1) ≤ (u0_11) by omega) (show (y31_0_2) = 0 by omega) (show sc ((w31_2)) ((u2_1)) ((y31_0_1)) = (if bkK (ub8 ((w1))) ((u0_9)) = 1 then List.replicate (bkN (ub8 ((w1))) ((u0_9))).toNat ((ub8 ((w1))) ((u0_9) + 3)) else sc (ub8 ((w1))) ((u0_9) + 3) ((u0_9) + 3 + bkN (ub8 ((w1))) ((u0_9)))) by assumption) (show sc ((w31_2)) 0 ((u2_1)) = sc ((w3)) 0 ((u2_1)) by assumption)
                · refine Ew_of (pcₚ := 199) (fun _ => x_aload_n rfl lc166_0) ?_
                  refine v_g H (o := 0) (v := .ref (D 2)) rfl rfl rfl rfl rfl (vrf ((mFu24 0 10 rfl).trans (pf2))) ?_
                  refine Ew_of (pcₚ := 203) (fun _ => x_aload_n rfl lc166_0) ?_
                  refine v_g H (o := 0) (v := .ref (D 1)) rfl rfl rfl rfl rfl (vrf ((mFu24 0 7 rfl).trans (pf1))) ?_
                  refine Ew_of (pcₚ := 207) (fun _ => x_aload_n rfl lc166_0) ?_
                  refine v_g H (o := 0) (v := I ((u0_9 + 3))) rfl rfl rfl rfl rfl (congrArg (fun z : Int => I z) (rfl : (updF F_c166 0 9 ((u0_9 + 3))) 0 9 = (u0_9 + 3))) ?_
                  refine v_lB H (o := 1) rfl rfl rfl rfl (n := n1) (en1) (show 0 ≤ (u0_9 + 3) ∧ (u0_9 + 3) < n1 by omega) (fun v35 ev35 qv35 => ?_)
                  have ev35 : (w1) ((u0_9 + 3)) = v35 := (congrFun ((funext (mA_c166 1 rfl)).trans (ew1)) ((u0_9 + 3))).symm.trans ev35
                  have hvv := ev35
                  have hvu : (ub8 ((w1))) ((u0_9) + 3) = u8 ((v35)) := by show u8 _ = _; first | (rw [← hvv]; done) | (rw [← hvv]; congr 2 <;> omega)
                  refine Ew_of (pcₚ := 212) (fun _ => x_iload_n rfl lc166_3) ?_
                  refine v_inv H (o := 2) rfl rfl rfl rfl rfl rfl (by rfl) (C162 (D := puc 1538 D) (N := puc 1538 N) (HW_subc H oz_H2cls_43 oz_H2cls_50) ((((((hS_c166 2 0 rfl).trans (hS_c106 2 0 rfl)).trans ((show F21 2 0 = F16 2 0 from (eF21 2 0)))).trans ((show F16 2 0 = (updF F 0 18 (0)) 2 0 from (eF16 2 0))))).trans (pf3)) (n3) (en3) (u2_1) ((((((hS_c166 2 1 rfl).trans (hS_c106 2 1 rfl)).trans ((show F21 2 1 = F16 2 1 from (eF21 2 1)))).trans ((show F16 2 1 = (updF F 0 18 (0)) 2 1 from (eF16 2 1)))).trans (eu2_1))) (u2_2) ((((((hS_c166 2 2 rfl).trans (hS_c106 2 2 rfl)).trans ((show F21 2 2 = F16 2 2 from (eF21 2 2)))).trans ((show F16 2 2 = (updF F 0 18 (0)) 2 2 from (eF16 2 2)))).trans (eu2_2))) (w3) ((funext (hA_c166 3 rfl)).trans ((funext (hA_c106 3 rfl)).trans (((show A21 3 = A16 3 from (eA21 3))).trans (((show A16 3 = (updA A 4 (1) ((v14 + 1))) 3 from (eA16 3))).trans (ew3))))) (show inr (v35) from q_97 qv35) (show inr (z19) from gz19) (show 0 ≤ (u2_1) ∧ (u2_1) ≤ (n3) ∧ (n3) ≤ 65536 from h1) (fun σ36 D36ₚ N36ₚ F36ₚ A36ₚ c36 s36 Hₚ Oₚ hD36 hN36 hS36 hA36 (pm36_1 : HID _) m36_1 (em36_1 : HID _) y36_0_1 (ey36_0_1 : HID _) y36_0_2 (ey36_0_2 : HID _) w36_1 ew36_1 pz36_0 pz36_1 pz36_2 => ⟨rfl, ?_⟩))
                  refine v_backMc (c := c) (s := s) H oz_H2cls_43 oz_H2cls_50 Hₚ Oₚ hD36 oz_H2cls_44 (fun D36 N36 F36 A36 H Oₚ eD36 eN36 eF36 eA36 => ?_)
                  have O := OUT_trans O Oₚ
                  -- Row.addSame
                  have cF36 : SF oz_H2clsl_13 F F36 := SF_trans (cFu24) (SF_gluc (ι := oz_H2clsl_16) oz_H2cls_50 hS36 eF36 (by decide +kernel)) (any_sub (lₚ := [(2, 0), (2, 1), (2, 2)]) (by decide +kernel))
                  have mF36 := SFm_of cF36 oz_H2cls_46
                  have cA36 : SA oz_H2clsl_14 A A36 := SA_trans (cA_c166) (SA_gluc (ι := oz_H2clsl_16) oz_H2cls_50 hA36 eA36 (by decide +kernel)) (any_subA (lₚ := [3]) (by decide +kernel))
                  have mA36 := SAm_of cA36 oz_H2cls_47
                  have cD36 : SD oz_H2clsl_12 D D36 := SD_trans (SD_refl) (SD_gluc (ι := oz_H2clsl_16) oz_H2cls_50 hD36 eD36 (by decide +kernel)) (any_subA (lₚ := [3]) (by decide +kernel))
                  have mD36 := SDm_of cD36 oz_H2cls_48
                  have cN36 : SD oz_H2clsl_12 N N36 := SD_trans (SD_refl) (SD_gluc (ι := oz_H2clsl_16) oz_H2cls_50 hN36 eN36 (by decide +kernel)) (any_subA (lₚ := [3]) (by decide +kernel))
                  have mN36 := SDm_of cN36 oz_H2cls_48
                  have pf36_2_0 : HID (F36 2 0 = (D36 3 : Int)) := (eF36 2 0).trans (pm36_1.trans (congrArg (fun q : Nat => (q : Int)) (eD36 3).symm))
                  have r37 : (0 : Int) ≤ m36_1 ∧ m36_1 ≤ 1000000 := nleE (H.nle 3 (ltn len_V243_oz_H2cls rfl)) (show (N36 3 : Int) = m36_1 from (congrArg (fun q : Nat => (q : Int)) (eN36 3)).trans em36_1)
                  have r38 : (-2147483648 : Int) ≤ y36_0_1 ∧ y36_0_1 ≤ 2147483647 := rngE (show (-2147483648 : Int) ≤ F36 2 1 ∧ F36 2 1 ≤ 2147483647 from H.krg 2 1 (ltn len_V243_oz_H2cls rfl)) (show F36 2 1 = y36_0_1 from ((eF36 2 1).trans ey36_0_1))
                  have r39 : (0 : Int) ≤ y36_0_2 ∧ y36_0_2 ≤ 1 := rngE (show (0 : Int) ≤ F36 2 2 ∧ F36 2 2 ≤ 1 from H.krg 2 2 (ltn len_V243_oz_H2cls rfl)) (show F36 2 2 = y36_0_2 from ((eF36 2 2).trans ey36_0_2))
                  have hap := RAP_from (a := (u2_1)) (pz36_2 (by omega)) (by omega) (by omega) (by rw [List.length_replicate]; omega) (by omega)
                  have hsm := RAP_from (a := 0) (pz36_2 (by omega)) (by omega) (by omega) (by rw [List.length_replicate]; omega) (by omega)
                  refine Ew_of (pcₚ := 234) (fun _ => x_goto rfl rfl) ?_
                  have : sc ((w36_1)) ((u2_1)) ((y36_0_1)) = (if bkK (ub8 ((w1))) ((u0_9)) = 1 then List.replicate (bkN (ub8 ((w1))) ((u0_9))).toNat ((ub8 ((w1))) ((u0_9) + 3)) else sc (ub8 ((w1))) ((u0_9) + 3) ((u0_9) + 3 + bkN (ub8 ((w1))) ((u0_9)))) := by first | (rw [if_pos (by omega), hap.2, sc_nil (Int.le_refl _), List.nil_append, ← hkn, hvu]) | (have h := (RAP_from (a := (u2_1)) (pz31_3 (by omega)) (by omega) (by omega) (by rw [sc_lenI (by omega)]; omega) (by omega)).2; rw [if_neg (by omega), h, sc_nil (Int.le_refl _), List.nil_append, sc_u, ← hkn, show ((u0_9 + 3)) = (u0_9) + 3 by omega])
                  have : (y36_0_2) = 0 := by first | exact hap.1 | exact (RAP_from (a := 0) (pz31_3 (by omega)) (by omega) (by omega) (by rw [sc_lenI (by omega)]; omega) (by omega)).1
                  have : sc ((w36_1)) 0 ((u2_1)) = sc ((w3)) 0 ((u2_1)) := by first | exact SMx_of hsm.2 (by omega) | exact sc_same (fun i x y => pz31_2 i x (by omega))
                  exact hc234  _ _ _ _ _ _ _ _  ((lc166_0).trans (congrArg (fun q : Nat => some (Value.ref q)) (mD36 0 rfl).symm)) (lc166_4) H O (SD_trans (SD_refl) (SD_gluc (ι := oz_H2clsl_16) oz_H2cls_50 hD36 eD36 (by decide +kernel)) (any_subA (lₚ := [3]) (by decide +kernel))) (SD_trans (SD_refl) (SD_gluc (ι := oz_H2clsl_16) oz_H2cls_50 hN36 eN36 (by decide +kernel)) (any_subA (lₚ := [3]) (by decide +kernel))) (SF_trans (SF_refl) (SF_gluc (ι := oz_H2clsl_16) oz_H2cls_50 hS36 eF36 (by decide +kernel)) (any_sub (lₚ := [(2, 0), (2, 1), (2, 2)]) (by decide +kernel))) (SA_trans (SA_refl) (SA_gluc (ι := oz_H2clsl_16) oz_H2cls_50 hA36 eA36 (by decide +kernel)) (any_subA (lₚ := [3]) (by decide +kernel))) (pf36_2_0) (m36_1) ((congrArg (fun q : Nat => (q : Int)) (eN36 3)).trans em36_1) (y36_0_1) (((eF36 2 1).trans ey36_0_1)) (y36_0_2) (((eF36 2 2).trans ey36_0_2)) (w36_1) ((eA36 3).trans ew36_1) (show 0 ≤ (y36_0_1) ∧ (y36_0_1) ≤ (m36_1) ∧ (m36_1) ≤ 65536 from pz36_0) (show (u2_1) ≤ (y36_0_1) ∧ (y36_0_1) ≤ (u0_11) from q_3986 b30 h2 jc166_0 pz36_0 pz36_1) (show (y36_0_2) = 0 by omega) (show sc ((w36_1)) ((u2_1)) ((y36_0_1)) = (if bkK (ub8 ((w1))) ((u0_9)) = 1 then List.replicate (bkN (ub8 ((w1))) ((u0_9))).toNat ((ub8 ((w1))) ((u0_9) + 3)) else sc (ub8 ((w1))) ((u0_9) + 3) ((u0_9) + 3 + bkN (ub8 ((w1))) ((u0_9)))) by assumption) (show sc ((w36_1)) 0 ((u2_1)) = sc ((w3)) 0 ((u2_1)) by assumption)
              · refine Ew_of (pcₚ := 182) (fun _ => x_aload_n rfl lc166_0) ?_
                refine Ew_of (pcₚ := 183) (fun _ => x_aload_n rfl lc166_0) ?_
                refine v_g H (o := 0) (v := I ((u0_9 + 3))) rfl rfl rfl rfl rfl (congrArg (fun z : Int => I z) (rfl : (updF F_c166 0 9 ((u0_9 + 3))) 0 9 = (u0_9 + 3))) ?_
                refine Ew_of (pcₚ := 187) (fun _ => x_iload_n rfl lc166_3) ?_
                refine w_iadd rfl ?_
                refine v_p H (o := 0) (z := ((u0_9 + 3) + z19)) (v := I (((u0_9 + 3) + z19))) rfl rfl rfl rfl rfl rfl rfl rfl (show (-2147483648 : Int) ≤ ((u0_9 + 3) + z19) ∧ ((u0_9 + 3) + z19) ≤ 2147483647 from q_3987 b13 b22 gz19 h0 pz21_1) (fun σ H Oₚ => ?_)
                have O := OUT_trans O Oₚ
                have cFu40 : SF oz_H2clsl_13 F (updF (updF F_c166 0 9 ((u0_9 + 3))) 0 18 (((u0_9 + 3) + z19))) := SF_upd (cFu24) rfl
                have mFu40 := SFm_of cFu40 oz_H2cls_46
                refine Ew_of (pcₚ := 192) (fun _ => x_iconst rfl) ?_
                have hb2 : bkB (ub8 ((w1))) ((u0_9)) = (z19) := by rw [hbb, if_neg (by omega)]; omega
                have : UBA (ub8 ((w1))) ((u0_8)) (moF ((u0_15))) ((u0_11) - (u2_1)) ((u0_9)) ((0)) ((u0_21)) (((u0_9 + 3))) ((((u0_9 + 3) + z19))) (sc ((w3)) ((u2_1)) ((u2_1))) := .inr ⟨by omega, .inr (.inr ⟨by omega, sc_nil (Int.le_refl _), by omega, by omega, by omega, fun ds wd W C X r0 r1 r2 => by rw [show ((u0_9 + 3)) = (u0_9) + 3 by omega]; exact BL_2 (by omega) (by omega) (by omega) (by omega)⟩)⟩
                have : sc ((w3)) 0 ((u2_1)) = sc ((w3)) 0 ((u2_1)) := rfl
                exact w_ireturn rfl (k (0) _ _ _ _ _ _ _ H O (SD_refl) (SD_refl) (cFu40) (cA_c166) ((((((hS_c166 2 0 rfl).trans (hS_c106 2 0 rfl)).trans ((show F21 2 0 = F16 2 0 from (eF21 2 0)))).trans ((show F16 2 0 = (updF F 0 18 (0)) 2 0 from (eF16 2 0))))).trans (pf3)) (n3) (en3) ((u0_9 + 3)) (rfl) (((u0_9 + 3) + z19)) (rfl) (u0_21) ((((((hS_c166 0 21 rfl).trans (hS_c106 0 21 rfl)).trans ((show F21 0 21 = F16 0 21 from (eF21 0 21).trans (hS21 0 21 rfl)))).trans ((show F16 0 21 = (updF F 0 18 (0)) 0 21 from (eF16 0 21)))).trans (eu0_21))) (u2_1) ((((((hS_c166 2 1 rfl).trans (hS_c106 2 1 rfl)).trans ((show F21 2 1 = F16 2 1 from (eF21 2 1)))).trans ((show F16 2 1 = (updF F 0 18 (0)) 2 1 from (eF16 2 1)))).trans (eu2_1))) (u2_2) ((((((hS_c166 2 2 rfl).trans (hS_c106 2 2 rfl)).trans ((show F21 2 2 = F16 2 2 from (eF21 2 2)))).trans ((show F16 2 2 = (updF F 0 18 (0)) 2 2 from (eF16 2 2)))).trans (eu2_2))) (w3) ((funext (hA_c166 3 rfl)).trans ((funext (hA_c106 3 rfl)).trans (((show A21 3 = A16 3 from (eA21 3))).trans (((show A16 3 = (updA A 4 (1) ((v14 + 1))) 3 from (eA16 3))).trans (ew3))))) (upd1 (w4) (1) ((v14 + 1))) ((funext (hA_c166 4 rfl)).trans ((funext (hA_c106 4 rfl)).trans (((show A21 4 = A16 4 from (eA21 4))).trans (((show A16 4 = (updA A 4 (1) ((v14 + 1))) 4 from (eA16 4))).trans (congrArg (fun q => upd1 q (1) ((v14 + 1))) (ew4)))))) (show inr (0) from q_2) (show 0 ≤ (0) ∧ (0) ≤ 17 by first | exact q_3949 | omega) (show 0 ≤ ((u0_9 + 3)) ∧ (u0_9) ≤ ((u0_9 + 3)) ∧ ((u0_9 + 3)) ≤ (u0_8) from q_3988 b13 h0) (show 0 ≤ (u2_1) ∧ (u2_1) ≤ (n3) ∧ (n3) ≤ 65536 from h1) (show (u2_1) ≤ (u2_1) ∧ (u2_1) ≤ (u0_11) from q_735 h2) (show (((u0_9 + 3) + z19)) = 0 ∨ ((u0_9 + 3)) ≤ (((u0_9 + 3) + z19)) ∧ (((u0_9 + 3) + z19)) ≤ (u0_8) by omega) (show UBA (ub8 ((w1))) ((u0_8)) (moF ((u0_15))) ((u0_11) - (u2_1)) ((u0_9)) ((0)) ((u0_21)) (((u0_9 + 3))) ((((u0_9 + 3) + z19))) (sc ((w3)) ((u2_1)) ((u2_1))) by assumption) (show sc ((w3)) 0 ((u2_1)) = sc ((w3)) 0 ((u2_1)) by assumption) (show (u2_2) = 0 from h5) (show 3 ≤ (u0_8) - (u0_9) ∧ ((upd1 (w4) (1) ((v14 + 1)))) 1 = ((w4)) 1 + 1 ∨ (u0_8) - (u0_9) < 3 ∧ ((upd1 (w4) (1) ((v14 + 1)))) 1 = ((w4)) 1 from q_3983 b13 hc1) (show ((upd1 (w4) (1) ((v14 + 1)))) 0 = ((w4)) 0 from hck0) (show ((upd1 (w4) (1) ((v14 + 1)))) 2 = ((w4)) 2 from hck2) (show ((upd1 (w4) (1) ((v14 + 1)))) 3 = ((w4)) 3 from hck3) (show ((upd1 (w4) (1) ((v14 + 1)))) 4 = ((w4)) 4 from hck4) (show (0) ≠ 0 ∨ (u0_21) = (u0_21) by first | exact q_3137 | omega))
            refine Ew_of (pcₚ := 135) (fun _ => x_iload_n rfl (rk_o (lc106_2) rfl rfl)) ?_
            refine Ew_of (pcₚ := 136) (fun _ => x_iconst rfl) ?_
            refine w_icmpeq (t := 166) rfl rfl (show inr (z18) from gz18) (show inr (2) from q_122) (fun b41 => ?_) (fun b41 => ?_)
            · exact hc166  _ _ _ _  (rk_o (lc106_0) rfl rfl) (rk_o (lc106_2) rfl rfl) (rk_o (lc106_3) rfl rfl) (rk_s) H O (SF_refl) (SA_refl)     (show ((z18) : Int) = 2 ∨ (z19) ≤ (u0_11) - (u2_1) from q_3989 b41)
            · refine Ew_of (pcₚ := 140) (fun _ => x_iload_n rfl (rk_o (lc106_3) rfl rfl)) ?_
              refine Ew_of (pcₚ := 141) (fun _ => x_aload_n rfl (rk_o (lc106_0) rfl rfl)) ?_
              refine v_g H (o := 0) (v := I (u0_11)) rfl rfl rfl rfl rfl (congrArg (fun z : Int => I z) (((mF_c106 0 11 rfl).trans (eu0_11)) : F_c106 0 11 = u0_11)) ?_
              refine Ew_of (pcₚ := 145) (fun _ => x_aload_n rfl (rk_o (lc106_0) rfl rfl)) ?_
              refine v_g H (o := 0) (v := .ref (D 2)) rfl rfl rfl rfl rfl (vrf ((mF_c106 0 10 rfl).trans (pf2))) ?_
              refine v_g H (o := 2) (v := I (u2_1)) rfl rfl rfl rfl rfl (congrArg (fun z : Int => I z) (((((hS_c106 2 1 rfl).trans ((show F21 2 1 = F16 2 1 from (eF21 2 1)))).trans ((show F16 2 1 = (updF F 0 18 (0)) 2 1 from (eF16 2 1)))).trans (eu2_1)) : F_c106 2 1 = u2_1)) ?_
              refine w_isub rfl ?_
              refine w_icmple (t := 166) rfl rfl (show inr (z19) from gz19) (show inr ((u0_11 - u2_1)) from q_3412 h1 h2) (fun b42 => ?_) (fun b42 => ?_)
              · exact hc166  _ _ _ _  (rk_o (lc106_0) rfl rfl) (rk_o (lc106_2) rfl rfl) (rk_o (lc106_3) rfl rfl) (rk_s) H O (SF_refl) (SA_refl)     (show ((z18) : Int) = 2 ∨ (z19) ≤ (u0_11) - (u2_1) from q_3990 b42)
              · refine Ew_of (pcₚ := 156) (fun _ => x_aload_n rfl (rk_o (lc106_0) rfl rfl)) ?_
                refine Ew_of (pcₚ := 158) (fun _ => x_bipush (z := 7) rfl (by decide)) ?_
                refine Ew_of (pcₚ := 159) (fun _ => x_aload_n rfl (rk_o (lc106_0) rfl rfl)) ?_
                refine v_g H (o := 0) (v := I (u0_9)) rfl rfl rfl rfl rfl (congrArg (fun z : Int => I z) (((((hS_c106 0 9 rfl).trans ((show F21 0 9 = F16 0 9 from (eF21 0 9).trans (hS21 0 9 rfl)))).trans ((show F16 0 9 = (updF F 0 18 (0)) 0 9 from (eF16 0 9)))).trans (eu0_9)) : F_c106 0 9 = u0_9)) ?_
                refine v_inv H (o := 0) rfl rfl rfl rfl rfl rfl (by rfl) (C232 (D := puc 0 D) (N := puc 0 N) (HW_subc H oz_H2cls_45 oz_H2cls_12) (u0_21) (((((hS_c106 0 21 rfl).trans ((show F21 0 21 = F16 0 21 from (eF21 0 21).trans (hS21 0 21 rfl)))).trans ((show F16 0 21 = (updF F 0 18 (0)) 0 21 from (eF16 0 21)))).trans (eu0_21))) (show inr (7) from q_597) (show inr (u0_9) from q_3979 b13 h0) (fun z43 σ43 F43ₚ A43ₚ Hₚ Oₚ hS43 hA43 y43_0_21 (ey43_0_21 : HID _) pz43_0 pz43_1 pz43_2 => ⟨rfl, ?_⟩))
                refine v_backc (c := c) (s := s) H oz_H2cls_45 oz_H2cls_12 Hₚ Oₚ (fun F43 A43 H Oₚ eF43 eA43 => ?_)
                have O := OUT_trans O Oₚ
                -- Unpacker.fail
                have cF43 : SF oz_H2clsl_13 F F43 := SF_trans (cF_c106) (SF_gluc (ι := oz_H2clsl_6) oz_H2cls_12 hS43 eF43 (by decide +kernel)) (any_sub (lₚ := [(0, 21)]) (by decide +kernel))
                have mF43 := SFm_of cF43 oz_H2cls_46
                have cA43 : SA oz_H2clsl_14 A A43 := SA_trans (cA_c106) (SA_gluc (ι := oz_H2clsl_6) oz_H2cls_12 hA43 eA43 (by decide +kernel)) (any_subA (lₚ := []) (by decide +kernel))
                have mA43 := SAm_of cA43 oz_H2cls_47
                have r44 : (-2147483648 : Int) ≤ y43_0_21 ∧ y43_0_21 ≤ 2147483647 := rngE (show (-2147483648 : Int) ≤ F43 0 21 ∧ F43 0 21 ≤ 2147483647 from H.krg 0 21 (ltn len_V243_oz_H2cls rfl)) (show F43 0 21 = y43_0_21 from ((eF43 0 21).trans ey43_0_21))
                have hrt : ((z43) : Int) = 7 := pz43_1
                have hpl : (y43_0_21) = (u0_9) := pz43_2
                have : UBA (ub8 ((w1))) ((u0_8)) (moF ((u0_15))) ((u0_11) - (u2_1)) ((u0_9)) ((z43)) ((y43_0_21)) ((u0_9)) ((0)) (sc ((w3)) ((u2_1)) ((u2_1))) := .inr ⟨by omega, .inl ⟨by omega, sc_nil (Int.le_refl _), fun ds wd W C X r0 r1 r2 => by rw [show ((z43) : Int) = _ from hrt, show (y43_0_21) = _ from hpl]; exact BL_7 (b := (tc106_0)) (by omega) (by omega) (by omega) (by omega) (by omega)⟩⟩
                have : sc ((w3)) 0 ((u2_1)) = sc ((w3)) 0 ((u2_1)) := rfl
                exact w_ireturn rfl (k (z43) _ _ _ _ _ _ _ H O (SD_refl) (SD_refl) (cF43) (cA43) (((((((show F43 2 0 = F_c106 2 0 from (eF43 2 0))).trans (hS_c106 2 0 rfl)).trans ((show F21 2 0 = F16 2 0 from (eF21 2 0)))).trans ((show F16 2 0 = (updF F 0 18 (0)) 2 0 from (eF16 2 0))))).trans (pf3)) (n3) (en3) (u0_9) (((((((show F43 0 9 = F_c106 0 9 from (eF43 0 9).trans (hS43 0 9 rfl))).trans (hS_c106 0 9 rfl)).trans ((show F21 0 9 = F16 0 9 from (eF21 0 9).trans (hS21 0 9 rfl)))).trans ((show F16 0 9 = (updF F 0 18 (0)) 0 9 from (eF16 0 9)))).trans (eu0_9))) (0) ((((((show F43 0 18 = F_c106 0 18 from (eF43 0 18).trans (hS43 0 18 rfl))).trans (hS_c106 0 18 rfl)).trans ((show F21 0 18 = F16 0 18 from (eF21 0 18).trans (hS21 0 18 rfl)))).trans ((show F16 0 18 = (updF F 0 18 (0)) 0 18 from (eF16 0 18))))) (y43_0_21) (((eF43 0 21).trans ey43_0_21)) (u2_1) (((((((show F43 2 1 = F_c106 2 1 from (eF43 2 1))).trans (hS_c106 2 1 rfl)).trans ((show F21 2 1 = F16 2 1 from (eF21 2 1)))).trans ((show F16 2 1 = (updF F 0 18 (0)) 2 1 from (eF16 2 1)))).trans (eu2_1))) (u2_2) (((((((show F43 2 2 = F_c106 2 2 from (eF43 2 2))).trans (hS_c106 2 2 rfl)).trans ((show F21 2 2 = F16 2 2 from (eF21 2 2)))).trans ((show F16 2 2 = (updF F 0 18 (0)) 2 2 from (eF16 2 2)))).trans (eu2_2))) (w3) (((show A43 3 = A_c106 3 from (eA43 3))).trans ((funext (hA_c106 3 rfl)).trans (((show A21 3 = A16 3 from (eA21 3))).trans (((show A16 3 = (updA A 4 (1) ((v14 + 1))) 3 from (eA16 3))).trans (ew3))))) (upd1 (w4) (1) ((v14 + 1))) (((show A43 4 = A_c106 4 from (eA43 4))).trans ((funext (hA_c106 4 rfl)).trans (((show A21 4 = A16 4 from (eA21 4))).trans (((show A16 4 = (updA A 4 (1) ((v14 + 1))) 4 from (eA16 4))).trans (congrArg (fun q => upd1 q (1) ((v14 + 1))) (ew4)))))) (show inr (z43) from pz43_0) (show 0 ≤ (z43) ∧ (z43) ≤ 17 from q_3992 hrt) (show 0 ≤ (u0_9) ∧ (u0_9) ≤ (u0_9) ∧ (u0_9) ≤ (u0_8) from q_3950 h0) (show 0 ≤ (u2_1) ∧ (u2_1) ≤ (n3) ∧ (n3) ≤ 65536 from h1) (show (u2_1) ≤ (u2_1) ∧ (u2_1) ≤ (u0_11) from q_735 h2) (show (0) = 0 ∨ (u0_9) ≤ (0) ∧ (0) ≤ (u0_8) by first | exact q_3991 | omega) (show UBA (ub8 ((w1))) ((u0_8)) (moF ((u0_15))) ((u0_11) - (u2_1)) ((u0_9)) ((z43)) ((y43_0_21)) ((u0_9)) ((0)) (sc ((w3)) ((u2_1)) ((u2_1))) by assumption) (show sc ((w3)) 0 ((u2_1)) = sc ((w3)) 0 ((u2_1)) by assumption) (show (u2_2) = 0 from h5) (show 3 ≤ (u0_8) - (u0_9) ∧ ((upd1 (w4) (1) ((v14 + 1)))) 1 = ((w4)) 1 + 1 ∨ (u0_8) - (u0_9) < 3 ∧ ((upd1 (w4) (1) ((v14 + 1)))) 1 = ((w4)) 1 from q_3983 b13 hc1) (show ((upd1 (w4) (1) ((v14 + 1)))) 0 = ((w4)) 0 from hck0) (show ((upd1 (w4) (1) ((v14 + 1)))) 2 = ((w4)) 2 from hck2) (show ((upd1 (w4) (1) ((v14 + 1)))) 3 = ((w4)) 3 from hck3) (show ((upd1 (w4) (1) ((v14 + 1)))) 4 = ((w4)) 4 from hck4) (show (z43) ≠ 0 ∨ (y43_0_21) = (u0_21) from q_3442 hrt))
          · refine Ew_of (pcₚ := 125) (fun _ => x_aload_n rfl (rk_o (lc106_0) rfl rfl)) ?_
            refine Ew_of (pcₚ := 126) (fun _ => x_iconst rfl) ?_
            refine Ew_of (pcₚ := 127) (fun _ => x_aload_n rfl (rk_o (lc106_0) rfl rfl)) ?_
            refine v_g H (o := 0) (v := I (u0_8)) rfl rfl rfl rfl rfl (congrArg (fun z : Int => I z) (((mF_c106 0 8 rfl).trans (eu0_8)) : F_c106 0 8 = u0_8)) ?_
            refine v_inv H (o := 0) rfl rfl rfl rfl rfl rfl (by rfl) (C232 (D := puc 0 D) (N := puc 0 N) (HW_subc H oz_H2cls_45 oz_H2cls_12) (u0_21) (((((hS_c106 0 21 rfl).trans ((show F21 0 21 = F16 0 21 from (eF21 0 21).trans (hS21 0 21 rfl)))).trans ((show F16 0 21 = (updF F 0 18 (0)) 0 21 from (eF16 0 21)))).trans (eu0_21))) (show inr (1) from q_135) (show inr (u0_8) from q_3993 b13 h0) (fun z45 σ45 F45ₚ A45ₚ Hₚ Oₚ hS45 hA45 y45_0_21 (ey45_0_21 : HID _) pz45_0 pz45_1 pz45_2 => ⟨rfl, ?_⟩))
            refine v_backc (c := c) (s := s) H oz_H2cls_45 oz_H2cls_12 Hₚ Oₚ (fun F45 A45 H Oₚ eF45 eA45 => ?_)
            have O := OUT_trans O Oₚ
            -- Unpacker.fail
            have cF45 : SF oz_H2clsl_13 F F45 := SF_trans (cF_c106) (SF_gluc (ι := oz_H2clsl_6) oz_H2cls_12 hS45 eF45 (by decide +kernel)) (any_sub (lₚ := [(0, 21)]) (by decide +kernel))
            have mF45 := SFm_of cF45 oz_H2cls_46
            have cA45 : SA oz_H2clsl_14 A A45 := SA_trans (cA_c106) (SA_gluc (ι := oz_H2clsl_6) oz_H2cls_12 hA45 eA45 (by decide +kernel)) (any_subA (lₚ := []) (by decide +kernel))
            have mA45 := SAm_of cA45 oz_H2cls_47
            have r46 : (-2147483648 : Int) ≤ y45_0_21 ∧ y45_0_21 ≤ 2147483647 := rngE (show (-2147483648 : Int) ≤ F45 0 21 ∧ F45 0 21 ≤ 2147483647 from H.krg 0 21 (ltn len_V243_oz_H2cls rfl)) (show F45 0 21 = y45_0_21 from ((eF45 0 21).trans ey45_0_21))
            have hrt : ((z45) : Int) = 1 := pz45_1
            have hpl : (y45_0_21) = (u0_8) := pz45_2
            have : UBA (ub8 ((w1))) ((u0_8)) (moF ((u0_15))) ((u0_11) - (u2_1)) ((u0_9)) ((z45)) ((y45_0_21)) ((u0_9)) ((0)) (sc ((w3)) ((u2_1)) ((u2_1))) := .inr ⟨by omega, .inl ⟨by omega, sc_nil (Int.le_refl _), fun ds wd W C X r0 r1 r2 => by rw [show ((z45) : Int) = _ from hrt, show (y45_0_21) = _ from hpl]; exact BL_1 (b := (tc106_0)) (by omega) (by omega) (by omega) (by omega)⟩⟩
            have : sc ((w3)) 0 ((u2_1)) = sc ((w3)) 0 ((u2_1)) := rfl
            exact w_ireturn rfl (k (z45) _ _ _ _ _ _ _ H O (SD_refl) (SD_refl) (cF45) (cA45) (((((((show F45 2 0 = F_c106 2 0 from (eF45 2 0))).trans (hS_c106 2 0 rfl)).trans ((show F21 2 0 = F16 2 0 from (eF21 2 0)))).trans ((show F16 2 0 = (updF F 0 18 (0)) 2 0 from (eF16 2 0))))).trans (pf3)) (n3) (en3) (u0_9) (((((((show F45 0 9 = F_c106 0 9 from (eF45 0 9).trans (hS45 0 9 rfl))).trans (hS_c106 0 9 rfl)).trans ((show F21 0 9 = F16 0 9 from (eF21 0 9).trans (hS21 0 9 rfl)))).trans ((show F16 0 9 = (updF F 0 18 (0)) 0 9 from (eF16 0 9)))).trans (eu0_9))) (0) ((((((show F45 0 18 = F_c106 0 18 from (eF45 0 18).trans (hS45 0 18 rfl))).trans (hS_c106 0 18 rfl)).trans ((show F21 0 18 = F16 0 18 from (eF21 0 18).trans (hS21 0 18 rfl)))).trans ((show F16 0 18 = (updF F 0 18 (0)) 0 18 from (eF16 0 18))))) (y45_0_21) (((eF45 0 21).trans ey45_0_21)) (u2_1) (((((((show F45 2 1 = F_c106 2 1 from (eF45 2 1))).trans (hS_c106 2 1 rfl)).trans ((show F21 2 1 = F16 2 1 from (eF21 2 1)))).trans ((show F16 2 1 = (updF F 0 18 (0)) 2 1 from (eF16 2 1)))).trans (eu2_1))) (u2_2) (((((((show F45 2 2 = F_c106 2 2 from (eF45 2 2))).trans (hS_c106 2 2 rfl)).trans ((show F21 2 2 = F16 2 2 from (eF21 2 2)))).trans ((show F16 2 2 = (updF F 0 18 (0)) 2 2 from (eF16 2 2)))).trans (eu2_2))) (w3) (((show A45 3 = A_c106 3 from (eA45 3))).trans ((funext (hA_c106 3 rfl)).trans (((show A21 3 = A16 3 from (eA21 3))).trans (((show A16 3 = (updA A 4 (1) ((v14 + 1))) 3 from (eA16 3))).trans (ew3))))) (upd1 (w4) (1) ((v14 + 1))) (((show A45 4 = A_c106 4 from (eA45 4))).trans ((funext (hA_c106 4 rfl)).trans (((show A21 4 = A16 4 from (eA21 4))).trans (((show A16 4 = (updA A 4 (1) ((v14 + 1))) 4 from (eA16 4))).trans (congrArg (fun q => upd1 q (1) ((v14 + 1))) (ew4)))))) (show inr (z45) from pz45_0) (show 0 ≤ (z45) ∧ (z45) ≤ 17 from q_3951 hrt) (show 0 ≤ (u0_9) ∧ (u0_9) ≤ (u0_9) ∧ (u0_9) ≤ (u0_8) from q_3950 h0) (show 0 ≤ (u2_1) ∧ (u2_1) ≤ (n3) ∧ (n3) ≤ 65536 from h1) (show (u2_1) ≤ (u2_1) ∧ (u2_1) ≤ (u0_11) from q_735 h2) (show (0) = 0 ∨ (u0_9) ≤ (0) ∧ (0) ≤ (u0_8) by first | exact q_3991 | omega) (show UBA (ub8 ((w1))) ((u0_8)) (moF ((u0_15))) ((u0_11) - (u2_1)) ((u0_9)) ((z45)) ((y45_0_21)) ((u0_9)) ((0)) (sc ((w3)) ((u2_1)) ((u2_1))) by assumption) (show sc ((w3)) 0 ((u2_1)) = sc ((w3)) 0 ((u2_1)) by assumption) (show (u2_2) = 0 from h5) (show 3 ≤ (u0_8) - (u0_9) ∧ ((upd1 (w4) (1) ((v14 + 1)))) 1 = ((w4)) 1 + 1 ∨ (u0_8) - (u0_9) < 3 ∧ ((upd1 (w4) (1) ((v14 + 1)))) 1 = ((w4)) 1 from q_3983 b13 hc1) (show ((upd1 (w4) (1) ((v14 + 1)))) 0 = ((w4)) 0 from hck0) (show ((upd1 (w4) (1) ((v14 + 1)))) 2 = ((w4)) 2 from hck2) (show ((upd1 (w4) (1) ((v14 + 1)))) 3 = ((w4)) 3 from hck3) (show ((upd1 (w4) (1) ((v14 + 1)))) 4 = ((w4)) 4 from hck4) (show (z45) ≠ 0 ∨ (y45_0_21) = (u0_21) from q_3108 hrt))
        refine w_icmpne (t := 105) rfl rfl (show inr (z18) from gz18) (show inr (1) from q_135) (fun b47 => ?_) (fun b47 => ?_)
        · refine Ew_of (pcₚ := 106) (fun _ => x_iload_n rfl rk_s) ?_
          exact hc106 (z19) _ _ _ _  (rk_o (rk_o (rk_o (rfl) rfl rfl) rfl rfl) rfl rfl) (rk_o (rk_s) rfl rfl) (rk_s) H O (SF_refl) (SA_refl)     (show inr (z19) from gz19) (show ((z18) ≠ (1) ∧ (z19) = (z19)) ∨ ((z18) = (1) ∧ (z19) = (1)) from q_3994 b47)
        · refine Ew_of (pcₚ := 102) (fun _ => x_iconst rfl) ?_
          refine Ew_of (pcₚ := 106) (fun _ => x_goto rfl rfl) ?_
          exact hc106 (1) _ _ _ _  (rk_o (rk_o (rk_o (rfl) rfl rfl) rfl rfl) rfl rfl) (rk_o (rk_s) rfl rfl) (rk_s) H O (SF_refl) (SA_refl)     (show inr (1) from q_135) (show ((z18) ≠ (1) ∧ (1) = (z19)) ∨ ((z18) = (1) ∧ (1) = (1)) from q_3995 b47)
      · refine Ew_of (pcₚ := 86) (fun _ => x_aload_n rfl (rk_o (rk_o (rk_o (rfl) rfl rfl) rfl rfl) rfl rfl)) ?_
        refine Ew_of (pcₚ := 88) (fun _ => x_bipush (z := 6) rfl (by decide)) ?_
        refine Ew_of (pcₚ := 89) (fun _ => x_aload_n rfl (rk_o (rk_o (rk_o (rfl) rfl rfl) rfl rfl) rfl rfl)) ?_
        refine v_g H (o := 0) (v := I (u0_9)) rfl rfl rfl rfl rfl (congrArg (fun z : Int => I z) (((((show F21 0 9 = F16 0 9 from (eF21 0 9).trans (hS21 0 9 rfl))).trans ((show F16 0 9 = (updF F 0 18 (0)) 0 9 from (eF16 0 9)))).trans (eu0_9)) : F21 0 9 = u0_9)) ?_
        refine v_inv H (o := 0) rfl rfl rfl rfl rfl rfl (by rfl) (C232 (D := puc 0 D) (N := puc 0 N) (HW_subc H oz_H2cls_45 oz_H2cls_12) (u0_21) (((((show F21 0 21 = F16 0 21 from (eF21 0 21).trans (hS21 0 21 rfl))).trans ((show F16 0 21 = (updF F 0 18 (0)) 0 21 from (eF16 0 21)))).trans (eu0_21))) (show inr (6) from q_756) (show inr (u0_9) from q_3979 b13 h0) (fun z48 σ48 F48ₚ A48ₚ Hₚ Oₚ hS48 hA48 y48_0_21 (ey48_0_21 : HID _) pz48_0 pz48_1 pz48_2 => ⟨rfl, ?_⟩))
        refine v_backc (c := c) (s := s) H oz_H2cls_45 oz_H2cls_12 Hₚ Oₚ (fun F48 A48 H Oₚ eF48 eA48 => ?_)
        have O := OUT_trans O Oₚ
        -- Unpacker.fail
        have cF48 : SF oz_H2clsl_13 F F48 := SF_trans (cF21) (SF_gluc (ι := oz_H2clsl_6) oz_H2cls_12 hS48 eF48 (by decide +kernel)) (any_sub (lₚ := [(0, 21)]) (by decide +kernel))
        have mF48 := SFm_of cF48 oz_H2cls_46
        have cA48 : SA oz_H2clsl_14 A A48 := SA_trans (cA21) (SA_gluc (ι := oz_H2clsl_6) oz_H2cls_12 hA48 eA48 (by decide +kernel)) (any_subA (lₚ := []) (by decide +kernel))
        have mA48 := SAm_of cA48 oz_H2cls_47
        have r49 : (-2147483648 : Int) ≤ y48_0_21 ∧ y48_0_21 ≤ 2147483647 := rngE (show (-2147483648 : Int) ≤ F48 0 21 ∧ F48 0 21 ≤ 2147483647 from H.krg 0 21 (ltn len_V243_oz_H2cls rfl)) (show F48 0 21 = y48_0_21 from ((eF48 0 21).trans ey48_0_21))
        have hrt : ((z48) : Int) = 6 := pz48_1
        have hpl : (y48_0_21) = (u0_9) := pz48_2
        have : UBA (ub8 ((w1))) ((u0_8)) (moF ((u0_15))) ((u0_11) - (u2_1)) ((u0_9)) ((z48)) ((y48_0_21)) ((u0_9)) ((0)) (sc ((w3)) ((u2_1)) ((u2_1))) := .inr ⟨by omega, .inl ⟨by omega, sc_nil (Int.le_refl _), fun ds wd W C X r0 r1 r2 => by rw [show ((z48) : Int) = _ from hrt, show (y48_0_21) = _ from hpl]; exact BL_6 (by omega) (by omega)⟩⟩
        have : sc ((w3)) 0 ((u2_1)) = sc ((w3)) 0 ((u2_1)) := rfl
        exact w_ireturn rfl (k (z48) _ _ _ _ _ _ _ H O (SD_refl) (SD_refl) (cF48) (cA48) ((((((show F48 2 0 = F21 2 0 from (eF48 2 0))).trans ((show F21 2 0 = F16 2 0 from (eF21 2 0)))).trans ((show F16 2 0 = (updF F 0 18 (0)) 2 0 from (eF16 2 0))))).trans (pf3)) (n3) (en3) (u0_9) ((((((show F48 0 9 = F21 0 9 from (eF48 0 9).trans (hS48 0 9 rfl))).trans ((show F21 0 9 = F16 0 9 from (eF21 0 9).trans (hS21 0 9 rfl)))).trans ((show F16 0 9 = (updF F 0 18 (0)) 0 9 from (eF16 0 9)))).trans (eu0_9))) (0) (((((show F48 0 18 = F21 0 18 from (eF48 0 18).trans (hS48 0 18 rfl))).trans ((show F21 0 18 = F16 0 18 from (eF21 0 18).trans (hS21 0 18 rfl)))).trans ((show F16 0 18 = (updF F 0 18 (0)) 0 18 from (eF16 0 18))))) (y48_0_21) (((eF48 0 21).trans ey48_0_21)) (u2_1) ((((((show F48 2 1 = F21 2 1 from (eF48 2 1))).trans ((show F21 2 1 = F16 2 1 from (eF21 2 1)))).trans ((show F16 2 1 = (updF F 0 18 (0)) 2 1 from (eF16 2 1)))).trans (eu2_1))) (u2_2) ((((((show F48 2 2 = F21 2 2 from (eF48 2 2))).trans ((show F21 2 2 = F16 2 2 from (eF21 2 2)))).trans ((show F16 2 2 = (updF F 0 18 (0)) 2 2 from (eF16 2 2)))).trans (eu2_2))) (w3) (((show A48 3 = A21 3 from (eA48 3))).trans (((show A21 3 = A16 3 from (eA21 3))).trans (((show A16 3 = (updA A 4 (1) ((v14 + 1))) 3 from (eA16 3))).trans (ew3)))) (upd1 (w4) (1) ((v14 + 1))) (((show A48 4 = A21 4 from (eA48 4))).trans (((show A21 4 = A16 4 from (eA21 4))).trans (((show A16 4 = (updA A 4 (1) ((v14 + 1))) 4 from (eA16 4))).trans (congrArg (fun q => upd1 q (1) ((v14 + 1))) (ew4))))) (show inr (z48) from pz48_0) (show 0 ≤ (z48) ∧ (z48) ≤ 17 from q_3996 hrt) (show 0 ≤ (u0_9) ∧ (u0_9) ≤ (u0_9) ∧ (u0_9) ≤ (u0_8) from q_3950 h0) (show 0 ≤ (u2_1) ∧ (u2_1) ≤ (n3) ∧ (n3) ≤ 65536 from h1) (show (u2_1) ≤ (u2_1) ∧ (u2_1) ≤ (u0_11) from q_735 h2) (show (0) = 0 ∨ (u0_9) ≤ (0) ∧ (0) ≤ (u0_8) by first | exact q_3991 | omega) (show UBA (ub8 ((w1))) ((u0_8)) (moF ((u0_15))) ((u0_11) - (u2_1)) ((u0_9)) ((z48)) ((y48_0_21)) ((u0_9)) ((0)) (sc ((w3)) ((u2_1)) ((u2_1))) by assumption) (show sc ((w3)) 0 ((u2_1)) = sc ((w3)) 0 ((u2_1)) by assumption) (show (u2_2) = 0 from h5) (show 3 ≤ (u0_8) - (u0_9) ∧ ((upd1 (w4) (1) ((v14 + 1)))) 1 = ((w4)) 1 + 1 ∨ (u0_8) - (u0_9) < 3 ∧ ((upd1 (w4) (1) ((v14 + 1)))) 1 = ((w4)) 1 from q_3983 b13 hc1) (show ((upd1 (w4) (1) ((v14 + 1)))) 0 = ((w4)) 0 from hck0) (show ((upd1 (w4) (1) ((v14 + 1)))) 2 = ((w4)) 2 from hck2) (show ((upd1 (w4) (1) ((v14 + 1)))) 3 = ((w4)) 3 from hck3) (show ((upd1 (w4) (1) ((v14 + 1)))) 4 = ((w4)) 4 from hck4) (show (z48) ≠ 0 ∨ (y48_0_21) = (u0_21) from q_3229 hrt))
    · refine Ew_of (pcₚ := 68) (fun _ => x_aload_n rfl (rk_o (rk_o (rk_o (rfl) rfl rfl) rfl rfl) rfl rfl)) ?_
      refine Ew_of (pcₚ := 69) (fun _ => x_iconst rfl) ?_
      refine Ew_of (pcₚ := 70) (fun _ => x_aload_n rfl (rk_o (rk_o (rk_o (rfl) rfl rfl) rfl rfl) rfl rfl)) ?_
      refine v_g H (o := 0) (v := I (u0_9)) rfl rfl rfl rfl rfl (congrArg (fun z : Int => I z) ((((show F16 0 9 = (updF F 0 18 (0)) 0 9 from (eF16 0 9))).trans (eu0_9)) : F16 0 9 = u0_9)) ?_
      refine v_inv H (o := 0) rfl rfl rfl rfl rfl rfl (by rfl) (C232 (D := puc 0 D) (N := puc 0 N) (HW_subc H oz_H2cls_45 oz_H2cls_12) (u0_21) ((((show F16 0 21 = (updF F 0 18 (0)) 0 21 from (eF16 0 21))).trans (eu0_21))) (show inr (5) from q_727) (show inr (u0_9) from q_3979 b13 h0) (fun z50 σ50 F50ₚ A50ₚ Hₚ Oₚ hS50 hA50 y50_0_21 (ey50_0_21 : HID _) pz50_0 pz50_1 pz50_2 => ⟨rfl, ?_⟩))
      refine v_backc (c := c) (s := s) H oz_H2cls_45 oz_H2cls_12 Hₚ Oₚ (fun F50 A50 H Oₚ eF50 eA50 => ?_)
      have O := OUT_trans O Oₚ
      -- Unpacker.fail
      have cF50 : SF oz_H2clsl_13 F F50 := SF_trans (cF16) (SF_gluc (ι := oz_H2clsl_6) oz_H2cls_12 hS50 eF50 (by decide +kernel)) (any_sub (lₚ := [(0, 21)]) (by decide +kernel))
      have mF50 := SFm_of cF50 oz_H2cls_46
      have cA50 : SA oz_H2clsl_14 A A50 := SA_trans (cA16) (SA_gluc (ι := oz_H2clsl_6) oz_H2cls_12 hA50 eA50 (by decide +kernel)) (any_subA (lₚ := []) (by decide +kernel))
      have mA50 := SAm_of cA50 oz_H2cls_47
      have r51 : (-2147483648 : Int) ≤ y50_0_21 ∧ y50_0_21 ≤ 2147483647 := rngE (show (-2147483648 : Int) ≤ F50 0 21 ∧ F50 0 21 ≤ 2147483647 from H.krg 0 21 (ltn len_V243_oz_H2cls rfl)) (show F50 0 21 = y50_0_21 from ((eF50 0 21).trans ey50_0_21))
      have hrt : ((z50) : Int) = 5 := pz50_1
      have hpl : (y50_0_21) = (u0_9) := pz50_2
      have : UBA (ub8 ((w1))) ((u0_8)) (moF ((u0_15))) ((u0_11) - (u2_1)) ((u0_9)) ((z50)) ((y50_0_21)) ((u0_9)) ((0)) (sc ((w3)) ((u2_1)) ((u2_1))) := .inr ⟨by omega, .inl ⟨by omega, sc_nil (Int.le_refl _), fun ds wd W C X r0 r1 r2 => by rw [show ((z50) : Int) = _ from hrt, show (y50_0_21) = _ from hpl]; exact BL_5 (by omega)⟩⟩
      have : sc ((w3)) 0 ((u2_1)) = sc ((w3)) 0 ((u2_1)) := rfl
      exact w_ireturn rfl (k (z50) _ _ _ _ _ _ _ H O (SD_refl) (SD_refl) (cF50) (cA50) (((((show F50 2 0 = F16 2 0 from (eF50 2 0))).trans ((show F16 2 0 = (updF F 0 18 (0)) 2 0 from (eF16 2 0))))).trans (pf3)) (n3) (en3) (u0_9) (((((show F50 0 9 = F16 0 9 from (eF50 0 9).trans (hS50 0 9 rfl))).trans ((show F16 0 9 = (updF F 0 18 (0)) 0 9 from (eF16 0 9)))).trans (eu0_9))) (0) ((((show F50 0 18 = F16 0 18 from (eF50 0 18).trans (hS50 0 18 rfl))).trans ((show F16 0 18 = (updF F 0 18 (0)) 0 18 from (eF16 0 18))))) (y50_0_21) (((eF50 0 21).trans ey50_0_21)) (u2_1) (((((show F50 2 1 = F16 2 1 from (eF50 2 1))).trans ((show F16 2 1 = (updF F 0 18 (0)) 2 1 from (eF16 2 1)))).trans (eu2_1))) (u2_2) (((((show F50 2 2 = F16 2 2 from (eF50 2 2))).trans ((show F16 2 2 = (updF F 0 18 (0)) 2 2 from (eF16 2 2)))).trans (eu2_2))) (w3) (((show A50 3 = A16 3 from (eA50 3))).trans (((show A16 3 = (updA A 4 (1) ((v14 + 1))) 3 from (eA16 3))).trans (ew3))) (upd1 (w4) (1) ((v14 + 1))) (((show A50 4 = A16 4 from (eA50 4))).trans (((show A16 4 = (updA A 4 (1) ((v14 + 1))) 4 from (eA16 4))).trans (congrArg (fun q => upd1 q (1) ((v14 + 1))) (ew4)))) (show inr (z50) from pz50_0) (show 0 ≤ (z50) ∧ (z50) ≤ 17 from q_3997 hrt) (show 0 ≤ (u0_9) ∧ (u0_9) ≤ (u0_9) ∧ (u0_9) ≤ (u0_8) from q_3950 h0) (show 0 ≤ (u2_1) ∧ (u2_1) ≤ (n3) ∧ (n3) ≤ 65536 from h1) (show (u2_1) ≤ (u2_1) ∧ (u2_1) ≤ (u0_11) from q_735 h2) (show (0) = 0 ∨ (u0_9) ≤ (0) ∧ (0) ≤ (u0_8) by first | exact q_3991 | omega) (show UBA (ub8 ((w1))) ((u0_8)) (moF ((u0_15))) ((u0_11) - (u2_1)) ((u0_9)) ((z50)) ((y50_0_21)) ((u0_9)) ((0)) (sc ((w3)) ((u2_1)) ((u2_1))) by assumption) (show sc ((w3)) 0 ((u2_1)) = sc ((w3)) 0 ((u2_1)) by assumption) (show (u2_2) = 0 from h5) (show 3 ≤ (u0_8) - (u0_9) ∧ ((upd1 (w4) (1) ((v14 + 1)))) 1 = ((w4)) 1 + 1 ∨ (u0_8) - (u0_9) < 3 ∧ ((upd1 (w4) (1) ((v14 + 1)))) 1 = ((w4)) 1 from q_3983 b13 hc1) (show ((upd1 (w4) (1) ((v14 + 1)))) 0 = ((w4)) 0 from hck0) (show ((upd1 (w4) (1) ((v14 + 1)))) 2 = ((w4)) 2 from hck2) (show ((upd1 (w4) (1) ((v14 + 1)))) 3 = ((w4)) 3 from hck3) (show ((upd1 (w4) (1) ((v14 + 1)))) 4 = ((w4)) 4 from hck4) (show (z50) ≠ 0 ∨ (y50_0_21) = (u0_21) from q_3244 hrt))
  · refine Ew_of (pcₚ := 19) (fun _ => x_aload_n rfl rfl) ?_
    refine Ew_of (pcₚ := 20) (fun _ => x_iconst rfl) ?_
    refine Ew_of (pcₚ := 21) (fun _ => x_aload_n rfl rfl) ?_
    refine v_g H (o := 0) (v := I (u0_8)) rfl rfl rfl rfl rfl (congrArg (fun z : Int => I z) (((mFu12 0 8 rfl).trans (eu0_8)) : (updF F 0 18 (0)) 0 8 = u0_8)) ?_
    refine v_inv H (o := 0) rfl rfl rfl rfl rfl rfl (by rfl) (C232 (D := puc 0 D) (N := puc 0 N) (HW_subc H oz_H2cls_45 oz_H2cls_12) (u0_21) ((eu0_21)) (show inr (1) from q_135) (show inr (u0_8) from q_3942 h0) (fun z52 σ52 F52ₚ A52ₚ Hₚ Oₚ hS52 hA52 y52_0_21 (ey52_0_21 : HID _) pz52_0 pz52_1 pz52_2 => ⟨rfl, ?_⟩))
    refine v_backc (c := c) (s := s) H oz_H2cls_45 oz_H2cls_12 Hₚ Oₚ (fun F52 A52 H Oₚ eF52 eA52 => ?_)
    have O := OUT_trans O Oₚ
    -- Unpacker.fail
    have cF52 : SF oz_H2clsl_13 F F52 := SF_trans (cFu12) (SF_gluc (ι := oz_H2clsl_6) oz_H2cls_12 hS52 eF52 (by decide +kernel)) (any_sub (lₚ := [(0, 21)]) (by decide +kernel))
    have mF52 := SFm_of cF52 oz_H2cls_46
    have cA52 : SA oz_H2clsl_14 A A52 := SA_trans (SA_refl) (SA_gluc (ι := oz_H2clsl_6) oz_H2cls_12 hA52 eA52 (by decide +kernel)) (any_subA (lₚ := []) (by decide +kernel))
    have mA52 := SAm_of cA52 oz_H2cls_47
    have r53 : (-2147483648 : Int) ≤ y52_0_21 ∧ y52_0_21 ≤ 2147483647 := rngE (show (-2147483648 : Int) ≤ F52 0 21 ∧ F52 0 21 ≤ 2147483647 from H.krg 0 21 (ltn len_V243_oz_H2cls rfl)) (show F52 0 21 = y52_0_21 from ((eF52 0 21).trans ey52_0_21))
    have : UBA (ub8 ((w1))) ((u0_8)) (moF ((u0_15))) ((u0_11) - (u2_1)) ((u0_9)) ((z52)) ((y52_0_21)) ((u0_9)) ((0)) (sc ((w3)) ((u2_1)) ((u2_1))) := .inl ⟨by omega, by omega, by omega, sc_nil (Int.le_refl _)⟩
    have : sc ((w3)) 0 ((u2_1)) = sc ((w3)) 0 ((u2_1)) := rfl
    exact w_ireturn rfl (k (z52) _ _ _ _ _ _ _ H O (SD_refl) (SD_refl) (cF52) (cA52) ((((show F52 2 0 = (updF F 0 18 (0)) 2 0 from (eF52 2 0)))).trans (pf3)) (n3) (en3) (u0_9) ((((show F52 0 9 = (updF F 0 18 (0)) 0 9 from (eF52 0 9).trans (hS52 0 9 rfl))).trans (eu0_9))) (0) (((show F52 0 18 = (updF F 0 18 (0)) 0 18 from (eF52 0 18).trans (hS52 0 18 rfl)))) (y52_0_21) (((eF52 0 21).trans ey52_0_21)) (u2_1) ((((show F52 2 1 = (updF F 0 18 (0)) 2 1 from (eF52 2 1))).trans (eu2_1))) (u2_2) ((((show F52 2 2 = (updF F 0 18 (0)) 2 2 from (eF52 2 2))).trans (eu2_2))) (w3) (((show A52 3 = A 3 from (eA52 3))).trans (ew3)) (w4) (((show A52 4 = A 4 from (eA52 4))).trans (ew4)) (show inr (z52) from pz52_0) (show 0 ≤ (z52) ∧ (z52) ≤ 17 from q_3951 pz52_1) (show 0 ≤ (u0_9) ∧ (u0_9) ≤ (u0_9) ∧ (u0_9) ≤ (u0_8) from q_3950 h0) (show 0 ≤ (u2_1) ∧ (u2_1) ≤ (n3) ∧ (n3) ≤ 65536 from h1) (show (u2_1) ≤ (u2_1) ∧ (u2_1) ≤ (u0_11) from q_735 h2) (show (0) = 0 ∨ (u0_9) ≤ (0) ∧ (0) ≤ (u0_8) by first | exact q_3991 | omega) (show UBA (ub8 ((w1))) ((u0_8)) (moF ((u0_15))) ((u0_11) - (u2_1)) ((u0_9)) ((z52)) ((y52_0_21)) ((u0_9)) ((0)) (sc ((w3)) ((u2_1)) ((u2_1))) by assumption) (show sc ((w3)) 0 ((u2_1)) = sc ((w3)) 0 ((u2_1)) by assumption) (show (u2_2) = 0 from h5) (show 3 ≤ (u0_8) - (u0_9) ∧ ((w4)) 1 = ((w4)) 1 + 1 ∨ (u0_8) - (u0_9) < 3 ∧ ((w4)) 1 = ((w4)) 1 from q_3998 b13) (show ((w4)) 0 = ((w4)) 0 from q_303) (show ((w4)) 2 = ((w4)) 2 from q_303) (show ((w4)) 3 = ((w4)) 3 from q_303) (show ((w4)) 4 = ((w4)) 4 from q_303) (show (z52) ≠ 0 ∨ (y52_0_21) = (u0_21) from q_3108 pz52_1))
abbrev V244 : vV := [(0, 12, [(4, 0), (4, 0), (4, 0), (4, 0), (4, 0), (4, 0), (4, 0), (4, 0), (0, 0), (0, 0), (4, 0), (0, 0), (4, 0), (4, 0), (0, 0), (2, 0), (0, 0), (0, 0), (0, 0), (0, 0), (0, 0), (0, 0)]), (1, 0, []), (0, 7, [(4, 0), (0, 0), (1, 0), (0, 0), (0, 0)]), (1, 0, [])]
theorem len_V244_oz_H2cls : (V244).length = 4 := by decide +kernel
theorem oz_H2cls_52 : vsub V244 V42_Br [1] = true := by decide +kernel
theorem oz_H2cls_53 : vsub V244 V234 [0] = true := by decide +kernel
theorem oz_H2cls_54 : vsub V244 V162 [2, 3] = true := by decide +kernel
theorem oz_H2cls_55 : vmov V244 [2, 3] [1] = true := by decide +kernel
theorem oz_H2cls_56 : vsub V244 V161_Br [2, 1, 3] = true := by decide +kernel
theorem oz_H2cls_57 : vmov V244 [2, 1, 3] [2] = true := by decide +kernel
theorem oz_H2cls_58 : vsub V244 V232 [0] = true := by decide +kernel
def oz_H2clsl_17 : List (Nat × Nat) := [(0, 9), (0, 19), (0, 21), (2, 0), (2, 1), (2, 2)]
theorem oz_H2cls_59 : (oz_H2clsl_17).all (fun p => !tbz 129127208515969483264 (Nat.add (Nat.mul 32 p.1) p.2)) = true := by decide +kernel
set_option maxHeartbeats 16000000 in
theorem C244 {σE : rS} {D N : Nat → Nat} {F : hF} {A : hA} {d c s : Nat} {Q : wQ} (H : HW V244 σE D N F A)  (pf1 : HID (F 0 7 = (D 1 : Int))) (pf2 : HID (F 0 4 = (D 2 : Int))) (pf3 : HID (F 2 0 = (D 3 : Int))) (n1 : Int) (en1 : HID ((N 1 : Int) = n1)) (n3 : Int) (en3 : HID ((N 3 : Int) = n3)) (u0_8 : Int) (eu0_8 : HID (F 0 8 = u0_8)) (u0_9 : Int) (eu0_9 : HID (F 0 9 = u0_9)) (u0_15 : Int) (eu0_15 : HID (F 0 15 = u0_15)) (u0_18 : Int) (eu0_18 : HID (F 0 18 = u0_18)) (u0_19 : Int) (eu0_19 : HID (F 0 19 = u0_19)) (u0_21 : Int) (eu0_21 : HID (F 0 21 = u0_21)) (u2_1 : Int) (eu2_1 : HID (F 2 1 = u2_1)) (u2_2 : Int) (eu2_2 : HID (F 2 2 = u2_2)) (w1 : Int → Int) (ew1 : A 1 = w1) (w3 : Int → Int) (ew3 : A 3 = w3) (h0 : 0 ≤ (u0_9) ∧ (u0_9) ≤ (u0_8) ∧ (u0_8) ≤ (n1) ∧ (n1) ≤ 65536) (h1 : (u0_9) ≤ (u0_18) ∧ (u0_18) ≤ (u0_8)) (h2 : 0 ≤ (u2_1) ∧ (u2_1) ≤ (n3) ∧ (n3) ≤ 65536) (h3 : (u2_1) = 0) (h4 : 0 ≤ (u0_15)) (h5 : (u2_2) = 0) (h6 : (u0_18) ≤ (u0_9) ∨ (ub8 ((w1))) ((u0_9)) % 4 < 2) (k : ∀ (z : Int) (σ : rS) (Dₚ Nₚ : Nat → Nat) (Fₚ : hF) (Aₚ : hA) (cₚ sₚ : Nat), HW V244 σ Dₚ Nₚ Fₚ Aₚ → OUT (V244).length D N σE c s Dₚ Nₚ σ cₚ sₚ → SD [3] D Dₚ → SD [3] N Nₚ → SF [(0, 9), (0, 19), (0, 21), (2, 0), (2, 1), (2, 2)] F Fₚ → SA [3] A Aₚ → Fₚ 2 0 = (Dₚ 3 : Int) → ∀ m3 : Int, (Nₚ 3 : Int) = m3 → ∀ y0_9 : Int, Fₚ 0 9 = y0_9 → ∀ y0_19 : Int, Fₚ 0 19 = y0_19 → ∀ y0_21 : Int, Fₚ 0 21 = y0_21 → ∀ y2_1 : Int, Fₚ 2 1 = y2_1 → ∀ v3 : Int → Int, Aₚ 3 = v3 → (inr (z)) → (0 ≤ (z) ∧ (z) ≤ 17) → (0 ≤ (y0_9) ∧ (u0_9) ≤ (y0_9) ∧ (y0_9) ≤ (u0_8)) → ((y0_9) ≤ (u0_18)) → (0 ≤ (y2_1) ∧ (y2_1) ≤ (m3) ∧ (m3) ≤ 65536) → ((z) ≠ 0 ∨ 0 ≤ (y0_19) ∧ (y0_19) ≤ 131072 ∧ ((y0_19) ≤ (m3) ∨ (m3) = 65536)) → (PLA (ub8 ((w1))) ((u0_9)) ((u0_18)) (moF ((u0_15))) ((z)) ((y0_21)) ((y0_9)) ((y0_19)) ((y2_1)) ((v3))) → ((z) ≠ 0 ∨ (y0_19) ≤ moF ((u0_15))) → ((z) ≠ 0 ∨ (y0_21) = (u0_21)) → Q (some (I z)) σ cₚ sₚ) : Ew 244 (d + 3) 0 (rargs 0 [.ref (D 0)]) [] σE c s Q := by
  have O := OUT_refl (n := (V244).length) (D := D) (N := N) (σ := σE) (c := c) (s := s)
  have HE := H
  have r1 : (-2147483648 : Int) ≤ u0_8 ∧ u0_8 ≤ 2147483647 := rngE (show (-2147483648 : Int) ≤ F 0 8 ∧ F 0 8 ≤ 2147483647 from H.krg 0 8 (ltn len_V244_oz_H2cls rfl)) (show F 0 8 = u0_8 from (eu0_8))
  have r2 : (-2147483648 : Int) ≤ u0_9 ∧ u0_9 ≤ 2147483647 := rngE (show (-2147483648 : Int) ≤ F 0 9 ∧ F 0 9 ≤ 2147483647 from H.krg 0 9 (ltn len_V244_oz_H2cls rfl)) (show F 0 9 = u0_9 from (eu0_9))
  have r3 : (-9223372036854775808 : Int) ≤ u0_15 ∧ u0_15 ≤ 9223372036854775807 := rngE (show (-9223372036854775808 : Int) ≤ F 0 15 ∧ F 0 15 ≤ 9223372036854775807 from H.krg 0 15 (ltn len_V244_oz_H2cls rfl)) (show F 0 15 = u0_15 from (eu0_15))
  have r4 : (-2147483648 : Int) ≤ u0_18 ∧ u0_18 ≤ 2147483647 := rngE (show (-2147483648 : Int) ≤ F 0 18 ∧ F 0 18 ≤ 2147483647 from H.krg 0 18 (ltn len_V244_oz_H2cls rfl)) (show F 0 18 = u0_18 from (eu0_18))
  have r5 : (-2147483648 : Int) ≤ u0_19 ∧ u0_19 ≤ 2147483647 := rngE (show (-2147483648 : Int) ≤ F 0 19 ∧ F 0 19 ≤ 2147483647 from H.krg 0 19 (ltn len_V244_oz_H2cls rfl)) (show F 0 19 = u0_19 from (eu0_19))
  have r6 : (-2147483648 : Int) ≤ u0_21 ∧ u0_21 ≤ 2147483647 := rngE (show (-2147483648 : Int) ≤ F 0 21 ∧ F 0 21 ≤ 2147483647 from H.krg 0 21 (ltn len_V244_oz_H2cls rfl)) (show F 0 21 = u0_21 from (eu0_21))
  have r7 : (-2147483648 : Int) ≤ u2_1 ∧ u2_1 ≤ 2147483647 := rngE (show (-2147483648 : Int) ≤ F 2 1 ∧ F 2 1 ≤ 2147483647 from H.krg 2 1 (ltn len_V244_oz_H2cls rfl)) (show F 2 1 = u2_1 from (eu2_1))
  have r8 : (0 : Int) ≤ u2_2 ∧ u2_2 ≤ 1 := rngE (show (0 : Int) ≤ F 2 2 ∧ F 2 2 ≤ 1 from H.krg 2 2 (ltn len_V244_oz_H2cls rfl)) (show F 2 2 = u2_2 from (eu2_2))
  have r9 : (0 : Int) ≤ n1 ∧ n1 ≤ 1000000 := nleE (H.nle 1 (ltn len_V244_oz_H2cls rfl)) (show (N 1 : Int) = n1 from en1)
  have r10 : (0 : Int) ≤ n3 ∧ n3 ≤ 1000000 := nleE (H.nle 3 (ltn len_V244_oz_H2cls rfl)) (show (N 3 : Int) = n3 from en3)
  refine Ew_of (pcₚ := 1) (fun _ => x_aload_n rfl rfl) ?_
  refine v_g H (o := 0) (v := I (u0_9)) rfl rfl rfl rfl rfl (congrArg (fun z : Int => I z) ((eu0_9) : F 0 9 = u0_9)) ?_
  refine Ew_of (pcₚ := 5) (fun _ => x_aload_n rfl rfl) ?_
  refine v_g H (o := 0) (v := I (u0_18)) rfl rfl rfl rfl rfl (congrArg (fun z : Int => I z) ((eu0_18) : F 0 18 = u0_18)) ?_
  refine w_icmplt (t := 22) rfl rfl (show inr (u0_9) from q_3943 h0) (show inr (u0_18) from q_18 r4) (fun b11 => ?_) (fun b11 => ?_)
  · refine Ew_of (pcₚ := 23) (fun _ => x_aload_n rfl rfl) ?_
    refine v_g H (o := 0) (v := .ref (D 1)) rfl rfl rfl rfl rfl (vrf (pf1)) ?_
    refine Ew_of (pcₚ := 27) (fun _ => x_aload_n rfl rfl) ?_
    refine v_g H (o := 0) (v := I (u0_9)) rfl rfl rfl rfl rfl (congrArg (fun z : Int => I z) ((eu0_9) : F 0 9 = u0_9)) ?_
    refine v_lB H (o := 1) rfl rfl rfl rfl (n := n1) (en1) (show 0 ≤ u0_9 ∧ u0_9 < n1 from q_3999 b11 h0 h1) (fun v12 ev12 qv12 => ?_)
    have ev12 : (w1) (u0_9) = v12 := (congrFun (ew1) (u0_9)).symm.trans ev12
    have hvx := ev12
    have hbx : (ub8 ((w1))) ((u0_9)) = (v12) % 256 := by show u8 _ = _; rw [hvx]; rfl
    refine Ew_of (pcₚ := 34) (fun _ => x_sipush (z := 255) rfl (by decide)) ?_
    refine v_and255 rfl ?_
    refine Ew_of (pcₚ := 36) (fun _ => x_istore_n rfl) ?_
    rw [show (((v12 % 256)) : Int) = ((v12 % 256)) from rfl] at hbx
    have hb4 : ((v12 % 256)) % 4 < 2 := by omega
    have hbl : (ub8 ((w1))) ((u0_9)) = ((v12 % 256)) := by omega
    refine Ew_of (pcₚ := 37) (fun _ => x_iload_n rfl rk_s) ?_
    refine Ew_of (pcₚ := 38) (fun _ => x_iconst rfl) ?_
    refine w_ishrK 2 4 (by decide) (by decide) rfl (show inr ((v12 % 256)) from q_461) (fun z13 gz13 dz13 => ?_)
    have ha3 := andI_3 ((z13))
    refine Ew_of (pcₚ := 40) (fun _ => x_iconst rfl) ?_
    refine w_iandE rfl (show inr (z13) from gz13) (show inr (3) from q_246) (fun z14 gz14 gaz14 gbz14 gez14 => ?_)
    refine Ew_of (pcₚ := 42) (fun _ => x_istore_n rfl) ?_
    obtain ⟨q2, hq2⟩ : ∃ q : Int, q = (z14) := ⟨_, rfl⟩
    have hlx : q2 = ((v12 % 256)) / 4 % 4 := by omega
    have hlq := lhB_eq q2
    refine Ew_of (pcₚ := 43) (fun _ => x_iload_n rfl rk_s) ?_
    refine Ew_of (pcₚ := 44) (fun _ => x_iconst rfl) ?_
    refine w_irem rfl (show inr (z14) ∧ 0 ≤ z14 from q_4000 dz13 gaz14 gz14 hb4) (show inr (2) ∧ 0 < 2 from q_1234) ?_
    have hc62 : ∀ (tc62_0 : Int), ∀ (ls : rO) (σ : rS) (F_c62 : hF) (A_c62 : hA) , rlook ls 0 = some (.ref (D 0)) → rlook ls 1 = some (I ((v12 % 256))) → HW V244 σ D N F_c62 A_c62 → OUT (V244).length D N σE c s D N σ c s → SF [] F F_c62 → SA [] A A_c62 → (inr (tc62_0)) → ((((z14 % 2)) ≠ (0) ∧ (z14) ≠ (1) ∧ (tc62_0) = (3)) ∨ (((z14 % 2)) ≠ (0) ∧ (z14) = (1) ∧ (tc62_0) = (2)) ∨ (((z14 % 2)) = (0) ∧ (tc62_0) = (1))) → Ew 244 (d + 3) 62 ls [I (tc62_0)] σ c s Q := by
     as_aux_lemma =>
      intro tc62_0 ls σ F_c62 A_c62  lc62_0 lc62_1 H O hS_c62 hA_c62     jc62_0 jc62_1
      have cF_c62 : SF oz_H2clsl_17 F F_c62 := SF_trans (SF_refl) hS_c62 (any_sub (by decide +kernel))
      have mF_c62 := SFm_of cF_c62 oz_H2cls_59
      have cA_c62 : SA oz_H2clsl_12 A A_c62 := SA_trans (SA_refl) hA_c62 (any_subA (by decide +kernel))
      have mA_c62 := SAm_of cA_c62 oz_H2cls_48
      refine Ew_of (pcₚ := 63) (fun _ => x_istore_n rfl) ?_
      have hl3 : (tc62_0) = lhB q2 := by omega
      refine Ew_of (pcₚ := 64) (fun _ => x_aload_n rfl (rk_o (lc62_0) rfl rfl)) ?_
      refine v_g H (o := 0) (v := I (u0_18)) rfl rfl rfl rfl rfl (congrArg (fun z : Int => I z) (((mF_c62 0 18 rfl).trans (eu0_18)) : F_c62 0 18 = u0_18)) ?_
      refine Ew_of (pcₚ := 68) (fun _ => x_aload_n rfl (rk_o (lc62_0) rfl rfl)) ?_
      refine v_g H (o := 0) (v := I (u0_9)) rfl rfl rfl rfl rfl (congrArg (fun z : Int => I z) (((hS_c62 0 9 rfl).trans (eu0_9)) : F_c62 0 9 = u0_9)) ?_
      refine w_isub rfl ?_
      refine Ew_of (pcₚ := 73) (fun _ => x_iload_n rfl rk_s) ?_
      refine w_icmpge (t := 87) rfl rfl (show inr ((u0_18 - u0_9)) from q_4001 b11 h0 h1) (show inr (tc62_0) from jc62_0) (fun b15 => ?_) (fun b15 => ?_)
      · refine Ew_of (pcₚ := 88) (fun _ => x_aload_n rfl (rk_o (lc62_0) rfl rfl)) ?_
        refine v_g H (o := 0) (v := .ref (D 1)) rfl rfl rfl rfl rfl (vrf ((mF_c62 0 7 rfl).trans (pf1))) ?_
        refine Ew_of (pcₚ := 92) (fun _ => x_aload_n rfl (rk_o (lc62_0) rfl rfl)) ?_
        refine v_g H (o := 0) (v := I (u0_9)) rfl rfl rfl rfl rfl (congrArg (fun z : Int => I z) (((hS_c62 0 9 rfl).trans (eu0_9)) : F_c62 0 9 = u0_9)) ?_
        refine Ew_of (pcₚ := 96) (fun _ => x_iload_n rfl rk_s) ?_
        refine w_stat25 rfl rfl (by rfl) (C42_Brf (D := puc 1 D) (N := puc 1 N) (HW_subc H oz_H2cls_52 oz_H2cls_18) (n1) (en1) (w1) ((funext (mA_c62 1 rfl)).trans (ew1)) (show inr (u0_9) from q_3943 h0) (show inr (tc62_0) from jc62_0) (show (tc62_0) ≤ 0 ∨ 0 ≤ (u0_9) ∧ (u0_9) + (tc62_0) ≤ (n1) from q_4003 b15 h0 h1) (show 0 ≤ (tc62_0) ∧ (tc62_0) ≤ 8 from q_4002 jc62_1) (fun z16 σ16 F16ₚ A16ₚ Hₚ Oₚ hS16 hA16 pz16_0 pz16_1 pz16_2 => ⟨rfl, ?_⟩))
        refine v_backc (c := c) (s := s) H oz_H2cls_52 oz_H2cls_18 Hₚ Oₚ (fun F16 A16 H Oₚ eF16 eA16 => ?_)
        have O := OUT_trans O Oₚ
        -- PackHouse.number
        have cF16 : SF oz_H2clsl_17 F F16 := SF_trans (cF_c62) (SF_gluc (ι := oz_H2clsl_2) oz_H2cls_18 hS16 eF16 (by decide +kernel)) (any_sub (lₚ := []) (by decide +kernel))
        have mF16 := SFm_of cF16 oz_H2cls_59
        have cA16 : SA oz_H2clsl_12 A A16 := SA_trans (cA_c62) (SA_gluc (ι := oz_H2clsl_2) oz_H2cls_18 hA16 eA16 (by decide +kernel)) (any_subA (lₚ := []) (by decide +kernel))
        have mA16 := SAm_of cA16 oz_H2cls_48
        have hnb : 0 ≤ ((z16) : Int) ∧ (z16) ≤ 16777215 := nb3 (NBY_up pz16_1 (by omega) (by omega))
        have hN6 : z16 = nvl (ub8 ((w1))) ((u0_9)) ((tc62_0) : Int).toNat := (nmb_nn pz16_2 (by omega) pz16_0).trans nvl_u
        refine Ew_of (pcₚ := 100) (fun _ => x_iload_n rfl rk_s) ?_
        refine Ew_of (pcₚ := 101) (fun _ => x_iconst rfl) ?_
        have hc109 : ∀ (tc109_0 : Int), ∀ (ls : rO) (σ : rS) (F_c109 : hF) (A_c109 : hA) , rlook ls 0 = some (.ref (D 0)) → rlook ls 1 = some (I ((v12 % 256))) → rlook ls 3 = some (I (tc62_0)) → HW V244 σ D N F_c109 A_c109 → OUT (V244).length D N σE c s D N σ c s → SF [] F16 F_c109 → SA [] A16 A_c109 → (inr (tc109_0)) → (((tc62_0) ≠ (1) ∧ (tc109_0) = (4)) ∨ ((tc62_0) = (1) ∧ (tc109_0) = (3))) → Ew 244 (d + 3) 109 ls [I (tc109_0), J (z16)] σ c s Q := by
         as_aux_lemma =>
          intro tc109_0 ls σ F_c109 A_c109  lc109_0 lc109_1 lc109_3 H O hS_c109 hA_c109     jc109_0 jc109_1
          have cF_c109 : SF oz_H2clsl_17 F F_c109 := SF_trans (cF16) hS_c109 (any_sub (by decide +kernel))
          have mF_c109 := SFm_of cF_c109 oz_H2cls_59
          have cA_c109 : SA oz_H2clsl_12 A A_c109 := SA_trans (cA16) hA_c109 (any_subA (by decide +kernel))
          have mA_c109 := SAm_of cA_c109 oz_H2cls_48
          have hy : p2 ((tc109_0)) = 8 ∨ p2 ((tc109_0)) = 16 := by rcases (show ((tc109_0) : Int) = 3 ∨ ((tc109_0) : Int) = 4 by omega) with q | q <;> rw [q] <;> decide
          have hdv : 0 ≤ ((z16) : Int) / p2 ((tc109_0)) ∧ ((z16) : Int) / p2 ((tc109_0)) ≤ 2097152 := by rcases hy with q | q <;> rw [q] <;> omega
          obtain ⟨q9, hq9⟩ : ∃ q : Int, q = p2 ((tc109_0)) := ⟨_, rfl⟩
          have hq9c : (tc62_0) = 1 ∧ q9 = 8 ∨ (tc62_0) ≠ 1 ∧ q9 = 16 := by rcases (show (tc62_0) = 1 ∧ (tc109_0) = 3 ∨ (tc62_0) ≠ 1 ∧ (tc109_0) = 4 by omega) with ⟨w, q⟩ | ⟨w, q⟩; (exact .inl ⟨w, by rw [hq9, q]; decide⟩); (exact .inr ⟨w, by rw [hq9, q]; decide⟩)
          have hs9 : 0 ≤ (tc109_0) ∧ (tc109_0) ≤ 63 := q_4004 jc109_1
          refine w_lshrX rfl (show inrJ (z16) from pz16_0) (fun z17 gz17 dz17 => ?_)
          have hzz : 0 ≤ ((z17) : Int) ∧ (z17) ≤ 2097152 := by omega
          obtain ⟨qn, hqz⟩ : ∃ q : Int, q = (z17) := ⟨_, rfl⟩
          have hqn : qn = nvl (ub8 ((w1))) ((u0_9)) ((tc62_0) : Int).toNat / q9 := by rw [← hN6, hqz, hq9]; omega
          refine w_l2i rfl ?_
          refine Ew_of (pcₚ := 113) (fun _ => x_istore rfl) ?_
          have hl4n : (z17) = qn := by omega
          refine Ew_of (pcₚ := 115) (fun _ => x_iload rfl rk_s) ?_
          refine Ew_of (pcₚ := 116) (fun _ => x_aload_n rfl (rk_o (lc109_0) rfl rfl)) ?_
          refine v_inv H (o := 0) rfl rfl rfl rfl rfl rfl (by rfl) (C234 (D := puc 0 D) (N := puc 0 N) (HW_subc H oz_H2cls_53 oz_H2cls_12) (u0_15) (((mF_c109 0 15 rfl).trans (eu0_15))) (show 0 ≤ (u0_15) from h4) (fun z18 σ18 F18ₚ A18ₚ Hₚ Oₚ hS18 hA18 pz18_0 pz18_1 pz18_2 => ⟨rfl, ?_⟩))
          refine v_backc (c := c) (s := s) H oz_H2cls_53 oz_H2cls_12 Hₚ Oₚ (fun F18 A18 H Oₚ eF18 eA18 => ?_)
          have O := OUT_trans O Oₚ
          -- Unpacker.blockMost
          have cF18 : SF oz_H2clsl_17 F F18 := SF_trans (cF_c109) (SF_gluc (ι := oz_H2clsl_6) oz_H2cls_12 hS18 eF18 (by decide +kernel)) (any_sub (lₚ := []) (by decide +kernel))
          have mF18 := SFm_of cF18 oz_H2cls_59
          have cA18 : SA oz_H2clsl_12 A A18 := SA_trans (cA_c109) (SA_gluc (ι := oz_H2clsl_6) oz_H2cls_12 hA18 eA18 (by decide +kernel)) (any_subA (lₚ := []) (by decide +kernel))
          have mA18 := SAm_of cA18 oz_H2cls_48
          have hmo := pz18_2
          refine w_icmple (t := 133) rfl rfl (show inr (z17) from q_4005 hzz) (show inr (z18) from pz18_0) (fun b19 => ?_) (fun b19 => ?_)
          · refine Ew_of (pcₚ := 134) (fun _ => x_aload_n rfl (rk_o (lc109_0) rfl rfl)) ?_
            refine Ew_of (pcₚ := 135) (fun _ => x_dup rfl rfl) ?_
            refine v_g H (o := 0) (v := I (u0_9)) rfl rfl rfl rfl rfl (congrArg (fun z : Int => I z) (((((((show F18 0 9 = F_c109 0 9 from (eF18 0 9).trans (hS18 0 9 rfl))).trans (hS_c109 0 9 rfl)).trans ((show F16 0 9 = F_c62 0 9 from (eF16 0 9)))).trans (hS_c62 0 9 rfl)).trans (eu0_9)) : F18 0 9 = u0_9)) ?_
            refine Ew_of (pcₚ := 139) (fun _ => x_iload_n rfl (rk_o (lc109_3) rfl rfl)) ?_
            refine w_iadd rfl ?_
            refine v_p H (o := 0) (z := (u0_9 + tc62_0)) (v := I ((u0_9 + tc62_0))) rfl rfl rfl rfl rfl rfl rfl rfl (show (-2147483648 : Int) ≤ (u0_9 + tc62_0) ∧ (u0_9 + tc62_0) ≤ 2147483647 from q_4006 b15 h0 h1 jc62_0) (fun σ H Oₚ => ?_)
            have O := OUT_trans O Oₚ
            have cFu20 : SF oz_H2clsl_17 F (updF F18 0 9 ((u0_9 + tc62_0))) := SF_upd (cF18) rfl
            have mFu20 := SFm_of cFu20 oz_H2cls_59
            refine Ew_of (pcₚ := 144) (fun _ => x_iload_n rfl (rk_o (lc109_1) rfl rfl)) ?_
            have ha5 := andI_3 (((v12 % 256)))
            refine Ew_of (pcₚ := 145) (fun _ => x_iconst rfl) ?_
            refine w_iandE rfl (show inr ((v12 % 256)) from q_461) (show inr (3) from q_246) (fun z21 gz21 gaz21 gbz21 gez21 => ?_)
            refine w_ifne (t := 153) rfl rfl (show inr (z21) from gz21) (fun b22 => ?_) (fun b22 => ?_)
            · refine Ew_of (pcₚ := 154) (fun _ => x_iconst rfl) ?_
              refine Ew_of (pcₚ := 156) (fun _ => x_istore rfl) ?_
              obtain ⟨q5, hq5⟩ : ∃ q : Int, q = (0) := ⟨_, rfl⟩
              have hq5c : q5 = 1 ∧ ((v12 % 256)) % 4 = 0 ∨ q5 ≠ 1 ∧ ((v12 % 256)) % 4 ≠ 0 := by omega
              obtain ⟨q1, hq1⟩ : ∃ q : Int, q = ((v12 % 256)) := ⟨_, rfl⟩
              obtain ⟨q3, hq3⟩ : ∃ q : Int, q = (tc62_0) := ⟨_, rfl⟩
              have hLT := fun T G => LTF_0 (I := ub8 ((w1))) (at_ := (u0_9)) (e := (u0_18)) (mo := moF ((u0_15))) (T := T) (G := G) (b := (tc62_0)) (n := qn) (d := q9) (by omega) hbl rfl hb4 rfl (by rw [← hlx]; exact hl3) hqn hq9c
              rw [← hq1, ← hq3] at hLT
              rw [← hq1] at hq5c
              refine Ew_of (pcₚ := 158) (fun _ => x_iload rfl rk_s) ?_
              refine w_ifeq (t := 166) rfl rfl (show inr (0) from q_2) (fun b23 => ?_) (fun b23 => ?_)
              · refine Ew_of (pcₚ := 167) (fun _ => x_iconst rfl) ?_
                refine Ew_of (pcₚ := 169) (fun _ => x_istore rfl) ?_
                refine Ew_of (pcₚ := 170) (fun _ => x_aload_n rfl (rk_o (rk_o (rk_o (lc109_0) rfl rfl) rfl rfl) rfl rfl)) ?_
                refine v_g H (o := 0) (v := I (u0_18)) rfl rfl rfl rfl rfl (congrArg (fun z : Int => I z) (((mFu20 0 18 rfl).trans (eu0_18)) : (updF F18 0 9 ((u0_9 + tc62_0))) 0 18 = u0_18)) ?_
                refine Ew_of (pcₚ := 174) (fun _ => x_aload_n rfl (rk_o (rk_o (rk_o (lc109_0) rfl rfl) rfl rfl) rfl rfl)) ?_
                refine v_g H (o := 0) (v := I ((u0_9 + tc62_0))) rfl rfl rfl rfl rfl (congrArg (fun z : Int => I z) (rfl : (updF F18 0 9 ((u0_9 + tc62_0))) 0 9 = (u0_9 + tc62_0))) ?_
                refine w_isub rfl ?_
                refine Ew_of (pcₚ := 180) (fun _ => x_iload rfl rk_s) ?_
                refine w_icmpge (t := 194) rfl rfl (show inr ((u0_18 - (u0_9 + tc62_0))) from q_4007 b15 h0 h1 jc62_1) (show inr (1) from q_135) (fun b24 => ?_) (fun b24 => ?_)
                · refine Ew_of (pcₚ := 195) (fun _ => x_aload_n rfl (rk_o (rk_o (rk_o (lc109_0) rfl rfl) rfl rfl) rfl rfl)) ?_
                  refine Ew_of (pcₚ := 197) (fun _ => x_iload rfl (rk_o (rk_o (rk_s) rfl rfl) rfl rfl)) ?_
                  obtain ⟨q4, hq4⟩ : ∃ q : Int, q = (z17) := ⟨_, rfl⟩
                  have hq6 : q5 = 1 ∧ (1) = q4 ∨ q5 ≠ 1 ∧ (1) = 1 := by omega
                  refine v_p H (o := 0) (z := z17) (v := I (z17)) rfl rfl rfl rfl rfl rfl rfl rfl (show (-2147483648 : Int) ≤ z17 ∧ z17 ≤ 2147483647 from q_4008 hzz) (fun σ H Oₚ => ?_)
                  have O := OUT_trans O Oₚ
                  have cFu25 : SF oz_H2clsl_17 F (updF (updF F18 0 9 ((u0_9 + tc62_0))) 0 19 (z17)) := SF_upd (cFu20) rfl
                  have mFu25 := SFm_of cFu25 oz_H2cls_59
                  have hc248 : ∀ (ls : rO) (σ : rS) (D_c248 N_c248 : Nat → Nat) (c_c248 s_c248 : Nat) (F_c248 : hF) (A_c248 : hA) , rlook ls 0 = some (.ref (D_c248 0)) → rlook ls 6 = some (I (1)) → HW V244 σ D_c248 N_c248 F_c248 A_c248 → OUT (V244).length D N σE c s D_c248 N_c248 σ c_c248 s_c248 → SD [3] D D_c248 → SD [3] N N_c248 → SF [(2, 0), (2, 1), (2, 2)] (updF (updF F18 0 9 ((u0_9 + tc62_0))) 0 19 (z17)) F_c248 → SA [3] A18 A_c248 → F_c248 2 0 = (D_c248 3 : Int) → ∀ mc248_3 : Int, (N_c248 3 : Int) = mc248_3 → ∀ yc248_2_1 : Int, F_c248 2 1 = yc248_2_1 → ∀ wc248_3 : Int → Int, A_c248 3 = wc248_3 → (0 ≤ (yc248_2_1) ∧ (yc248_2_1) ≤ (mc248_3) ∧ (mc248_3) ≤ 65536) → (((z17) ≤ (mc248_3) ∨ (mc248_3) = 65536)) → (∃ L : List Int, (z17) = (L.length : Int) ∧ LKP ((wc248_3)) ((yc248_2_1)) 65536 L ∧ (q5 = 1 ∧ L = sc (ub8 ((w1))) (((u0_9 + tc62_0))) (((u0_9 + tc62_0)) + q4) ∨ q5 ≠ 1 ∧ L = List.replicate (q4).toNat ((ub8 ((w1))) (((u0_9 + tc62_0)))))) → Ew 244 (d + 3) 248 ls [] σ c_c248 s_c248 Q := by
                   as_aux_lemma =>
                    intro  ls σ D_c248 N_c248 c_c248 s_c248 F_c248 A_c248  lc248_0 lc248_6 H O hD_c248 hN_c248 hS_c248 hA_c248 pmc248_3 mc248_3 emc248_3 yc248_2_1 eyc248_2_1 wc248_3 ewc248_3 jc248_0 jc248_1 jc248_2
                    have cF_c248 : SF oz_H2clsl_17 F F_c248 := SF_trans (cFu25) hS_c248 (any_sub (by decide +kernel))
                    have mF_c248 := SFm_of cF_c248 oz_H2cls_59
                    have cA_c248 : SA oz_H2clsl_12 A A_c248 := SA_trans (cA18) hA_c248 (any_subA (by decide +kernel))
                    have mA_c248 := SAm_of cA_c248 oz_H2cls_48
                    have cD_c248 : SD oz_H2clsl_12 D D_c248 := SD_trans (SD_refl) hD_c248 (any_subA (by decide +kernel))
                    have mD_c248 := SDm_of cD_c248 oz_H2cls_48
                    have cN_c248 : SD oz_H2clsl_12 N N_c248 := SD_trans (SD_refl) hN_c248 (any_subA (by decide +kernel))
                    have mN_c248 := SDm_of cN_c248 oz_H2cls_48
                    replace pmc248_3 := HIDm pmc248_3
                    replace emc248_3 := HIDm emc248_3
                    replace eyc248_2_1 := HIDm eyc248_2_1
                    have r26 : (0 : Int) ≤ mc248_3 ∧ mc248_3 ≤ 1000000 := nleE (H.nle 3 (ltn len_V244_oz_H2cls rfl)) (show (N_c248 3 : Int) = mc248_3 from emc248_3)
                    have r27 : (-2147483648 : Int) ≤ yc248_2_1 ∧ yc248_2_1 ≤ 2147483647 := rngE (show (-2147483648 : Int) ≤ F_c248 2 1 ∧ F_c248 2 1 ≤ 2147483647 from H.krg 2 1 (ltn len_V244_oz_H2cls rfl)) (show F_c248 2 1 = yc248_2_1 from (eyc248_2_1))
                    have k248 : ∃ L : List Int, (z17) = (L.length : Int) ∧ LKP ((wc248_3)) ((yc248_2_1)) 65536 L ∧ (q5 = 1 ∧ L = sc (ub8 ((w1))) (((u0_9 + tc62_0))) (((u0_9 + tc62_0)) + q4) ∨ q5 ≠ 1 ∧ L = List.replicate (q4).toNat ((ub8 ((w1))) (((u0_9 + tc62_0))))) := by assumption
                    refine Ew_of (pcₚ := 249) (fun _ => x_aload_n rfl lc248_0) ?_
                    refine Ew_of (pcₚ := 250) (fun _ => x_dup rfl rfl) ?_
                    refine v_g H (o := 0) (v := I ((u0_9 + tc62_0))) rfl rfl rfl rfl rfl (congrArg (fun z : Int => I z) ((hS_c248 0 9 rfl) : F_c248 0 9 = (u0_9 + tc62_0))) ?_
                    refine Ew_of (pcₚ := 255) (fun _ => x_iload rfl lc248_6) ?_
                    refine w_iadd rfl ?_
                    refine v_p H (o := 0) (z := ((u0_9 + tc62_0) + 1)) (v := I (((u0_9 + tc62_0) + 1))) rfl rfl rfl rfl rfl rfl rfl rfl (show (-2147483648 : Int) ≤ ((u0_9 + tc62_0) + 1) ∧ ((u0_9 + tc62_0) + 1) ≤ 2147483647 from q_4009 b24 h0 h1 jc62_0) (fun σ H Oₚ => ?_)
                    have O := OUT_trans O Oₚ
                    have cFu28 : SF oz_H2clsl_17 F (updF F_c248 0 9 (((u0_9 + tc62_0) + 1))) := SF_upd (cF_c248) rfl
                    have mFu28 := SFm_of cFu28 oz_H2cls_59
                    refine Ew_of (pcₚ := 260) (fun _ => x_iconst rfl) ?_
                    have : PLA (ub8 ((w1))) ((u0_9)) ((u0_18)) (moF ((u0_15))) ((0)) ((u0_21)) ((((u0_9 + tc62_0) + 1))) ((z17)) ((yc248_2_1)) ((wc248_3)) := by obtain ⟨L, hL1, hL2, hL3⟩ := k248; exact .inr ⟨by omega, L, hL1, hL2, fun T G => (hLT T G).trans (LT0_y (fo := (1)) (by omega) (by omega) (by rcases hL3 with ⟨a, b⟩ | ⟨a, b⟩; (exact .inl ⟨by omega, by omega, by rw [b]; congr 1 <;> omega⟩); (exact .inr ⟨by omega, by omega, by rw [b, show q4 = qn by omega]; congr 2; omega⟩)) (by omega) (by omega))⟩
                    exact w_ireturn rfl (k (0) _ _ _ _ _ _ _ H O (cD_c248) (cN_c248) (cFu28) (cA_c248) (pmc248_3) (mc248_3) (emc248_3) (((u0_9 + tc62_0) + 1)) (rfl) (z17) ((hS_c248 0 19 rfl)) (u0_21) (((((((hS_c248 0 21 rfl).trans ((show F18 0 21 = F_c109 0 21 from (eF18 0 21).trans (hS18 0 21 rfl)))).trans (hS_c109 0 21 rfl)).trans ((show F16 0 21 = F_c62 0 21 from (eF16 0 21)))).trans (hS_c62 0 21 rfl)).trans (eu0_21))) (yc248_2_1) ((eyc248_2_1)) (wc248_3) (ewc248_3) (show inr (0) from q_2) (show 0 ≤ (0) ∧ (0) ≤ 17 by first | exact q_3949 | omega) (show 0 ≤ (((u0_9 + tc62_0) + 1)) ∧ (u0_9) ≤ (((u0_9 + tc62_0) + 1)) ∧ (((u0_9 + tc62_0) + 1)) ≤ (u0_8) from q_4013 b24 h0 h1 jc62_1) (show (((u0_9 + tc62_0) + 1)) ≤ (u0_18) from q_4012 b24) (show 0 ≤ (yc248_2_1) ∧ (yc248_2_1) ≤ (mc248_3) ∧ (mc248_3) ≤ 65536 from jc248_0) (show (0) ≠ 0 ∨ 0 ≤ (z17) ∧ (z17) ≤ 131072 ∧ ((z17) ≤ (mc248_3) ∨ (mc248_3) = 65536) by first | exact q_4011 b19 hzz jc248_1 pz18_1 | omega) (show PLA (ub8 ((w1))) ((u0_9)) ((u0_18)) (moF ((u0_15))) ((0)) ((u0_21)) ((((u0_9 + tc62_0) + 1))) ((z17)) ((yc248_2_1)) ((wc248_3)) by assumption) (show (0) ≠ 0 ∨ (z17) ≤ moF ((u0_15)) by first | exact q_4010 b19 pz18_2 | omega) (show (0) ≠ 0 ∨ (u0_21) = (u0_21) by first | exact q_3137 | omega))
                  refine Ew_of (pcₚ := 202) (fun _ => x_iload rfl (rk_o (rk_s) rfl rfl)) ?_
                  refine w_ifeq (t := 225) rfl rfl (show inr (0) from q_2) (fun b29 => ?_) (fun b29 => ?_)
                  · refine Ew_of (pcₚ := 226) (fun _ => x_aload_n rfl (rk_o (rk_o (rk_o (lc109_0) rfl rfl) rfl rfl) rfl rfl)) ?_
                    refine v_g H (o := 0) (v := .ref (D 2)) rfl rfl rfl rfl rfl (vrf ((mFu25 0 4 rfl).trans (pf2))) ?_
                    refine Ew_of (pcₚ := 230) (fun _ => x_aload_n rfl (rk_o (rk_o (rk_o (lc109_0) rfl rfl) rfl rfl) rfl rfl)) ?_
                    refine v_g H (o := 0) (v := .ref (D 1)) rfl rfl rfl rfl rfl (vrf ((mFu25 0 7 rfl).trans (pf1))) ?_
                    refine Ew_of (pcₚ := 234) (fun _ => x_aload_n rfl (rk_o (rk_o (rk_o (lc109_0) rfl rfl) rfl rfl) rfl rfl)) ?_
                    refine v_g H (o := 0) (v := I ((u0_9 + tc62_0))) rfl rfl rfl rfl rfl (congrArg (fun z : Int => I z) (rfl : (updF (updF F18 0 9 ((u0_9 + tc62_0))) 0 19 (z17)) 0 9 = (u0_9 + tc62_0))) ?_
                    refine v_lB H (o := 1) rfl rfl rfl rfl (n := n1) (en1) (show 0 ≤ (u0_9 + tc62_0) ∧ (u0_9 + tc62_0) < n1 from q_4014 b24 h0 h1 jc62_1) (fun v30 ev30 qv30 => ?_)
                    have ev30 : (w1) ((u0_9 + tc62_0)) = v30 := (congrFun ((funext (mA18 1 rfl)).trans (ew1)) ((u0_9 + tc62_0))).symm.trans ev30
                    have hvs := ev30
                    have hvw : (ub8 ((w1))) (((u0_9 + tc62_0))) = u8 ((v30)) := by show u8 _ = _; rw [hvs]
                    refine Ew_of (pcₚ := 240) (fun _ => x_iload rfl (rk_o (rk_o (rk_s) rfl rfl) rfl rfl)) ?_
                    refine Ew_of (pcₚ := 242) (fun _ => x_ldc (z := 65536) rfl (by decide)) ?_
                    refine v_min rfl rfl (show inr (z17) from q_4005 hzz) (show inr (65536) from q_52) (fun z31 gz31 => ?_)
                    have hmin : (z31) = (z17) ∧ (z17) ≤ 65536 ∨ (z31) = 65536 ∧ 65536 ≤ (z17) := by omega
                    refine v_inv H (o := 2) rfl rfl rfl rfl rfl rfl (by rfl) (C162 (D := puc 1538 D) (N := puc 1538 N) (HW_subc H oz_H2cls_54 oz_H2cls_50) (((((((show F18 2 0 = F_c109 2 0 from (eF18 2 0))).trans (hS_c109 2 0 rfl)).trans ((show F16 2 0 = F_c62 2 0 from (eF16 2 0)))).trans (hS_c62 2 0 rfl))).trans (pf3)) (n3) (en3) (u2_1) (((((((show F18 2 1 = F_c109 2 1 from (eF18 2 1))).trans (hS_c109 2 1 rfl)).trans ((show F16 2 1 = F_c62 2 1 from (eF16 2 1)))).trans (hS_c62 2 1 rfl)).trans (eu2_1))) (u2_2) (((((((show F18 2 2 = F_c109 2 2 from (eF18 2 2))).trans (hS_c109 2 2 rfl)).trans ((show F16 2 2 = F_c62 2 2 from (eF16 2 2)))).trans (hS_c62 2 2 rfl)).trans (eu2_2))) (w3) (((show A18 3 = A_c109 3 from (eA18 3))).trans ((funext (hA_c109 3 rfl)).trans (((show A16 3 = A_c62 3 from (eA16 3))).trans ((funext (hA_c62 3 rfl)).trans (ew3))))) (show inr (v30) from q_97 qv30) (show inr (z31) from q_4015 hmin hzz) (show 0 ≤ (u2_1) ∧ (u2_1) ≤ (n3) ∧ (n3) ≤ 65536 from h2) (fun σ32 D32ₚ N32ₚ F32ₚ A32ₚ c32 s32 Hₚ Oₚ hD32 hN32 hS32 hA32 (pm32_1 : HID _) m32_1 (em32_1 : HID _) y32_0_1 (ey32_0_1 : HID _) y32_0_2 (ey32_0_2 : HID _) w32_1 ew32_1 pz32_0 pz32_1 pz32_2 => ⟨rfl, ?_⟩))
                    refine v_backMc (c := c) (s := s) H oz_H2cls_54 oz_H2cls_50 Hₚ Oₚ hD32 oz_H2cls_55 (fun D32 N32 F32 A32 H Oₚ eD32 eN32 eF32 eA32 => ?_)
                    have O := OUT_trans O Oₚ
                    -- Row.addSame
                    have cF32 : SF oz_H2clsl_17 F F32 := SF_trans (cFu25) (SF_gluc (ι := oz_H2clsl_16) oz_H2cls_50 hS32 eF32 (by decide +kernel)) (any_sub (lₚ := [(2, 0), (2, 1), (2, 2)]) (by decide +kernel))
                    have mF32 := SFm_of cF32 oz_H2cls_59
                    have cA32 : SA oz_H2clsl_12 A A32 := SA_trans (cA18) (SA_gluc (ι := oz_H2clsl_16) oz_H2cls_50 hA32 eA32 (by decide +kernel)) (any_subA (lₚ := [3]) (by decide +kernel))
                    have mA32 := SAm_of cA32 oz_H2cls_48
                    have cD32 : SD oz_H2clsl_12 D D32 := SD_trans (SD_refl) (SD_gluc (ι := oz_H2clsl_16) oz_H2cls_50 hD32 eD32 (by decide +kernel)) (any_subA (lₚ := [3]) (by decide +kernel))
                    have mD32 := SDm_of cD32 oz_H2cls_48
                    have cN32 : SD oz_H2clsl_12 N N32 := SD_trans (SD_refl) (SD_gluc (ι := oz_H2clsl_16) oz_H2cls_50 hN32 eN32 (by decide +kernel)) (any_subA (lₚ := [3]) (by decide +kernel))
                    have mN32 := SDm_of cN32 oz_H2cls_48
                    have pf32_2_0 : HID (F32 2 0 = (D32 3 : Int)) := (eF32 2 0).trans (pm32_1.trans (congrArg (fun q : Nat => (q : Int)) (eD32 3).symm))
                    have r33 : (0 : Int) ≤ m32_1 ∧ m32_1 ≤ 1000000 := nleE (H.nle 3 (ltn len_V244_oz_H2cls rfl)) (show (N32 3 : Int) = m32_1 from (congrArg (fun q : Nat => (q : Int)) (eN32 3)).trans em32_1)
                    have r34 : (-2147483648 : Int) ≤ y32_0_1 ∧ y32_0_1 ≤ 2147483647 := rngE (show (-2147483648 : Int) ≤ F32 2 1 ∧ F32 2 1 ≤ 2147483647 from H.krg 2 1 (ltn len_V244_oz_H2cls rfl)) (show F32 2 1 = y32_0_1 from ((eF32 2 1).trans ey32_0_1))
                    have r35 : (0 : Int) ≤ y32_0_2 ∧ y32_0_2 ≤ 1 := rngE (show (0 : Int) ≤ F32 2 2 ∧ F32 2 2 ≤ 1 from H.krg 2 2 (ltn len_V244_oz_H2cls rfl)) (show F32 2 2 = y32_0_2 from ((eF32 2 2).trans ey32_0_2))
                    have : ∃ L : List Int, (z17) = (L.length : Int) ∧ LKP ((w32_1)) ((y32_0_1)) 65536 L ∧ (q5 = 1 ∧ L = sc (ub8 ((w1))) (((u0_9 + tc62_0))) (((u0_9 + tc62_0)) + q4) ∨ q5 ≠ 1 ∧ L = List.replicate (q4).toNat ((ub8 ((w1))) (((u0_9 + tc62_0))))) := by first | exact ⟨_, by rw [sc_lenI (by omega)]; omega, LKP_all ((RAP_from (a := 0) (pNONE_3 (by omega)) (by omega) (by omega) (by rw [sc_lenI (by omega)]; omega) (by omega)).2.trans ((sc0_app (by omega)).trans sc_u)) (by omega), .inl ⟨by omega, by rw [hq4]⟩⟩ | exact ⟨_, by rw [List.length_replicate]; omega, LKP_rep (n := q4) (w := (ub8 ((w1))) (((u0_9 + tc62_0)))) ((RAP_from (a := 0) (pz32_2 (by omega)) (by omega) (by omega) (by rw [List.length_replicate]; omega) (by omega)).2.trans ((sc0_app (by omega)).trans (by rw [hvw]; congr 1; omega))) (by omega) (by omega), .inr ⟨by omega, rfl⟩⟩
                    exact hc248  _ _ _ _ _ _ _ _  ((rk_o (rk_o (rk_o (lc109_0) rfl rfl) rfl rfl) rfl rfl).trans (congrArg (fun q : Nat => some (Value.ref q)) (mD32 0 rfl).symm)) (rk_s) H O (SD_trans (SD_refl) (SD_gluc (ι := oz_H2clsl_16) oz_H2cls_50 hD32 eD32 (by decide +kernel)) (any_subA (lₚ := [3]) (by decide +kernel))) (SD_trans (SD_refl) (SD_gluc (ι := oz_H2clsl_16) oz_H2cls_50 hN32 eN32 (by decide +kernel)) (any_subA (lₚ := [3]) (by decide +kernel))) (SF_trans (SF_refl) (SF_gluc (ι := oz_H2clsl_16) oz_H2cls_50 hS32 eF32 (by decide +kernel)) (any_sub (lₚ := [(2, 0), (2, 1), (2, 2)]) (by decide +kernel))) (SA_trans (SA_refl) (SA_gluc (ι := oz_H2clsl_16) oz_H2cls_50 hA32 eA32 (by decide +kernel)) (any_subA (lₚ := [3]) (by decide +kernel))) (pf32_2_0) (m32_1) ((congrArg (fun q : Nat => (q : Int)) (eN32 3)).trans em32_1) (y32_0_1) (((eF32 2 1).trans ey32_0_1)) (w32_1) ((eA32 3).trans ew32_1) (show 0 ≤ (y32_0_1) ∧ (y32_0_1) ≤ (m32_1) ∧ (m32_1) ≤ 65536 from pz32_0) (show ((z17) ≤ (m32_1) ∨ (m32_1) = 65536) by omega) (show ∃ L : List Int, (z17) = (L.length : Int) ∧ LKP ((w32_1)) ((y32_0_1)) 65536 L ∧ (q5 = 1 ∧ L = sc (ub8 ((w1))) (((u0_9 + tc62_0))) (((u0_9 + tc62_0)) + q4) ∨ q5 ≠ 1 ∧ L = List.replicate (q4).toNat ((ub8 ((w1))) (((u0_9 + tc62_0))))) by assumption)
                  · refine Ew_of (pcₚ := 206) (fun _ => x_aload_n rfl (rk_o (rk_o (rk_o (lc109_0) rfl rfl) rfl rfl) rfl rfl)) ?_
                    refine v_g H (o := 0) (v := .ref (D 2)) rfl rfl rfl rfl rfl (vrf ((mFu25 0 4 rfl).trans (pf2))) ?_
                    refine Ew_of (pcₚ := 210) (fun _ => x_aload_n rfl (rk_o (rk_o (rk_o (lc109_0) rfl rfl) rfl rfl) rfl rfl)) ?_
                    refine v_g H (o := 0) (v := .ref (D 1)) rfl rfl rfl rfl rfl (vrf ((mFu25 0 7 rfl).trans (pf1))) ?_
                    refine Ew_of (pcₚ := 214) (fun _ => x_aload_n rfl (rk_o (rk_o (rk_o (lc109_0) rfl rfl) rfl rfl) rfl rfl)) ?_
                    refine v_g H (o := 0) (v := I ((u0_9 + tc62_0))) rfl rfl rfl rfl rfl (congrArg (fun z : Int => I z) (rfl : (updF (updF F18 0 9 ((u0_9 + tc62_0))) 0 19 (z17)) 0 9 = (u0_9 + tc62_0))) ?_
                    refine Ew_of (pcₚ := 219) (fun _ => x_iload rfl (rk_o (rk_o (rk_s) rfl rfl) rfl rfl)) ?_
                    refine v_inv H (o := 2) rfl rfl rfl rfl rfl rfl (by rfl) (C161_Br (D := puc 786946 D) (N := puc 786946 N) (HW_subc H oz_H2cls_56 oz_H2cls_49) (((((((show F18 2 0 = F_c109 2 0 from (eF18 2 0))).trans (hS_c109 2 0 rfl)).trans ((show F16 2 0 = F_c62 2 0 from (eF16 2 0)))).trans (hS_c62 2 0 rfl))).trans (pf3)) (n1) (en1) (n3) (en3) (u2_1) (((((((show F18 2 1 = F_c109 2 1 from (eF18 2 1))).trans (hS_c109 2 1 rfl)).trans ((show F16 2 1 = F_c62 2 1 from (eF16 2 1)))).trans (hS_c62 2 1 rfl)).trans (eu2_1))) (u2_2) (((((((show F18 2 2 = F_c109 2 2 from (eF18 2 2))).trans (hS_c109 2 2 rfl)).trans ((show F16 2 2 = F_c62 2 2 from (eF16 2 2)))).trans (hS_c62 2 2 rfl)).trans (eu2_2))) (w1) ((funext (mA18 1 rfl)).trans (ew1)) (w3) (((show A18 3 = A_c109 3 from (eA18 3))).trans ((funext (hA_c109 3 rfl)).trans (((show A16 3 = A_c62 3 from (eA16 3))).trans ((funext (hA_c62 3 rfl)).trans (ew3))))) (show inr ((u0_9 + tc62_0)) from q_4016 b24 h0 h1 jc62_0) (show inr (z17) from q_4005 hzz) (show 0 ≤ (u2_1) ∧ (u2_1) ≤ (n3) ∧ (n3) ≤ 65536 from h2) (show (z17) < 0 ∨ 0 ≤ ((u0_9 + tc62_0)) ∧ ((u0_9 + tc62_0)) + (z17) ≤ (n1) by omega) (fun σ36 D36ₚ N36ₚ F36ₚ A36ₚ c36 s36 Hₚ Oₚ hD36 hN36 hS36 hA36 (pm36_2 : HID _) m36_2 (em36_2 : HID _) y36_0_1 (ey36_0_1 : HID _) y36_0_2 (ey36_0_2 : HID _) w36_2 ew36_2 pz36_0 pz36_1 pz36_2 pz36_3 => ⟨rfl, ?_⟩))
                    refine v_backMc (c := c) (s := s) H oz_H2cls_56 oz_H2cls_49 Hₚ Oₚ hD36 oz_H2cls_57 (fun D36 N36 F36 A36 H Oₚ eD36 eN36 eF36 eA36 => ?_)
                    have O := OUT_trans O Oₚ
                    -- Row.addPart
                    have cF36 : SF oz_H2clsl_17 F F36 := SF_trans (cFu25) (SF_gluc (ι := oz_H2clsl_15) oz_H2cls_49 hS36 eF36 (by decide +kernel)) (any_sub (lₚ := [(2, 0), (2, 1), (2, 2)]) (by decide +kernel))
                    have mF36 := SFm_of cF36 oz_H2cls_59
                    have cA36 : SA oz_H2clsl_12 A A36 := SA_trans (cA18) (SA_gluc (ι := oz_H2clsl_15) oz_H2cls_49 hA36 eA36 (by decide +kernel)) (any_subA (lₚ := [3]) (by decide +kernel))
                    have mA36 := SAm_of cA36 oz_H2cls_48
                    have cD36 : SD oz_H2clsl_12 D D36 := SD_trans (SD_refl) (SD_gluc (ι := oz_H2clsl_15) oz_H2cls_49 hD36 eD36 (by decide +kernel)) (any_subA (lₚ := [3]) (by decide +kernel))
                    have mD36 := SDm_of cD36 oz_H2cls_48
                    have cN36 : SD oz_H2clsl_12 N N36 := SD_trans (SD_refl) (SD_gluc (ι := oz_H2clsl_15) oz_H2cls_49 hN36 eN36 (by decide +kernel)) (any_subA (lₚ := [3]) (by decide +kernel))
                    have mN36 := SDm_of cN36 oz_H2cls_48
                    have pf36_2_0 : HID (F36 2 0 = (D36 3 : Int)) := (eF36 2 0).trans (pm36_2.trans (congrArg (fun q : Nat => (q : Int)) (eD36 3).symm))
                    have r37 : (0 : Int) ≤ m36_2 ∧ m36_2 ≤ 1000000 := nleE (H.nle 3 (ltn len_V244_oz_H2cls rfl)) (show (N36 3 : Int) = m36_2 from (congrArg (fun q : Nat => (q : Int)) (eN36 3)).trans em36_2)
                    have r38 : (-2147483648 : Int) ≤ y36_0_1 ∧ y36_0_1 ≤ 2147483647 := rngE (show (-2147483648 : Int) ≤ F36 2 1 ∧ F36 2 1 ≤ 2147483647 from H.krg 2 1 (ltn len_V244_oz_H2cls rfl)) (show F36 2 1 = y36_0_1 from ((eF36 2 1).trans ey36_0_1))
                    have r39 : (0 : Int) ≤ y36_0_2 ∧ y36_0_2 ≤ 1 := rngE (show (0 : Int) ≤ F36 2 2 ∧ F36 2 2 ≤ 1 from H.krg 2 2 (ltn len_V244_oz_H2cls rfl)) (show F36 2 2 = y36_0_2 from ((eF36 2 2).trans ey36_0_2))
                    refine Ew_of (pcₚ := 248) (fun _ => x_goto rfl rfl) ?_
                    have : ∃ L : List Int, (z17) = (L.length : Int) ∧ LKP ((w36_2)) ((y36_0_1)) 65536 L ∧ (q5 = 1 ∧ L = sc (ub8 ((w1))) (((u0_9 + tc62_0))) (((u0_9 + tc62_0)) + q4) ∨ q5 ≠ 1 ∧ L = List.replicate (q4).toNat ((ub8 ((w1))) (((u0_9 + tc62_0))))) := by first | exact ⟨_, by rw [sc_lenI (by omega)]; omega, LKP_all ((RAP_from (a := 0) (pz36_3 (by omega)) (by omega) (by omega) (by rw [sc_lenI (by omega)]; omega) (by omega)).2.trans ((sc0_app (by omega)).trans sc_u)) (by omega), .inl ⟨by omega, by rw [hq4]⟩⟩ | exact ⟨_, by rw [List.length_replicate]; omega, LKP_rep (n := q4) (w := (ub8 ((w1))) (((u0_9 + tc62_0)))) ((RAP_from (a := 0) (pz32_2 (by omega)) (by omega) (by omega) (by rw [List.length_replicate]; omega) (by omega)).2.trans ((sc0_app (by omega)).trans (by rw [hvw]; congr 1; omega))) (by omega) (by omega), .inr ⟨by omega, rfl⟩⟩
                    exact hc248  _ _ _ _ _ _ _ _  ((rk_o (rk_o (rk_o (lc109_0) rfl rfl) rfl rfl) rfl rfl).trans (congrArg (fun q : Nat => some (Value.ref q)) (mD36 0 rfl).symm)) (rk_s) H O (SD_trans (SD_refl) (SD_gluc (ι := oz_H2clsl_15) oz_H2cls_49 hD36 eD36 (by decide +kernel)) (any_subA (lₚ := [3]) (by decide +kernel))) (SD_trans (SD_refl) (SD_gluc (ι := oz_H2clsl_15) oz_H2cls_49 hN36 eN36 (by decide +kernel)) (any_subA (lₚ := [3]) (by decide +kernel))) (SF_trans (SF_refl) (SF_gluc (ι := oz_H2clsl_15) oz_H2cls_49 hS36 eF36 (by decide +kernel)) (any_sub (lₚ := [(2, 0), (2, 1), (2, 2)]) (by decide +kernel))) (SA_trans (SA_refl) (SA_gluc (ι := oz_H2clsl_15) oz_H2cls_49 hA36 eA36 (by decide +kernel)) (any_subA (lₚ := [3]) (by decide +kernel))) (pf36_2_0) (m36_2) ((congrArg (fun q : Nat => (q : Int)) (eN36 3)).trans em36_2) (y36_0_1) (((eF36 2 1).trans ey36_0_1)) (w36_2) ((eA36 3).trans ew36_2) (show 0 ≤ (y36_0_1) ∧ (y36_0_1) ≤ (m36_2) ∧ (m36_2) ≤ 65536 from pz36_0) (show ((z17) ≤ (m36_2) ∨ (m36_2) = 65536) by omega) (show ∃ L : List Int, (z17) = (L.length : Int) ∧ LKP ((w36_2)) ((y36_0_1)) 65536 L ∧ (q5 = 1 ∧ L = sc (ub8 ((w1))) (((u0_9 + tc62_0))) (((u0_9 + tc62_0)) + q4) ∨ q5 ≠ 1 ∧ L = List.replicate (q4).toNat ((ub8 ((w1))) (((u0_9 + tc62_0))))) by assumption)
                · refine Ew_of (pcₚ := 184) (fun _ => x_aload_n rfl (rk_o (rk_o (rk_o (lc109_0) rfl rfl) rfl rfl) rfl rfl)) ?_
                  refine Ew_of (pcₚ := 186) (fun _ => x_bipush (z := 10) rfl (by decide)) ?_
                  refine Ew_of (pcₚ := 187) (fun _ => x_aload_n rfl (rk_o (rk_o (rk_o (lc109_0) rfl rfl) rfl rfl) rfl rfl)) ?_
                  refine v_g H (o := 0) (v := I (u0_18)) rfl rfl rfl rfl rfl (congrArg (fun z : Int => I z) (((mFu20 0 18 rfl).trans (eu0_18)) : (updF F18 0 9 ((u0_9 + tc62_0))) 0 18 = u0_18)) ?_
                  refine v_inv H (o := 0) rfl rfl rfl rfl rfl rfl (by rfl) (C232 (D := puc 0 D) (N := puc 0 N) (HW_subc H oz_H2cls_58 oz_H2cls_12) (u0_21) (((((((show F18 0 21 = F_c109 0 21 from (eF18 0 21).trans (hS18 0 21 rfl))).trans (hS_c109 0 21 rfl)).trans ((show F16 0 21 = F_c62 0 21 from (eF16 0 21)))).trans (hS_c62 0 21 rfl)).trans (eu0_21))) (show inr (10) from q_746) (show inr (u0_18) from q_18 r4) (fun z40 σ40 F40ₚ A40ₚ Hₚ Oₚ hS40 hA40 y40_0_21 (ey40_0_21 : HID _) pz40_0 pz40_1 pz40_2 => ⟨rfl, ?_⟩))
                  refine v_backc (c := c) (s := s) H oz_H2cls_58 oz_H2cls_12 Hₚ Oₚ (fun F40 A40 H Oₚ eF40 eA40 => ?_)
                  have O := OUT_trans O Oₚ
                  -- Unpacker.fail
                  have cF40 : SF oz_H2clsl_17 F F40 := SF_trans (cFu20) (SF_gluc (ι := oz_H2clsl_6) oz_H2cls_12 hS40 eF40 (by decide +kernel)) (any_sub (lₚ := [(0, 21)]) (by decide +kernel))
                  have mF40 := SFm_of cF40 oz_H2cls_59
                  have cA40 : SA oz_H2clsl_12 A A40 := SA_trans (cA18) (SA_gluc (ι := oz_H2clsl_6) oz_H2cls_12 hA40 eA40 (by decide +kernel)) (any_subA (lₚ := []) (by decide +kernel))
                  have mA40 := SAm_of cA40 oz_H2cls_48
                  have r41 : (-2147483648 : Int) ≤ y40_0_21 ∧ y40_0_21 ≤ 2147483647 := rngE (show (-2147483648 : Int) ≤ F40 0 21 ∧ F40 0 21 ≤ 2147483647 from H.krg 0 21 (ltn len_V244_oz_H2cls rfl)) (show F40 0 21 = y40_0_21 from ((eF40 0 21).trans ey40_0_21))
                  have : PLA (ub8 ((w1))) ((u0_9)) ((u0_18)) (moF ((u0_15))) ((z40)) ((y40_0_21)) (((u0_9 + tc62_0))) ((u0_19)) ((u2_1)) ((w3)) := PLA_f (fun T G => (hLT T G).trans (LT0_10 (fo := (1)) (by omega) (by omega) (by omega) (by omega))) (by decide) (by omega) (by omega)
                  exact w_ireturn rfl (k (z40) _ _ _ _ _ _ _ H O (SD_refl) (SD_refl) (cF40) (cA40) ((((((((show F40 2 0 = (updF F18 0 9 ((u0_9 + tc62_0))) 2 0 from (eF40 2 0))).trans ((show F18 2 0 = F_c109 2 0 from (eF18 2 0)))).trans (hS_c109 2 0 rfl)).trans ((show F16 2 0 = F_c62 2 0 from (eF16 2 0)))).trans (hS_c62 2 0 rfl))).trans (pf3)) (n3) (en3) ((u0_9 + tc62_0)) (((show F40 0 9 = (updF F18 0 9 ((u0_9 + tc62_0))) 0 9 from (eF40 0 9).trans (hS40 0 9 rfl)))) (u0_19) ((((((((show F40 0 19 = (updF F18 0 9 ((u0_9 + tc62_0))) 0 19 from (eF40 0 19).trans (hS40 0 19 rfl))).trans ((show F18 0 19 = F_c109 0 19 from (eF18 0 19).trans (hS18 0 19 rfl)))).trans (hS_c109 0 19 rfl)).trans ((show F16 0 19 = F_c62 0 19 from (eF16 0 19)))).trans (hS_c62 0 19 rfl)).trans (eu0_19))) (y40_0_21) (((eF40 0 21).trans ey40_0_21)) (u2_1) ((((((((show F40 2 1 = (updF F18 0 9 ((u0_9 + tc62_0))) 2 1 from (eF40 2 1))).trans ((show F18 2 1 = F_c109 2 1 from (eF18 2 1)))).trans (hS_c109 2 1 rfl)).trans ((show F16 2 1 = F_c62 2 1 from (eF16 2 1)))).trans (hS_c62 2 1 rfl)).trans (eu2_1))) (w3) (((show A40 3 = A18 3 from (eA40 3))).trans (((show A18 3 = A_c109 3 from (eA18 3))).trans ((funext (hA_c109 3 rfl)).trans (((show A16 3 = A_c62 3 from (eA16 3))).trans ((funext (hA_c62 3 rfl)).trans (ew3)))))) (show inr (z40) from pz40_0) (show 0 ≤ (z40) ∧ (z40) ≤ 17 from q_4022 pz40_1) (show 0 ≤ ((u0_9 + tc62_0)) ∧ (u0_9) ≤ ((u0_9 + tc62_0)) ∧ ((u0_9 + tc62_0)) ≤ (u0_8) from q_4021 b11 b15 b24 h0 h1) (show ((u0_9 + tc62_0)) ≤ (u0_18) from q_4020 b15) (show 0 ≤ (u2_1) ∧ (u2_1) ≤ (n3) ∧ (n3) ≤ 65536 from h2) (show (z40) ≠ 0 ∨ 0 ≤ (u0_19) ∧ (u0_19) ≤ 131072 ∧ ((u0_19) ≤ (n3) ∨ (n3) = 65536) from q_4019 pz40_1) (show PLA (ub8 ((w1))) ((u0_9)) ((u0_18)) (moF ((u0_15))) ((z40)) ((y40_0_21)) (((u0_9 + tc62_0))) ((u0_19)) ((u2_1)) ((w3)) by assumption) (show (z40) ≠ 0 ∨ (u0_19) ≤ moF ((u0_15)) from q_4018 pz40_1) (show (z40) ≠ 0 ∨ (y40_0_21) = (u0_21) from q_4017 pz40_1))
              · refine Ew_of (pcₚ := 163) (fun _ => x_iload rfl (rk_o (rk_s) rfl rfl)) ?_
                refine Ew_of (pcₚ := 167) (fun _ => x_goto rfl rfl) ?_
                refine Ew_of (pcₚ := 169) (fun _ => x_istore rfl) ?_
                refine Ew_of (pcₚ := 170) (fun _ => x_aload_n rfl (rk_o (rk_o (rk_o (lc109_0) rfl rfl) rfl rfl) rfl rfl)) ?_
                refine v_g H (o := 0) (v := I (u0_18)) rfl rfl rfl rfl rfl (congrArg (fun z : Int => I z) (((mFu20 0 18 rfl).trans (eu0_18)) : (updF F18 0 9 ((u0_9 + tc62_0))) 0 18 = u0_18)) ?_
                refine Ew_of (pcₚ := 174) (fun _ => x_aload_n rfl (rk_o (rk_o (rk_o (lc109_0) rfl rfl) rfl rfl) rfl rfl)) ?_
                refine v_g H (o := 0) (v := I ((u0_9 + tc62_0))) rfl rfl rfl rfl rfl (congrArg (fun z : Int => I z) (rfl : (updF F18 0 9 ((u0_9 + tc62_0))) 0 9 = (u0_9 + tc62_0))) ?_
                refine w_isub rfl ?_
                refine Ew_of (pcₚ := 180) (fun _ => x_iload rfl rk_s) ?_
                refine w_icmpge (t := 194) rfl rfl (show inr ((u0_18 - (u0_9 + tc62_0))) from q_4007 b15 h0 h1 jc62_1) (show inr (z17) from q_4005 hzz) (fun b42 => ?_) (fun b42 => ?_)
                · refine Ew_of (pcₚ := 195) (fun _ => x_aload_n rfl (rk_o (rk_o (rk_o (lc109_0) rfl rfl) rfl rfl) rfl rfl)) ?_
                  refine Ew_of (pcₚ := 197) (fun _ => x_iload rfl (rk_o (rk_o (rk_s) rfl rfl) rfl rfl)) ?_
                  obtain ⟨q4, hq4⟩ : ∃ q : Int, q = (z17) := ⟨_, rfl⟩
                  have hq6 : q5 = 1 ∧ (z17) = q4 ∨ q5 ≠ 1 ∧ (z17) = 1 := by omega
                  refine v_p H (o := 0) (z := z17) (v := I (z17)) rfl rfl rfl rfl rfl rfl rfl rfl (show (-2147483648 : Int) ≤ z17 ∧ z17 ≤ 2147483647 from q_4008 hzz) (fun σ H Oₚ => ?_)
                  have O := OUT_trans O Oₚ
                  have cFu43 : SF oz_H2clsl_17 F (updF (updF F18 0 9 ((u0_9 + tc62_0))) 0 19 (z17)) := SF_upd (cFu20) rfl
                  have mFu43 := SFm_of cFu43 oz_H2cls_59
                  have hc248 : ∀ (ls : rO) (σ : rS) (D_c248 N_c248 : Nat → Nat) (c_c248 s_c248 : Nat) (F_c248 : hF) (A_c248 : hA) , rlook ls 0 = some (.ref (D_c248 0)) → rlook ls 6 = some (I (z17)) → HW V244 σ D_c248 N_c248 F_c248 A_c248 → OUT (V244).length D N σE c s D_c248 N_c248 σ c_c248 s_c248 → SD [3] D D_c248 → SD [3] N N_c248 → SF [(2, 0), (2, 1), (2, 2)] (updF (updF F18 0 9 ((u0_9 + tc62_0))) 0 19 (z17)) F_c248 → SA [3] A18 A_c248 → F_c248 2 0 = (D_c248 3 : Int) → ∀ mc248_3 : Int, (N_c248 3 : Int) = mc248_3 → ∀ yc248_2_1 : Int, F_c248 2 1 = yc248_2_1 → ∀ wc248_3 : Int → Int, A_c248 3 = wc248_3 → (0 ≤ (yc248_2_1) ∧ (yc248_2_1) ≤ (mc248_3) ∧ (mc248_3) ≤ 65536) → (((z17) ≤ (mc248_3) ∨ (mc248_3) = 65536)) → (∃ L : List Int, (z17) = (L.length : Int) ∧ LKP ((wc248_3)) ((yc248_2_1)) 65536 L ∧ (q5 = 1 ∧ L = sc (ub8 ((w1))) (((u0_9 + tc62_0))) (((u0_9 + tc62_0)) + q4) ∨ q5 ≠ 1 ∧ L = List.replicate (q4).toNat ((ub8 ((w1))) (((u0_9 + tc62_0)))))) → Ew 244 (d + 3) 248 ls [] σ c_c248 s_c248 Q := by
                   as_aux_lemma =>
                    intro  ls σ D_c248 N_c248 c_c248 s_c248 F_c248 A_c248  lc248_0 lc248_6 H O hD_c248 hN_c248 hS_c248 hA_c248 pmc248_3 mc248_3 emc248_3 yc248_2_1 eyc248_2_1 wc248_3 ewc248_3 jc248_0 jc248_1 jc248_2
                    have cF_c248 : SF oz_H2clsl_17 F F_c248 := SF_trans (cFu43) hS_c248 (any_sub (by decide +kernel))
                    have mF_c248 := SFm_of cF_c248 oz_H2cls_59
                    have cA_c248 : SA oz_H2clsl_12 A A_c248 := SA_trans (cA18) hA_c248 (any_subA (by decide +kernel))
                    have mA_c248 := SAm_of cA_c248 oz_H2cls_48
                    have cD_c248 : SD oz_H2clsl_12 D D_c248 := SD_trans (SD_refl) hD_c248 (any_subA (by decide +kernel))
                    have mD_c248 := SDm_of cD_c248 oz_H2cls_48
                    have cN_c248 : SD oz_H2clsl_12 N N_c248 := SD_trans (SD_refl) hN_c248 (any_subA (by decide +kernel))
                    have mN_c248 := SDm_of cN_c248 oz_H2cls_48
                    replace pmc248_3 := HIDm pmc248_3
                    replace emc248_3 := HIDm emc248_3
                    replace eyc248_2_1 := HIDm eyc248_2_1
                    have r44 : (0 : Int) ≤ mc248_3 ∧ mc248_3 ≤ 1000000 := nleE (H.nle 3 (ltn len_V244_oz_H2cls rfl)) (show (N_c248 3 : Int) = mc248_3 from emc248_3)
                    have r45 : (-2147483648 : Int) ≤ yc248_2_1 ∧ yc248_2_1 ≤ 2147483647 := rngE (show (-2147483648 : Int) ≤ F_c248 2 1 ∧ F_c248 2 1 ≤ 2147483647 from H.krg 2 1 (ltn len_V244_oz_H2cls rfl)) (show F_c248 2 1 = yc248_2_1 from (eyc248_2_1))
                    have k248 : ∃ L : List Int, (z17) = (L.length : Int) ∧ LKP ((wc248_3)) ((yc248_2_1)) 65536 L ∧ (q5 = 1 ∧ L = sc (ub8 ((w1))) (((u0_9 + tc62_0))) (((u0_9 + tc62_0)) + q4) ∨ q5 ≠ 1 ∧ L = List.replicate (q4).toNat ((ub8 ((w1))) (((u0_9 + tc62_0))))) := by assumption
                    refine Ew_of (pcₚ := 249) (fun _ => x_aload_n rfl lc248_0) ?_
                    refine Ew_of (pcₚ := 250) (fun _ => x_dup rfl rfl) ?_
                    refine v_g H (o := 0) (v := I ((u0_9 + tc62_0))) rfl rfl rfl rfl rfl (congrArg (fun z : Int => I z) ((hS_c248 0 9 rfl) : F_c248 0 9 = (u0_9 + tc62_0))) ?_
                    refine Ew_of (pcₚ := 255) (fun _ => x_iload rfl lc248_6) ?_
                    refine w_iadd rfl ?_
                    refine v_p H (o := 0) (z := ((u0_9 + tc62_0) + z17)) (v := I (((u0_9 + tc62_0) + z17))) rfl rfl rfl rfl rfl rfl rfl rfl (show (-2147483648 : Int) ≤ ((u0_9 + tc62_0) + z17) ∧ ((u0_9 + tc62_0) + z17) ≤ 2147483647 from q_4023 b42 h0 h1 hzz jc62_0) (fun σ H Oₚ => ?_)
                    have O := OUT_trans O Oₚ
                    have cFu46 : SF oz_H2clsl_17 F (updF F_c248 0 9 (((u0_9 + tc62_0) + z17))) := SF_upd (cF_c248) rfl
                    have mFu46 := SFm_of cFu46 oz_H2cls_59
                    refine Ew_of (pcₚ := 260) (fun _ => x_iconst rfl) ?_
                    have : PLA (ub8 ((w1))) ((u0_9)) ((u0_18)) (moF ((u0_15))) ((0)) ((u0_21)) ((((u0_9 + tc62_0) + z17))) ((z17)) ((yc248_2_1)) ((wc248_3)) := by obtain ⟨L, hL1, hL2, hL3⟩ := k248; exact .inr ⟨by omega, L, hL1, hL2, fun T G => (hLT T G).trans (LT0_y (fo := (z17)) (by omega) (by omega) (by rcases hL3 with ⟨a, b⟩ | ⟨a, b⟩; (exact .inl ⟨by omega, by omega, by rw [b]; congr 1 <;> omega⟩); (exact .inr ⟨by omega, by omega, by rw [b, show q4 = qn by omega]; congr 2; omega⟩)) (by omega) (by omega))⟩
                    exact w_ireturn rfl (k (0) _ _ _ _ _ _ _ H O (cD_c248) (cN_c248) (cFu46) (cA_c248) (pmc248_3) (mc248_3) (emc248_3) (((u0_9 + tc62_0) + z17)) (rfl) (z17) ((hS_c248 0 19 rfl)) (u0_21) (((((((hS_c248 0 21 rfl).trans ((show F18 0 21 = F_c109 0 21 from (eF18 0 21).trans (hS18 0 21 rfl)))).trans (hS_c109 0 21 rfl)).trans ((show F16 0 21 = F_c62 0 21 from (eF16 0 21)))).trans (hS_c62 0 21 rfl)).trans (eu0_21))) (yc248_2_1) ((eyc248_2_1)) (wc248_3) (ewc248_3) (show inr (0) from q_2) (show 0 ≤ (0) ∧ (0) ≤ 17 by first | exact q_3949 | omega) (show 0 ≤ (((u0_9 + tc62_0) + z17)) ∧ (u0_9) ≤ (((u0_9 + tc62_0) + z17)) ∧ (((u0_9 + tc62_0) + z17)) ≤ (u0_8) from q_4025 b42 h0 h1 hzz jc62_1) (show (((u0_9 + tc62_0) + z17)) ≤ (u0_18) from q_4024 b42) (show 0 ≤ (yc248_2_1) ∧ (yc248_2_1) ≤ (mc248_3) ∧ (mc248_3) ≤ 65536 from jc248_0) (show (0) ≠ 0 ∨ 0 ≤ (z17) ∧ (z17) ≤ 131072 ∧ ((z17) ≤ (mc248_3) ∨ (mc248_3) = 65536) by first | exact q_4011 b19 hzz jc248_1 pz18_1 | omega) (show PLA (ub8 ((w1))) ((u0_9)) ((u0_18)) (moF ((u0_15))) ((0)) ((u0_21)) ((((u0_9 + tc62_0) + z17))) ((z17)) ((yc248_2_1)) ((wc248_3)) by assumption) (show (0) ≠ 0 ∨ (z17) ≤ moF ((u0_15)) by first | exact q_4010 b19 pz18_2 | omega) (show (0) ≠ 0 ∨ (u0_21) = (u0_21) by first | exact q_3137 | omega))
                  refine Ew_of (pcₚ := 202) (fun _ => x_iload rfl (rk_o (rk_s) rfl rfl)) ?_
                  refine w_ifeq (t := 225) rfl rfl (show inr (0) from q_2) (fun b47 => ?_) (fun b47 => ?_)
                  · refine Ew_of (pcₚ := 226) (fun _ => x_aload_n rfl (rk_o (rk_o (rk_o (lc109_0) rfl rfl) rfl rfl) rfl rfl)) ?_
                    refine v_g H (o := 0) (v := .ref (D 2)) rfl rfl rfl rfl rfl (vrf ((mFu43 0 4 rfl).trans (pf2))) ?_
                    refine Ew_of (pcₚ := 230) (fun _ => x_aload_n rfl (rk_o (rk_o (rk_o (lc109_0) rfl rfl) rfl rfl) rfl rfl)) ?_
                    refine v_g H (o := 0) (v := .ref (D 1)) rfl rfl rfl rfl rfl (vrf ((mFu43 0 7 rfl).trans (pf1))) ?_
                    refine Ew_of (pcₚ := 234) (fun _ => x_aload_n rfl (rk_o (rk_o (rk_o (lc109_0) rfl rfl) rfl rfl) rfl rfl)) ?_
                    refine v_g H (o := 0) (v := I ((u0_9 + tc62_0))) rfl rfl rfl rfl rfl (congrArg (fun z : Int => I z) (rfl : (updF (updF F18 0 9 ((u0_9 + tc62_0))) 0 19 (z17)) 0 9 = (u0_9 + tc62_0))) ?_
                    refine v_lB H (o := 1) rfl rfl rfl rfl (n := n1) (en1) (show 0 ≤ (u0_9 + tc62_0) ∧ (u0_9 + tc62_0) < n1 by omega) (fun v48 ev48 qv48 => ?_)
                    have ev48 : (w1) ((u0_9 + tc62_0)) = v48 := (congrFun ((funext (mA18 1 rfl)).trans (ew1)) ((u0_9 + tc62_0))).symm.trans ev48
                    have hvs := ev48
                    have hvw : (ub8 ((w1))) (((u0_9 + tc62_0))) = u8 ((v48)) := by show u8 _ = _; rw [hvs]
                    refine Ew_of (pcₚ := 240) (fun _ => x_iload rfl (rk_o (rk_o (rk_s) rfl rfl) rfl rfl)) ?_
                    refine Ew_of (pcₚ := 242) (fun _ => x_ldc (z := 65536) rfl (by decide)) ?_
                    refine v_min rfl rfl (show inr (z17) from q_4005 hzz) (show inr (65536) from q_52) (fun z49 gz49 => ?_)
                    have hmin : (z49) = (z17) ∧ (z17) ≤ 65536 ∨ (z49) = 65536 ∧ 65536 ≤ (z17) := by omega
                    refine v_inv H (o := 2) rfl rfl rfl rfl rfl rfl (by rfl) (C162 (D := puc 1538 D) (N := puc 1538 N) (HW_subc H oz_H2cls_54 oz_H2cls_50) (((((((show F18 2 0 = F_c109 2 0 from (eF18 2 0))).trans (hS_c109 2 0 rfl)).trans ((show F16 2 0 = F_c62 2 0 from (eF16 2 0)))).trans (hS_c62 2 0 rfl))).trans (pf3)) (n3) (en3) (u2_1) (((((((show F18 2 1 = F_c109 2 1 from (eF18 2 1))).trans (hS_c109 2 1 rfl)).trans ((show F16 2 1 = F_c62 2 1 from (eF16 2 1)))).trans (hS_c62 2 1 rfl)).trans (eu2_1))) (u2_2) (((((((show F18 2 2 = F_c109 2 2 from (eF18 2 2))).trans (hS_c109 2 2 rfl)).trans ((show F16 2 2 = F_c62 2 2 from (eF16 2 2)))).trans (hS_c62 2 2 rfl)).trans (eu2_2))) (w3) (((show A18 3 = A_c109 3 from (eA18 3))).trans ((funext (hA_c109 3 rfl)).trans (((show A16 3 = A_c62 3 from (eA16 3))).trans ((funext (hA_c62 3 rfl)).trans (ew3))))) (show inr (v48) from q_97 qv48) (show inr (z49) from q_4015 hmin hzz) (show 0 ≤ (u2_1) ∧ (u2_1) ≤ (n3) ∧ (n3) ≤ 65536 from h2) (fun σ50 D50ₚ N50ₚ F50ₚ A50ₚ c50 s50 Hₚ Oₚ hD50 hN50 hS50 hA50 (pm50_1 : HID _) m50_1 (em50_1 : HID _) y50_0_1 (ey50_0_1 : HID _) y50_0_2 (ey50_0_2 : HID _) w50_1 ew50_1 pz50_0 pz50_1 pz50_2 => ⟨rfl, ?_⟩))
                    refine v_backMc (c := c) (s := s) H oz_H2cls_54 oz_H2cls_50 Hₚ Oₚ hD50 oz_H2cls_55 (fun D50 N50 F50 A50 H Oₚ eD50 eN50 eF50 eA50 => ?_)
                    have O := OUT_trans O Oₚ
                    -- Row.addSame
                    have cF50 : SF oz_H2clsl_17 F F50 := SF_trans (cFu43) (SF_gluc (ι := oz_H2clsl_16) oz_H2cls_50 hS50 eF50 (by decide +kernel)) (any_sub (lₚ := [(2, 0), (2, 1), (2, 2)]) (by decide +kernel))
                    have mF50 := SFm_of cF50 oz_H2cls_59
                    have cA50 : SA oz_H2clsl_12 A A50 := SA_trans (cA18) (SA_gluc (ι := oz_H2clsl_16) oz_H2cls_50 hA50 eA50 (by decide +kernel)) (any_subA (lₚ := [3]) (by decide +kernel))
                    have mA50 := SAm_of cA50 oz_H2cls_48
                    have cD50 : SD oz_H2clsl_12 D D50 := SD_trans (SD_refl) (SD_gluc (ι := oz_H2clsl_16) oz_H2cls_50 hD50 eD50 (by decide +kernel)) (any_subA (lₚ := [3]) (by decide +kernel))
                    have mD50 := SDm_of cD50 oz_H2cls_48
                    have cN50 : SD oz_H2clsl_12 N N50 := SD_trans (SD_refl) (SD_gluc (ι := oz_H2clsl_16) oz_H2cls_50 hN50 eN50 (by decide +kernel)) (any_subA (lₚ := [3]) (by decide +kernel))
                    have mN50 := SDm_of cN50 oz_H2cls_48
                    have pf50_2_0 : HID (F50 2 0 = (D50 3 : Int)) := (eF50 2 0).trans (pm50_1.trans (congrArg (fun q : Nat => (q : Int)) (eD50 3).symm))
                    have r51 : (0 : Int) ≤ m50_1 ∧ m50_1 ≤ 1000000 := nleE (H.nle 3 (ltn len_V244_oz_H2cls rfl)) (show (N50 3 : Int) = m50_1 from (congrArg (fun q : Nat => (q : Int)) (eN50 3)).trans em50_1)
                    have r52 : (-2147483648 : Int) ≤ y50_0_1 ∧ y50_0_1 ≤ 2147483647 := rngE (show (-2147483648 : Int) ≤ F50 2 1 ∧ F50 2 1 ≤ 2147483647 from H.krg 2 1 (ltn len_V244_oz_H2cls rfl)) (show F50 2 1 = y50_0_1 from ((eF50 2 1).trans ey50_0_1))
                    have r53 : (0 : Int) ≤ y50_0_2 ∧ y50_0_2 ≤ 1 := rngE (show (0 : Int) ≤ F50 2 2 ∧ F50 2 2 ≤ 1 from H.krg 2 2 (ltn len_V244_oz_H2cls rfl)) (show F50 2 2 = y50_0_2 from ((eF50 2 2).trans ey50_0_2))
                    have : ∃ L : List Int, (z17) = (L.length : Int) ∧ LKP ((w50_1)) ((y50_0_1)) 65536 L ∧ (q5 = 1 ∧ L = sc (ub8 ((w1))) (((u0_9 + tc62_0))) (((u0_9 + tc62_0)) + q4) ∨ q5 ≠ 1 ∧ L = List.replicate (q4).toNat ((ub8 ((w1))) (((u0_9 + tc62_0))))) := by first | exact ⟨_, by rw [sc_lenI (by omega)]; omega, LKP_all ((RAP_from (a := 0) (pz36_3 (by omega)) (by omega) (by omega) (by rw [sc_lenI (by omega)]; omega) (by omega)).2.trans ((sc0_app (by omega)).trans sc_u)) (by omega), .inl ⟨by omega, by rw [hq4]⟩⟩ | exact ⟨_, by rw [List.length_replicate]; omega, LKP_rep (n := q4) (w := (ub8 ((w1))) (((u0_9 + tc62_0)))) ((RAP_from (a := 0) (pz50_2 (by omega)) (by omega) (by omega) (by rw [List.length_replicate]; omega) (by omega)).2.trans ((sc0_app (by omega)).trans (by rw [hvw]; congr 1; omega))) (by omega) (by omega), .inr ⟨by omega, rfl⟩⟩
                    exact hc248  _ _ _ _ _ _ _ _  ((rk_o (rk_o (rk_o (lc109_0) rfl rfl) rfl rfl) rfl rfl).trans (congrArg (fun q : Nat => some (Value.ref q)) (mD50 0 rfl).symm)) (rk_s) H O (SD_trans (SD_refl) (SD_gluc (ι := oz_H2clsl_16) oz_H2cls_50 hD50 eD50 (by decide +kernel)) (any_subA (lₚ := [3]) (by decide +kernel))) (SD_trans (SD_refl) (SD_gluc (ι := oz_H2clsl_16) oz_H2cls_50 hN50 eN50 (by decide +kernel)) (any_subA (lₚ := [3]) (by decide +kernel))) (SF_trans (SF_refl) (SF_gluc (ι := oz_H2clsl_16) oz_H2cls_50 hS50 eF50 (by decide +kernel)) (any_sub (lₚ := [(2, 0), (2, 1), (2, 2)]) (by decide +kernel))) (SA_trans (SA_refl) (SA_gluc (ι := oz_H2clsl_16) oz_H2cls_50 hA50 eA50 (by decide +kernel)) (any_subA (lₚ := [3]) (by decide +kernel))) (pf50_2_0) (m50_1) ((congrArg (fun q : Nat => (q : Int)) (eN50 3)).trans em50_1) (y50_0_1) (((eF50 2 1).trans ey50_0_1)) (w50_1) ((eA50 3).trans ew50_1) (show 0 ≤ (y50_0_1) ∧ (y50_0_1) ≤ (m50_1) ∧ (m50_1) ≤ 65536 from pz50_0) (show ((z17) ≤ (m50_1) ∨ (m50_1) = 65536) by omega) (show ∃ L : List Int, (z17) = (L.length : Int) ∧ LKP ((w50_1)) ((y50_0_1)) 65536 L ∧ (q5 = 1 ∧ L = sc (ub8 ((w1))) (((u0_9 + tc62_0))) (((u0_9 + tc62_0)) + q4) ∨ q5 ≠ 1 ∧ L = List.replicate (q4).toNat ((ub8 ((w1))) (((u0_9 + tc62_0))))) by assumption)
                  · refine Ew_of (pcₚ := 206) (fun _ => x_aload_n rfl (rk_o (rk_o (rk_o (lc109_0) rfl rfl) rfl rfl) rfl rfl)) ?_
                    refine v_g H (o := 0) (v := .ref (D 2)) rfl rfl rfl rfl rfl (vrf ((mFu43 0 4 rfl).trans (pf2))) ?_
                    refine Ew_of (pcₚ := 210) (fun _ => x_aload_n rfl (rk_o (rk_o (rk_o (lc109_0) rfl rfl) rfl rfl) rfl rfl)) ?_
                    refine v_g H (o := 0) (v := .ref (D 1)) rfl rfl rfl rfl rfl (vrf ((mFu43 0 7 rfl).trans (pf1))) ?_
                    refine Ew_of (pcₚ := 214) (fun _ => x_aload_n rfl (rk_o (rk_o (rk_o (lc109_0) rfl rfl) rfl rfl) rfl rfl)) ?_
                    refine v_g H (o := 0) (v := I ((u0_9 + tc62_0))) rfl rfl rfl rfl rfl (congrArg (fun z : Int => I z) (rfl : (updF (updF F18 0 9 ((u0_9 + tc62_0))) 0 19 (z17)) 0 9 = (u0_9 + tc62_0))) ?_
                    refine Ew_of (pcₚ := 219) (fun _ => x_iload rfl (rk_o (rk_o (rk_s) rfl rfl) rfl rfl)) ?_
                    refine v_inv H (o := 2) rfl rfl rfl rfl rfl rfl (by rfl) (C161_Br (D := puc 786946 D) (N := puc 786946 N) (HW_subc H oz_H2cls_56 oz_H2cls_49) (((((((show F18 2 0 = F_c109 2 0 from (eF18 2 0))).trans (hS_c109 2 0 rfl)).trans ((show F16 2 0 = F_c62 2 0 from (eF16 2 0)))).trans (hS_c62 2 0 rfl))).trans (pf3)) (n1) (en1) (n3) (en3) (u2_1) (((((((show F18 2 1 = F_c109 2 1 from (eF18 2 1))).trans (hS_c109 2 1 rfl)).trans ((show F16 2 1 = F_c62 2 1 from (eF16 2 1)))).trans (hS_c62 2 1 rfl)).trans (eu2_1))) (u2_2) (((((((show F18 2 2 = F_c109 2 2 from (eF18 2 2))).trans (hS_c109 2 2 rfl)).trans ((show F16 2 2 = F_c62 2 2 from (eF16 2 2)))).trans (hS_c62 2 2 rfl)).trans (eu2_2))) (w1) ((funext (mA18 1 rfl)).trans (ew1)) (w3) (((show A18 3 = A_c109 3 from (eA18 3))).trans ((funext (hA_c109 3 rfl)).trans (((show A16 3 = A_c62 3 from (eA16 3))).trans ((funext (hA_c62 3 rfl)).trans (ew3))))) (show inr ((u0_9 + tc62_0)) from q_4027 b15 h0 h1 jc62_0) (show inr (z17) from q_4005 hzz) (show 0 ≤ (u2_1) ∧ (u2_1) ≤ (n3) ∧ (n3) ≤ 65536 from h2) (show (z17) < 0 ∨ 0 ≤ ((u0_9 + tc62_0)) ∧ ((u0_9 + tc62_0)) + (z17) ≤ (n1) from q_4026 b42 h0 h1 jc62_1) (fun σ54 D54ₚ N54ₚ F54ₚ A54ₚ c54 s54 Hₚ Oₚ hD54 hN54 hS54 hA54 (pm54_2 : HID _) m54_2 (em54_2 : HID _) y54_0_1 (ey54_0_1 : HID _) y54_0_2 (ey54_0_2 : HID _) w54_2 ew54_2 pz54_0 pz54_1 pz54_2 pz54_3 => ⟨rfl, ?_⟩))
                    refine v_backMc (c := c) (s := s) H oz_H2cls_56 oz_H2cls_49 Hₚ Oₚ hD54 oz_H2cls_57 (fun D54 N54 F54 A54 H Oₚ eD54 eN54 eF54 eA54 => ?_)
                    have O := OUT_trans O Oₚ
                    -- Row.addPart
                    have cF54 : SF oz_H2clsl_17 F F54 := SF_trans (cFu43) (SF_gluc (ι := oz_H2clsl_15) oz_H2cls_49 hS54 eF54 (by decide +kernel)) (any_sub (lₚ := [(2, 0), (2, 1), (2, 2)]) (by decide +kernel))
                    have mF54 := SFm_of cF54 oz_H2cls_59
                    have cA54 : SA oz_H2clsl_12 A A54 := SA_trans (cA18) (SA_gluc (ι := oz_H2clsl_15) oz_H2cls_49 hA54 eA54 (by decide +kernel)) (any_subA (lₚ := [3]) (by decide +kernel))
                    have mA54 := SAm_of cA54 oz_H2cls_48
                    have cD54 : SD oz_H2clsl_12 D D54 := SD_trans (SD_refl) (SD_gluc (ι := oz_H2clsl_15) oz_H2cls_49 hD54 eD54 (by decide +kernel)) (any_subA (lₚ := [3]) (by decide +kernel))
                    have mD54 := SDm_of cD54 oz_H2cls_48
                    have cN54 : SD oz_H2clsl_12 N N54 := SD_trans (SD_refl) (SD_gluc (ι := oz_H2clsl_15) oz_H2cls_49 hN54 eN54 (by decide +kernel)) (any_subA (lₚ := [3]) (by decide +kernel))
                    have mN54 := SDm_of cN54 oz_H2cls_48
                    have pf54_2_0 : HID (F54 2 0 = (D54 3 : Int)) := (eF54 2 0).trans (pm54_2.trans (congrArg (fun q : Nat => (q : Int)) (eD54 3).symm))
                    have r55 : (0 : Int) ≤ m54_2 ∧ m54_2 ≤ 1000000 := nleE (H.nle 3 (ltn len_V244_oz_H2cls rfl)) (show (N54 3 : Int) = m54_2 from (congrArg (fun q : Nat => (q : Int)) (eN54 3)).trans em54_2)
                    have r56 : (-2147483648 : Int) ≤ y54_0_1 ∧ y54_0_1 ≤ 2147483647 := rngE (show (-2147483648 : Int) ≤ F54 2 1 ∧ F54 2 1 ≤ 2147483647 from H.krg 2 1 (ltn len_V244_oz_H2cls rfl)) (show F54 2 1 = y54_0_1 from ((eF54 2 1).trans ey54_0_1))
                    have r57 : (0 : Int) ≤ y54_0_2 ∧ y54_0_2 ≤ 1 := rngE (show (0 : Int) ≤ F54 2 2 ∧ F54 2 2 ≤ 1 from H.krg 2 2 (ltn len_V244_oz_H2cls rfl)) (show F54 2 2 = y54_0_2 from ((eF54 2 2).trans ey54_0_2))
                    refine Ew_of (pcₚ := 248) (fun _ => x_goto rfl rfl) ?_
                    have : ∃ L : List Int, (z17) = (L.length : Int) ∧ LKP ((w54_2)) ((y54_0_1)) 65536 L ∧ (q5 = 1 ∧ L = sc (ub8 ((w1))) (((u0_9 + tc62_0))) (((u0_9 + tc62_0)) + q4) ∨ q5 ≠ 1 ∧ L = List.replicate (q4).toNat ((ub8 ((w1))) (((u0_9 + tc62_0))))) := by first | exact ⟨_, by rw [sc_lenI (by omega)]; omega, LKP_all ((RAP_from (a := 0) (pz54_3 (by omega)) (by omega) (by omega) (by rw [sc_lenI (by omega)]; omega) (by omega)).2.trans ((sc0_app (by omega)).trans sc_u)) (by omega), .inl ⟨by omega, by rw [hq4]⟩⟩ | exact ⟨_, by rw [List.length_replicate]; omega, LKP_rep (n := q4) (w := (ub8 ((w1))) (((u0_9 + tc62_0)))) ((RAP_from (a := 0) (pz50_2 (by omega)) (by omega) (by omega) (by rw [List.length_replicate]; omega) (by omega)).2.trans ((sc0_app (by omega)).trans (by rw [hvw]; congr 1; omega))) (by omega) (by omega), .inr ⟨by omega, rfl⟩⟩
                    exact hc248  _ _ _ _ _ _ _ _  ((rk_o (rk_o (rk_o (lc109_0) rfl rfl) rfl rfl) rfl rfl).trans (congrArg (fun q : Nat => some (Value.ref q)) (mD54 0 rfl).symm)) (rk_s) H O (SD_trans (SD_refl) (SD_gluc (ι := oz_H2clsl_15) oz_H2cls_49 hD54 eD54 (by decide +kernel)) (any_subA (lₚ := [3]) (by decide +kernel))) (SD_trans (SD_refl) (SD_gluc (ι := oz_H2clsl_15) oz_H2cls_49 hN54 eN54 (by decide +kernel)) (any_subA (lₚ := [3]) (by decide +kernel))) (SF_trans (SF_refl) (SF_gluc (ι := oz_H2clsl_15) oz_H2cls_49 hS54 eF54 (by decide +kernel)) (any_sub (lₚ := [(2, 0), (2, 1), (2, 2)]) (by decide +kernel))) (SA_trans (SA_refl) (SA_gluc (ι := oz_H2clsl_15) oz_H2cls_49 hA54 eA54 (by decide +kernel)) (any_subA (lₚ := [3]) (by decide +kernel))) (pf54_2_0) (m54_2) ((congrArg (fun q : Nat => (q : Int)) (eN54 3)).trans em54_2) (y54_0_1) (((eF54 2 1).trans ey54_0_1)) (w54_2) ((eA54 3).trans ew54_2) (show 0 ≤ (y54_0_1) ∧ (y54_0_1) ≤ (m54_2) ∧ (m54_2) ≤ 65536 from pz54_0) (show ((z17) ≤ (m54_2) ∨ (m54_2) = 65536) by omega) (show ∃ L : List Int, (z17) = (L.length : Int) ∧ LKP ((w54_2)) ((y54_0_1)) 65536 L ∧ (q5 = 1 ∧ L = sc (ub8 ((w1))) (((u0_9 + tc62_0))) (((u0_9 + tc62_0)) + q4) ∨ q5 ≠ 1 ∧ L = List.replicate (q4).toNat ((ub8 ((w1))) (((u0_9 + tc62_0))))) by assumption)
                · refine Ew_of (pcₚ := 184) (fun _ => x_aload_n rfl (rk_o (rk_o (rk_o (lc109_0) rfl rfl) rfl rfl) rfl rfl)) ?_
                  refine Ew_of (pcₚ := 186) (fun _ => x_bipush (z := 10) rfl (by decide)) ?_
                  refine Ew_of (pcₚ := 187) (fun _ => x_aload_n rfl (rk_o (rk_o (rk_o (lc109_0) rfl rfl) rfl rfl) rfl rfl)) ?_
                  refine v_g H (o := 0) (v := I (u0_18)) rfl rfl rfl rfl rfl (congrArg (fun z : Int => I z) (((mFu20 0 18 rfl).trans (eu0_18)) : (updF F18 0 9 ((u0_9 + tc62_0))) 0 18 = u0_18)) ?_
                  refine v_inv H (o := 0) rfl rfl rfl rfl rfl rfl (by rfl) (C232 (D := puc 0 D) (N := puc 0 N) (HW_subc H oz_H2cls_58 oz_H2cls_12) (u0_21) (((((((show F18 0 21 = F_c109 0 21 from (eF18 0 21).trans (hS18 0 21 rfl))).trans (hS_c109 0 21 rfl)).trans ((show F16 0 21 = F_c62 0 21 from (eF16 0 21)))).trans (hS_c62 0 21 rfl)).trans (eu0_21))) (show inr (10) from q_746) (show inr (u0_18) from q_18 r4) (fun z58 σ58 F58ₚ A58ₚ Hₚ Oₚ hS58 hA58 y58_0_21 (ey58_0_21 : HID _) pz58_0 pz58_1 pz58_2 => ⟨rfl, ?_⟩))
                  refine v_backc (c := c) (s := s) H oz_H2cls_58 oz_H2cls_12 Hₚ Oₚ (fun F58 A58 H Oₚ eF58 eA58 => ?_)
                  have O := OUT_trans O Oₚ
                  -- Unpacker.fail
                  have cF58 : SF oz_H2clsl_17 F F58 := SF_trans (cFu20) (SF_gluc (ι := oz_H2clsl_6) oz_H2cls_12 hS58 eF58 (by decide +kernel)) (any_sub (lₚ := [(0, 21)]) (by decide +kernel))
                  have mF58 := SFm_of cF58 oz_H2cls_59
                  have cA58 : SA oz_H2clsl_12 A A58 := SA_trans (cA18) (SA_gluc (ι := oz_H2clsl_6) oz_H2cls_12 hA58 eA58 (by decide +kernel)) (any_subA (lₚ := []) (by decide +kernel))
                  have mA58 := SAm_of cA58 oz_H2cls_48
                  have r59 : (-2147483648 : Int) ≤ y58_0_21 ∧ y58_0_21 ≤ 2147483647 := rngE (show (-2147483648 : Int) ≤ F58 0 21 ∧ F58 0 21 ≤ 2147483647 from H.krg 0 21 (ltn len_V244_oz_H2cls rfl)) (show F58 0 21 = y58_0_21 from ((eF58 0 21).trans ey58_0_21))
                  have : PLA (ub8 ((w1))) ((u0_9)) ((u0_18)) (moF ((u0_15))) ((z58)) ((y58_0_21)) (((u0_9 + tc62_0))) ((u0_19)) ((u2_1)) ((w3)) := PLA_f (fun T G => (hLT T G).trans (LT0_10 (fo := (z17)) (by omega) (by omega) (by omega) (by omega))) (by decide) (by omega) (by omega)
                  exact w_ireturn rfl (k (z58) _ _ _ _ _ _ _ H O (SD_refl) (SD_refl) (cF58) (cA58) ((((((((show F58 2 0 = (updF F18 0 9 ((u0_9 + tc62_0))) 2 0 from (eF58 2 0))).trans ((show F18 2 0 = F_c109 2 0 from (eF18 2 0)))).trans (hS_c109 2 0 rfl)).trans ((show F16 2 0 = F_c62 2 0 from (eF16 2 0)))).trans (hS_c62 2 0 rfl))).trans (pf3)) (n3) (en3) ((u0_9 + tc62_0)) (((show F58 0 9 = (updF F18 0 9 ((u0_9 + tc62_0))) 0 9 from (eF58 0 9).trans (hS58 0 9 rfl)))) (u0_19) ((((((((show F58 0 19 = (updF F18 0 9 ((u0_9 + tc62_0))) 0 19 from (eF58 0 19).trans (hS58 0 19 rfl))).trans ((show F18 0 19 = F_c109 0 19 from (eF18 0 19).trans (hS18 0 19 rfl)))).trans (hS_c109 0 19 rfl)).trans ((show F16 0 19 = F_c62 0 19 from (eF16 0 19)))).trans (hS_c62 0 19 rfl)).trans (eu0_19))) (y58_0_21) (((eF58 0 21).trans ey58_0_21)) (u2_1) ((((((((show F58 2 1 = (updF F18 0 9 ((u0_9 + tc62_0))) 2 1 from (eF58 2 1))).trans ((show F18 2 1 = F_c109 2 1 from (eF18 2 1)))).trans (hS_c109 2 1 rfl)).trans ((show F16 2 1 = F_c62 2 1 from (eF16 2 1)))).trans (hS_c62 2 1 rfl)).trans (eu2_1))) (w3) (((show A58 3 = A18 3 from (eA58 3))).trans (((show A18 3 = A_c109 3 from (eA18 3))).trans ((funext (hA_c109 3 rfl)).trans (((show A16 3 = A_c62 3 from (eA16 3))).trans ((funext (hA_c62 3 rfl)).trans (ew3)))))) (show inr (z58) from pz58_0) (show 0 ≤ (z58) ∧ (z58) ≤ 17 from q_4022 pz58_1) (show 0 ≤ ((u0_9 + tc62_0)) ∧ (u0_9) ≤ ((u0_9 + tc62_0)) ∧ ((u0_9 + tc62_0)) ≤ (u0_8) from q_4028 b15 h0 h1 jc62_1) (show ((u0_9 + tc62_0)) ≤ (u0_18) from q_4020 b15) (show 0 ≤ (u2_1) ∧ (u2_1) ≤ (n3) ∧ (n3) ≤ 65536 from h2) (show (z58) ≠ 0 ∨ 0 ≤ (u0_19) ∧ (u0_19) ≤ 131072 ∧ ((u0_19) ≤ (n3) ∨ (n3) = 65536) from q_4019 pz58_1) (show PLA (ub8 ((w1))) ((u0_9)) ((u0_18)) (moF ((u0_15))) ((z58)) ((y58_0_21)) (((u0_9 + tc62_0))) ((u0_19)) ((u2_1)) ((w3)) by assumption) (show (z58) ≠ 0 ∨ (u0_19) ≤ moF ((u0_15)) from q_4018 pz58_1) (show (z58) ≠ 0 ∨ (y58_0_21) = (u0_21) from q_4017 pz58_1))
            · refine Ew_of (pcₚ := 150) (fun _ => x_iconst rfl) ?_
              refine Ew_of (pcₚ := 154) (fun _ => x_goto rfl rfl) ?_
              refine Ew_of (pcₚ := 156) (fun _ => x_istore rfl) ?_
              obtain ⟨q5, hq5⟩ : ∃ q : Int, q = (1) := ⟨_, rfl⟩
              have hq5c : q5 = 1 ∧ ((v12 % 256)) % 4 = 0 ∨ q5 ≠ 1 ∧ ((v12 % 256)) % 4 ≠ 0 := by omega
              obtain ⟨q1, hq1⟩ : ∃ q : Int, q = ((v12 % 256)) := ⟨_, rfl⟩
              obtain ⟨q3, hq3⟩ : ∃ q : Int, q = (tc62_0) := ⟨_, rfl⟩
              have hLT := fun T G => LTF_0 (I := ub8 ((w1))) (at_ := (u0_9)) (e := (u0_18)) (mo := moF ((u0_15))) (T := T) (G := G) (b := (tc62_0)) (n := qn) (d := q9) (by omega) hbl rfl hb4 rfl (by rw [← hlx]; exact hl3) hqn hq9c
              rw [← hq1, ← hq3] at hLT
              rw [← hq1] at hq5c
              refine Ew_of (pcₚ := 158) (fun _ => x_iload rfl rk_s) ?_
              refine w_ifeq (t := 166) rfl rfl (show inr (1) from q_135) (fun b60 => ?_) (fun b60 => ?_)
              · refine Ew_of (pcₚ := 167) (fun _ => x_iconst rfl) ?_
                refine Ew_of (pcₚ := 169) (fun _ => x_istore rfl) ?_
                refine Ew_of (pcₚ := 170) (fun _ => x_aload_n rfl (rk_o (rk_o (rk_o (lc109_0) rfl rfl) rfl rfl) rfl rfl)) ?_
                refine v_g H (o := 0) (v := I (u0_18)) rfl rfl rfl rfl rfl (congrArg (fun z : Int => I z) (((mFu20 0 18 rfl).trans (eu0_18)) : (updF F18 0 9 ((u0_9 + tc62_0))) 0 18 = u0_18)) ?_
                refine Ew_of (pcₚ := 174) (fun _ => x_aload_n rfl (rk_o (rk_o (rk_o (lc109_0) rfl rfl) rfl rfl) rfl rfl)) ?_
                refine v_g H (o := 0) (v := I ((u0_9 + tc62_0))) rfl rfl rfl rfl rfl (congrArg (fun z : Int => I z) (rfl : (updF F18 0 9 ((u0_9 + tc62_0))) 0 9 = (u0_9 + tc62_0))) ?_
                refine w_isub rfl ?_
                refine Ew_of (pcₚ := 180) (fun _ => x_iload rfl rk_s) ?_
                refine w_icmpge (t := 194) rfl rfl (show inr ((u0_18 - (u0_9 + tc62_0))) from q_4007 b15 h0 h1 jc62_1) (show inr (1) from q_135) (fun b61 => ?_) (fun b61 => ?_)
                · refine Ew_of (pcₚ := 195) (fun _ => x_aload_n rfl (rk_o (rk_o (rk_o (lc109_0) rfl rfl) rfl rfl) rfl rfl)) ?_
                  refine Ew_of (pcₚ := 197) (fun _ => x_iload rfl (rk_o (rk_o (rk_s) rfl rfl) rfl rfl)) ?_
                  obtain ⟨q4, hq4⟩ : ∃ q : Int, q = (z17) := ⟨_, rfl⟩
                  have hq6 : q5 = 1 ∧ (1) = q4 ∨ q5 ≠ 1 ∧ (1) = 1 := by omega
                  refine v_p H (o := 0) (z := z17) (v := I (z17)) rfl rfl rfl rfl rfl rfl rfl rfl (show (-2147483648 : Int) ≤ z17 ∧ z17 ≤ 2147483647 from q_4008 hzz) (fun σ H Oₚ => ?_)
                  have O := OUT_trans O Oₚ
                  have cFu62 : SF oz_H2clsl_17 F (updF (updF F18 0 9 ((u0_9 + tc62_0))) 0 19 (z17)) := SF_upd (cFu20) rfl
                  have mFu62 := SFm_of cFu62 oz_H2cls_59
                  have hc248 : ∀ (ls : rO) (σ : rS) (D_c248 N_c248 : Nat → Nat) (c_c248 s_c248 : Nat) (F_c248 : hF) (A_c248 : hA) , rlook ls 0 = some (.ref (D_c248 0)) → rlook ls 6 = some (I (1)) → HW V244 σ D_c248 N_c248 F_c248 A_c248 → OUT (V244).length D N σE c s D_c248 N_c248 σ c_c248 s_c248 → SD [3] D D_c248 → SD [3] N N_c248 → SF [(2, 0), (2, 1), (2, 2)] (updF (updF F18 0 9 ((u0_9 + tc62_0))) 0 19 (z17)) F_c248 → SA [3] A18 A_c248 → F_c248 2 0 = (D_c248 3 : Int) → ∀ mc248_3 : Int, (N_c248 3 : Int) = mc248_3 → ∀ yc248_2_1 : Int, F_c248 2 1 = yc248_2_1 → ∀ wc248_3 : Int → Int, A_c248 3 = wc248_3 → (0 ≤ (yc248_2_1) ∧ (yc248_2_1) ≤ (mc248_3) ∧ (mc248_3) ≤ 65536) → (((z17) ≤ (mc248_3) ∨ (mc248_3) = 65536)) → (∃ L : List Int, (z17) = (L.length : Int) ∧ LKP ((wc248_3)) ((yc248_2_1)) 65536 L ∧ (q5 = 1 ∧ L = sc (ub8 ((w1))) (((u0_9 + tc62_0))) (((u0_9 + tc62_0)) + q4) ∨ q5 ≠ 1 ∧ L = List.replicate (q4).toNat ((ub8 ((w1))) (((u0_9 + tc62_0)))))) → Ew 244 (d + 3) 248 ls [] σ c_c248 s_c248 Q := by
                   as_aux_lemma =>
                    intro  ls σ D_c248 N_c248 c_c248 s_c248 F_c248 A_c248  lc248_0 lc248_6 H O hD_c248 hN_c248 hS_c248 hA_c248 pmc248_3 mc248_3 emc248_3 yc248_2_1 eyc248_2_1 wc248_3 ewc248_3 jc248_0 jc248_1 jc248_2
                    have cF_c248 : SF oz_H2clsl_17 F F_c248 := SF_trans (cFu62) hS_c248 (any_sub (by decide +kernel))
                    have mF_c248 := SFm_of cF_c248 oz_H2cls_59
                    have cA_c248 : SA oz_H2clsl_12 A A_c248 := SA_trans (cA18) hA_c248 (any_subA (by decide +kernel))
                    have mA_c248 := SAm_of cA_c248 oz_H2cls_48
                    have cD_c248 : SD oz_H2clsl_12 D D_c248 := SD_trans (SD_refl) hD_c248 (any_subA (by decide +kernel))
                    have mD_c248 := SDm_of cD_c248 oz_H2cls_48
                    have cN_c248 : SD oz_H2clsl_12 N N_c248 := SD_trans (SD_refl) hN_c248 (any_subA (by decide +kernel))
                    have mN_c248 := SDm_of cN_c248 oz_H2cls_48
                    replace pmc248_3 := HIDm pmc248_3
                    replace emc248_3 := HIDm emc248_3
                    replace eyc248_2_1 := HIDm eyc248_2_1
                    have r63 : (0 : Int) ≤ mc248_3 ∧ mc248_3 ≤ 1000000 := nleE (H.nle 3 (ltn len_V244_oz_H2cls rfl)) (show (N_c248 3 : Int) = mc248_3 from emc248_3)
                    have r64 : (-2147483648 : Int) ≤ yc248_2_1 ∧ yc248_2_1 ≤ 2147483647 := rngE (show (-2147483648 : Int) ≤ F_c248 2 1 ∧ F_c248 2 1 ≤ 2147483647 from H.krg 2 1 (ltn len_V244_oz_H2cls rfl)) (show F_c248 2 1 = yc248_2_1 from (eyc248_2_1))
                    have k248 : ∃ L : List Int, (z17) = (L.length : Int) ∧ LKP ((wc248_3)) ((yc248_2_1)) 65536 L ∧ (q5 = 1 ∧ L = sc (ub8 ((w1))) (((u0_9 + tc62_0))) (((u0_9 + tc62_0)) + q4) ∨ q5 ≠ 1 ∧ L = List.replicate (q4).toNat ((ub8 ((w1))) (((u0_9 + tc62_0))))) := by assumption
                    refine Ew_of (pcₚ := 249) (fun _ => x_aload_n rfl lc248_0) ?_
                    refine Ew_of (pcₚ := 250) (fun _ => x_dup rfl rfl) ?_
                    refine v_g H (o := 0) (v := I ((u0_9 + tc62_0))) rfl rfl rfl rfl rfl (congrArg (fun z : Int => I z) ((hS_c248 0 9 rfl) : F_c248 0 9 = (u0_9 + tc62_0))) ?_
                    refine Ew_of (pcₚ := 255) (fun _ => x_iload rfl lc248_6) ?_
                    refine w_iadd rfl ?_
                    refine v_p H (o := 0) (z := ((u0_9 + tc62_0) + 1)) (v := I (((u0_9 + tc62_0) + 1))) rfl rfl rfl rfl rfl rfl rfl rfl (show (-2147483648 : Int) ≤ ((u0_9 + tc62_0) + 1) ∧ ((u0_9 + tc62_0) + 1) ≤ 2147483647 from q_4009 b61 h0 h1 jc62_0) (fun σ H Oₚ => ?_)
                    have O := OUT_trans O Oₚ
                    have cFu65 : SF oz_H2clsl_17 F (updF F_c248 0 9 (((u0_9 + tc62_0) + 1))) := SF_upd (cF_c248) rfl
                    have mFu65 := SFm_of cFu65 oz_H2cls_59
                    refine Ew_of (pcₚ := 260) (fun _ => x_iconst rfl) ?_
                    have : PLA (ub8 ((w1))) ((u0_9)) ((u0_18)) (moF ((u0_15))) ((0)) ((u0_21)) ((((u0_9 + tc62_0) + 1))) ((z17)) ((yc248_2_1)) ((wc248_3)) := by obtain ⟨L, hL1, hL2, hL3⟩ := k248; exact .inr ⟨by omega, L, hL1, hL2, fun T G => (hLT T G).trans (LT0_y (fo := (1)) (by omega) (by omega) (by rcases hL3 with ⟨a, b⟩ | ⟨a, b⟩; (exact .inl ⟨by omega, by omega, by rw [b]; congr 1 <;> omega⟩); (exact .inr ⟨by omega, by omega, by rw [b, show q4 = qn by omega]; congr 2; omega⟩)) (by omega) (by omega))⟩
                    exact w_ireturn rfl (k (0) _ _ _ _ _ _ _ H O (cD_c248) (cN_c248) (cFu65) (cA_c248) (pmc248_3) (mc248_3) (emc248_3) (((u0_9 + tc62_0) + 1)) (rfl) (z17) ((hS_c248 0 19 rfl)) (u0_21) (((((((hS_c248 0 21 rfl).trans ((show F18 0 21 = F_c109 0 21 from (eF18 0 21).trans (hS18 0 21 rfl)))).trans (hS_c109 0 21 rfl)).trans ((show F16 0 21 = F_c62 0 21 from (eF16 0 21)))).trans (hS_c62 0 21 rfl)).trans (eu0_21))) (yc248_2_1) ((eyc248_2_1)) (wc248_3) (ewc248_3) (show inr (0) from q_2) (show 0 ≤ (0) ∧ (0) ≤ 17 by first | exact q_3949 | omega) (show 0 ≤ (((u0_9 + tc62_0) + 1)) ∧ (u0_9) ≤ (((u0_9 + tc62_0) + 1)) ∧ (((u0_9 + tc62_0) + 1)) ≤ (u0_8) from q_4013 b61 h0 h1 jc62_1) (show (((u0_9 + tc62_0) + 1)) ≤ (u0_18) from q_4012 b61) (show 0 ≤ (yc248_2_1) ∧ (yc248_2_1) ≤ (mc248_3) ∧ (mc248_3) ≤ 65536 from jc248_0) (show (0) ≠ 0 ∨ 0 ≤ (z17) ∧ (z17) ≤ 131072 ∧ ((z17) ≤ (mc248_3) ∨ (mc248_3) = 65536) by first | exact q_4011 b19 hzz jc248_1 pz18_1 | omega) (show PLA (ub8 ((w1))) ((u0_9)) ((u0_18)) (moF ((u0_15))) ((0)) ((u0_21)) ((((u0_9 + tc62_0) + 1))) ((z17)) ((yc248_2_1)) ((wc248_3)) by assumption) (show (0) ≠ 0 ∨ (z17) ≤ moF ((u0_15)) by first | exact q_4010 b19 pz18_2 | omega) (show (0) ≠ 0 ∨ (u0_21) = (u0_21) by first | exact q_3137 | omega))
                  refine Ew_of (pcₚ := 202) (fun _ => x_iload rfl (rk_o (rk_s) rfl rfl)) ?_
                  refine w_ifeq (t := 225) rfl rfl (show inr (1) from q_135) (fun b66 => ?_) (fun b66 => ?_)
                  · refine Ew_of (pcₚ := 226) (fun _ => x_aload_n rfl (rk_o (rk_o (rk_o (lc109_0) rfl rfl) rfl rfl) rfl rfl)) ?_
                    refine v_g H (o := 0) (v := .ref (D 2)) rfl rfl rfl rfl rfl (vrf ((mFu62 0 4 rfl).trans (pf2))) ?_
                    refine Ew_of (pcₚ := 230) (fun _ => x_aload_n rfl (rk_o (rk_o (rk_o (lc109_0) rfl rfl) rfl rfl) rfl rfl)) ?_
                    refine v_g H (o := 0) (v := .ref (D 1)) rfl rfl rfl rfl rfl (vrf ((mFu62 0 7 rfl).trans (pf1))) ?_
                    refine Ew_of (pcₚ := 234) (fun _ => x_aload_n rfl (rk_o (rk_o (rk_o (lc109_0) rfl rfl) rfl rfl) rfl rfl)) ?_
                    refine v_g H (o := 0) (v := I ((u0_9 + tc62_0))) rfl rfl rfl rfl rfl (congrArg (fun z : Int => I z) (rfl : (updF (updF F18 0 9 ((u0_9 + tc62_0))) 0 19 (z17)) 0 9 = (u0_9 + tc62_0))) ?_
                    refine v_lB H (o := 1) rfl rfl rfl rfl (n := n1) (en1) (show 0 ≤ (u0_9 + tc62_0) ∧ (u0_9 + tc62_0) < n1 from q_4014 b61 h0 h1 jc62_1) (fun v67 ev67 qv67 => ?_)
                    have ev67 : (w1) ((u0_9 + tc62_0)) = v67 := (congrFun ((funext (mA18 1 rfl)).trans (ew1)) ((u0_9 + tc62_0))).symm.trans ev67
                    have hvs := ev67
                    have hvw : (ub8 ((w1))) (((u0_9 + tc62_0))) = u8 ((v67)) := by show u8 _ = _; rw [hvs]
                    refine Ew_of (pcₚ := 240) (fun _ => x_iload rfl (rk_o (rk_o (rk_s) rfl rfl) rfl rfl)) ?_
                    refine Ew_of (pcₚ := 242) (fun _ => x_ldc (z := 65536) rfl (by decide)) ?_
                    refine v_min rfl rfl (show inr (z17) from q_4005 hzz) (show inr (65536) from q_52) (fun z68 gz68 => ?_)
                    have hmin : (z68) = (z17) ∧ (z17) ≤ 65536 ∨ (z68) = 65536 ∧ 65536 ≤ (z17) := by omega
                    refine v_inv H (o := 2) rfl rfl rfl rfl rfl rfl (by rfl) (C162 (D := puc 1538 D) (N := puc 1538 N) (HW_subc H oz_H2cls_54 oz_H2cls_50) (((((((show F18 2 0 = F_c109 2 0 from (eF18 2 0))).trans (hS_c109 2 0 rfl)).trans ((show F16 2 0 = F_c62 2 0 from (eF16 2 0)))).trans (hS_c62 2 0 rfl))).trans (pf3)) (n3) (en3) (u2_1) (((((((show F18 2 1 = F_c109 2 1 from (eF18 2 1))).trans (hS_c109 2 1 rfl)).trans ((show F16 2 1 = F_c62 2 1 from (eF16 2 1)))).trans (hS_c62 2 1 rfl)).trans (eu2_1))) (u2_2) (((((((show F18 2 2 = F_c109 2 2 from (eF18 2 2))).trans (hS_c109 2 2 rfl)).trans ((show F16 2 2 = F_c62 2 2 from (eF16 2 2)))).trans (hS_c62 2 2 rfl)).trans (eu2_2))) (w3) (((show A18 3 = A_c109 3 from (eA18 3))).trans ((funext (hA_c109 3 rfl)).trans (((show A16 3 = A_c62 3 from (eA16 3))).trans ((funext (hA_c62 3 rfl)).trans (ew3))))) (show inr (v67) from q_97 qv67) (show inr (z68) from q_4015 hmin hzz) (show 0 ≤ (u2_1) ∧ (u2_1) ≤ (n3) ∧ (n3) ≤ 65536 from h2) (fun σ69 D69ₚ N69ₚ F69ₚ A69ₚ c69 s69 Hₚ Oₚ hD69 hN69 hS69 hA69 (pm69_1 : HID _) m69_1 (em69_1 : HID _) y69_0_1 (ey69_0_1 : HID _) y69_0_2 (ey69_0_2 : HID _) w69_1 ew69_1 pz69_0 pz69_1 pz69_2 => ⟨rfl, ?_⟩))
                    refine v_backMc (c := c) (s := s) H oz_H2cls_54 oz_H2cls_50 Hₚ Oₚ hD69 oz_H2cls_55 (fun D69 N69 F69 A69 H Oₚ eD69 eN69 eF69 eA69 => ?_)
                    have O := OUT_trans O Oₚ
                    -- Row.addSame
                    have cF69 : SF oz_H2clsl_17 F F69 := SF_trans (cFu62) (SF_gluc (ι := oz_H2clsl_16) oz_H2cls_50 hS69 eF69 (by decide +kernel)) (any_sub (lₚ := [(2, 0), (2, 1), (2, 2)]) (by decide +kernel))
                    have mF69 := SFm_of cF69 oz_H2cls_59
                    have cA69 : SA oz_H2clsl_12 A A69 := SA_trans (cA18) (SA_gluc (ι := oz_H2clsl_16) oz_H2cls_50 hA69 eA69 (by decide +kernel)) (any_subA (lₚ := [3]) (by decide +kernel))
                    have mA69 := SAm_of cA69 oz_H2cls_48
                    have cD69 : SD oz_H2clsl_12 D D69 := SD_trans (SD_refl) (SD_gluc (ι := oz_H2clsl_16) oz_H2cls_50 hD69 eD69 (by decide +kernel)) (any_subA (lₚ := [3]) (by decide +kernel))
                    have mD69 := SDm_of cD69 oz_H2cls_48
                    have cN69 : SD oz_H2clsl_12 N N69 := SD_trans (SD_refl) (SD_gluc (ι := oz_H2clsl_16) oz_H2cls_50 hN69 eN69 (by decide +kernel)) (any_subA (lₚ := [3]) (by decide +kernel))
                    have mN69 := SDm_of cN69 oz_H2cls_48
                    have pf69_2_0 : HID (F69 2 0 = (D69 3 : Int)) := (eF69 2 0).trans (pm69_1.trans (congrArg (fun q : Nat => (q : Int)) (eD69 3).symm))
                    have r70 : (0 : Int) ≤ m69_1 ∧ m69_1 ≤ 1000000 := nleE (H.nle 3 (ltn len_V244_oz_H2cls rfl)) (show (N69 3 : Int) = m69_1 from (congrArg (fun q : Nat => (q : Int)) (eN69 3)).trans em69_1)
                    have r71 : (-2147483648 : Int) ≤ y69_0_1 ∧ y69_0_1 ≤ 2147483647 := rngE (show (-2147483648 : Int) ≤ F69 2 1 ∧ F69 2 1 ≤ 2147483647 from H.krg 2 1 (ltn len_V244_oz_H2cls rfl)) (show F69 2 1 = y69_0_1 from ((eF69 2 1).trans ey69_0_1))
                    have r72 : (0 : Int) ≤ y69_0_2 ∧ y69_0_2 ≤ 1 := rngE (show (0 : Int) ≤ F69 2 2 ∧ F69 2 2 ≤ 1 from H.krg 2 2 (ltn len_V244_oz_H2cls rfl)) (show F69 2 2 = y69_0_2 from ((eF69 2 2).trans ey69_0_2))
                    have : ∃ L : List Int, (z17) = (L.length : Int) ∧ LKP ((w69_1)) ((y69_0_1)) 65536 L ∧ (q5 = 1 ∧ L = sc (ub8 ((w1))) (((u0_9 + tc62_0))) (((u0_9 + tc62_0)) + q4) ∨ q5 ≠ 1 ∧ L = List.replicate (q4).toNat ((ub8 ((w1))) (((u0_9 + tc62_0))))) := by first | exact ⟨_, by rw [sc_lenI (by omega)]; omega, LKP_all ((RAP_from (a := 0) (pz54_3 (by omega)) (by omega) (by omega) (by rw [sc_lenI (by omega)]; omega) (by omega)).2.trans ((sc0_app (by omega)).trans sc_u)) (by omega), .inl ⟨by omega, by rw [hq4]⟩⟩ | exact ⟨_, by rw [List.length_replicate]; omega, LKP_rep (n := q4) (w := (ub8 ((w1))) (((u0_9 + tc62_0)))) ((RAP_from (a := 0) (pz69_2 (by omega)) (by omega) (by omega) (by rw [List.length_replicate]; omega) (by omega)).2.trans ((sc0_app (by omega)).trans (by rw [hvw]; congr 1; omega))) (by omega) (by omega), .inr ⟨by omega, rfl⟩⟩
                    exact hc248  _ _ _ _ _ _ _ _  ((rk_o (rk_o (rk_o (lc109_0) rfl rfl) rfl rfl) rfl rfl).trans (congrArg (fun q : Nat => some (Value.ref q)) (mD69 0 rfl).symm)) (rk_s) H O (SD_trans (SD_refl) (SD_gluc (ι := oz_H2clsl_16) oz_H2cls_50 hD69 eD69 (by decide +kernel)) (any_subA (lₚ := [3]) (by decide +kernel))) (SD_trans (SD_refl) (SD_gluc (ι := oz_H2clsl_16) oz_H2cls_50 hN69 eN69 (by decide +kernel)) (any_subA (lₚ := [3]) (by decide +kernel))) (SF_trans (SF_refl) (SF_gluc (ι := oz_H2clsl_16) oz_H2cls_50 hS69 eF69 (by decide +kernel)) (any_sub (lₚ := [(2, 0), (2, 1), (2, 2)]) (by decide +kernel))) (SA_trans (SA_refl) (SA_gluc (ι := oz_H2clsl_16) oz_H2cls_50 hA69 eA69 (by decide +kernel)) (any_subA (lₚ := [3]) (by decide +kernel))) (pf69_2_0) (m69_1) ((congrArg (fun q : Nat => (q : Int)) (eN69 3)).trans em69_1) (y69_0_1) (((eF69 2 1).trans ey69_0_1)) (w69_1) ((eA69 3).trans ew69_1) (show 0 ≤ (y69_0_1) ∧ (y69_0_1) ≤ (m69_1) ∧ (m69_1) ≤ 65536 from pz69_0) (show ((z17) ≤ (m69_1) ∨ (m69_1) = 65536) by omega) (show ∃ L : List Int, (z17) = (L.length : Int) ∧ LKP ((w69_1)) ((y69_0_1)) 65536 L ∧ (q5 = 1 ∧ L = sc (ub8 ((w1))) (((u0_9 + tc62_0))) (((u0_9 + tc62_0)) + q4) ∨ q5 ≠ 1 ∧ L = List.replicate (q4).toNat ((ub8 ((w1))) (((u0_9 + tc62_0))))) by assumption)
                  · refine Ew_of (pcₚ := 206) (fun _ => x_aload_n rfl (rk_o (rk_o (rk_o (lc109_0) rfl rfl) rfl rfl) rfl rfl)) ?_
                    refine v_g H (o := 0) (v := .ref (D 2)) rfl rfl rfl rfl rfl (vrf ((mFu62 0 4 rfl).trans (pf2))) ?_
                    refine Ew_of (pcₚ := 210) (fun _ => x_aload_n rfl (rk_o (rk_o (rk_o (lc109_0) rfl rfl) rfl rfl) rfl rfl)) ?_
                    refine v_g H (o := 0) (v := .ref (D 1)) rfl rfl rfl rfl rfl (vrf ((mFu62 0 7 rfl).trans (pf1))) ?_
                    refine Ew_of (pcₚ := 214) (fun _ => x_aload_n rfl (rk_o (rk_o (rk_o (lc109_0) rfl rfl) rfl rfl) rfl rfl)) ?_
                    refine v_g H (o := 0) (v := I ((u0_9 + tc62_0))) rfl rfl rfl rfl rfl (congrArg (fun z : Int => I z) (rfl : (updF (updF F18 0 9 ((u0_9 + tc62_0))) 0 19 (z17)) 0 9 = (u0_9 + tc62_0))) ?_
                    refine Ew_of (pcₚ := 219) (fun _ => x_iload rfl (rk_o (rk_o (rk_s) rfl rfl) rfl rfl)) ?_
                    refine v_inv H (o := 2) rfl rfl rfl rfl rfl rfl (by rfl) (C161_Br (D := puc 786946 D) (N := puc 786946 N) (HW_subc H oz_H2cls_56 oz_H2cls_49) (((((((show F18 2 0 = F_c109 2 0 from (eF18 2 0))).trans (hS_c109 2 0 rfl)).trans ((show F16 2 0 = F_c62 2 0 from (eF16 2 0)))).trans (hS_c62 2 0 rfl))).trans (pf3)) (n1) (en1) (n3) (en3) (u2_1) (((((((show F18 2 1 = F_c109 2 1 from (eF18 2 1))).trans (hS_c109 2 1 rfl)).trans ((show F16 2 1 = F_c62 2 1 from (eF16 2 1)))).trans (hS_c62 2 1 rfl)).trans (eu2_1))) (u2_2) (((((((show F18 2 2 = F_c109 2 2 from (eF18 2 2))).trans (hS_c109 2 2 rfl)).trans ((show F16 2 2 = F_c62 2 2 from (eF16 2 2)))).trans (hS_c62 2 2 rfl)).trans (eu2_2))) (w1) ((funext (mA18 1 rfl)).trans (ew1)) (w3) (((show A18 3 = A_c109 3 from (eA18 3))).trans ((funext (hA_c109 3 rfl)).trans (((show A16 3 = A_c62 3 from (eA16 3))).trans ((funext (hA_c62 3 rfl)).trans (ew3))))) (show inr ((u0_9 + tc62_0)) from q_4016 b61 h0 h1 jc62_0) (show inr (z17) from q_4005 hzz) (show 0 ≤ (u2_1) ∧ (u2_1) ≤ (n3) ∧ (n3) ≤ 65536 from h2) (show (z17) < 0 ∨ 0 ≤ ((u0_9 + tc62_0)) ∧ ((u0_9 + tc62_0)) + (z17) ≤ (n1) by omega) (fun σ73 D73ₚ N73ₚ F73ₚ A73ₚ c73 s73 Hₚ Oₚ hD73 hN73 hS73 hA73 (pm73_2 : HID _) m73_2 (em73_2 : HID _) y73_0_1 (ey73_0_1 : HID _) y73_0_2 (ey73_0_2 : HID _) w73_2 ew73_2 pz73_0 pz73_1 pz73_2 pz73_3 => ⟨rfl, ?_⟩))
                    refine v_backMc (c := c) (s := s) H oz_H2cls_56 oz_H2cls_49 Hₚ Oₚ hD73 oz_H2cls_57 (fun D73 N73 F73 A73 H Oₚ eD73 eN73 eF73 eA73 => ?_)
                    have O := OUT_trans O Oₚ
                    -- Row.addPart
                    have cF73 : SF oz_H2clsl_17 F F73 := SF_trans (cFu62) (SF_gluc (ι := oz_H2clsl_15) oz_H2cls_49 hS73 eF73 (by decide +kernel)) (any_sub (lₚ := [(2, 0), (2, 1), (2, 2)]) (by decide +kernel))
                    have mF73 := SFm_of cF73 oz_H2cls_59
                    have cA73 : SA oz_H2clsl_12 A A73 := SA_trans (cA18) (SA_gluc (ι := oz_H2clsl_15) oz_H2cls_49 hA73 eA73 (by decide +kernel)) (any_subA (lₚ := [3]) (by decide +kernel))
                    have mA73 := SAm_of cA73 oz_H2cls_48
                    have cD73 : SD oz_H2clsl_12 D D73 := SD_trans (SD_refl) (SD_gluc (ι := oz_H2clsl_15) oz_H2cls_49 hD73 eD73 (by decide +kernel)) (any_subA (lₚ := [3]) (by decide +kernel))
                    have mD73 := SDm_of cD73 oz_H2cls_48
                    have cN73 : SD oz_H2clsl_12 N N73 := SD_trans (SD_refl) (SD_gluc (ι := oz_H2clsl_15) oz_H2cls_49 hN73 eN73 (by decide +kernel)) (any_subA (lₚ := [3]) (by decide +kernel))
                    have mN73 := SDm_of cN73 oz_H2cls_48
                    have pf73_2_0 : HID (F73 2 0 = (D73 3 : Int)) := (eF73 2 0).trans (pm73_2.trans (congrArg (fun q : Nat => (q : Int)) (eD73 3).symm))
                    have r74 : (0 : Int) ≤ m73_2 ∧ m73_2 ≤ 1000000 := nleE (H.nle 3 (ltn len_V244_oz_H2cls rfl)) (show (N73 3 : Int) = m73_2 from (congrArg (fun q : Nat => (q : Int)) (eN73 3)).trans em73_2)
                    have r75 : (-2147483648 : Int) ≤ y73_0_1 ∧ y73_0_1 ≤ 2147483647 := rngE (show (-2147483648 : Int) ≤ F73 2 1 ∧ F73 2 1 ≤ 2147483647 from H.krg 2 1 (ltn len_V244_oz_H2cls rfl)) (show F73 2 1 = y73_0_1 from ((eF73 2 1).trans ey73_0_1))
                    have r76 : (0 : Int) ≤ y73_0_2 ∧ y73_0_2 ≤ 1 := rngE (show (0 : Int) ≤ F73 2 2 ∧ F73 2 2 ≤ 1 from H.krg 2 2 (ltn len_V244_oz_H2cls rfl)) (show F73 2 2 = y73_0_2 from ((eF73 2 2).trans ey73_0_2))
                    refine Ew_of (pcₚ := 248) (fun _ => x_goto rfl rfl) ?_
                    have : ∃ L : List Int, (z17) = (L.length : Int) ∧ LKP ((w73_2)) ((y73_0_1)) 65536 L ∧ (q5 = 1 ∧ L = sc (ub8 ((w1))) (((u0_9 + tc62_0))) (((u0_9 + tc62_0)) + q4) ∨ q5 ≠ 1 ∧ L = List.replicate (q4).toNat ((ub8 ((w1))) (((u0_9 + tc62_0))))) := by first | exact ⟨_, by rw [sc_lenI (by omega)]; omega, LKP_all ((RAP_from (a := 0) (pz73_3 (by omega)) (by omega) (by omega) (by rw [sc_lenI (by omega)]; omega) (by omega)).2.trans ((sc0_app (by omega)).trans sc_u)) (by omega), .inl ⟨by omega, by rw [hq4]⟩⟩ | exact ⟨_, by rw [List.length_replicate]; omega, LKP_rep (n := q4) (w := (ub8 ((w1))) (((u0_9 + tc62_0)))) ((RAP_from (a := 0) (pz69_2 (by omega)) (by omega) (by omega) (by rw [List.length_replicate]; omega) (by omega)).2.trans ((sc0_app (by omega)).trans (by rw [hvw]; congr 1; omega))) (by omega) (by omega), .inr ⟨by omega, rfl⟩⟩
                    exact hc248  _ _ _ _ _ _ _ _  ((rk_o (rk_o (rk_o (lc109_0) rfl rfl) rfl rfl) rfl rfl).trans (congrArg (fun q : Nat => some (Value.ref q)) (mD73 0 rfl).symm)) (rk_s) H O (SD_trans (SD_refl) (SD_gluc (ι := oz_H2clsl_15) oz_H2cls_49 hD73 eD73 (by decide +kernel)) (any_subA (lₚ := [3]) (by decide +kernel))) (SD_trans (SD_refl) (SD_gluc (ι := oz_H2clsl_15) oz_H2cls_49 hN73 eN73 (by decide +kernel)) (any_subA (lₚ := [3]) (by decide +kernel))) (SF_trans (SF_refl) (SF_gluc (ι := oz_H2clsl_15) oz_H2cls_49 hS73 eF73 (by decide +kernel)) (any_sub (lₚ := [(2, 0), (2, 1), (2, 2)]) (by decide +kernel))) (SA_trans (SA_refl) (SA_gluc (ι := oz_H2clsl_15) oz_H2cls_49 hA73 eA73 (by decide +kernel)) (any_subA (lₚ := [3]) (by decide +kernel))) (pf73_2_0) (m73_2) ((congrArg (fun q : Nat => (q : Int)) (eN73 3)).trans em73_2) (y73_0_1) (((eF73 2 1).trans ey73_0_1)) (w73_2) ((eA73 3).trans ew73_2) (show 0 ≤ (y73_0_1) ∧ (y73_0_1) ≤ (m73_2) ∧ (m73_2) ≤ 65536 from pz73_0) (show ((z17) ≤ (m73_2) ∨ (m73_2) = 65536) by omega) (show ∃ L : List Int, (z17) = (L.length : Int) ∧ LKP ((w73_2)) ((y73_0_1)) 65536 L ∧ (q5 = 1 ∧ L = sc (ub8 ((w1))) (((u0_9 + tc62_0))) (((u0_9 + tc62_0)) + q4) ∨ q5 ≠ 1 ∧ L = List.replicate (q4).toNat ((ub8 ((w1))) (((u0_9 + tc62_0))))) by assumption)
                · refine Ew_of (pcₚ := 184) (fun _ => x_aload_n rfl (rk_o (rk_o (rk_o (lc109_0) rfl rfl) rfl rfl) rfl rfl)) ?_
                  refine Ew_of (pcₚ := 186) (fun _ => x_bipush (z := 10) rfl (by decide)) ?_
                  refine Ew_of (pcₚ := 187) (fun _ => x_aload_n rfl (rk_o (rk_o (rk_o (lc109_0) rfl rfl) rfl rfl) rfl rfl)) ?_
                  refine v_g H (o := 0) (v := I (u0_18)) rfl rfl rfl rfl rfl (congrArg (fun z : Int => I z) (((mFu20 0 18 rfl).trans (eu0_18)) : (updF F18 0 9 ((u0_9 + tc62_0))) 0 18 = u0_18)) ?_
                  refine v_inv H (o := 0) rfl rfl rfl rfl rfl rfl (by rfl) (C232 (D := puc 0 D) (N := puc 0 N) (HW_subc H oz_H2cls_58 oz_H2cls_12) (u0_21) (((((((show F18 0 21 = F_c109 0 21 from (eF18 0 21).trans (hS18 0 21 rfl))).trans (hS_c109 0 21 rfl)).trans ((show F16 0 21 = F_c62 0 21 from (eF16 0 21)))).trans (hS_c62 0 21 rfl)).trans (eu0_21))) (show inr (10) from q_746) (show inr (u0_18) from q_18 r4) (fun z77 σ77 F77ₚ A77ₚ Hₚ Oₚ hS77 hA77 y77_0_21 (ey77_0_21 : HID _) pz77_0 pz77_1 pz77_2 => ⟨rfl, ?_⟩))
                  refine v_backc (c := c) (s := s) H oz_H2cls_58 oz_H2cls_12 Hₚ Oₚ (fun F77 A77 H Oₚ eF77 eA77 => ?_)
                  have O := OUT_trans O Oₚ
                  -- Unpacker.fail
                  have cF77 : SF oz_H2clsl_17 F F77 := SF_trans (cFu20) (SF_gluc (ι := oz_H2clsl_6) oz_H2cls_12 hS77 eF77 (by decide +kernel)) (any_sub (lₚ := [(0, 21)]) (by decide +kernel))
                  have mF77 := SFm_of cF77 oz_H2cls_59
                  have cA77 : SA oz_H2clsl_12 A A77 := SA_trans (cA18) (SA_gluc (ι := oz_H2clsl_6) oz_H2cls_12 hA77 eA77 (by decide +kernel)) (any_subA (lₚ := []) (by decide +kernel))
                  have mA77 := SAm_of cA77 oz_H2cls_48
                  have r78 : (-2147483648 : Int) ≤ y77_0_21 ∧ y77_0_21 ≤ 2147483647 := rngE (show (-2147483648 : Int) ≤ F77 0 21 ∧ F77 0 21 ≤ 2147483647 from H.krg 0 21 (ltn len_V244_oz_H2cls rfl)) (show F77 0 21 = y77_0_21 from ((eF77 0 21).trans ey77_0_21))
                  have : PLA (ub8 ((w1))) ((u0_9)) ((u0_18)) (moF ((u0_15))) ((z77)) ((y77_0_21)) (((u0_9 + tc62_0))) ((u0_19)) ((u2_1)) ((w3)) := PLA_f (fun T G => (hLT T G).trans (LT0_10 (fo := (1)) (by omega) (by omega) (by omega) (by omega))) (by decide) (by omega) (by omega)
                  exact w_ireturn rfl (k (z77) _ _ _ _ _ _ _ H O (SD_refl) (SD_refl) (cF77) (cA77) ((((((((show F77 2 0 = (updF F18 0 9 ((u0_9 + tc62_0))) 2 0 from (eF77 2 0))).trans ((show F18 2 0 = F_c109 2 0 from (eF18 2 0)))).trans (hS_c109 2 0 rfl)).trans ((show F16 2 0 = F_c62 2 0 from (eF16 2 0)))).trans (hS_c62 2 0 rfl))).trans (pf3)) (n3) (en3) ((u0_9 + tc62_0)) (((show F77 0 9 = (updF F18 0 9 ((u0_9 + tc62_0))) 0 9 from (eF77 0 9).trans (hS77 0 9 rfl)))) (u0_19) ((((((((show F77 0 19 = (updF F18 0 9 ((u0_9 + tc62_0))) 0 19 from (eF77 0 19).trans (hS77 0 19 rfl))).trans ((show F18 0 19 = F_c109 0 19 from (eF18 0 19).trans (hS18 0 19 rfl)))).trans (hS_c109 0 19 rfl)).trans ((show F16 0 19 = F_c62 0 19 from (eF16 0 19)))).trans (hS_c62 0 19 rfl)).trans (eu0_19))) (y77_0_21) (((eF77 0 21).trans ey77_0_21)) (u2_1) ((((((((show F77 2 1 = (updF F18 0 9 ((u0_9 + tc62_0))) 2 1 from (eF77 2 1))).trans ((show F18 2 1 = F_c109 2 1 from (eF18 2 1)))).trans (hS_c109 2 1 rfl)).trans ((show F16 2 1 = F_c62 2 1 from (eF16 2 1)))).trans (hS_c62 2 1 rfl)).trans (eu2_1))) (w3) (((show A77 3 = A18 3 from (eA77 3))).trans (((show A18 3 = A_c109 3 from (eA18 3))).trans ((funext (hA_c109 3 rfl)).trans (((show A16 3 = A_c62 3 from (eA16 3))).trans ((funext (hA_c62 3 rfl)).trans (ew3)))))) (show inr (z77) from pz77_0) (show 0 ≤ (z77) ∧ (z77) ≤ 17 from q_4022 pz77_1) (show 0 ≤ ((u0_9 + tc62_0)) ∧ (u0_9) ≤ ((u0_9 + tc62_0)) ∧ ((u0_9 + tc62_0)) ≤ (u0_8) from q_4021 b11 b15 b61 h0 h1) (show ((u0_9 + tc62_0)) ≤ (u0_18) from q_4020 b15) (show 0 ≤ (u2_1) ∧ (u2_1) ≤ (n3) ∧ (n3) ≤ 65536 from h2) (show (z77) ≠ 0 ∨ 0 ≤ (u0_19) ∧ (u0_19) ≤ 131072 ∧ ((u0_19) ≤ (n3) ∨ (n3) = 65536) from q_4019 pz77_1) (show PLA (ub8 ((w1))) ((u0_9)) ((u0_18)) (moF ((u0_15))) ((z77)) ((y77_0_21)) (((u0_9 + tc62_0))) ((u0_19)) ((u2_1)) ((w3)) by assumption) (show (z77) ≠ 0 ∨ (u0_19) ≤ moF ((u0_15)) from q_4018 pz77_1) (show (z77) ≠ 0 ∨ (y77_0_21) = (u0_21) from q_4017 pz77_1))
              · refine Ew_of (pcₚ := 163) (fun _ => x_iload rfl (rk_o (rk_s) rfl rfl)) ?_
                refine Ew_of (pcₚ := 167) (fun _ => x_goto rfl rfl) ?_
                refine Ew_of (pcₚ := 169) (fun _ => x_istore rfl) ?_
                refine Ew_of (pcₚ := 170) (fun _ => x_aload_n rfl (rk_o (rk_o (rk_o (lc109_0) rfl rfl) rfl rfl) rfl rfl)) ?_
                refine v_g H (o := 0) (v := I (u0_18)) rfl rfl rfl rfl rfl (congrArg (fun z : Int => I z) (((mFu20 0 18 rfl).trans (eu0_18)) : (updF F18 0 9 ((u0_9 + tc62_0))) 0 18 = u0_18)) ?_
                refine Ew_of (pcₚ := 174) (fun _ => x_aload_n rfl (rk_o (rk_o (rk_o (lc109_0) rfl rfl) rfl rfl) rfl rfl)) ?_
                refine v_g H (o := 0) (v := I ((u0_9 + tc62_0))) rfl rfl rfl rfl rfl (congrArg (fun z : Int => I z) (rfl : (updF F18 0 9 ((u0_9 + tc62_0))) 0 9 = (u0_9 + tc62_0))) ?_
                refine w_isub rfl ?_
                refine Ew_of (pcₚ := 180) (fun _ => x_iload rfl rk_s) ?_
                refine w_icmpge (t := 194) rfl rfl (show inr ((u0_18 - (u0_9 + tc62_0))) from q_4007 b15 h0 h1 jc62_1) (show inr (z17) from q_4005 hzz) (fun b79 => ?_) (fun b79 => ?_)
                · refine Ew_of (pcₚ := 195) (fun _ => x_aload_n rfl (rk_o (rk_o (rk_o (lc109_0) rfl rfl) rfl rfl) rfl rfl)) ?_
                  refine Ew_of (pcₚ := 197) (fun _ => x_iload rfl (rk_o (rk_o (rk_s) rfl rfl) rfl rfl)) ?_
                  obtain ⟨q4, hq4⟩ : ∃ q : Int, q = (z17) := ⟨_, rfl⟩
                  have hq6 : q5 = 1 ∧ (z17) = q4 ∨ q5 ≠ 1 ∧ (z17) = 1 := by omega
                  refine v_p H (o := 0) (z := z17) (v := I (z17)) rfl rfl rfl rfl rfl rfl rfl rfl (show (-2147483648 : Int) ≤ z17 ∧ z17 ≤ 2147483647 from q_4008 hzz) (fun σ H Oₚ => ?_)
                  have O := OUT_trans O Oₚ
                  have cFu80 : SF oz_H2clsl_17 F (updF (updF F18 0 9 ((u0_9 + tc62_0))) 0 19 (z17)) := SF_upd (cFu20) rfl
                  have mFu80 := SFm_of cFu80 oz_H2cls_59
                  have hc248 : ∀ (ls : rO) (σ : rS) (D_c248 N_c248 : Nat → Nat) (c_c248 s_c248 : Nat) (F_c248 : hF) (A_c248 : hA) , rlook ls 0 = some (.ref (D_c248 0)) → rlook ls 6 = some (I (z17)) → HW V244 σ D_c248 N_c248 F_c248 A_c248 → OUT (V244).length D N σE c s D_c248 N_c248 σ c_c248 s_c248 → SD [3] D D_c248 → SD [3] N N_c248 → SF [(2, 0), (2, 1), (2, 2)] (updF (updF F18 0 9 ((u0_9 + tc62_0))) 0 19 (z17)) F_c248 → SA [3] A18 A_c248 → F_c248 2 0 = (D_c248 3 : Int) → ∀ mc248_3 : Int, (N_c248 3 : Int) = mc248_3 → ∀ yc248_2_1 : Int, F_c248 2 1 = yc248_2_1 → ∀ wc248_3 : Int → Int, A_c248 3 = wc248_3 → (0 ≤ (yc248_2_1) ∧ (yc248_2_1) ≤ (mc248_3) ∧ (mc248_3) ≤ 65536) → (((z17) ≤ (mc248_3) ∨ (mc248_3) = 65536)) → (∃ L : List Int, (z17) = (L.length : Int) ∧ LKP ((wc248_3)) ((yc248_2_1)) 65536 L ∧ (q5 = 1 ∧ L = sc (ub8 ((w1))) (((u0_9 + tc62_0))) (((u0_9 + tc62_0)) + q4) ∨ q5 ≠ 1 ∧ L = List.replicate (q4).toNat ((ub8 ((w1))) (((u0_9 + tc62_0)))))) → Ew 244 (d + 3) 248 ls [] σ c_c248 s_c248 Q := by
                   as_aux_lemma =>
                    intro  ls σ D_c248 N_c248 c_c248 s_c248 F_c248 A_c248  lc248_0 lc248_6 H O hD_c248 hN_c248 hS_c248 hA_c248 pmc248_3 mc248_3 emc248_3 yc248_2_1 eyc248_2_1 wc248_3 ewc248_3 jc248_0 jc248_1 jc248_2
                    have cF_c248 : SF oz_H2clsl_17 F F_c248 := SF_trans (cFu80) hS_c248 (any_sub (by decide +kernel))
                    have mF_c248 := SFm_of cF_c248 oz_H2cls_59
                    have cA_c248 : SA oz_H2clsl_12 A A_c248 := SA_trans (cA18) hA_c248 (any_subA (by decide +kernel))
                    have mA_c248 := SAm_of cA_c248 oz_H2cls_48
                    have cD_c248 : SD oz_H2clsl_12 D D_c248 := SD_trans (SD_refl) hD_c248 (any_subA (by decide +kernel))
                    have mD_c248 := SDm_of cD_c248 oz_H2cls_48
                    have cN_c248 : SD oz_H2clsl_12 N N_c248 := SD_trans (SD_refl) hN_c248 (any_subA (by decide +kernel))
                    have mN_c248 := SDm_of cN_c248 oz_H2cls_48
                    replace pmc248_3 := HIDm pmc248_3
                    replace emc248_3 := HIDm emc248_3
                    replace eyc248_2_1 := HIDm eyc248_2_1
                    have r81 : (0 : Int) ≤ mc248_3 ∧ mc248_3 ≤ 1000000 := nleE (H.nle 3 (ltn len_V244_oz_H2cls rfl)) (show (N_c248 3 : Int) = mc248_3 from emc248_3)
                    have r82 : (-2147483648 : Int) ≤ yc248_2_1 ∧ yc248_2_1 ≤ 2147483647 := rngE (show (-2147483648 : Int) ≤ F_c248 2 1 ∧ F_c248 2 1 ≤ 2147483647 from H.krg 2 1 (ltn len_V244_oz_H2cls rfl)) (show F_c248 2 1 = yc248_2_1 from (eyc248_2_1))
                    have k248 : ∃ L : List Int, (z17) = (L.length : Int) ∧ LKP ((wc248_3)) ((yc248_2_1)) 65536 L ∧ (q5 = 1 ∧ L = sc (ub8 ((w1))) (((u0_9 + tc62_0))) (((u0_9 + tc62_0)) + q4) ∨ q5 ≠ 1 ∧ L = List.replicate (q4).toNat ((ub8 ((w1))) (((u0_9 + tc62_0))))) := by assumption
                    refine Ew_of (pcₚ := 249) (fun _ => x_aload_n rfl lc248_0) ?_
                    refine Ew_of (pcₚ := 250) (fun _ => x_dup rfl rfl) ?_
                    refine v_g H (o := 0) (v := I ((u0_9 + tc62_0))) rfl rfl rfl rfl rfl (congrArg (fun z : Int => I z) ((hS_c248 0 9 rfl) : F_c248 0 9 = (u0_9 + tc62_0))) ?_
                    refine Ew_of (pcₚ := 255) (fun _ => x_iload rfl lc248_6) ?_
                    refine w_iadd rfl ?_
                    refine v_p H (o := 0) (z := ((u0_9 + tc62_0) + z17)) (v := I (((u0_9 + tc62_0) + z17))) rfl rfl rfl rfl rfl rfl rfl rfl (show (-2147483648 : Int) ≤ ((u0_9 + tc62_0) + z17) ∧ ((u0_9 + tc62_0) + z17) ≤ 2147483647 from q_4023 b79 h0 h1 hzz jc62_0) (fun σ H Oₚ => ?_)
                    have O := OUT_trans O Oₚ
                    have cFu83 : SF oz_H2clsl_17 F (updF F_c248 0 9 (((u0_9 + tc62_0) + z17))) := SF_upd (cF_c248) rfl
                    have mFu83 := SFm_of cFu83 oz_H2cls_59
                    refine Ew_of (pcₚ := 260) (fun _ => x_iconst rfl) ?_
                    have : PLA (ub8 ((w1))) ((u0_9)) ((u0_18)) (moF ((u0_15))) ((0)) ((u0_21)) ((((u0_9 + tc62_0) + z17))) ((z17)) ((yc248_2_1)) ((wc248_3)) := by obtain ⟨L, hL1, hL2, hL3⟩ := k248; exact .inr ⟨by omega, L, hL1, hL2, fun T G => (hLT T G).trans (LT0_y (fo := (z17)) (by omega) (by omega) (by rcases hL3 with ⟨a, b⟩ | ⟨a, b⟩; (exact .inl ⟨by omega, by omega, by rw [b]; congr 1 <;> omega⟩); (exact .inr ⟨by omega, by omega, by rw [b, show q4 = qn by omega]; congr 2; omega⟩)) (by omega) (by omega))⟩
                    exact w_ireturn rfl (k (0) _ _ _ _ _ _ _ H O (cD_c248) (cN_c248) (cFu83) (cA_c248) (pmc248_3) (mc248_3) (emc248_3) (((u0_9 + tc62_0) + z17)) (rfl) (z17) ((hS_c248 0 19 rfl)) (u0_21) (((((((hS_c248 0 21 rfl).trans ((show F18 0 21 = F_c109 0 21 from (eF18 0 21).trans (hS18 0 21 rfl)))).trans (hS_c109 0 21 rfl)).trans ((show F16 0 21 = F_c62 0 21 from (eF16 0 21)))).trans (hS_c62 0 21 rfl)).trans (eu0_21))) (yc248_2_1) ((eyc248_2_1)) (wc248_3) (ewc248_3) (show inr (0) from q_2) (show 0 ≤ (0) ∧ (0) ≤ 17 by first | exact q_3949 | omega) (show 0 ≤ (((u0_9 + tc62_0) + z17)) ∧ (u0_9) ≤ (((u0_9 + tc62_0) + z17)) ∧ (((u0_9 + tc62_0) + z17)) ≤ (u0_8) from q_4025 b79 h0 h1 hzz jc62_1) (show (((u0_9 + tc62_0) + z17)) ≤ (u0_18) from q_4024 b79) (show 0 ≤ (yc248_2_1) ∧ (yc248_2_1) ≤ (mc248_3) ∧ (mc248_3) ≤ 65536 from jc248_0) (show (0) ≠ 0 ∨ 0 ≤ (z17) ∧ (z17) ≤ 131072 ∧ ((z17) ≤ (mc248_3) ∨ (mc248_3) = 65536) by first | exact q_4011 b19 hzz jc248_1 pz18_1 | omega) (show PLA (ub8 ((w1))) ((u0_9)) ((u0_18)) (moF ((u0_15))) ((0)) ((u0_21)) ((((u0_9 + tc62_0) + z17))) ((z17)) ((yc248_2_1)) ((wc248_3)) by assumption) (show (0) ≠ 0 ∨ (z17) ≤ moF ((u0_15)) by first | exact q_4010 b19 pz18_2 | omega) (show (0) ≠ 0 ∨ (u0_21) = (u0_21) by first | exact q_3137 | omega))
                  refine Ew_of (pcₚ := 202) (fun _ => x_iload rfl (rk_o (rk_s) rfl rfl)) ?_
                  refine w_ifeq (t := 225) rfl rfl (show inr (1) from q_135) (fun b84 => ?_) (fun b84 => ?_)
                  · refine Ew_of (pcₚ := 226) (fun _ => x_aload_n rfl (rk_o (rk_o (rk_o (lc109_0) rfl rfl) rfl rfl) rfl rfl)) ?_
                    refine v_g H (o := 0) (v := .ref (D 2)) rfl rfl rfl rfl rfl (vrf ((mFu80 0 4 rfl).trans (pf2))) ?_
                    refine Ew_of (pcₚ := 230) (fun _ => x_aload_n rfl (rk_o (rk_o (rk_o (lc109_0) rfl rfl) rfl rfl) rfl rfl)) ?_
                    refine v_g H (o := 0) (v := .ref (D 1)) rfl rfl rfl rfl rfl (vrf ((mFu80 0 7 rfl).trans (pf1))) ?_
                    refine Ew_of (pcₚ := 234) (fun _ => x_aload_n rfl (rk_o (rk_o (rk_o (lc109_0) rfl rfl) rfl rfl) rfl rfl)) ?_
                    refine v_g H (o := 0) (v := I ((u0_9 + tc62_0))) rfl rfl rfl rfl rfl (congrArg (fun z : Int => I z) (rfl : (updF (updF F18 0 9 ((u0_9 + tc62_0))) 0 19 (z17)) 0 9 = (u0_9 + tc62_0))) ?_
                    refine v_lB H (o := 1) rfl rfl rfl rfl (n := n1) (en1) (show 0 ≤ (u0_9 + tc62_0) ∧ (u0_9 + tc62_0) < n1 by omega) (fun v85 ev85 qv85 => ?_)
                    have ev85 : (w1) ((u0_9 + tc62_0)) = v85 := (congrFun ((funext (mA18 1 rfl)).trans (ew1)) ((u0_9 + tc62_0))).symm.trans ev85
                    have hvs := ev85
                    have hvw : (ub8 ((w1))) (((u0_9 + tc62_0))) = u8 ((v85)) := by show u8 _ = _; rw [hvs]
                    refine Ew_of (pcₚ := 240) (fun _ => x_iload rfl (rk_o (rk_o (rk_s) rfl rfl) rfl rfl)) ?_
                    refine Ew_of (pcₚ := 242) (fun _ => x_ldc (z := 65536) rfl (by decide)) ?_
                    refine v_min rfl rfl (show inr (z17) from q_4005 hzz) (show inr (65536) from q_52) (fun z86 gz86 => ?_)
                    have hmin : (z86) = (z17) ∧ (z17) ≤ 65536 ∨ (z86) = 65536 ∧ 65536 ≤ (z17) := by omega
                    refine v_inv H (o := 2) rfl rfl rfl rfl rfl rfl (by rfl) (C162 (D := puc 1538 D) (N := puc 1538 N) (HW_subc H oz_H2cls_54 oz_H2cls_50) (((((((show F18 2 0 = F_c109 2 0 from (eF18 2 0))).trans (hS_c109 2 0 rfl)).trans ((show F16 2 0 = F_c62 2 0 from (eF16 2 0)))).trans (hS_c62 2 0 rfl))).trans (pf3)) (n3) (en3) (u2_1) (((((((show F18 2 1 = F_c109 2 1 from (eF18 2 1))).trans (hS_c109 2 1 rfl)).trans ((show F16 2 1 = F_c62 2 1 from (eF16 2 1)))).trans (hS_c62 2 1 rfl)).trans (eu2_1))) (u2_2) (((((((show F18 2 2 = F_c109 2 2 from (eF18 2 2))).trans (hS_c109 2 2 rfl)).trans ((show F16 2 2 = F_c62 2 2 from (eF16 2 2)))).trans (hS_c62 2 2 rfl)).trans (eu2_2))) (w3) (((show A18 3 = A_c109 3 from (eA18 3))).trans ((funext (hA_c109 3 rfl)).trans (((show A16 3 = A_c62 3 from (eA16 3))).trans ((funext (hA_c62 3 rfl)).trans (ew3))))) (show inr (v85) from q_97 qv85) (show inr (z86) from q_4015 hmin hzz) (show 0 ≤ (u2_1) ∧ (u2_1) ≤ (n3) ∧ (n3) ≤ 65536 from h2) (fun σ87 D87ₚ N87ₚ F87ₚ A87ₚ c87 s87 Hₚ Oₚ hD87 hN87 hS87 hA87 (pm87_1 : HID _) m87_1 (em87_1 : HID _) y87_0_1 (ey87_0_1 : HID _) y87_0_2 (ey87_0_2 : HID _) w87_1 ew87_1 pz87_0 pz87_1 pz87_2 => ⟨rfl, ?_⟩))
                    refine v_backMc (c := c) (s := s) H oz_H2cls_54 oz_H2cls_50 Hₚ Oₚ hD87 oz_H2cls_55 (fun D87 N87 F87 A87 H Oₚ eD87 eN87 eF87 eA87 => ?_)
                    have O := OUT_trans O Oₚ
                    -- Row.addSame
                    have cF87 : SF oz_H2clsl_17 F F87 := SF_trans (cFu80) (SF_gluc (ι := oz_H2clsl_16) oz_H2cls_50 hS87 eF87 (by decide +kernel)) (any_sub (lₚ := [(2, 0), (2, 1), (2, 2)]) (by decide +kernel))
                    have mF87 := SFm_of cF87 oz_H2cls_59
                    have cA87 : SA oz_H2clsl_12 A A87 := SA_trans (cA18) (SA_gluc (ι := oz_H2clsl_16) oz_H2cls_50 hA87 eA87 (by decide +kernel)) (any_subA (lₚ := [3]) (by decide +kernel))
                    have mA87 := SAm_of cA87 oz_H2cls_48
                    have cD87 : SD oz_H2clsl_12 D D87 := SD_trans (SD_refl) (SD_gluc (ι := oz_H2clsl_16) oz_H2cls_50 hD87 eD87 (by decide +kernel)) (any_subA (lₚ := [3]) (by decide +kernel))
                    have mD87 := SDm_of cD87 oz_H2cls_48
                    have cN87 : SD oz_H2clsl_12 N N87 := SD_trans (SD_refl) (SD_gluc (ι := oz_H2clsl_16) oz_H2cls_50 hN87 eN87 (by decide +kernel)) (any_subA (lₚ := [3]) (by decide +kernel))
                    have mN87 := SDm_of cN87 oz_H2cls_48
                    have pf87_2_0 : HID (F87 2 0 = (D87 3 : Int)) := (eF87 2 0).trans (pm87_1.trans (congrArg (fun q : Nat => (q : Int)) (eD87 3).symm))
                    have r88 : (0 : Int) ≤ m87_1 ∧ m87_1 ≤ 1000000 := nleE (H.nle 3 (ltn len_V244_oz_H2cls rfl)) (show (N87 3 : Int) = m87_1 from (congrArg (fun q : Nat => (q : Int)) (eN87 3)).trans em87_1)
                    have r89 : (-2147483648 : Int) ≤ y87_0_1 ∧ y87_0_1 ≤ 2147483647 := rngE (show (-2147483648 : Int) ≤ F87 2 1 ∧ F87 2 1 ≤ 2147483647 from H.krg 2 1 (ltn len_V244_oz_H2cls rfl)) (show F87 2 1 = y87_0_1 from ((eF87 2 1).trans ey87_0_1))
                    have r90 : (0 : Int) ≤ y87_0_2 ∧ y87_0_2 ≤ 1 := rngE (show (0 : Int) ≤ F87 2 2 ∧ F87 2 2 ≤ 1 from H.krg 2 2 (ltn len_V244_oz_H2cls rfl)) (show F87 2 2 = y87_0_2 from ((eF87 2 2).trans ey87_0_2))
                    have : ∃ L : List Int, (z17) = (L.length : Int) ∧ LKP ((w87_1)) ((y87_0_1)) 65536 L ∧ (q5 = 1 ∧ L = sc (ub8 ((w1))) (((u0_9 + tc62_0))) (((u0_9 + tc62_0)) + q4) ∨ q5 ≠ 1 ∧ L = List.replicate (q4).toNat ((ub8 ((w1))) (((u0_9 + tc62_0))))) := by first | exact ⟨_, by rw [sc_lenI (by omega)]; omega, LKP_all ((RAP_from (a := 0) (pz73_3 (by omega)) (by omega) (by omega) (by rw [sc_lenI (by omega)]; omega) (by omega)).2.trans ((sc0_app (by omega)).trans sc_u)) (by omega), .inl ⟨by omega, by rw [hq4]⟩⟩ | exact ⟨_, by rw [List.length_replicate]; omega, LKP_rep (n := q4) (w := (ub8 ((w1))) (((u0_9 + tc62_0)))) ((RAP_from (a := 0) (pz87_2 (by omega)) (by omega) (by omega) (by rw [List.length_replicate]; omega) (by omega)).2.trans ((sc0_app (by omega)).trans (by rw [hvw]; congr 1; omega))) (by omega) (by omega), .inr ⟨by omega, rfl⟩⟩
                    exact hc248  _ _ _ _ _ _ _ _  ((rk_o (rk_o (rk_o (lc109_0) rfl rfl) rfl rfl) rfl rfl).trans (congrArg (fun q : Nat => some (Value.ref q)) (mD87 0 rfl).symm)) (rk_s) H O (SD_trans (SD_refl) (SD_gluc (ι := oz_H2clsl_16) oz_H2cls_50 hD87 eD87 (by decide +kernel)) (any_subA (lₚ := [3]) (by decide +kernel))) (SD_trans (SD_refl) (SD_gluc (ι := oz_H2clsl_16) oz_H2cls_50 hN87 eN87 (by decide +kernel)) (any_subA (lₚ := [3]) (by decide +kernel))) (SF_trans (SF_refl) (SF_gluc (ι := oz_H2clsl_16) oz_H2cls_50 hS87 eF87 (by decide +kernel)) (any_sub (lₚ := [(2, 0), (2, 1), (2, 2)]) (by decide +kernel))) (SA_trans (SA_refl) (SA_gluc (ι := oz_H2clsl_16) oz_H2cls_50 hA87 eA87 (by decide +kernel)) (any_subA (lₚ := [3]) (by decide +kernel))) (pf87_2_0) (m87_1) ((congrArg (fun q : Nat => (q : Int)) (eN87 3)).trans em87_1) (y87_0_1) (((eF87 2 1).trans ey87_0_1)) (w87_1) ((eA87 3).trans ew87_1) (show 0 ≤ (y87_0_1) ∧ (y87_0_1) ≤ (m87_1) ∧ (m87_1) ≤ 65536 from pz87_0) (show ((z17) ≤ (m87_1) ∨ (m87_1) = 65536) by omega) (show ∃ L : List Int, (z17) = (L.length : Int) ∧ LKP ((w87_1)) ((y87_0_1)) 65536 L ∧ (q5 = 1 ∧ L = sc (ub8 ((w1))) (((u0_9 + tc62_0))) (((u0_9 + tc62_0)) + q4) ∨ q5 ≠ 1 ∧ L = List.replicate (q4).toNat ((ub8 ((w1))) (((u0_9 + tc62_0))))) by assumption)
                  · refine Ew_of (pcₚ := 206) (fun _ => x_aload_n rfl (rk_o (rk_o (rk_o (lc109_0) rfl rfl) rfl rfl) rfl rfl)) ?_
                    refine v_g H (o := 0) (v := .ref (D 2)) rfl rfl rfl rfl rfl (vrf ((mFu80 0 4 rfl).trans (pf2))) ?_
                    refine Ew_of (pcₚ := 210) (fun _ => x_aload_n rfl (rk_o (rk_o (rk_o (lc109_0) rfl rfl) rfl rfl) rfl rfl)) ?_
                    refine v_g H (o := 0) (v := .ref (D 1)) rfl rfl rfl rfl rfl (vrf ((mFu80 0 7 rfl).trans (pf1))) ?_
                    refine Ew_of (pcₚ := 214) (fun _ => x_aload_n rfl (rk_o (rk_o (rk_o (lc109_0) rfl rfl) rfl rfl) rfl rfl)) ?_
                    refine v_g H (o := 0) (v := I ((u0_9 + tc62_0))) rfl rfl rfl rfl rfl (congrArg (fun z : Int => I z) (rfl : (updF (updF F18 0 9 ((u0_9 + tc62_0))) 0 19 (z17)) 0 9 = (u0_9 + tc62_0))) ?_
                    refine Ew_of (pcₚ := 219) (fun _ => x_iload rfl (rk_o (rk_o (rk_s) rfl rfl) rfl rfl)) ?_
                    refine v_inv H (o := 2) rfl rfl rfl rfl rfl rfl (by rfl) (C161_Br (D := puc 786946 D) (N := puc 786946 N) (HW_subc H oz_H2cls_56 oz_H2cls_49) (((((((show F18 2 0 = F_c109 2 0 from (eF18 2 0))).trans (hS_c109 2 0 rfl)).trans ((show F16 2 0 = F_c62 2 0 from (eF16 2 0)))).trans (hS_c62 2 0 rfl))).trans (pf3)) (n1) (en1) (n3) (en3) (u2_1) (((((((show F18 2 1 = F_c109 2 1 from (eF18 2 1))).trans (hS_c109 2 1 rfl)).trans ((show F16 2 1 = F_c62 2 1 from (eF16 2 1)))).trans (hS_c62 2 1 rfl)).trans (eu2_1))) (u2_2) (((((((show F18 2 2 = F_c109 2 2 from (eF18 2 2))).trans (hS_c109 2 2 rfl)).trans ((show F16 2 2 = F_c62 2 2 from (eF16 2 2)))).trans (hS_c62 2 2 rfl)).trans (eu2_2))) (w1) ((funext (mA18 1 rfl)).trans (ew1)) (w3) (((show A18 3 = A_c109 3 from (eA18 3))).trans ((funext (hA_c109 3 rfl)).trans (((show A16 3 = A_c62 3 from (eA16 3))).trans ((funext (hA_c62 3 rfl)).trans (ew3))))) (show inr ((u0_9 + tc62_0)) from q_4027 b15 h0 h1 jc62_0) (show inr (z17) from q_4005 hzz) (show 0 ≤ (u2_1) ∧ (u2_1) ≤ (n3) ∧ (n3) ≤ 65536 from h2) (show (z17) < 0 ∨ 0 ≤ ((u0_9 + tc62_0)) ∧ ((u0_9 + tc62_0)) + (z17) ≤ (n1) from q_4026 b79 h0 h1 jc62_1) (fun σ91 D91ₚ N91ₚ F91ₚ A91ₚ c91 s91 Hₚ Oₚ hD91 hN91 hS91 hA91 (pm91_2 : HID _) m91_2 (em91_2 : HID _) y91_0_1 (ey91_0_1 : HID _) y91_0_2 (ey91_0_2 : HID _) w91_2 ew91_2 pz91_0 pz91_1 pz91_2 pz91_3 => ⟨rfl, ?_⟩))
                    refine v_backMc (c := c) (s := s) H oz_H2cls_56 oz_H2cls_49 Hₚ Oₚ hD91 oz_H2cls_57 (fun D91 N91 F91 A91 H Oₚ eD91 eN91 eF91 eA91 => ?_)
                    have O := OUT_trans O Oₚ
                    -- Row.addPart
                    have cF91 : SF oz_H2clsl_17 F F91 := SF_trans (cFu80) (SF_gluc (ι := oz_H2clsl_15) oz_H2cls_49 hS91 eF91 (by decide +kernel)) (any_sub (lₚ := [(2, 0), (2, 1), (2, 2)]) (by decide +kernel))
                    have mF91 := SFm_of cF91 oz_H2cls_59
                    have cA91 : SA oz_H2clsl_12 A A91 := SA_trans (cA18) (SA_gluc (ι := oz_H2clsl_15) oz_H2cls_49 hA91 eA91 (by decide +kernel)) (any_subA (lₚ := [3]) (by decide +kernel))
                    have mA91 := SAm_of cA91 oz_H2cls_48
                    have cD91 : SD oz_H2clsl_12 D D91 := SD_trans (SD_refl) (SD_gluc (ι := oz_H2clsl_15) oz_H2cls_49 hD91 eD91 (by decide +kernel)) (any_subA (lₚ := [3]) (by decide +kernel))
                    have mD91 := SDm_of cD91 oz_H2cls_48
                    have cN91 : SD oz_H2clsl_12 N N91 := SD_trans (SD_refl) (SD_gluc (ι := oz_H2clsl_15) oz_H2cls_49 hN91 eN91 (by decide +kernel)) (any_subA (lₚ := [3]) (by decide +kernel))
                    have mN91 := SDm_of cN91 oz_H2cls_48
                    have pf91_2_0 : HID (F91 2 0 = (D91 3 : Int)) := (eF91 2 0).trans (pm91_2.trans (congrArg (fun q : Nat => (q : Int)) (eD91 3).symm))
                    have r92 : (0 : Int) ≤ m91_2 ∧ m91_2 ≤ 1000000 := nleE (H.nle 3 (ltn len_V244_oz_H2cls rfl)) (show (N91 3 : Int) = m91_2 from (congrArg (fun q : Nat => (q : Int)) (eN91 3)).trans em91_2)
                    have r93 : (-2147483648 : Int) ≤ y91_0_1 ∧ y91_0_1 ≤ 2147483647 := rngE (show (-2147483648 : Int) ≤ F91 2 1 ∧ F91 2 1 ≤ 2147483647 from H.krg 2 1 (ltn len_V244_oz_H2cls rfl)) (show F91 2 1 = y91_0_1 from ((eF91 2 1).trans ey91_0_1))
                    have r94 : (0 : Int) ≤ y91_0_2 ∧ y91_0_2 ≤ 1 := rngE (show (0 : Int) ≤ F91 2 2 ∧ F91 2 2 ≤ 1 from H.krg 2 2 (ltn len_V244_oz_H2cls rfl)) (show F91 2 2 = y91_0_2 from ((eF91 2 2).trans ey91_0_2))
                    refine Ew_of (pcₚ := 248) (fun _ => x_goto rfl rfl) ?_
                    have : ∃ L : List Int, (z17) = (L.length : Int) ∧ LKP ((w91_2)) ((y91_0_1)) 65536 L ∧ (q5 = 1 ∧ L = sc (ub8 ((w1))) (((u0_9 + tc62_0))) (((u0_9 + tc62_0)) + q4) ∨ q5 ≠ 1 ∧ L = List.replicate (q4).toNat ((ub8 ((w1))) (((u0_9 + tc62_0))))) := by first | exact ⟨_, by rw [sc_lenI (by omega)]; omega, LKP_all ((RAP_from (a := 0) (pz91_3 (by omega)) (by omega) (by omega) (by rw [sc_lenI (by omega)]; omega) (by omega)).2.trans ((sc0_app (by omega)).trans sc_u)) (by omega), .inl ⟨by omega, by rw [hq4]⟩⟩ | exact ⟨_, by rw [List.length_replicate]; omega, LKP_rep (n := q4) (w := (ub8 ((w1))) (((u0_9 + tc62_0)))) ((RAP_from (a := 0) (pz87_2 (by omega)) (by omega) (by omega) (by rw [List.length_replicate]; omega) (by omega)).2.trans ((sc0_app (by omega)).trans (by rw [hvw]; congr 1; omega))) (by omega) (by omega), .inr ⟨by omega, rfl⟩⟩
                    exact hc248  _ _ _ _ _ _ _ _  ((rk_o (rk_o (rk_o (lc109_0) rfl rfl) rfl rfl) rfl rfl).trans (congrArg (fun q : Nat => some (Value.ref q)) (mD91 0 rfl).symm)) (rk_s) H O (SD_trans (SD_refl) (SD_gluc (ι := oz_H2clsl_15) oz_H2cls_49 hD91 eD91 (by decide +kernel)) (any_subA (lₚ := [3]) (by decide +kernel))) (SD_trans (SD_refl) (SD_gluc (ι := oz_H2clsl_15) oz_H2cls_49 hN91 eN91 (by decide +kernel)) (any_subA (lₚ := [3]) (by decide +kernel))) (SF_trans (SF_refl) (SF_gluc (ι := oz_H2clsl_15) oz_H2cls_49 hS91 eF91 (by decide +kernel)) (any_sub (lₚ := [(2, 0), (2, 1), (2, 2)]) (by decide +kernel))) (SA_trans (SA_refl) (SA_gluc (ι := oz_H2clsl_15) oz_H2cls_49 hA91 eA91 (by decide +kernel)) (any_subA (lₚ := [3]) (by decide +kernel))) (pf91_2_0) (m91_2) ((congrArg (fun q : Nat => (q : Int)) (eN91 3)).trans em91_2) (y91_0_1) (((eF91 2 1).trans ey91_0_1)) (w91_2) ((eA91 3).trans ew91_2) (show 0 ≤ (y91_0_1) ∧ (y91_0_1) ≤ (m91_2) ∧ (m91_2) ≤ 65536 from pz91_0) (show ((z17) ≤ (m91_2) ∨ (m91_2) = 65536) by omega) (show ∃ L : List Int, (z17) = (L.length : Int) ∧ LKP ((w91_2)) ((y91_0_1)) 65536 L ∧ (q5 = 1 ∧ L = sc (ub8 ((w1))) (((u0_9 + tc62_0))) (((u0_9 + tc62_0)) + q4) ∨ q5 ≠ 1 ∧ L = List.replicate (q4).toNat ((ub8 ((w1))) (((u0_9 + tc62_0))))) by assumption)
                · refine Ew_of (pcₚ := 184) (fun _ => x_aload_n rfl (rk_o (rk_o (rk_o (lc109_0) rfl rfl) rfl rfl) rfl rfl)) ?_
                  refine Ew_of (pcₚ := 186) (fun _ => x_bipush (z := 10) rfl (by decide)) ?_
                  refine Ew_of (pcₚ := 187) (fun _ => x_aload_n rfl (rk_o (rk_o (rk_o (lc109_0) rfl rfl) rfl rfl) rfl rfl)) ?_
                  refine v_g H (o := 0) (v := I (u0_18)) rfl rfl rfl rfl rfl (congrArg (fun z : Int => I z) (((mFu20 0 18 rfl).trans (eu0_18)) : (updF F18 0 9 ((u0_9 + tc62_0))) 0 18 = u0_18)) ?_
                  refine v_inv H (o := 0) rfl rfl rfl rfl rfl rfl (by rfl) (C232 (D := puc 0 D) (N := puc 0 N) (HW_subc H oz_H2cls_58 oz_H2cls_12) (u0_21) (((((((show F18 0 21 = F_c109 0 21 from (eF18 0 21).trans (hS18 0 21 rfl))).trans (hS_c109 0 21 rfl)).trans ((show F16 0 21 = F_c62 0 21 from (eF16 0 21)))).trans (hS_c62 0 21 rfl)).trans (eu0_21))) (show inr (10) from q_746) (show inr (u0_18) from q_18 r4) (fun z95 σ95 F95ₚ A95ₚ Hₚ Oₚ hS95 hA95 y95_0_21 (ey95_0_21 : HID _) pz95_0 pz95_1 pz95_2 => ⟨rfl, ?_⟩))
                  refine v_backc (c := c) (s := s) H oz_H2cls_58 oz_H2cls_12 Hₚ Oₚ (fun F95 A95 H Oₚ eF95 eA95 => ?_)
                  have O := OUT_trans O Oₚ
                  -- Unpacker.fail
                  have cF95 : SF oz_H2clsl_17 F F95 := SF_trans (cFu20) (SF_gluc (ι := oz_H2clsl_6) oz_H2cls_12 hS95 eF95 (by decide +kernel)) (any_sub (lₚ := [(0, 21)]) (by decide +kernel))
                  have mF95 := SFm_of cF95 oz_H2cls_59
                  have cA95 : SA oz_H2clsl_12 A A95 := SA_trans (cA18) (SA_gluc (ι := oz_H2clsl_6) oz_H2cls_12 hA95 eA95 (by decide +kernel)) (any_subA (lₚ := []) (by decide +kernel))
                  have mA95 := SAm_of cA95 oz_H2cls_48
                  have r96 : (-2147483648 : Int) ≤ y95_0_21 ∧ y95_0_21 ≤ 2147483647 := rngE (show (-2147483648 : Int) ≤ F95 0 21 ∧ F95 0 21 ≤ 2147483647 from H.krg 0 21 (ltn len_V244_oz_H2cls rfl)) (show F95 0 21 = y95_0_21 from ((eF95 0 21).trans ey95_0_21))
                  have : PLA (ub8 ((w1))) ((u0_9)) ((u0_18)) (moF ((u0_15))) ((z95)) ((y95_0_21)) (((u0_9 + tc62_0))) ((u0_19)) ((u2_1)) ((w3)) := PLA_f (fun T G => (hLT T G).trans (LT0_10 (fo := (z17)) (by omega) (by omega) (by omega) (by omega))) (by decide) (by omega) (by omega)
                  exact w_ireturn rfl (k (z95) _ _ _ _ _ _ _ H O (SD_refl) (SD_refl) (cF95) (cA95) ((((((((show F95 2 0 = (updF F18 0 9 ((u0_9 + tc62_0))) 2 0 from (eF95 2 0))).trans ((show F18 2 0 = F_c109 2 0 from (eF18 2 0)))).trans (hS_c109 2 0 rfl)).trans ((show F16 2 0 = F_c62 2 0 from (eF16 2 0)))).trans (hS_c62 2 0 rfl))).trans (pf3)) (n3) (en3) ((u0_9 + tc62_0)) (((show F95 0 9 = (updF F18 0 9 ((u0_9 + tc62_0))) 0 9 from (eF95 0 9).trans (hS95 0 9 rfl)))) (u0_19) ((((((((show F95 0 19 = (updF F18 0 9 ((u0_9 + tc62_0))) 0 19 from (eF95 0 19).trans (hS95 0 19 rfl))).trans ((show F18 0 19 = F_c109 0 19 from (eF18 0 19).trans (hS18 0 19 rfl)))).trans (hS_c109 0 19 rfl)).trans ((show F16 0 19 = F_c62 0 19 from (eF16 0 19)))).trans (hS_c62 0 19 rfl)).trans (eu0_19))) (y95_0_21) (((eF95 0 21).trans ey95_0_21)) (u2_1) ((((((((show F95 2 1 = (updF F18 0 9 ((u0_9 + tc62_0))) 2 1 from (eF95 2 1))).trans ((show F18 2 1 = F_c109 2 1 from (eF18 2 1)))).trans (hS_c109 2 1 rfl)).trans ((show F16 2 1 = F_c62 2 1 from (eF16 2 1)))).trans (hS_c62 2 1 rfl)).trans (eu2_1))) (w3) (((show A95 3 = A18 3 from (eA95 3))).trans (((show A18 3 = A_c109 3 from (eA18 3))).trans ((funext (hA_c109 3 rfl)).trans (((show A16 3 = A_c62 3 from (eA16 3))).trans ((funext (hA_c62 3 rfl)).trans (ew3)))))) (show inr (z95) from pz95_0) (show 0 ≤ (z95) ∧ (z95) ≤ 17 from q_4022 pz95_1) (show 0 ≤ ((u0_9 + tc62_0)) ∧ (u0_9) ≤ ((u0_9 + tc62_0)) ∧ ((u0_9 + tc62_0)) ≤ (u0_8) from q_4028 b15 h0 h1 jc62_1) (show ((u0_9 + tc62_0)) ≤ (u0_18) from q_4020 b15) (show 0 ≤ (u2_1) ∧ (u2_1) ≤ (n3) ∧ (n3) ≤ 65536 from h2) (show (z95) ≠ 0 ∨ 0 ≤ (u0_19) ∧ (u0_19) ≤ 131072 ∧ ((u0_19) ≤ (n3) ∨ (n3) = 65536) from q_4019 pz95_1) (show PLA (ub8 ((w1))) ((u0_9)) ((u0_18)) (moF ((u0_15))) ((z95)) ((y95_0_21)) (((u0_9 + tc62_0))) ((u0_19)) ((u2_1)) ((w3)) by assumption) (show (z95) ≠ 0 ∨ (u0_19) ≤ moF ((u0_15)) from q_4018 pz95_1) (show (z95) ≠ 0 ∨ (y95_0_21) = (u0_21) from q_4017 pz95_1))
          · refine Ew_of (pcₚ := 123) (fun _ => x_aload_n rfl (rk_o (lc109_0) rfl rfl)) ?_
            refine Ew_of (pcₚ := 125) (fun _ => x_bipush (z := 11) rfl (by decide)) ?_
            refine Ew_of (pcₚ := 126) (fun _ => x_aload_n rfl (rk_o (lc109_0) rfl rfl)) ?_
            refine v_g H (o := 0) (v := I (u0_9)) rfl rfl rfl rfl rfl (congrArg (fun z : Int => I z) (((((((show F18 0 9 = F_c109 0 9 from (eF18 0 9).trans (hS18 0 9 rfl))).trans (hS_c109 0 9 rfl)).trans ((show F16 0 9 = F_c62 0 9 from (eF16 0 9)))).trans (hS_c62 0 9 rfl)).trans (eu0_9)) : F18 0 9 = u0_9)) ?_
            refine v_inv H (o := 0) rfl rfl rfl rfl rfl rfl (by rfl) (C232 (D := puc 0 D) (N := puc 0 N) (HW_subc H oz_H2cls_58 oz_H2cls_12) (u0_21) (((((((show F18 0 21 = F_c109 0 21 from (eF18 0 21).trans (hS18 0 21 rfl))).trans (hS_c109 0 21 rfl)).trans ((show F16 0 21 = F_c62 0 21 from (eF16 0 21)))).trans (hS_c62 0 21 rfl)).trans (eu0_21))) (show inr (11) from q_326) (show inr (u0_9) from q_3943 h0) (fun z97 σ97 F97ₚ A97ₚ Hₚ Oₚ hS97 hA97 y97_0_21 (ey97_0_21 : HID _) pz97_0 pz97_1 pz97_2 => ⟨rfl, ?_⟩))
            refine v_backc (c := c) (s := s) H oz_H2cls_58 oz_H2cls_12 Hₚ Oₚ (fun F97 A97 H Oₚ eF97 eA97 => ?_)
            have O := OUT_trans O Oₚ
            -- Unpacker.fail
            have cF97 : SF oz_H2clsl_17 F F97 := SF_trans (cF18) (SF_gluc (ι := oz_H2clsl_6) oz_H2cls_12 hS97 eF97 (by decide +kernel)) (any_sub (lₚ := [(0, 21)]) (by decide +kernel))
            have mF97 := SFm_of cF97 oz_H2cls_59
            have cA97 : SA oz_H2clsl_12 A A97 := SA_trans (cA18) (SA_gluc (ι := oz_H2clsl_6) oz_H2cls_12 hA97 eA97 (by decide +kernel)) (any_subA (lₚ := []) (by decide +kernel))
            have mA97 := SAm_of cA97 oz_H2cls_48
            have r98 : (-2147483648 : Int) ≤ y97_0_21 ∧ y97_0_21 ≤ 2147483647 := rngE (show (-2147483648 : Int) ≤ F97 0 21 ∧ F97 0 21 ≤ 2147483647 from H.krg 0 21 (ltn len_V244_oz_H2cls rfl)) (show F97 0 21 = y97_0_21 from ((eF97 0 21).trans ey97_0_21))
            have : PLA (ub8 ((w1))) ((u0_9)) ((u0_18)) (moF ((u0_15))) ((z97)) ((y97_0_21)) ((u0_9)) ((u0_19)) ((u2_1)) ((w3)) := PLA_f (fun T G => (LTF_0 (b := (tc62_0)) (n := qn) (d := q9) (by omega) hbl rfl hb4 rfl (by rw [← hlx]; exact hl3) hqn hq9c).trans (LT0_11 (by omega) (by omega))) (by decide) (by omega) (by omega)
            exact w_ireturn rfl (k (z97) _ _ _ _ _ _ _ H O (SD_refl) (SD_refl) (cF97) (cA97) ((((((((show F97 2 0 = F18 2 0 from (eF97 2 0))).trans ((show F18 2 0 = F_c109 2 0 from (eF18 2 0)))).trans (hS_c109 2 0 rfl)).trans ((show F16 2 0 = F_c62 2 0 from (eF16 2 0)))).trans (hS_c62 2 0 rfl))).trans (pf3)) (n3) (en3) (u0_9) ((((((((show F97 0 9 = F18 0 9 from (eF97 0 9).trans (hS97 0 9 rfl))).trans ((show F18 0 9 = F_c109 0 9 from (eF18 0 9).trans (hS18 0 9 rfl)))).trans (hS_c109 0 9 rfl)).trans ((show F16 0 9 = F_c62 0 9 from (eF16 0 9)))).trans (hS_c62 0 9 rfl)).trans (eu0_9))) (u0_19) ((((((((show F97 0 19 = F18 0 19 from (eF97 0 19).trans (hS97 0 19 rfl))).trans ((show F18 0 19 = F_c109 0 19 from (eF18 0 19).trans (hS18 0 19 rfl)))).trans (hS_c109 0 19 rfl)).trans ((show F16 0 19 = F_c62 0 19 from (eF16 0 19)))).trans (hS_c62 0 19 rfl)).trans (eu0_19))) (y97_0_21) (((eF97 0 21).trans ey97_0_21)) (u2_1) ((((((((show F97 2 1 = F18 2 1 from (eF97 2 1))).trans ((show F18 2 1 = F_c109 2 1 from (eF18 2 1)))).trans (hS_c109 2 1 rfl)).trans ((show F16 2 1 = F_c62 2 1 from (eF16 2 1)))).trans (hS_c62 2 1 rfl)).trans (eu2_1))) (w3) (((show A97 3 = A18 3 from (eA97 3))).trans (((show A18 3 = A_c109 3 from (eA18 3))).trans ((funext (hA_c109 3 rfl)).trans (((show A16 3 = A_c62 3 from (eA16 3))).trans ((funext (hA_c62 3 rfl)).trans (ew3)))))) (show inr (z97) from pz97_0) (show 0 ≤ (z97) ∧ (z97) ≤ 17 from q_4032 pz97_1) (show 0 ≤ (u0_9) ∧ (u0_9) ≤ (u0_9) ∧ (u0_9) ≤ (u0_8) from q_3950 h0) (show (u0_9) ≤ (u0_18) from q_1707 h1) (show 0 ≤ (u2_1) ∧ (u2_1) ≤ (n3) ∧ (n3) ≤ 65536 from h2) (show (z97) ≠ 0 ∨ 0 ≤ (u0_19) ∧ (u0_19) ≤ 131072 ∧ ((u0_19) ≤ (n3) ∨ (n3) = 65536) from q_4031 pz97_1) (show PLA (ub8 ((w1))) ((u0_9)) ((u0_18)) (moF ((u0_15))) ((z97)) ((y97_0_21)) ((u0_9)) ((u0_19)) ((u2_1)) ((w3)) by assumption) (show (z97) ≠ 0 ∨ (u0_19) ≤ moF ((u0_15)) from q_4030 pz97_1) (show (z97) ≠ 0 ∨ (y97_0_21) = (u0_21) from q_4029 pz97_1))
        refine w_icmpne (t := 108) rfl rfl (show inr (tc62_0) from jc62_0) (show inr (1) from q_135) (fun b99 => ?_) (fun b99 => ?_)
        · refine Ew_of (pcₚ := 109) (fun _ => x_iconst rfl) ?_
          exact hc109 (4) _ _ _ _  (rk_o (lc62_0) rfl rfl) (rk_o (lc62_1) rfl rfl) (rk_s) H O (SF_refl) (SA_refl)     (show inr (4) from q_216) (show ((tc62_0) ≠ (1) ∧ (4) = (4)) ∨ ((tc62_0) = (1) ∧ (4) = (3)) from q_4033 b99)
        · refine Ew_of (pcₚ := 105) (fun _ => x_iconst rfl) ?_
          refine Ew_of (pcₚ := 109) (fun _ => x_goto rfl rfl) ?_
          exact hc109 (3) _ _ _ _  (rk_o (lc62_0) rfl rfl) (rk_o (lc62_1) rfl rfl) (rk_s) H O (SF_refl) (SA_refl)     (show inr (3) from q_246) (show ((tc62_0) ≠ (1) ∧ (3) = (4)) ∨ ((tc62_0) = (1) ∧ (3) = (3)) from q_4034 b99)
      · refine Ew_of (pcₚ := 77) (fun _ => x_aload_n rfl (rk_o (lc62_0) rfl rfl)) ?_
        refine Ew_of (pcₚ := 79) (fun _ => x_bipush (z := 10) rfl (by decide)) ?_
        refine Ew_of (pcₚ := 80) (fun _ => x_aload_n rfl (rk_o (lc62_0) rfl rfl)) ?_
        refine v_g H (o := 0) (v := I (u0_18)) rfl rfl rfl rfl rfl (congrArg (fun z : Int => I z) (((mF_c62 0 18 rfl).trans (eu0_18)) : F_c62 0 18 = u0_18)) ?_
        refine v_inv H (o := 0) rfl rfl rfl rfl rfl rfl (by rfl) (C232 (D := puc 0 D) (N := puc 0 N) (HW_subc H oz_H2cls_58 oz_H2cls_12) (u0_21) (((hS_c62 0 21 rfl).trans (eu0_21))) (show inr (10) from q_746) (show inr (u0_18) from q_18 r4) (fun z100 σ100 F100ₚ A100ₚ Hₚ Oₚ hS100 hA100 y100_0_21 (ey100_0_21 : HID _) pz100_0 pz100_1 pz100_2 => ⟨rfl, ?_⟩))
        refine v_backc (c := c) (s := s) H oz_H2cls_58 oz_H2cls_12 Hₚ Oₚ (fun F100 A100 H Oₚ eF100 eA100 => ?_)
        have O := OUT_trans O Oₚ
        -- Unpacker.fail
        have cF100 : SF oz_H2clsl_17 F F100 := SF_trans (cF_c62) (SF_gluc (ι := oz_H2clsl_6) oz_H2cls_12 hS100 eF100 (by decide +kernel)) (any_sub (lₚ := [(0, 21)]) (by decide +kernel))
        have mF100 := SFm_of cF100 oz_H2cls_59
        have cA100 : SA oz_H2clsl_12 A A100 := SA_trans (cA_c62) (SA_gluc (ι := oz_H2clsl_6) oz_H2cls_12 hA100 eA100 (by decide +kernel)) (any_subA (lₚ := []) (by decide +kernel))
        have mA100 := SAm_of cA100 oz_H2cls_48
        have r101 : (-2147483648 : Int) ≤ y100_0_21 ∧ y100_0_21 ≤ 2147483647 := rngE (show (-2147483648 : Int) ≤ F100 0 21 ∧ F100 0 21 ≤ 2147483647 from H.krg 0 21 (ltn len_V244_oz_H2cls rfl)) (show F100 0 21 = y100_0_21 from ((eF100 0 21).trans ey100_0_21))
        have : PLA (ub8 ((w1))) ((u0_9)) ((u0_18)) (moF ((u0_15))) ((z100)) ((y100_0_21)) ((u0_9)) ((u0_19)) ((u2_1)) ((w3)) := PLA_f (fun T G => LTF_h (b := (tc62_0)) (by omega) hbl (.inl ⟨hb4, by rw [← hlx]; exact hl3⟩) (by omega)) (by decide) (by omega) (by omega)
        exact w_ireturn rfl (k (z100) _ _ _ _ _ _ _ H O (SD_refl) (SD_refl) (cF100) (cA100) (((((show F100 2 0 = F_c62 2 0 from (eF100 2 0))).trans (hS_c62 2 0 rfl))).trans (pf3)) (n3) (en3) (u0_9) (((((show F100 0 9 = F_c62 0 9 from (eF100 0 9).trans (hS100 0 9 rfl))).trans (hS_c62 0 9 rfl)).trans (eu0_9))) (u0_19) (((((show F100 0 19 = F_c62 0 19 from (eF100 0 19).trans (hS100 0 19 rfl))).trans (hS_c62 0 19 rfl)).trans (eu0_19))) (y100_0_21) (((eF100 0 21).trans ey100_0_21)) (u2_1) (((((show F100 2 1 = F_c62 2 1 from (eF100 2 1))).trans (hS_c62 2 1 rfl)).trans (eu2_1))) (w3) (((show A100 3 = A_c62 3 from (eA100 3))).trans ((funext (hA_c62 3 rfl)).trans (ew3))) (show inr (z100) from pz100_0) (show 0 ≤ (z100) ∧ (z100) ≤ 17 from q_4022 pz100_1) (show 0 ≤ (u0_9) ∧ (u0_9) ≤ (u0_9) ∧ (u0_9) ≤ (u0_8) from q_3950 h0) (show (u0_9) ≤ (u0_18) from q_1707 h1) (show 0 ≤ (u2_1) ∧ (u2_1) ≤ (n3) ∧ (n3) ≤ 65536 from h2) (show (z100) ≠ 0 ∨ 0 ≤ (u0_19) ∧ (u0_19) ≤ 131072 ∧ ((u0_19) ≤ (n3) ∨ (n3) = 65536) from q_4019 pz100_1) (show PLA (ub8 ((w1))) ((u0_9)) ((u0_18)) (moF ((u0_15))) ((z100)) ((y100_0_21)) ((u0_9)) ((u0_19)) ((u2_1)) ((w3)) by assumption) (show (z100) ≠ 0 ∨ (u0_19) ≤ moF ((u0_15)) from q_4018 pz100_1) (show (z100) ≠ 0 ∨ (y100_0_21) = (u0_21) from q_4017 pz100_1))
    refine w_ifne (t := 52) rfl rfl (show inr ((z14 % 2)) from q_1474) (fun b102 => ?_) (fun b102 => ?_)
    · refine Ew_of (pcₚ := 53) (fun _ => x_iload_n rfl rk_s) ?_
      refine Ew_of (pcₚ := 54) (fun _ => x_iconst rfl) ?_
      refine w_icmpne (t := 61) rfl rfl (show inr (z14) from gz14) (show inr (1) from q_135) (fun b103 => ?_) (fun b103 => ?_)
      · refine Ew_of (pcₚ := 62) (fun _ => x_iconst rfl) ?_
        exact hc62 (3) _ _ _ _  (rk_o (rk_o (rfl) rfl rfl) rfl rfl) (rk_o (rk_s) rfl rfl) H O (SF_refl) (SA_refl)     (show inr (3) from q_246) (show (((z14 % 2)) ≠ (0) ∧ (z14) ≠ (1) ∧ (3) = (3)) ∨ (((z14 % 2)) ≠ (0) ∧ (z14) = (1) ∧ (3) = (2)) ∨ (((z14 % 2)) = (0) ∧ (3) = (1)) from q_4035 b102 b103)
      · refine Ew_of (pcₚ := 58) (fun _ => x_iconst rfl) ?_
        refine Ew_of (pcₚ := 62) (fun _ => x_goto rfl rfl) ?_
        exact hc62 (2) _ _ _ _  (rk_o (rk_o (rfl) rfl rfl) rfl rfl) (rk_o (rk_s) rfl rfl) H O (SF_refl) (SA_refl)     (show inr (2) from q_122) (show (((z14 % 2)) ≠ (0) ∧ (z14) ≠ (1) ∧ (2) = (3)) ∨ (((z14 % 2)) ≠ (0) ∧ (z14) = (1) ∧ (2) = (2)) ∨ (((z14 % 2)) = (0) ∧ (2) = (1)) from q_4036 b102 b103)
    · refine Ew_of (pcₚ := 49) (fun _ => x_iconst rfl) ?_
      refine Ew_of (pcₚ := 62) (fun _ => x_goto rfl rfl) ?_
      exact hc62 (1) _ _ _ _  (rk_o (rk_o (rfl) rfl rfl) rfl rfl) (rk_o (rk_s) rfl rfl) H O (SF_refl) (SA_refl)     (show inr (1) from q_135) (show (((z14 % 2)) ≠ (0) ∧ (z14) ≠ (1) ∧ (1) = (3)) ∨ (((z14 % 2)) ≠ (0) ∧ (z14) = (1) ∧ (1) = (2)) ∨ (((z14 % 2)) = (0) ∧ (1) = (1)) from q_4037 b102)
  · refine Ew_of (pcₚ := 12) (fun _ => x_aload_n rfl rfl) ?_
    refine Ew_of (pcₚ := 14) (fun _ => x_bipush (z := 10) rfl (by decide)) ?_
    refine Ew_of (pcₚ := 15) (fun _ => x_aload_n rfl rfl) ?_
    refine v_g H (o := 0) (v := I (u0_18)) rfl rfl rfl rfl rfl (congrArg (fun z : Int => I z) ((eu0_18) : F 0 18 = u0_18)) ?_
    refine v_inv H (o := 0) rfl rfl rfl rfl rfl rfl (by rfl) (C232 (D := puc 0 D) (N := puc 0 N) (HW_subc H oz_H2cls_58 oz_H2cls_12) (u0_21) ((eu0_21)) (show inr (10) from q_746) (show inr (u0_18) from q_18 r4) (fun z104 σ104 F104ₚ A104ₚ Hₚ Oₚ hS104 hA104 y104_0_21 (ey104_0_21 : HID _) pz104_0 pz104_1 pz104_2 => ⟨rfl, ?_⟩))
    refine v_backc (c := c) (s := s) H oz_H2cls_58 oz_H2cls_12 Hₚ Oₚ (fun F104 A104 H Oₚ eF104 eA104 => ?_)
    have O := OUT_trans O Oₚ
    -- Unpacker.fail
    have cF104 : SF oz_H2clsl_17 F F104 := SF_trans (SF_refl) (SF_gluc (ι := oz_H2clsl_6) oz_H2cls_12 hS104 eF104 (by decide +kernel)) (any_sub (lₚ := [(0, 21)]) (by decide +kernel))
    have mF104 := SFm_of cF104 oz_H2cls_59
    have cA104 : SA oz_H2clsl_12 A A104 := SA_trans (SA_refl) (SA_gluc (ι := oz_H2clsl_6) oz_H2cls_12 hA104 eA104 (by decide +kernel)) (any_subA (lₚ := []) (by decide +kernel))
    have mA104 := SAm_of cA104 oz_H2cls_48
    have r105 : (-2147483648 : Int) ≤ y104_0_21 ∧ y104_0_21 ≤ 2147483647 := rngE (show (-2147483648 : Int) ≤ F104 0 21 ∧ F104 0 21 ≤ 2147483647 from H.krg 0 21 (ltn len_V244_oz_H2cls rfl)) (show F104 0 21 = y104_0_21 from ((eF104 0 21).trans ey104_0_21))
    have : PLA (ub8 ((w1))) ((u0_9)) ((u0_18)) (moF ((u0_15))) ((z104)) ((y104_0_21)) ((u0_9)) ((u0_19)) ((u2_1)) ((w3)) := PLA_f (fun T G => LTF_e (by omega)) (by decide) (by omega) (by omega)
    exact w_ireturn rfl (k (z104) _ _ _ _ _ _ _ H O (SD_refl) (SD_refl) (cF104) (cA104) ((((show F104 2 0 = F 2 0 from (eF104 2 0)))).trans (pf3)) (n3) (en3) (u0_9) ((((show F104 0 9 = F 0 9 from (eF104 0 9).trans (hS104 0 9 rfl))).trans (eu0_9))) (u0_19) ((((show F104 0 19 = F 0 19 from (eF104 0 19).trans (hS104 0 19 rfl))).trans (eu0_19))) (y104_0_21) (((eF104 0 21).trans ey104_0_21)) (u2_1) ((((show F104 2 1 = F 2 1 from (eF104 2 1))).trans (eu2_1))) (w3) (((show A104 3 = A 3 from (eA104 3))).trans (ew3)) (show inr (z104) from pz104_0) (show 0 ≤ (z104) ∧ (z104) ≤ 17 from q_4022 pz104_1) (show 0 ≤ (u0_9) ∧ (u0_9) ≤ (u0_9) ∧ (u0_9) ≤ (u0_8) from q_3950 h0) (show (u0_9) ≤ (u0_18) from q_1707 h1) (show 0 ≤ (u2_1) ∧ (u2_1) ≤ (n3) ∧ (n3) ≤ 65536 from h2) (show (z104) ≠ 0 ∨ 0 ≤ (u0_19) ∧ (u0_19) ≤ 131072 ∧ ((u0_19) ≤ (n3) ∨ (n3) = 65536) from q_4019 pz104_1) (show PLA (ub8 ((w1))) ((u0_9)) ((u0_18)) (moF ((u0_15))) ((z104)) ((y104_0_21)) ((u0_9)) ((u0_19)) ((u2_1)) ((w3)) by assumption) (show (z104) ≠ 0 ∨ (u0_19) ≤ moF ((u0_15)) from q_4018 pz104_1) (show (z104) ≠ 0 ∨ (y104_0_21) = (u0_21) from q_4017 pz104_1))

