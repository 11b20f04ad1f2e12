abbrev V254 : vV := [(0, 12, [(4, 0), (4, 0), (4, 0), (4, 0), (4, 0), (4, 0), (4, 0), (4, 0), (0, 0), (0, 0), (4, 0), (0, 0), (4, 0), (4, 0), (0, 0), (2, 0), (0, 0), (0, 0), (0, 0), (0, 0), (0, 0), (0, 0)]), (0, 7, [(4, 0), (0, 0), (1, 0), (0, 0), (0, 0)]), (1, 0, [])]
theorem len_V254_oz_H3cls : (V254).length = 3 := by decide +kernel
theorem oz_H3cls_1 : vsub V254 V234 [0] = true := by decide +kernel
def oz_H3clsl_0 : List (Nat × Nat) := []
theorem oz_H3cls_2 : (oz_H3clsl_0).all (fun p => !tbz 0 (Nat.add (Nat.mul 32 p.1) p.2)) = true := by decide +kernel
def oz_H3clsl_1 : List Nat := []
theorem oz_H3cls_3 : (oz_H3clsl_1).all (fun p => !tbz 0 p) = true := by decide +kernel
def oz_H3clsl_2 : List Nat := [0]
theorem oz_H3cls_4 : okc oz_H3clsl_2 0 = true := by decide +kernel

theorem C254 {σE : rS} {D N : Nat → Nat} {F : hF} {A : hA} {d c s : Nat} {Q : wQ} (H : HW V254 σE D N F A) {a1 a2 : Int} (pf1 : HID (F 0 10 = (D 1 : Int))) (pf2 : HID (F 1 0 = (D 2 : Int))) (n2 : Int) (en2 : HID ((N 2 : Int) = n2)) (u0_11 : Int) (eu0_11 : HID (F 0 11 = u0_11)) (u0_15 : Int) (eu0_15 : HID (F 0 15 = u0_15)) (u1_1 : Int) (eu1_1 : HID (F 1 1 = u1_1)) (h0 : inr (a1)) (h1 : inr (a2)) (h2 : 0 ≤ (u0_15)) (h3 : 0 ≤ (u1_1) ∧ (u1_1) ≤ (n2) ∧ (n2) ≤ 65536) (h4 : 0 ≤ (u0_11) ∧ (u0_11) ≤ 65536 ∧ (u1_1) ≤ (u0_11)) (h5 : 0 ≤ (a1) ∧ (a1) ≤ 1000000) (h6 : 0 ≤ (a2) ∧ (a2) ≤ (u1_1)) (k : ∀ (z : Int) (σ : rS) (Fₚ : hF) (Aₚ : hA), HW V254 σ D N Fₚ Aₚ → OUT (V254).length D N σE c s D N σ c s → SF [] F Fₚ → SA [] A Aₚ → (inr (z)) → (0 ≤ (z) ∧ (z) ≤ 20) → ((z) ≠ 0 ∨ (u1_1) + (a1) ≤ (u0_11)) → (FLq ((u1_1)) ((a2)) ((a1)) (moF ((u0_15))) ((u0_11)) ((z))) → Q (some (I z)) σ c s) : Ew 254 (d + 1) 0 (rargs 0 [.ref (D 0), I a1, I a2]) [] σE c s Q := by
  have O := OUT_refl (n := (V254).length) (D := D) (N := N) (σ := σE) (c := c) (s := s)
  have HE := H
  have r1 : (-2147483648 : Int) ≤ u0_11 ∧ u0_11 ≤ 2147483647 := rngE (show (-2147483648 : Int) ≤ F 0 11 ∧ F 0 11 ≤ 2147483647 from H.krg 0 11 (ltn len_V254_oz_H3cls rfl)) (show F 0 11 = u0_11 from (eu0_11))
  have r2 : (-9223372036854775808 : Int) ≤ u0_15 ∧ u0_15 ≤ 9223372036854775807 := rngE (show (-9223372036854775808 : Int) ≤ F 0 15 ∧ F 0 15 ≤ 9223372036854775807 from H.krg 0 15 (ltn len_V254_oz_H3cls rfl)) (show F 0 15 = u0_15 from (eu0_15))
  have r3 : (-2147483648 : Int) ≤ u1_1 ∧ u1_1 ≤ 2147483647 := rngE (show (-2147483648 : Int) ≤ F 1 1 ∧ F 1 1 ≤ 2147483647 from H.krg 1 1 (ltn len_V254_oz_H3cls rfl)) (show F 1 1 = u1_1 from (eu1_1))
  have r4 : (0 : Int) ≤ n2 ∧ n2 ≤ 1000000 := nleE (H.nle 2 (ltn len_V254_oz_H3cls rfl)) (show (N 2 : Int) = n2 from en2)
  refine Ew_of (pcₚ := 1) (fun _ => x_aload_n rfl rfl) ?_
  refine v_g H (o := 0) (v := .ref (D 1)) rfl rfl rfl rfl rfl (vrf (pf1)) ?_
  refine v_g H (o := 1) (v := I (u1_1)) rfl rfl rfl rfl rfl (congrArg (fun z : Int => I z) ((eu1_1) : F 1 1 = u1_1)) ?_
  refine Ew_of (pcₚ := 8) (fun _ => x_iload_n rfl rfl) ?_
  refine w_isub rfl ?_
  refine Ew_of (pcₚ := 10) (fun _ => x_iload_n rfl rfl) ?_
  refine w_iadd rfl ?_
  refine Ew_of (pcₚ := 12) (fun _ => x_aload_n rfl rfl) ?_
  refine v_inv H (o := 0) rfl rfl rfl rfl rfl rfl (by rfl) (C234 (D := puc 0 D) (N := puc 0 N) (HW_subc H oz_H3cls_1 oz_H3cls_4) (u0_15) ((eu0_15)) (show 0 ≤ (u0_15) from h2) (fun z5 σ5 F5ₚ A5ₚ Hₚ Oₚ hS5 hA5 pz5_0 pz5_1 pz5_2 => ⟨rfl, ?_⟩))
  refine v_backc (c := c) (s := s) H oz_H3cls_1 oz_H3cls_4 Hₚ Oₚ (fun F5 A5 H Oₚ eF5 eA5 => ?_)
  have O := OUT_trans O Oₚ
  -- Unpacker.blockMost
  have cF5 : SF oz_H3clsl_0 F F5 := SF_trans (SF_refl) (SF_gluc (ι := oz_H3clsl_2) oz_H3cls_4 hS5 eF5 (by decide +kernel)) (any_sub (lₚ := []) (by decide +kernel))
  have mF5 := SFm_of cF5 oz_H3cls_2
  have cA5 : SA oz_H3clsl_1 A A5 := SA_trans (SA_refl) (SA_gluc (ι := oz_H3clsl_2) oz_H3cls_4 hA5 eA5 (by decide +kernel)) (any_subA (lₚ := []) (by decide +kernel))
  have mA5 := SAm_of cA5 oz_H3cls_3
  have hmo := pz5_2
  refine w_icmple (t := 21) rfl rfl (show inr (((u1_1 - a2) + a1)) from q_4038 h4 h5 h6) (show inr (z5) from pz5_0) (fun b6 => ?_) (fun b6 => ?_)
  · refine Ew_of (pcₚ := 22) (fun _ => x_iload_n rfl rfl) ?_
    refine Ew_of (pcₚ := 23) (fun _ => x_aload_n rfl rfl) ?_
    refine v_g H (o := 0) (v := I (u0_11)) rfl rfl rfl rfl rfl (congrArg (fun z : Int => I z) (((mF5 0 11 rfl).trans (eu0_11)) : F5 0 11 = u0_11)) ?_
    refine Ew_of (pcₚ := 27) (fun _ => x_aload_n rfl rfl) ?_
    refine v_g H (o := 0) (v := .ref (D 1)) rfl rfl rfl rfl rfl (vrf ((mF5 0 10 rfl).trans (pf1))) ?_
    refine v_g H (o := 1) (v := I (u1_1)) rfl rfl rfl rfl rfl (congrArg (fun z : Int => I z) (((mF5 1 1 rfl).trans (eu1_1)) : F5 1 1 = u1_1)) ?_
    refine w_isub rfl ?_
    refine w_icmple (t := 42) rfl rfl (show inr (a1) from h0) (show inr ((u0_11 - u1_1)) from q_3412 h3 h4) (fun b7 => ?_) (fun b7 => ?_)
    · refine Ew_of (pcₚ := 43) (fun _ => x_iconst rfl) ?_
      have : FLq ((u1_1)) ((a2)) ((a1)) (moF ((u0_15))) ((u0_11)) ((0)) := by unfold FLq; omega
      exact w_ireturn rfl (k (0) _ _ _ H O (cF5) (cA5) (show inr (0) from q_2) (show 0 ≤ (0) ∧ (0) ≤ 20 by first | exact q_683 | omega) (show (0) ≠ 0 ∨ (u1_1) + a1 ≤ (u0_11) by first | exact q_4039 b7 | omega) (show FLq ((u1_1)) (a2) (a1) (moF ((u0_15))) ((u0_11)) ((0)) by assumption))
    · refine Ew_of (pcₚ := 39) (fun _ => x_bipush (z := 7) rfl (by decide)) ?_
      refine Ew_of (pcₚ := 43) (fun _ => x_goto rfl rfl) ?_
      have : FLq ((u1_1)) ((a2)) ((a1)) (moF ((u0_15))) ((u0_11)) ((7)) := by unfold FLq; omega
      exact w_ireturn rfl (k (7) _ _ _ H O (cF5) (cA5) (show inr (7) from q_597) (show 0 ≤ (7) ∧ (7) ≤ 20 by first | exact q_1712 | omega) (show (7) ≠ 0 ∨ (u1_1) + a1 ≤ (u0_11) by first | exact q_4040 | omega) (show FLq ((u1_1)) (a2) (a1) (moF ((u0_15))) ((u0_11)) ((7)) by assumption))
  · refine Ew_of (pcₚ := 20) (fun _ => x_bipush (z := 20) rfl (by decide)) ?_
    have : FLq ((u1_1)) ((a2)) ((a1)) (moF ((u0_15))) ((u0_11)) ((20)) := by unfold FLq; omega
    exact w_ireturn rfl (k (20) _ _ _ H O (cF5) (cA5) (show inr (20) from q_1512) (show 0 ≤ (20) ∧ (20) ≤ 20 by first | exact q_1715 | omega) (show (20) ≠ 0 ∨ (u1_1) + a1 ≤ (u0_11) by first | exact q_4041 | omega) (show FLq ((u1_1)) (a2) (a1) (moF ((u0_15))) ((u0_11)) ((20)) by assumption))
abbrev V253 : vV := [(0, 12, [(4, 0), (4, 0), (4, 0), (4, 0), (4, 0), (4, 0), (4, 0), (4, 0), (0, 0), (0, 0), (4, 0), (0, 0), (4, 0), (4, 0), (0, 0), (2, 0), (0, 0), (0, 0), (0, 0), (0, 0), (0, 0), (0, 0)]), (0, 7, [(4, 0), (0, 0), (1, 0), (0, 0), (0, 0)]), (1, 0, []), (0, 4, [(4, 0), (4, 0), (0, 0), (4, 0), (4, 0)]), (0, 7, [(4, 0), (0, 0), (1, 0), (0, 0), (0, 0)]), (1, 0, [])]
theorem len_V253_oz_H3cls : (V253).length = 6 := by decide +kernel
theorem oz_H3cls_6 : vsub V253 V254 [0, 1, 2] = true := by decide +kernel
def oz_H3clsl_3 : List Nat := [0, 1, 2]
theorem oz_H3cls_7 : okc oz_H3clsl_3 524800 = true := by decide +kernel

theorem C253 {σE : rS} {D N : Nat → Nat} {F : hF} {A : hA} {d c s : Nat} {Q : wQ} (H : HW V253 σE D N F A) {a1 a2 a3 a4 : Int} (pf1 : HID (F 0 10 = (D 1 : Int))) (pf2 : HID (F 1 0 = (D 2 : Int))) (pf3 : HID (F 0 12 = (D 3 : Int))) (pf4 : HID (F 3 0 = (D 4 : Int))) (pf5 : HID (F 4 0 = (D 5 : Int))) (n2 : Int) (en2 : HID ((N 2 : Int) = n2)) (n5 : Int) (en5 : HID ((N 5 : Int) = n5)) (u0_11 : Int) (eu0_11 : HID (F 0 11 = u0_11)) (u0_15 : Int) (eu0_15 : HID (F 0 15 = u0_15)) (u0_17 : Int) (eu0_17 : HID (F 0 17 = u0_17)) (u0_19 : Int) (eu0_19 : HID (F 0 19 = u0_19)) (u0_20 : Int) (eu0_20 : HID (F 0 20 = u0_20)) (u1_1 : Int) (eu1_1 : HID (F 1 1 = u1_1)) (u4_1 : Int) (eu4_1 : HID (F 4 1 = u4_1)) (h0 : inr (a1)) (h1 : inr (a2)) (h2 : inrJ (a3)) (h3 : inr (a4)) (h4 : 0 ≤ (u0_15)) (h5 : 0 ≤ (u1_1) ∧ (u1_1) ≤ (n2) ∧ (n2) ≤ 65536) (h6 : 0 ≤ (u4_1) ∧ (u4_1) ≤ (n5) ∧ (n5) ≤ 65536) (h7 : 0 ≤ (u0_11) ∧ (u0_11) ≤ 65536 ∧ (u1_1) ≤ (u0_11)) (h8 : 0 ≤ (u0_17) ∧ (u0_17) ≤ (u1_1)) (h9 : 0 ≤ (a1) ∧ (a1) ≤ 300000) (h10 : 0 ≤ (a2) ∧ (a2) ≤ 300000) (h11 : 0 ≤ (a4) ∧ (a4) ≤ (u1_1)) (h12 : 0 ≤ (u0_20) ∧ (u0_20) ≤ 200000 ∧ 0 ≤ (u0_19) ∧ (u0_19) ≤ 200000) (k : ∀ (z : Int) (σ : rS) (Fₚ : hF) (Aₚ : hA), HW V253 σ D N Fₚ Aₚ → OUT (V253).length D N σE c s D N σ c s → SF [] F Fₚ → SA [] A Aₚ → (inr (z)) → (0 ≤ (z) ∧ (z) ≤ 20) → ((z) ≠ 0 ∨ (u1_1) + (a1) + (a2) ≤ (u0_11) ∧ (u0_20) + (a1) ≤ (u0_19) ∧ 1 ≤ (a3) ∧ (a3) ≤ (u1_1) - (u0_17) + (a1) + (u4_1)) → (IMP ((0 : Int) ≤ (a3)) (FOq ((u0_19)) ((u0_20)) ((a1)) ((a2)) ((a3)) ((u0_17)) ((u4_1)) ((u0_15)) ((u1_1)) ((a4)) (moF ((u0_15))) ((u0_11)) ((z)))) → Q (some (I z)) σ c s) : Ew 253 (d + 2) 0 (rargs 0 [.ref (D 0), I a1, I a2, J a3, I a4]) [] σE c s Q := by
  have O := OUT_refl (n := (V253).length) (D := D) (N := N) (σ := σE) (c := c) (s := s)
  have HE := H
  have r1 : (-2147483648 : Int) ≤ u0_11 ∧ u0_11 ≤ 2147483647 := rngE (show (-2147483648 : Int) ≤ F 0 11 ∧ F 0 11 ≤ 2147483647 from H.krg 0 11 (ltn len_V253_oz_H3cls rfl)) (show F 0 11 = u0_11 from (eu0_11))
  have r2 : (-9223372036854775808 : Int) ≤ u0_15 ∧ u0_15 ≤ 9223372036854775807 := rngE (show (-9223372036854775808 : Int) ≤ F 0 15 ∧ F 0 15 ≤ 9223372036854775807 from H.krg 0 15 (ltn len_V253_oz_H3cls rfl)) (show F 0 15 = u0_15 from (eu0_15))
  have r3 : (-2147483648 : Int) ≤ u0_17 ∧ u0_17 ≤ 2147483647 := rngE (show (-2147483648 : Int) ≤ F 0 17 ∧ F 0 17 ≤ 2147483647 from H.krg 0 17 (ltn len_V253_oz_H3cls rfl)) (show F 0 17 = u0_17 from (eu0_17))
  have r4 : (-2147483648 : Int) ≤ u0_19 ∧ u0_19 ≤ 2147483647 := rngE (show (-2147483648 : Int) ≤ F 0 19 ∧ F 0 19 ≤ 2147483647 from H.krg 0 19 (ltn len_V253_oz_H3cls rfl)) (show F 0 19 = u0_19 from (eu0_19))
  have r5 : (-2147483648 : Int) ≤ u0_20 ∧ u0_20 ≤ 2147483647 := rngE (show (-2147483648 : Int) ≤ F 0 20 ∧ F 0 20 ≤ 2147483647 from H.krg 0 20 (ltn len_V253_oz_H3cls rfl)) (show F 0 20 = u0_20 from (eu0_20))
  have r6 : (-2147483648 : Int) ≤ u1_1 ∧ u1_1 ≤ 2147483647 := rngE (show (-2147483648 : Int) ≤ F 1 1 ∧ F 1 1 ≤ 2147483647 from H.krg 1 1 (ltn len_V253_oz_H3cls rfl)) (show F 1 1 = u1_1 from (eu1_1))
  have r7 : (-2147483648 : Int) ≤ u4_1 ∧ u4_1 ≤ 2147483647 := rngE (show (-2147483648 : Int) ≤ F 4 1 ∧ F 4 1 ≤ 2147483647 from H.krg 4 1 (ltn len_V253_oz_H3cls rfl)) (show F 4 1 = u4_1 from (eu4_1))
  have r8 : (0 : Int) ≤ n2 ∧ n2 ≤ 1000000 := nleE (H.nle 2 (ltn len_V253_oz_H3cls rfl)) (show (N 2 : Int) = n2 from en2)
  have r9 : (0 : Int) ≤ n5 ∧ n5 ≤ 1000000 := nleE (H.nle 5 (ltn len_V253_oz_H3cls rfl)) (show (N 5 : Int) = n5 from en5)
  refine Ew_of (pcₚ := 1) (fun _ => x_iload_n rfl rfl) ?_
  refine Ew_of (pcₚ := 2) (fun _ => x_aload_n rfl rfl) ?_
  refine v_g H (o := 0) (v := I (u0_19)) rfl rfl rfl rfl rfl (congrArg (fun z : Int => I z) ((eu0_19) : F 0 19 = u0_19)) ?_
  refine Ew_of (pcₚ := 6) (fun _ => x_aload_n rfl rfl) ?_
  refine v_g H (o := 0) (v := I (u0_20)) rfl rfl rfl rfl rfl (congrArg (fun z : Int => I z) ((eu0_20) : F 0 20 = u0_20)) ?_
  refine w_isub rfl ?_
  refine w_icmple (t := 16) rfl rfl (show inr (a1) from h0) (show inr ((u0_19 - u0_20)) from q_4042 h12) (fun b10 => ?_) (fun b10 => ?_)
  · refine Ew_of (pcₚ := 17) (fun _ => x_aload_n rfl rfl) ?_
    refine v_g H (o := 0) (v := .ref (D 1)) rfl rfl rfl rfl rfl (vrf (pf1)) ?_
    refine v_g H (o := 1) (v := I (u1_1)) rfl rfl rfl rfl rfl (congrArg (fun z : Int => I z) ((eu1_1) : F 1 1 = u1_1)) ?_
    refine Ew_of (pcₚ := 24) (fun _ => x_aload_n rfl rfl) ?_
    refine v_g H (o := 0) (v := I (u0_17)) rfl rfl rfl rfl rfl (congrArg (fun z : Int => I z) ((eu0_17) : F 0 17 = u0_17)) ?_
    refine w_isub rfl ?_
    refine Ew_of (pcₚ := 29) (fun _ => x_iload_n rfl rfl) ?_
    refine w_iadd rfl ?_
    refine w_i2l rfl (show inr (((u1_1 - u0_17) + a1)) from q_4043 h7 h8 h9) ?_
    refine Ew_of (pcₚ := 33) (fun _ => x_lstore rfl) ?_
    refine Ew_of (pcₚ := 34) (fun _ => x_lload_n rfl (rk2_o (rfl) rfl rfl)) ?_
    refine Ew_of (pcₚ := 36) (fun _ => x_lload rfl rk2_s) ?_
    refine w_lcmp rfl (show inrJ (a3) from h2) (show inrJ (((u1_1 - u0_17) + a1)) from q_4044 h7 h8 h9) (fun z11 gz11 gaz11 gbz11 => ?_)
    have hc97 : ∀ (tc97_0 : Int), ∀ (ls : rO) (σ : rS) (F_c97 : hF) (A_c97 : hA) , rlook ls 0 = some (.ref (D 0)) → rlook ls 1 = some (I (a1)) → rlook ls 2 = some (I (a2)) → rlook ls 5 = some (I (a4)) → HW V253 σ D N F_c97 A_c97 → OUT (V253).length D N σE c s D N σ c s → SF [] F F_c97 → SA [] A A_c97 → (inr (tc97_0)) → (((z11) > (0) ∧ (a3) > ((((u1_1 - u0_17) + a1) + u4_1)) ∧ (tc97_0) = (1)) ∨ ((z11) > (0) ∧ (a3) ≤ ((((u1_1 - u0_17) + a1) + u4_1)) ∧ (((u1_1 - u0_17) + a1)) ≤ (u0_15) ∧ (tc97_0) = (0)) ∨ ((z11) > (0) ∧ (a3) ≤ ((((u1_1 - u0_17) + a1) + u4_1)) ∧ (((u1_1 - u0_17) + a1)) > (u0_15) ∧ (tc97_0) = (1)) ∨ ((z11) ≤ (0) ∧ (a3) ≤ (0) ∧ (tc97_0) = (1)) ∨ ((z11) ≤ (0) ∧ (a3) > (0) ∧ (a3) ≤ (u0_15) ∧ (tc97_0) = (0)) ∨ ((z11) ≤ (0) ∧ (a3) > (0) ∧ (a3) > (u0_15) ∧ (tc97_0) = (1))) → Ew 253 (d + 2) 97 ls [I (tc97_0)] σ c s Q := by
     as_aux_lemma =>
      intro tc97_0 ls σ F_c97 A_c97  lc97_0 lc97_1 lc97_2 lc97_5 H O hS_c97 hA_c97     jc97_0 jc97_1
      have cF_c97 : SF oz_H3clsl_0 F F_c97 := SF_trans (SF_refl) hS_c97 (any_sub (by decide +kernel))
      have mF_c97 := SFm_of cF_c97 oz_H3cls_2
      have cA_c97 : SA oz_H3clsl_1 A A_c97 := SA_trans (SA_refl) hA_c97 (any_subA (by decide +kernel))
      have mA_c97 := SAm_of cA_c97 oz_H3cls_3
      refine Ew_of (pcₚ := 99) (fun _ => x_istore rfl) ?_
      have htf : IMP ((0 : Int) ≤ (a3)) (((tc97_0) ≠ 0 ∧ tfF ((a3)) ((u1_1) - (u0_17) + (a1)) ((u4_1)) ((u0_15))) ∨ ((tc97_0) = 0 ∧ ¬ tfF ((a3)) ((u1_1) - (u0_17) + (a1)) ((u4_1)) ((u0_15)))) := fun z => by unfold tfF; omega
      refine Ew_of (pcₚ := 101) (fun _ => x_iload rfl rk_s) ?_
      refine w_ifeq (t := 107) rfl rfl (show inr (tc97_0) from jc97_0) (fun b12 => ?_) (fun b12 => ?_)
      · have hnt : IMP ((0 : Int) ≤ (a3)) (¬ tfF ((a3)) ((u1_1) - (u0_17) + (a1)) ((u4_1)) ((u0_15))) := fun z => by rcases htf z with ⟨a, _⟩ | ⟨_, b⟩; (omega); (exact b)
        refine Ew_of (pcₚ := 108) (fun _ => x_aload_n rfl (rk_o (lc97_0) rfl rfl)) ?_
        refine Ew_of (pcₚ := 109) (fun _ => x_iload_n rfl (rk_o (lc97_1) rfl rfl)) ?_
        refine Ew_of (pcₚ := 110) (fun _ => x_iload_n rfl (rk_o (lc97_2) rfl rfl)) ?_
        refine w_iadd rfl ?_
        refine Ew_of (pcₚ := 113) (fun _ => x_iload rfl (rk_o (lc97_5) rfl rfl)) ?_
        refine v_inv H (o := 0) rfl rfl rfl rfl rfl rfl (by rfl) (C254 (D := puc 524800 D) (N := puc 524800 N) (HW_subc H oz_H3cls_6 oz_H3cls_7) ((mF_c97 0 10 rfl).trans (pf1)) ((mF_c97 1 0 rfl).trans (pf2)) (n2) (en2) (u0_11) (((mF_c97 0 11 rfl).trans (eu0_11))) (u0_15) (((mF_c97 0 15 rfl).trans (eu0_15))) (u1_1) (((mF_c97 1 1 rfl).trans (eu1_1))) (show inr ((a1 + a2)) from q_4046 h10 h9) (show inr (a4) from h3) (show 0 ≤ (u0_15) from h4) (show 0 ≤ (u1_1) ∧ (u1_1) ≤ (n2) ∧ (n2) ≤ 65536 from h5) (show 0 ≤ (u0_11) ∧ (u0_11) ≤ 65536 ∧ (u1_1) ≤ (u0_11) from h7) (show 0 ≤ ((a1 + a2)) ∧ ((a1 + a2)) ≤ 1000000 from q_4045 h10 h9) (show 0 ≤ (a4) ∧ (a4) ≤ (u1_1) from h11) (fun z13 σ13 F13ₚ A13ₚ Hₚ Oₚ hS13 hA13 pz13_0 pz13_1 pz13_2 pz13_3 => ⟨rfl, ?_⟩))
        refine v_backc (c := c) (s := s) H oz_H3cls_6 oz_H3cls_7 Hₚ Oₚ (fun F13 A13 H Oₚ eF13 eA13 => ?_)
        have O := OUT_trans O Oₚ
        -- Unpacker.faultOfLength
        have cF13 : SF oz_H3clsl_0 F F13 := SF_trans (cF_c97) (SF_gluc (ι := oz_H3clsl_3) oz_H3cls_7 hS13 eF13 (by decide +kernel)) (any_sub (lₚ := []) (by decide +kernel))
        have mF13 := SFm_of cF13 oz_H3cls_2
        have cA13 : SA oz_H3clsl_1 A A13 := SA_trans (cA_c97) (SA_gluc (ι := oz_H3clsl_3) oz_H3cls_7 hA13 eA13 (by decide +kernel)) (any_subA (lₚ := []) (by decide +kernel))
        have mA13 := SAm_of cA13 oz_H3cls_3
        have : IMP ((0 : Int) ≤ (a3)) (FOq ((u0_19)) ((u0_20)) ((a1)) ((a2)) ((a3)) ((u0_17)) ((u4_1)) ((u0_15)) ((u1_1)) ((a4)) (moF ((u0_15))) ((u0_11)) ((z13))) := fun z => .inr (.inr ⟨by omega, hnt z, pz13_3⟩)
        exact w_ireturn rfl (k (z13) _ _ _ H O (cF13) (cA13) (show inr (z13) from pz13_0) (show 0 ≤ (z13) ∧ (z13) ≤ 20 from pz13_1) (show (z13) ≠ 0 ∨ (u1_1) + a1 + a2 ≤ (u0_11) ∧ (u0_20) + a1 ≤ (u0_19) ∧ 1 ≤ a3 ∧ a3 ≤ (u1_1) - (u0_17) + a1 + (u4_1) by omega) (show IMP ((0 : Int) ≤ a3) (FOq ((u0_19)) ((u0_20)) (a1) (a2) (a3) ((u0_17)) ((u4_1)) ((u0_15)) ((u1_1)) (a4) (moF ((u0_15))) ((u0_11)) ((z13))) by assumption))
      · refine Ew_of (pcₚ := 106) (fun _ => x_bipush (z := 18) rfl (by decide)) ?_
        have : IMP ((0 : Int) ≤ (a3)) (FOq ((u0_19)) ((u0_20)) ((a1)) ((a2)) ((a3)) ((u0_17)) ((u4_1)) ((u0_15)) ((u1_1)) ((a4)) (moF ((u0_15))) ((u0_11)) ((18))) := fun z => .inr (.inl ⟨by omega, by rcases htf z with ⟨_, b⟩ | ⟨a, _⟩; (exact b); (omega), by omega⟩)
        exact w_ireturn rfl (k (18) _ _ _ H O (cF_c97) (cA_c97) (show inr (18) from q_601) (show 0 ≤ (18) ∧ (18) ≤ 20 by first | exact q_1728 | omega) (show (18) ≠ 0 ∨ (u1_1) + a1 + a2 ≤ (u0_11) ∧ (u0_20) + a1 ≤ (u0_19) ∧ 1 ≤ a3 ∧ a3 ≤ (u1_1) - (u0_17) + a1 + (u4_1) by first | exact q_4047 | omega) (show IMP ((0 : Int) ≤ a3) (FOq ((u0_19)) ((u0_20)) (a1) (a2) (a3) ((u0_17)) ((u4_1)) ((u0_15)) ((u1_1)) (a4) (moF ((u0_15))) ((u0_11)) ((18))) by assumption))
    refine w_ifgt (t := 63) rfl rfl (show inr (z11) from gz11) (fun b14 => ?_) (fun b14 => ?_)
    · refine Ew_of (pcₚ := 64) (fun _ => x_lload_n rfl (rk2_o (rfl) rfl rfl)) ?_
      refine Ew_of (pcₚ := 66) (fun _ => x_lload rfl rk2_s) ?_
      refine Ew_of (pcₚ := 67) (fun _ => x_aload_n rfl (rk2_o (rfl) rfl rfl)) ?_
      refine v_g H (o := 0) (v := .ref (D 3)) rfl rfl rfl rfl rfl (vrf (pf3)) ?_
      refine v_g H (o := 3) (v := .ref (D 4)) rfl rfl rfl rfl rfl (vrf (pf4)) ?_
      refine v_g H (o := 4) (v := I (u4_1)) rfl rfl rfl rfl rfl (congrArg (fun z : Int => I z) ((eu4_1) : F 4 1 = u4_1)) ?_
      refine w_i2l rfl (show inr (u4_1) from q_38 h6) ?_
      refine w_ladd rfl ?_
      refine w_lcmp rfl (show inrJ (a3) from h2) (show inrJ ((((u1_1 - u0_17) + a1) + u4_1)) from q_4048 h6 h7 h8 h9) (fun z15 gz15 gaz15 gbz15 => ?_)
      refine w_ifgt (t := 92) rfl rfl (show inr (z15) from gz15) (fun b16 => ?_) (fun b16 => ?_)
      · refine Ew_of (pcₚ := 93) (fun _ => x_iconst rfl) ?_
        refine Ew_of (pcₚ := 97) (fun _ => x_goto rfl rfl) ?_
        exact hc97 (1) _ _ _ _  (rk2_o (rfl) rfl rfl) (rk2_o (rfl) rfl rfl) (rk2_o (rfl) rfl rfl) (rk2_o (rfl) rfl rfl) H O (SF_refl) (SA_refl)     (show inr (1) from q_135) (show ((z11) > (0) ∧ (a3) > ((((u1_1 - u0_17) + a1) + u4_1)) ∧ (1) = (1)) ∨ ((z11) > (0) ∧ (a3) ≤ ((((u1_1 - u0_17) + a1) + u4_1)) ∧ (((u1_1 - u0_17) + a1)) ≤ (u0_15) ∧ (1) = (0)) ∨ ((z11) > (0) ∧ (a3) ≤ ((((u1_1 - u0_17) + a1) + u4_1)) ∧ (((u1_1 - u0_17) + a1)) > (u0_15) ∧ (1) = (1)) ∨ ((z11) ≤ (0) ∧ (a3) ≤ (0) ∧ (1) = (1)) ∨ ((z11) ≤ (0) ∧ (a3) > (0) ∧ (a3) ≤ (u0_15) ∧ (1) = (0)) ∨ ((z11) ≤ (0) ∧ (a3) > (0) ∧ (a3) > (u0_15) ∧ (1) = (1)) by omega)
      · refine Ew_of (pcₚ := 84) (fun _ => x_lload rfl rk2_s) ?_
        refine Ew_of (pcₚ := 85) (fun _ => x_aload_n rfl (rk2_o (rfl) rfl rfl)) ?_
        refine v_g H (o := 0) (v := J (u0_15)) rfl rfl rfl rfl rfl (congrArg (fun z : Int => J z) ((eu0_15) : F 0 15 = u0_15)) ?_
        refine w_lcmp rfl (show inrJ (((u1_1 - u0_17) + a1)) from q_4044 h7 h8 h9) (show inrJ (u0_15) by omega) (fun z17 gz17 gaz17 gbz17 => ?_)
        refine w_ifle (t := 96) rfl rfl (show inr (z17) from gz17) (fun b18 => ?_) (fun b18 => ?_)
        · refine Ew_of (pcₚ := 97) (fun _ => x_iconst rfl) ?_
          exact hc97 (0) _ _ _ _  (rk2_o (rfl) rfl rfl) (rk2_o (rfl) rfl rfl) (rk2_o (rfl) rfl rfl) (rk2_o (rfl) rfl rfl) H O (SF_refl) (SA_refl)     (show inr (0) from q_2) (show ((z11) > (0) ∧ (a3) > ((((u1_1 - u0_17) + a1) + u4_1)) ∧ (0) = (1)) ∨ ((z11) > (0) ∧ (a3) ≤ ((((u1_1 - u0_17) + a1) + u4_1)) ∧ (((u1_1 - u0_17) + a1)) ≤ (u0_15) ∧ (0) = (0)) ∨ ((z11) > (0) ∧ (a3) ≤ ((((u1_1 - u0_17) + a1) + u4_1)) ∧ (((u1_1 - u0_17) + a1)) > (u0_15) ∧ (0) = (1)) ∨ ((z11) ≤ (0) ∧ (a3) ≤ (0) ∧ (0) = (1)) ∨ ((z11) ≤ (0) ∧ (a3) > (0) ∧ (a3) ≤ (u0_15) ∧ (0) = (0)) ∨ ((z11) ≤ (0) ∧ (a3) > (0) ∧ (a3) > (u0_15) ∧ (0) = (1)) by omega)
        · refine Ew_of (pcₚ := 93) (fun _ => x_iconst rfl) ?_
          refine Ew_of (pcₚ := 97) (fun _ => x_goto rfl rfl) ?_
          exact hc97 (1) _ _ _ _  (rk2_o (rfl) rfl rfl) (rk2_o (rfl) rfl rfl) (rk2_o (rfl) rfl rfl) (rk2_o (rfl) rfl rfl) H O (SF_refl) (SA_refl)     (show inr (1) from q_135) (show ((z11) > (0) ∧ (a3) > ((((u1_1 - u0_17) + a1) + u4_1)) ∧ (1) = (1)) ∨ ((z11) > (0) ∧ (a3) ≤ ((((u1_1 - u0_17) + a1) + u4_1)) ∧ (((u1_1 - u0_17) + a1)) ≤ (u0_15) ∧ (1) = (0)) ∨ ((z11) > (0) ∧ (a3) ≤ ((((u1_1 - u0_17) + a1) + u4_1)) ∧ (((u1_1 - u0_17) + a1)) > (u0_15) ∧ (1) = (1)) ∨ ((z11) ≤ (0) ∧ (a3) ≤ (0) ∧ (1) = (1)) ∨ ((z11) ≤ (0) ∧ (a3) > (0) ∧ (a3) ≤ (u0_15) ∧ (1) = (0)) ∨ ((z11) ≤ (0) ∧ (a3) > (0) ∧ (a3) > (u0_15) ∧ (1) = (1)) by omega)
    · refine Ew_of (pcₚ := 41) (fun _ => x_lload_n rfl (rk2_o (rfl) rfl rfl)) ?_
      refine Ew_of (pcₚ := 42) (fun _ => x_lconst (z := 0) rfl (by decide)) ?_
      refine w_lcmp rfl (show inrJ (a3) from h2) (show inrJ (0) from q_340) (fun z19 gz19 gaz19 gbz19 => ?_)
      refine w_ifle (t := 55) rfl rfl (show inr (z19) from gz19) (fun b20 => ?_) (fun b20 => ?_)
      · refine Ew_of (pcₚ := 56) (fun _ => x_iconst rfl) ?_
        refine Ew_of (pcₚ := 97) (fun _ => x_goto rfl rfl) ?_
        exact hc97 (1) _ _ _ _  (rk2_o (rfl) rfl rfl) (rk2_o (rfl) rfl rfl) (rk2_o (rfl) rfl rfl) (rk2_o (rfl) rfl rfl) H O (SF_refl) (SA_refl)     (show inr (1) from q_135) (show ((z11) > (0) ∧ (a3) > ((((u1_1 - u0_17) + a1) + u4_1)) ∧ (1) = (1)) ∨ ((z11) > (0) ∧ (a3) ≤ ((((u1_1 - u0_17) + a1) + u4_1)) ∧ (((u1_1 - u0_17) + a1)) ≤ (u0_15) ∧ (1) = (0)) ∨ ((z11) > (0) ∧ (a3) ≤ ((((u1_1 - u0_17) + a1) + u4_1)) ∧ (((u1_1 - u0_17) + a1)) > (u0_15) ∧ (1) = (1)) ∨ ((z11) ≤ (0) ∧ (a3) ≤ (0) ∧ (1) = (1)) ∨ ((z11) ≤ (0) ∧ (a3) > (0) ∧ (a3) ≤ (u0_15) ∧ (1) = (0)) ∨ ((z11) ≤ (0) ∧ (a3) > (0) ∧ (a3) > (u0_15) ∧ (1) = (1)) by omega)
      · refine Ew_of (pcₚ := 47) (fun _ => x_lload_n rfl (rk2_o (rfl) rfl rfl)) ?_
        refine Ew_of (pcₚ := 48) (fun _ => x_aload_n rfl (rk2_o (rfl) rfl rfl)) ?_
        refine v_g H (o := 0) (v := J (u0_15)) rfl rfl rfl rfl rfl (congrArg (fun z : Int => J z) ((eu0_15) : F 0 15 = u0_15)) ?_
        refine w_lcmp rfl (show inrJ (a3) from h2) (show inrJ (u0_15) by omega) (fun z21 gz21 gaz21 gbz21 => ?_)
        refine w_ifle (t := 59) rfl rfl (show inr (z21) from gz21) (fun b22 => ?_) (fun b22 => ?_)
        · refine Ew_of (pcₚ := 60) (fun _ => x_iconst rfl) ?_
          refine Ew_of (pcₚ := 97) (fun _ => x_goto rfl rfl) ?_
          exact hc97 (0) _ _ _ _  (rk2_o (rfl) rfl rfl) (rk2_o (rfl) rfl rfl) (rk2_o (rfl) rfl rfl) (rk2_o (rfl) rfl rfl) H O (SF_refl) (SA_refl)     (show inr (0) from q_2) (show ((z11) > (0) ∧ (a3) > ((((u1_1 - u0_17) + a1) + u4_1)) ∧ (0) = (1)) ∨ ((z11) > (0) ∧ (a3) ≤ ((((u1_1 - u0_17) + a1) + u4_1)) ∧ (((u1_1 - u0_17) + a1)) ≤ (u0_15) ∧ (0) = (0)) ∨ ((z11) > (0) ∧ (a3) ≤ ((((u1_1 - u0_17) + a1) + u4_1)) ∧ (((u1_1 - u0_17) + a1)) > (u0_15) ∧ (0) = (1)) ∨ ((z11) ≤ (0) ∧ (a3) ≤ (0) ∧ (0) = (1)) ∨ ((z11) ≤ (0) ∧ (a3) > (0) ∧ (a3) ≤ (u0_15) ∧ (0) = (0)) ∨ ((z11) ≤ (0) ∧ (a3) > (0) ∧ (a3) > (u0_15) ∧ (0) = (1)) by omega)
        · refine Ew_of (pcₚ := 56) (fun _ => x_iconst rfl) ?_
          refine Ew_of (pcₚ := 97) (fun _ => x_goto rfl rfl) ?_
          exact hc97 (1) _ _ _ _  (rk2_o (rfl) rfl rfl) (rk2_o (rfl) rfl rfl) (rk2_o (rfl) rfl rfl) (rk2_o (rfl) rfl rfl) H O (SF_refl) (SA_refl)     (show inr (1) from q_135) (show ((z11) > (0) ∧ (a3) > ((((u1_1 - u0_17) + a1) + u4_1)) ∧ (1) = (1)) ∨ ((z11) > (0) ∧ (a3) ≤ ((((u1_1 - u0_17) + a1) + u4_1)) ∧ (((u1_1 - u0_17) + a1)) ≤ (u0_15) ∧ (1) = (0)) ∨ ((z11) > (0) ∧ (a3) ≤ ((((u1_1 - u0_17) + a1) + u4_1)) ∧ (((u1_1 - u0_17) + a1)) > (u0_15) ∧ (1) = (1)) ∨ ((z11) ≤ (0) ∧ (a3) ≤ (0) ∧ (1) = (1)) ∨ ((z11) ≤ (0) ∧ (a3) > (0) ∧ (a3) ≤ (u0_15) ∧ (1) = (0)) ∨ ((z11) ≤ (0) ∧ (a3) > (0) ∧ (a3) > (u0_15) ∧ (1) = (1)) by omega)
  · refine Ew_of (pcₚ := 15) (fun _ => x_bipush (z := 19) rfl (by decide)) ?_
    have : IMP ((0 : Int) ≤ (a3)) (FOq ((u0_19)) ((u0_20)) ((a1)) ((a2)) ((a3)) ((u0_17)) ((u4_1)) ((u0_15)) ((u1_1)) ((a4)) (moF ((u0_15))) ((u0_11)) ((19))) := fun _ => .inl ⟨by omega, by omega⟩
    exact w_ireturn rfl (k (19) _ _ _ H O (SF_refl) (SA_refl) (show inr (19) from q_1730) (show 0 ≤ (19) ∧ (19) ≤ 20 by first | exact q_1729 | omega) (show (19) ≠ 0 ∨ (u1_1) + a1 + a2 ≤ (u0_11) ∧ (u0_20) + a1 ≤ (u0_19) ∧ 1 ≤ a3 ∧ a3 ≤ (u1_1) - (u0_17) + a1 + (u4_1) by first | exact q_4049 | omega) (show IMP ((0 : Int) ≤ a3) (FOq ((u0_19)) ((u0_20)) (a1) (a2) (a3) ((u0_17)) ((u4_1)) ((u0_15)) ((u1_1)) (a4) (moF ((u0_15))) ((u0_11)) ((19))) by assumption))
abbrev V252_c10 : vV := [(0, 12, [(4, 0), (4, 0), (4, 0), (4, 0), (4, 0), (4, 0), (4, 0), (4, 0), (0, 0), (0, 0), (4, 0), (0, 0), (4, 0), (4, 0), (0, 0), (2, 0), (0, 0), (0, 0), (0, 0), (0, 0), (0, 0), (0, 0)]), (0, 9, [(4, 0), (4, 0), (4, 0)]), (1, 5, []), (0, 8, [(0, 0), (0, 0), (4, 0), (4, 0), (4, 0), (4, 0), (4, 0), (4, 0), (4, 0), (4, 0), (4, 0), (0, 0), (0, 0)]), (1, 1, []), (1, 1, []), (1, 1, []), (1, 1, []), (1, 1, []), (1, 1, []), (1, 1, []), (1, 1, []), (1, 1, []), (0, 2, [(4, 0), (0, 0), (0, 0)]), (1, 0, [])]
theorem len_V252_c10_oz_H3cls : (V252_c10).length = 15 := by decide +kernel
theorem oz_H3cls_9 : vsub V252_c10 V173 [3, 4, 5, 6, 7, 8, 9, 10, 11] = true := by decide +kernel
theorem oz_H3cls_10 : vsub V252_c10 V172 [3, 4, 5, 6, 7, 8, 9, 10, 11] = true := by decide +kernel
theorem oz_H3cls_11 : vsub V252_c10 V95 [13, 14] = true := by decide +kernel
def oz_H3clsl_4 : List (Nat × Nat) := [(13, 2)]
theorem oz_H3cls_12 : (oz_H3clsl_4).all (fun p => !tbz 676921312041214565326761275425557544784286395355423968547480366360991530225982818124993751490268451683933401113623918903558144 (Nat.add (Nat.mul 32 p.1) p.2)) = true := by decide +kernel
def oz_H3clsl_5 : List Nat := [12]
theorem oz_H3cls_13 : (oz_H3clsl_5).all (fun p => !tbz 4096 p) = true := by decide +kernel
def oz_H3clsl_6 : List Nat := [3, 4, 5, 6, 7, 8, 9, 10, 11]
theorem oz_H3cls_14 : okc oz_H3clsl_6 52038427443478050113539 = true := by decide +kernel
def oz_H3clsl_7 : List Nat := [13, 14]
theorem oz_H3cls_15 : okc oz_H3clsl_7 7181 = true := by decide +kernel

theorem C252_c10 {σE : rS} {D N : Nat → Nat} {F : hF} {A : hA} {d c s : Nat} {Q : wQ} (H : HW V252_c10 σE D N F A)  (pf1 : HID (F 0 3 = (D 1 : Int))) (pf2 : HID (F 1 1 = (D 2 : Int))) (pf3 : HID (A 2 0 = (D 3 : Int))) (pf4 : HID (F 3 2 = (D 4 : Int))) (pf5 : HID (F 3 3 = (D 5 : Int))) (pf6 : HID (F 3 4 = (D 6 : Int))) (pf7 : HID (F 3 5 = (D 7 : Int))) (pf8 : HID (F 3 7 = (D 8 : Int))) (pf9 : HID (F 3 8 = (D 9 : Int))) (pf10 : HID (F 3 9 = (D 10 : Int))) (pf11 : HID (F 3 6 = (D 11 : Int))) (pf12 : HID (F 0 6 = (D 12 : Int))) (pf13 : HID (F 0 5 = (D 13 : Int))) (pf14 : HID (F 0 7 = (D 14 : Int))) (pk0 : HID (F 13 0 = (D 14 : Int))) (n2 : Int) (en2 : HID ((N 2 : Int) = n2)) (n4 : Int) (en4 : HID ((N 4 : Int) = n4)) (n5 : Int) (en5 : HID ((N 5 : Int) = n5)) (n6 : Int) (en6 : HID ((N 6 : Int) = n6)) (n7 : Int) (en7 : HID ((N 7 : Int) = n7)) (n8 : Int) (en8 : HID ((N 8 : Int) = n8)) (n9 : Int) (en9 : HID ((N 9 : Int) = n9)) (n10 : Int) (en10 : HID ((N 10 : Int) = n10)) (n11 : Int) (en11 : HID ((N 11 : Int) = n11)) (n12 : Int) (en12 : HID ((N 12 : Int) = n12)) (n14 : Int) (en14 : HID ((N 14 : Int) = n14)) (u3_0 : Int) (eu3_0 : HID (F 3 0 = u3_0)) (u3_1 : Int) (eu3_1 : HID (F 3 1 = u3_1)) (u13_1 : Int) (eu13_1 : HID (F 13 1 = u13_1)) (u13_2 : Int) (eu13_2 : HID (F 13 2 = u13_2)) (w4 : Int → Int) (ew4 : A 4 = w4) (w5 : Int → Int) (ew5 : A 5 = w5) (w6 : Int → Int) (ew6 : A 6 = w6) (w7 : Int → Int) (ew7 : A 7 = w7) (w8 : Int → Int) (ew8 : A 8 = w8) (w9 : Int → Int) (ew9 : A 9 = w9) (w10 : Int → Int) (ew10 : A 10 = w10) (w12 : Int → Int) (ew12 : A 12 = w12) (w14 : Int → Int) (ew14 : A 14 = w14) (XX : Tb) (h0 : inr (0)) (h1 : SL ((w4)) ((u3_1)) ((u3_0)) ((w5)) ((w6)) ((w7)) ((w8)) ((w9)) ((w10))) (h2 : SZD ((n4)) ((n5)) ((n6)) ((n7)) ((n11)) ((n8)) ((n9)) ((n10)) ((u3_1)) ((u3_0))) (h3 : 0 ≤ ((w12)) 0 ∧ ((w12)) 0 < p2 ((u3_0))) (h4 : (n12) = 3 ∧ (n2) = 3) (h5 : 0 ≤ (u13_1) ∧ (u13_1) ≤ 65536 ∧ 0 ≤ (u13_2) ∧ (u13_2) ≤ 8 * ((n14) - (u13_1)) ∧ (n14) ≤ 65536) (h6 : ∀ b, BB ((w4)) ((u3_0)) ((w8)) (((w12)) 0) b → b ≤ (u13_2)) (h7 : SHX (XX) ((u3_0)) ((u3_1)) ((w4))) (k : ∀ (σ : rS) (Fₚ : hF) (Aₚ : hA), HW V252_c10 σ D N Fₚ Aₚ → OUT (V252_c10).length D N σE c s D N σ c s → SF [(13, 2)] F Fₚ → SA [12] A Aₚ → ∀ y13_2 : Int, Fₚ 13 2 = y13_2 → ∀ v12 : Int → Int, Aₚ 12 = v12 → (0 ≤ ((v12)) 0 ∧ ((v12)) 0 < p2 ((u3_0))) → (0 = 0 ∨ ((v12)) 0 = ((w12)) 0) → (0 = 1 ∨ ((v12)) 1 = ((w12)) 1) → (0 = 2 ∨ ((v12)) 2 = ((w12)) 2) → (0 ≤ (y13_2) ∧ (y13_2) ≤ (u13_2)) → (∀ b, BB ((w4)) ((u3_0)) ((w8)) (((w12)) 0) b → (y13_2) = (u13_2) - b) → (∀ s b z, tsF XX (((w12)) 0) = (s, b, z) → ((v12)) 0 = z + bvA (ub8 ((w14))) (8 * (u13_1)) ((u13_2)) b ∧ (y13_2) = (u13_2) - b) → Q none σ c s) : Ew 252 (d + 2) 0 (rargs 0 [.ref (D 0), I 0]) [] σE c s Q := by
  have O := OUT_refl (n := (V252_c10).length) (D := D) (N := N) (σ := σE) (c := c) (s := s)
  have HE := H
  have r1 : (-2147483648 : Int) ≤ u3_0 ∧ u3_0 ≤ 2147483647 := rngE (show (-2147483648 : Int) ≤ F 3 0 ∧ F 3 0 ≤ 2147483647 from H.krg 3 0 (ltn len_V252_c10_oz_H3cls rfl)) (show F 3 0 = u3_0 from (eu3_0))
  have r2 : (-2147483648 : Int) ≤ u3_1 ∧ u3_1 ≤ 2147483647 := rngE (show (-2147483648 : Int) ≤ F 3 1 ∧ F 3 1 ≤ 2147483647 from H.krg 3 1 (ltn len_V252_c10_oz_H3cls rfl)) (show F 3 1 = u3_1 from (eu3_1))
  have r3 : (-2147483648 : Int) ≤ u13_1 ∧ u13_1 ≤ 2147483647 := rngE (show (-2147483648 : Int) ≤ F 13 1 ∧ F 13 1 ≤ 2147483647 from H.krg 13 1 (ltn len_V252_c10_oz_H3cls rfl)) (show F 13 1 = u13_1 from (eu13_1))
  have r4 : (-2147483648 : Int) ≤ u13_2 ∧ u13_2 ≤ 2147483647 := rngE (show (-2147483648 : Int) ≤ F 13 2 ∧ F 13 2 ≤ 2147483647 from H.krg 13 2 (ltn len_V252_c10_oz_H3cls rfl)) (show F 13 2 = u13_2 from (eu13_2))
  have r5 : (0 : Int) ≤ n2 ∧ n2 ≤ 1000000 := nleE (H.nle 2 (ltn len_V252_c10_oz_H3cls rfl)) (show (N 2 : Int) = n2 from en2)
  have r6 : (0 : Int) ≤ n4 ∧ n4 ≤ 1000000 := nleE (H.nle 4 (ltn len_V252_c10_oz_H3cls rfl)) (show (N 4 : Int) = n4 from en4)
  have r7 : (0 : Int) ≤ n5 ∧ n5 ≤ 1000000 := nleE (H.nle 5 (ltn len_V252_c10_oz_H3cls rfl)) (show (N 5 : Int) = n5 from en5)
  have r8 : (0 : Int) ≤ n6 ∧ n6 ≤ 1000000 := nleE (H.nle 6 (ltn len_V252_c10_oz_H3cls rfl)) (show (N 6 : Int) = n6 from en6)
  have r9 : (0 : Int) ≤ n7 ∧ n7 ≤ 1000000 := nleE (H.nle 7 (ltn len_V252_c10_oz_H3cls rfl)) (show (N 7 : Int) = n7 from en7)
  have r10 : (0 : Int) ≤ n8 ∧ n8 ≤ 1000000 := nleE (H.nle 8 (ltn len_V252_c10_oz_H3cls rfl)) (show (N 8 : Int) = n8 from en8)
  have r11 : (0 : Int) ≤ n9 ∧ n9 ≤ 1000000 := nleE (H.nle 9 (ltn len_V252_c10_oz_H3cls rfl)) (show (N 9 : Int) = n9 from en9)
  have r12 : (0 : Int) ≤ n10 ∧ n10 ≤ 1000000 := nleE (H.nle 10 (ltn len_V252_c10_oz_H3cls rfl)) (show (N 10 : Int) = n10 from en10)
  have r13 : (0 : Int) ≤ n11 ∧ n11 ≤ 1000000 := nleE (H.nle 11 (ltn len_V252_c10_oz_H3cls rfl)) (show (N 11 : Int) = n11 from en11)
  have r14 : (0 : Int) ≤ n12 ∧ n12 ≤ 1000000 := nleE (H.nle 12 (ltn len_V252_c10_oz_H3cls rfl)) (show (N 12 : Int) = n12 from en12)
  have r15 : (0 : Int) ≤ n14 ∧ n14 ≤ 1000000 := nleE (H.nle 14 (ltn len_V252_c10_oz_H3cls rfl)) (show (N 14 : Int) = n14 from en14)
  have hle : ∀ b, BB ((w4)) ((u3_0)) ((w8)) (((w12)) 0) b → b ≤ (u13_2) := h6
  have hsl : SL ((w4)) ((u3_1)) ((u3_0)) ((w5)) ((w6)) ((w7)) ((w8)) ((w9)) ((w10)) := h1
  have hsf := SHD_f hsl.1
  have hSX : SHX (XX) ((u3_0)) ((u3_1)) ((w4)) := h7
  refine Ew_of (pcₚ := 1) (fun _ => x_aload_n rfl rfl) ?_
  refine v_g H (o := 0) (v := .ref (D 1)) rfl rfl rfl rfl rfl (vrf (pf1)) ?_
  refine v_g H (o := 1) (v := .ref (D 2)) rfl rfl rfl rfl rfl (vrf (pf2)) ?_
  refine Ew_of (pcₚ := 8) (fun _ => x_iload_n rfl rfl) ?_
  refine v_lR H (o := 2) rfl rfl rfl rfl rfl (n := n2) (en2) (show 0 ≤ 0 ∧ 0 < n2 from q_3853 h4 r5) (z := ((D 3 : Nat) : Int)) (v := .ref (D 3)) (pf3) (vrf rfl) ?_
  refine Ew_of (pcₚ := 10) (fun _ => x_astore_n rfl) ?_
  refine Ew_of (pcₚ := 11) (fun _ => x_aload_n rfl (rk_o (rfl) rfl rfl)) ?_
  refine v_g H (o := 0) (v := .ref (D 12)) rfl rfl rfl rfl rfl (vrf (pf12)) ?_
  refine Ew_of (pcₚ := 15) (fun _ => x_iload_n rfl (rk_o (rfl) rfl rfl)) ?_
  refine Ew_of (pcₚ := 16) (fun _ => x_aload_n rfl rk_s) ?_
  refine Ew_of (pcₚ := 17) (fun _ => x_aload_n rfl (rk_o (rfl) rfl rfl)) ?_
  refine v_g H (o := 0) (v := .ref (D 12)) rfl rfl rfl rfl rfl (vrf (pf12)) ?_
  refine Ew_of (pcₚ := 21) (fun _ => x_iload_n rfl (rk_o (rfl) rfl rfl)) ?_
  refine v_lI H (o := 12) rfl rfl rfl rfl (n := n12) (en12) (show 0 ≤ 0 ∧ 0 < n12 from q_3854 h4 r14) (fun v16 ev16 qv16 => ?_)
  have ev16 : (w12) (0) = v16 := (congrFun (ew12) (0)).symm.trans ev16
  have hva := ev16
  refine v_inv H (o := 3) rfl rfl rfl rfl rfl rfl (by rfl) (C173o (D := puc 52038427443478050113539 D) (N := puc 52038427443478050113539 N) (HW_subc H oz_H3cls_9 oz_H3cls_14) (pf4) (pf5) (pf6) (pf7) (pf8) (pf9) (pf10) (pf11) (n4) (en4) (n5) (en5) (n6) (en6) (n7) (en7) (n8) (en8) (n9) (en9) (n10) (en10) (n11) (en11) (u3_0) ((eu3_0)) (u3_1) ((eu3_1)) (w4) (ew4) (w5) (ew5) (w6) (ew6) (w7) (ew7) (w8) (ew8) (w9) (ew9) (w10) (ew10) (show inr (v16) from qv16) (hsl) (h2) (show 0 ≤ (v16) ∧ (v16) < p2 ((u3_0)) from q_4050 ev16 h3) (fun z17 σ17 F17ₚ A17ₚ Hₚ Oₚ hS17 hA17 pz17_0 pz17_1 pz17_2 => ⟨rfl, ?_⟩))
  refine v_backc (c := c) (s := s) H oz_H3cls_9 oz_H3cls_14 Hₚ Oₚ (fun F17 A17 H Oₚ eF17 eA17 => ?_)
  have O := OUT_trans O Oₚ
  -- Share.baseBehind
  have cF17 : SF oz_H3clsl_4 F F17 := SF_trans (SF_refl) (SF_gluc (ι := oz_H3clsl_6) oz_H3cls_14 hS17 eF17 (by decide +kernel)) (any_sub (lₚ := []) (by decide +kernel))
  have mF17 := SFm_of cF17 oz_H3cls_12
  have cA17 : SA oz_H3clsl_5 A A17 := SA_trans (SA_refl) (SA_gluc (ι := oz_H3clsl_6) oz_H3cls_14 hA17 eA17 (by decide +kernel)) (any_subA (lₚ := []) (by decide +kernel))
  have mA17 := SAm_of cA17 oz_H3cls_13
  have hbas : BAS ((w4)) ((u3_0)) ((w8)) (((w12)) 0) (z17) := by rw [hva]; exact pz17_1
  refine Ew_of (pcₚ := 26) (fun _ => x_aload_n rfl (rk_o (rfl) rfl rfl)) ?_
  refine v_g H (o := 0) (v := .ref (D 13)) rfl rfl rfl rfl rfl (vrf ((mF17 0 5 rfl).trans (pf13))) ?_
  refine Ew_of (pcₚ := 30) (fun _ => x_aload_n rfl rk_s) ?_
  refine Ew_of (pcₚ := 31) (fun _ => x_aload_n rfl (rk_o (rfl) rfl rfl)) ?_
  refine v_g H (o := 0) (v := .ref (D 12)) rfl rfl rfl rfl rfl (vrf ((mF17 0 6 rfl).trans (pf12))) ?_
  refine Ew_of (pcₚ := 35) (fun _ => x_iload_n rfl (rk_o (rfl) rfl rfl)) ?_
  refine v_lI H (o := 12) rfl rfl rfl rfl (n := n12) (en12) (show 0 ≤ 0 ∧ 0 < n12 from q_3854 h4 r14) (fun v18 ev18 qv18 => ?_)
  have ev18 : (w12) (0) = v18 := (congrFun (((show A17 12 = A 12 from (eA17 12))).trans (ew12)) (0)).symm.trans ev18
  have hvb := ev18
  refine v_inv H (o := 3) rfl rfl rfl rfl rfl rfl (by rfl) (C172o (D := puc 52038427443478050113539 D) (N := puc 52038427443478050113539 N) (HW_subc H oz_H3cls_10 oz_H3cls_14) ((mF17 3 2 rfl).trans (pf4)) ((mF17 3 3 rfl).trans (pf5)) ((mF17 3 4 rfl).trans (pf6)) ((mF17 3 5 rfl).trans (pf7)) ((mF17 3 7 rfl).trans (pf8)) ((mF17 3 8 rfl).trans (pf9)) ((mF17 3 9 rfl).trans (pf10)) ((mF17 3 6 rfl).trans (pf11)) (n4) (en4) (n5) (en5) (n6) (en6) (n7) (en7) (n8) (en8) (n9) (en9) (n10) (en10) (n11) (en11) (u3_0) (((mF17 3 0 rfl).trans (eu3_0))) (u3_1) (((mF17 3 1 rfl).trans (eu3_1))) (w4) ((funext (mA17 4 rfl)).trans (ew4)) (w5) ((funext (mA17 5 rfl)).trans (ew5)) (w6) ((funext (mA17 6 rfl)).trans (ew6)) (w7) ((funext (mA17 7 rfl)).trans (ew7)) (w8) ((funext (mA17 8 rfl)).trans (ew8)) (w9) ((funext (mA17 9 rfl)).trans (ew9)) (w10) ((funext (mA17 10 rfl)).trans (ew10)) (show inr (v18) from qv18) (hsl) (h2) (show 0 ≤ (v18) ∧ (v18) < p2 ((u3_0)) from q_4050 ev18 h3) (fun z19 σ19 F19ₚ A19ₚ Hₚ Oₚ hS19 hA19 pz19_0 pz19_1 pz19_2 => ⟨rfl, ?_⟩))
  refine v_backc (c := c) (s := s) H oz_H3cls_10 oz_H3cls_14 Hₚ Oₚ (fun F19 A19 H Oₚ eF19 eA19 => ?_)
  have O := OUT_trans O Oₚ
  -- Share.bitsBehind
  have cF19 : SF oz_H3clsl_4 F F19 := SF_trans (cF17) (SF_gluc (ι := oz_H3clsl_6) oz_H3cls_14 hS19 eF19 (by decide +kernel)) (any_sub (lₚ := []) (by decide +kernel))
  have mF19 := SFm_of cF19 oz_H3cls_12
  have cA19 : SA oz_H3clsl_5 A A19 := SA_trans (cA17) (SA_gluc (ι := oz_H3clsl_6) oz_H3cls_14 hA19 eA19 (by decide +kernel)) (any_subA (lₚ := []) (by decide +kernel))
  have mA19 := SAm_of cA19 oz_H3cls_13
  have hbb : BB ((w4)) ((u3_0)) ((w8)) (((w12)) 0) (z19) := by rw [hvb]; exact pz19_1
  have hbl := hle _ hbb
  have hbx := hbas _ hbb
  have hts := SHX_ts hSX hsl (by omega) (by omega) hbb hbas rfl
  refine v_inv H (o := 13) rfl rfl rfl rfl rfl rfl (by rfl) (C95 (D := puc 7181 D) (N := puc 7181 N) (HW_subc H oz_H3cls_11 oz_H3cls_15) ((mF19 13 0 rfl).trans (pk0)) (n14) (en14) (u13_1) (((mF19 13 1 rfl).trans (eu13_1))) (u13_2) (((((show F19 13 2 = F17 13 2 from (eF19 13 2))).trans ((show F17 13 2 = F 13 2 from (eF17 13 2)))).trans (eu13_2))) (w14) ((funext (mA19 14 rfl)).trans (ew14)) (show inr (z19) from pz19_0) (show 0 ≤ (z19) ∧ (z19) ≤ 31 by omega) (show 0 ≤ (u13_1) ∧ (u13_1) ≤ 65536 ∧ (u13_2) ≤ 8 * ((n14) - (u13_1)) ∧ (n14) ≤ 65536 from q_4052 h5) (show -100 ≤ (u13_2) from q_4051 h5) (fun z20 σ20 F20ₚ A20ₚ Hₚ Oₚ hS20 hA20 y20_0_2 (ey20_0_2 : HID _) pz20_0 pz20_1 pz20_2 pz20_3 => ⟨rfl, ?_⟩))
  refine v_backc (c := c) (s := s) H oz_H3cls_11 oz_H3cls_15 Hₚ Oₚ (fun F20 A20 H Oₚ eF20 eA20 => ?_)
  have O := OUT_trans O Oₚ
  -- BitSource.take
  have cF20 : SF oz_H3clsl_4 F F20 := SF_trans (cF19) (SF_gluc (ι := oz_H3clsl_7) oz_H3cls_15 hS20 eF20 (by decide +kernel)) (any_sub (lₚ := [(13, 2)]) (by decide +kernel))
  have mF20 := SFm_of cF20 oz_H3cls_12
  have cA20 : SA oz_H3clsl_5 A A20 := SA_trans (cA19) (SA_gluc (ι := oz_H3clsl_7) oz_H3cls_15 hA20 eA20 (by decide +kernel)) (any_subA (lₚ := []) (by decide +kernel))
  have mA20 := SAm_of cA20 oz_H3cls_13
  have r21 : (-2147483648 : Int) ≤ y20_0_2 ∧ y20_0_2 ≤ 2147483647 := rngE (show (-2147483648 : Int) ≤ F20 13 2 ∧ F20 13 2 ≤ 2147483647 from H.krg 13 2 (ltn len_V252_c10_oz_H3cls rfl)) (show F20 13 2 = y20_0_2 from ((eF20 13 2).trans ey20_0_2))
  have hlf : ∀ b, BB ((w4)) ((u3_0)) ((w8)) (((w12)) 0) b → (y20_0_2) = (u13_2) - b := fun b hb => by have := BB_uniq hbb hb; omega
  have htk : z20 = bvA (ub8 ((w14))) (8 * (u13_1)) ((u13_2)) (z19) := pk_A pz20_3 rfl (by omega) rfl rfl
  refine w_l2i rfl ?_
  refine w_iadd rfl ?_
  have hs_ := upd1_s (a := ((w12))) (j := 0) (z := ((z17 + z20)))
  have hu0_ : (0 : Int) = 0 ∨ upd1 ((w12)) 0 (((z17 + z20))) 0 = ((w12)) 0 := by by_cases w : (0 : Int) = 0; exact .inl (by omega); exact .inr (upd1_o w)
  have hu1_ : (0 : Int) = 1 ∨ upd1 ((w12)) 0 (((z17 + z20))) 1 = ((w12)) 1 := by by_cases w : (1 : Int) = 0; exact .inl (by omega); exact .inr (upd1_o w)
  have hu2_ : (0 : Int) = 2 ∨ upd1 ((w12)) 0 (((z17 + z20))) 2 = ((w12)) 2 := by by_cases w : (2 : Int) = 0; exact .inl (by omega); exact .inr (upd1_o w)
  refine v_sI H (o := 12) (z := (z17 + z20)) rfl rfl rfl rfl (n := n12) (en12) (show 0 ≤ 0 ∧ 0 < n12 from q_3854 h4 r14) (show inr ((z17 + z20)) by omega) (fun σ H Oₚ => ?_)
  have O := OUT_trans O Oₚ
  have cAu22 : SA oz_H3clsl_5 A (updA A20 12 (0) ((z17 + z20))) := SA_upd (cA20) rfl
  have mAu22 := SAm_of cAu22 oz_H3cls_13
  have : ∀ s b z, tsF XX (((w12)) 0) = (s, b, z) → ((upd1 (w12) (0) ((z17 + z20)))) 0 = z + bvA (ub8 ((w14))) (8 * (u13_1)) ((u13_2)) b ∧ (y20_0_2) = (u13_2) - b := fun s b z h => by have h0 := hts.symm.trans h; have h1 : z19 = b := congrArg (fun q => q.2.1) h0; have h2 : z17 = z := congrArg (fun q => q.2.2) h0; subst h1 h2; exact ⟨by (rw [upd1_s, ← htk]; done), by omega⟩
  exact w_ret rfl (k _ _ _ H O (cF20) (cAu22) (y20_0_2) (((eF20 13 2).trans ey20_0_2)) (upd1 (w12) (0) ((z17 + z20))) (congrArg (fun q => upd1 q (0) ((z17 + z20))) (((show A20 12 = A19 12 from (eA20 12))).trans (((show A19 12 = A17 12 from (eA19 12))).trans (((show A17 12 = A 12 from (eA17 12))).trans (ew12))))) (show 0 ≤ ((upd1 (w12) (0) ((z17 + z20)))) 0 ∧ ((upd1 (w12) (0) ((z17 + z20)))) 0 < p2 ((u3_0)) by omega) (show 0 = 0 ∨ ((upd1 (w12) (0) ((z17 + z20)))) 0 = ((w12)) 0 by first | exact q_3857 | omega) (show 0 = 1 ∨ ((upd1 (w12) (0) ((z17 + z20)))) 1 = ((w12)) 1 by omega) (show 0 = 2 ∨ ((upd1 (w12) (0) ((z17 + z20)))) 2 = ((w12)) 2 by omega) (show 0 ≤ (y20_0_2) ∧ (y20_0_2) ≤ (u13_2) by omega) (hlf) (show ∀ s b z, tsF XX (((w12)) 0) = (s, b, z) → ((upd1 (w12) (0) ((z17 + z20)))) 0 = z + bvA (ub8 ((w14))) (8 * (u13_1)) ((u13_2)) b ∧ (y20_0_2) = (u13_2) - b by assumption))
abbrev V252_c11 : vV := [(0, 12, [(4, 0), (4, 0), (4, 0), (4, 0), (4, 0), (4, 0), (4, 0), (4, 0), (0, 0), (0, 0), (4, 0), (0, 0), (4, 0), (4, 0), (0, 0), (2, 0), (0, 0), (0, 0), (0, 0), (0, 0), (0, 0), (0, 0)]), (0, 9, [(4, 0), (4, 0), (4, 0)]), (1, 5, []), (0, 8, [(0, 0), (0, 0), (4, 0), (4, 0), (4, 0), (4, 0), (4, 0), (4, 0), (4, 0), (4, 0), (4, 0), (0, 0), (0, 0)]), (1, 1, []), (1, 1, []), (1, 1, []), (1, 1, []), (1, 1, []), (1, 1, []), (1, 1, []), (1, 1, []), (1, 1, []), (0, 2, [(4, 0), (0, 0), (0, 0)]), (1, 0, [])]
theorem len_V252_c11_oz_H3cls : (V252_c11).length = 15 := by decide +kernel
theorem oz_H3cls_17 : vsub V252_c11 V173 [3, 4, 5, 6, 7, 8, 9, 10, 11] = true := by decide +kernel
theorem oz_H3cls_18 : vsub V252_c11 V172 [3, 4, 5, 6, 7, 8, 9, 10, 11] = true := by decide +kernel
theorem oz_H3cls_19 : vsub V252_c11 V95 [13, 14] = true := by decide +kernel

theorem C252_c11 {σE : rS} {D N : Nat → Nat} {F : hF} {A : hA} {d c s : Nat} {Q : wQ} (H : HW V252_c11 σE D N F A)  (pf1 : HID (F 0 3 = (D 1 : Int))) (pf2 : HID (F 1 1 = (D 2 : Int))) (pf3 : HID (A 2 1 = (D 3 : Int))) (pf4 : HID (F 3 2 = (D 4 : Int))) (pf5 : HID (F 3 3 = (D 5 : Int))) (pf6 : HID (F 3 4 = (D 6 : Int))) (pf7 : HID (F 3 5 = (D 7 : Int))) (pf8 : HID (F 3 7 = (D 8 : Int))) (pf9 : HID (F 3 8 = (D 9 : Int))) (pf10 : HID (F 3 9 = (D 10 : Int))) (pf11 : HID (F 3 6 = (D 11 : Int))) (pf12 : HID (F 0 6 = (D 12 : Int))) (pf13 : HID (F 0 5 = (D 13 : Int))) (pf14 : HID (F 0 7 = (D 14 : Int))) (pk0 : HID (F 13 0 = (D 14 : Int))) (n2 : Int) (en2 : HID ((N 2 : Int) = n2)) (n4 : Int) (en4 : HID ((N 4 : Int) = n4)) (n5 : Int) (en5 : HID ((N 5 : Int) = n5)) (n6 : Int) (en6 : HID ((N 6 : Int) = n6)) (n7 : Int) (en7 : HID ((N 7 : Int) = n7)) (n8 : Int) (en8 : HID ((N 8 : Int) = n8)) (n9 : Int) (en9 : HID ((N 9 : Int) = n9)) (n10 : Int) (en10 : HID ((N 10 : Int) = n10)) (n11 : Int) (en11 : HID ((N 11 : Int) = n11)) (n12 : Int) (en12 : HID ((N 12 : Int) = n12)) (n14 : Int) (en14 : HID ((N 14 : Int) = n14)) (u3_0 : Int) (eu3_0 : HID (F 3 0 = u3_0)) (u3_1 : Int) (eu3_1 : HID (F 3 1 = u3_1)) (u13_1 : Int) (eu13_1 : HID (F 13 1 = u13_1)) (u13_2 : Int) (eu13_2 : HID (F 13 2 = u13_2)) (w4 : Int → Int) (ew4 : A 4 = w4) (w5 : Int → Int) (ew5 : A 5 = w5) (w6 : Int → Int) (ew6 : A 6 = w6) (w7 : Int → Int) (ew7 : A 7 = w7) (w8 : Int → Int) (ew8 : A 8 = w8) (w9 : Int → Int) (ew9 : A 9 = w9) (w10 : Int → Int) (ew10 : A 10 = w10) (w12 : Int → Int) (ew12 : A 12 = w12) (w14 : Int → Int) (ew14 : A 14 = w14) (XX : Tb) (h0 : inr (1)) (h1 : SL ((w4)) ((u3_1)) ((u3_0)) ((w5)) ((w6)) ((w7)) ((w8)) ((w9)) ((w10))) (h2 : SZD ((n4)) ((n5)) ((n6)) ((n7)) ((n11)) ((n8)) ((n9)) ((n10)) ((u3_1)) ((u3_0))) (h3 : 0 ≤ ((w12)) 1 ∧ ((w12)) 1 < p2 ((u3_0))) (h4 : (n12) = 3 ∧ (n2) = 3) (h5 : 0 ≤ (u13_1) ∧ (u13_1) ≤ 65536 ∧ 0 ≤ (u13_2) ∧ (u13_2) ≤ 8 * ((n14) - (u13_1)) ∧ (n14) ≤ 65536) (h6 : ∀ b, BB ((w4)) ((u3_0)) ((w8)) (((w12)) 1) b → b ≤ (u13_2)) (h7 : SHX (XX) ((u3_0)) ((u3_1)) ((w4))) (k : ∀ (σ : rS) (Fₚ : hF) (Aₚ : hA), HW V252_c11 σ D N Fₚ Aₚ → OUT (V252_c11).length D N σE c s D N σ c s → SF [(13, 2)] F Fₚ → SA [12] A Aₚ → ∀ y13_2 : Int, Fₚ 13 2 = y13_2 → ∀ v12 : Int → Int, Aₚ 12 = v12 → (0 ≤ ((v12)) 1 ∧ ((v12)) 1 < p2 ((u3_0))) → (1 = 0 ∨ ((v12)) 0 = ((w12)) 0) → (1 = 1 ∨ ((v12)) 1 = ((w12)) 1) → (1 = 2 ∨ ((v12)) 2 = ((w12)) 2) → (0 ≤ (y13_2) ∧ (y13_2) ≤ (u13_2)) → (∀ b, BB ((w4)) ((u3_0)) ((w8)) (((w12)) 1) b → (y13_2) = (u13_2) - b) → (∀ s b z, tsF XX (((w12)) 1) = (s, b, z) → ((v12)) 1 = z + bvA (ub8 ((w14))) (8 * (u13_1)) ((u13_2)) b ∧ (y13_2) = (u13_2) - b) → Q none σ c s) : Ew 252 (d + 2) 0 (rargs 0 [.ref (D 0), I 1]) [] σE c s Q := by
  have O := OUT_refl (n := (V252_c11).length) (D := D) (N := N) (σ := σE) (c := c) (s := s)
  have HE := H
  have r1 : (-2147483648 : Int) ≤ u3_0 ∧ u3_0 ≤ 2147483647 := rngE (show (-2147483648 : Int) ≤ F 3 0 ∧ F 3 0 ≤ 2147483647 from H.krg 3 0 (ltn len_V252_c11_oz_H3cls rfl)) (show F 3 0 = u3_0 from (eu3_0))
  have r2 : (-2147483648 : Int) ≤ u3_1 ∧ u3_1 ≤ 2147483647 := rngE (show (-2147483648 : Int) ≤ F 3 1 ∧ F 3 1 ≤ 2147483647 from H.krg 3 1 (ltn len_V252_c11_oz_H3cls rfl)) (show F 3 1 = u3_1 from (eu3_1))
  have r3 : (-2147483648 : Int) ≤ u13_1 ∧ u13_1 ≤ 2147483647 := rngE (show (-2147483648 : Int) ≤ F 13 1 ∧ F 13 1 ≤ 2147483647 from H.krg 13 1 (ltn len_V252_c11_oz_H3cls rfl)) (show F 13 1 = u13_1 from (eu13_1))
  have r4 : (-2147483648 : Int) ≤ u13_2 ∧ u13_2 ≤ 2147483647 := rngE (show (-2147483648 : Int) ≤ F 13 2 ∧ F 13 2 ≤ 2147483647 from H.krg 13 2 (ltn len_V252_c11_oz_H3cls rfl)) (show F 13 2 = u13_2 from (eu13_2))
  have r5 : (0 : Int) ≤ n2 ∧ n2 ≤ 1000000 := nleE (H.nle 2 (ltn len_V252_c11_oz_H3cls rfl)) (show (N 2 : Int) = n2 from en2)
  have r6 : (0 : Int) ≤ n4 ∧ n4 ≤ 1000000 := nleE (H.nle 4 (ltn len_V252_c11_oz_H3cls rfl)) (show (N 4 : Int) = n4 from en4)
  have r7 : (0 : Int) ≤ n5 ∧ n5 ≤ 1000000 := nleE (H.nle 5 (ltn len_V252_c11_oz_H3cls rfl)) (show (N 5 : Int) = n5 from en5)
  have r8 : (0 : Int) ≤ n6 ∧ n6 ≤ 1000000 := nleE (H.nle 6 (ltn len_V252_c11_oz_H3cls rfl)) (show (N 6 : Int) = n6 from en6)
  have r9 : (0 : Int) ≤ n7 ∧ n7 ≤ 1000000 := nleE (H.nle 7 (ltn len_V252_c11_oz_H3cls rfl)) (show (N 7 : Int) = n7 from en7)
  have r10 : (0 : Int) ≤ n8 ∧ n8 ≤ 1000000 := nleE (H.nle 8 (ltn len_V252_c11_oz_H3cls rfl)) (show (N 8 : Int) = n8 from en8)
  have r11 : (0 : Int) ≤ n9 ∧ n9 ≤ 1000000 := nleE (H.nle 9 (ltn len_V252_c11_oz_H3cls rfl)) (show (N 9 : Int) = n9 from en9)
  have r12 : (0 : Int) ≤ n10 ∧ n10 ≤ 1000000 := nleE (H.nle 10 (ltn len_V252_c11_oz_H3cls rfl)) (show (N 10 : Int) = n10 from en10)
  have r13 : (0 : Int) ≤ n11 ∧ n11 ≤ 1000000 := nleE (H.nle 11 (ltn len_V252_c11_oz_H3cls rfl)) (show (N 11 : Int) = n11 from en11)
  have r14 : (0 : Int) ≤ n12 ∧ n12 ≤ 1000000 := nleE (H.nle 12 (ltn len_V252_c11_oz_H3cls rfl)) (show (N 12 : Int) = n12 from en12)
  have r15 : (0 : Int) ≤ n14 ∧ n14 ≤ 1000000 := nleE (H.nle 14 (ltn len_V252_c11_oz_H3cls rfl)) (show (N 14 : Int) = n14 from en14)
  have hle : ∀ b, BB ((w4)) ((u3_0)) ((w8)) (((w12)) 1) b → b ≤ (u13_2) := h6
  have hsl : SL ((w4)) ((u3_1)) ((u3_0)) ((w5)) ((w6)) ((w7)) ((w8)) ((w9)) ((w10)) := h1
  have hsf := SHD_f hsl.1
  have hSX : SHX (XX) ((u3_0)) ((u3_1)) ((w4)) := h7
  refine Ew_of (pcₚ := 1) (fun _ => x_aload_n rfl rfl) ?_
  refine v_g H (o := 0) (v := .ref (D 1)) rfl rfl rfl rfl rfl (vrf (pf1)) ?_
  refine v_g H (o := 1) (v := .ref (D 2)) rfl rfl rfl rfl rfl (vrf (pf2)) ?_
  refine Ew_of (pcₚ := 8) (fun _ => x_iload_n rfl rfl) ?_
  refine v_lR H (o := 2) rfl rfl rfl rfl rfl (n := n2) (en2) (show 0 ≤ 1 ∧ 1 < n2 from q_3860 h4 r5) (z := ((D 3 : Nat) : Int)) (v := .ref (D 3)) (pf3) (vrf rfl) ?_
  refine Ew_of (pcₚ := 10) (fun _ => x_astore_n rfl) ?_
  refine Ew_of (pcₚ := 11) (fun _ => x_aload_n rfl (rk_o (rfl) rfl rfl)) ?_
  refine v_g H (o := 0) (v := .ref (D 12)) rfl rfl rfl rfl rfl (vrf (pf12)) ?_
  refine Ew_of (pcₚ := 15) (fun _ => x_iload_n rfl (rk_o (rfl) rfl rfl)) ?_
  refine Ew_of (pcₚ := 16) (fun _ => x_aload_n rfl rk_s) ?_
  refine Ew_of (pcₚ := 17) (fun _ => x_aload_n rfl (rk_o (rfl) rfl rfl)) ?_
  refine v_g H (o := 0) (v := .ref (D 12)) rfl rfl rfl rfl rfl (vrf (pf12)) ?_
  refine Ew_of (pcₚ := 21) (fun _ => x_iload_n rfl (rk_o (rfl) rfl rfl)) ?_
  refine v_lI H (o := 12) rfl rfl rfl rfl (n := n12) (en12) (show 0 ≤ 1 ∧ 1 < n12 from q_3861 h4 r14) (fun v16 ev16 qv16 => ?_)
  have ev16 : (w12) (1) = v16 := (congrFun (ew12) (1)).symm.trans ev16
  have hva := ev16
  refine v_inv H (o := 3) rfl rfl rfl rfl rfl rfl (by rfl) (C173o (D := puc 52038427443478050113539 D) (N := puc 52038427443478050113539 N) (HW_subc H oz_H3cls_17 oz_H3cls_14) (pf4) (pf5) (pf6) (pf7) (pf8) (pf9) (pf10) (pf11) (n4) (en4) (n5) (en5) (n6) (en6) (n7) (en7) (n8) (en8) (n9) (en9) (n10) (en10) (n11) (en11) (u3_0) ((eu3_0)) (u3_1) ((eu3_1)) (w4) (ew4) (w5) (ew5) (w6) (ew6) (w7) (ew7) (w8) (ew8) (w9) (ew9) (w10) (ew10) (show inr (v16) from qv16) (hsl) (h2) (show 0 ≤ (v16) ∧ (v16) < p2 ((u3_0)) from q_4050 ev16 h3) (fun z17 σ17 F17ₚ A17ₚ Hₚ Oₚ hS17 hA17 pz17_0 pz17_1 pz17_2 => ⟨rfl, ?_⟩))
  refine v_backc (c := c) (s := s) H oz_H3cls_17 oz_H3cls_14 Hₚ Oₚ (fun F17 A17 H Oₚ eF17 eA17 => ?_)
  have O := OUT_trans O Oₚ
  -- Share.baseBehind
  have cF17 : SF oz_H3clsl_4 F F17 := SF_trans (SF_refl) (SF_gluc (ι := oz_H3clsl_6) oz_H3cls_14 hS17 eF17 (by decide +kernel)) (any_sub (lₚ := []) (by decide +kernel))
  have mF17 := SFm_of cF17 oz_H3cls_12
  have cA17 : SA oz_H3clsl_5 A A17 := SA_trans (SA_refl) (SA_gluc (ι := oz_H3clsl_6) oz_H3cls_14 hA17 eA17 (by decide +kernel)) (any_subA (lₚ := []) (by decide +kernel))
  have mA17 := SAm_of cA17 oz_H3cls_13
  have hbas : BAS ((w4)) ((u3_0)) ((w8)) (((w12)) 1) (z17) := by rw [hva]; exact pz17_1
  refine Ew_of (pcₚ := 26) (fun _ => x_aload_n rfl (rk_o (rfl) rfl rfl)) ?_
  refine v_g H (o := 0) (v := .ref (D 13)) rfl rfl rfl rfl rfl (vrf ((mF17 0 5 rfl).trans (pf13))) ?_
  refine Ew_of (pcₚ := 30) (fun _ => x_aload_n rfl rk_s) ?_
  refine Ew_of (pcₚ := 31) (fun _ => x_aload_n rfl (rk_o (rfl) rfl rfl)) ?_
  refine v_g H (o := 0) (v := .ref (D 12)) rfl rfl rfl rfl rfl (vrf ((mF17 0 6 rfl).trans (pf12))) ?_
  refine Ew_of (pcₚ := 35) (fun _ => x_iload_n rfl (rk_o (rfl) rfl rfl)) ?_
  refine v_lI H (o := 12) rfl rfl rfl rfl (n := n12) (en12) (show 0 ≤ 1 ∧ 1 < n12 from q_3861 h4 r14) (fun v18 ev18 qv18 => ?_)
  have ev18 : (w12) (1) = v18 := (congrFun (((show A17 12 = A 12 from (eA17 12))).trans (ew12)) (1)).symm.trans ev18
  have hvb := ev18
  refine v_inv H (o := 3) rfl rfl rfl rfl rfl rfl (by rfl) (C172o (D := puc 52038427443478050113539 D) (N := puc 52038427443478050113539 N) (HW_subc H oz_H3cls_18 oz_H3cls_14) ((mF17 3 2 rfl).trans (pf4)) ((mF17 3 3 rfl).trans (pf5)) ((mF17 3 4 rfl).trans (pf6)) ((mF17 3 5 rfl).trans (pf7)) ((mF17 3 7 rfl).trans (pf8)) ((mF17 3 8 rfl).trans (pf9)) ((mF17 3 9 rfl).trans (pf10)) ((mF17 3 6 rfl).trans (pf11)) (n4) (en4) (n5) (en5) (n6) (en6) (n7) (en7) (n8) (en8) (n9) (en9) (n10) (en10) (n11) (en11) (u3_0) (((mF17 3 0 rfl).trans (eu3_0))) (u3_1) (((mF17 3 1 rfl).trans (eu3_1))) (w4) ((funext (mA17 4 rfl)).trans (ew4)) (w5) ((funext (mA17 5 rfl)).trans (ew5)) (w6) ((funext (mA17 6 rfl)).trans (ew6)) (w7) ((funext (mA17 7 rfl)).trans (ew7)) (w8) ((funext (mA17 8 rfl)).trans (ew8)) (w9) ((funext (mA17 9 rfl)).trans (ew9)) (w10) ((funext (mA17 10 rfl)).trans (ew10)) (show inr (v18) from qv18) (hsl) (h2) (show 0 ≤ (v18) ∧ (v18) < p2 ((u3_0)) from q_4050 ev18 h3) (fun z19 σ19 F19ₚ A19ₚ Hₚ Oₚ hS19 hA19 pz19_0 pz19_1 pz19_2 => ⟨rfl, ?_⟩))
  refine v_backc (c := c) (s := s) H oz_H3cls_18 oz_H3cls_14 Hₚ Oₚ (fun F19 A19 H Oₚ eF19 eA19 => ?_)
  have O := OUT_trans O Oₚ
  -- Share.bitsBehind
  have cF19 : SF oz_H3clsl_4 F F19 := SF_trans (cF17) (SF_gluc (ι := oz_H3clsl_6) oz_H3cls_14 hS19 eF19 (by decide +kernel)) (any_sub (lₚ := []) (by decide +kernel))
  have mF19 := SFm_of cF19 oz_H3cls_12
  have cA19 : SA oz_H3clsl_5 A A19 := SA_trans (cA17) (SA_gluc (ι := oz_H3clsl_6) oz_H3cls_14 hA19 eA19 (by decide +kernel)) (any_subA (lₚ := []) (by decide +kernel))
  have mA19 := SAm_of cA19 oz_H3cls_13
  have hbb : BB ((w4)) ((u3_0)) ((w8)) (((w12)) 1) (z19) := by rw [hvb]; exact pz19_1
  have hbl := hle _ hbb
  have hbx := hbas _ hbb
  have hts := SHX_ts hSX hsl (by omega) (by omega) hbb hbas rfl
  refine v_inv H (o := 13) rfl rfl rfl rfl rfl rfl (by rfl) (C95 (D := puc 7181 D) (N := puc 7181 N) (HW_subc H oz_H3cls_19 oz_H3cls_15) ((mF19 13 0 rfl).trans (pk0)) (n14) (en14) (u13_1) (((mF19 13 1 rfl).trans (eu13_1))) (u13_2) (((((show F19 13 2 = F17 13 2 from (eF19 13 2))).trans ((show F17 13 2 = F 13 2 from (eF17 13 2)))).trans (eu13_2))) (w14) ((funext (mA19 14 rfl)).trans (ew14)) (show inr (z19) from pz19_0) (show 0 ≤ (z19) ∧ (z19) ≤ 31 by omega) (show 0 ≤ (u13_1) ∧ (u13_1) ≤ 65536 ∧ (u13_2) ≤ 8 * ((n14) - (u13_1)) ∧ (n14) ≤ 65536 from q_4052 h5) (show -100 ≤ (u13_2) from q_4051 h5) (fun z20 σ20 F20ₚ A20ₚ Hₚ Oₚ hS20 hA20 y20_0_2 (ey20_0_2 : HID _) pz20_0 pz20_1 pz20_2 pz20_3 => ⟨rfl, ?_⟩))
  refine v_backc (c := c) (s := s) H oz_H3cls_19 oz_H3cls_15 Hₚ Oₚ (fun F20 A20 H Oₚ eF20 eA20 => ?_)
  have O := OUT_trans O Oₚ
  -- BitSource.take
  have cF20 : SF oz_H3clsl_4 F F20 := SF_trans (cF19) (SF_gluc (ι := oz_H3clsl_7) oz_H3cls_15 hS20 eF20 (by decide +kernel)) (any_sub (lₚ := [(13, 2)]) (by decide +kernel))
  have mF20 := SFm_of cF20 oz_H3cls_12
  have cA20 : SA oz_H3clsl_5 A A20 := SA_trans (cA19) (SA_gluc (ι := oz_H3clsl_7) oz_H3cls_15 hA20 eA20 (by decide +kernel)) (any_subA (lₚ := []) (by decide +kernel))
  have mA20 := SAm_of cA20 oz_H3cls_13
  have r21 : (-2147483648 : Int) ≤ y20_0_2 ∧ y20_0_2 ≤ 2147483647 := rngE (show (-2147483648 : Int) ≤ F20 13 2 ∧ F20 13 2 ≤ 2147483647 from H.krg 13 2 (ltn len_V252_c11_oz_H3cls rfl)) (show F20 13 2 = y20_0_2 from ((eF20 13 2).trans ey20_0_2))
  have hlf : ∀ b, BB ((w4)) ((u3_0)) ((w8)) (((w12)) 1) b → (y20_0_2) = (u13_2) - b := fun b hb => by have := BB_uniq hbb hb; omega
  have htk : z20 = bvA (ub8 ((w14))) (8 * (u13_1)) ((u13_2)) (z19) := pk_A pz20_3 rfl (by omega) rfl rfl
  refine w_l2i rfl ?_
  refine w_iadd rfl ?_
  have hs_ := upd1_s (a := ((w12))) (j := 1) (z := ((z17 + z20)))
  have hu0_ : (1 : Int) = 0 ∨ upd1 ((w12)) 1 (((z17 + z20))) 0 = ((w12)) 0 := by by_cases w : (0 : Int) = 1; exact .inl (by omega); exact .inr (upd1_o w)
  have hu1_ : (1 : Int) = 1 ∨ upd1 ((w12)) 1 (((z17 + z20))) 1 = ((w12)) 1 := by by_cases w : (1 : Int) = 1; exact .inl (by omega); exact .inr (upd1_o w)
  have hu2_ : (1 : Int) = 2 ∨ upd1 ((w12)) 1 (((z17 + z20))) 2 = ((w12)) 2 := by by_cases w : (2 : Int) = 1; exact .inl (by omega); exact .inr (upd1_o w)
  refine v_sI H (o := 12) (z := (z17 + z20)) rfl rfl rfl rfl (n := n12) (en12) (show 0 ≤ 1 ∧ 1 < n12 from q_3861 h4 r14) (show inr ((z17 + z20)) by omega) (fun σ H Oₚ => ?_)
  have O := OUT_trans O Oₚ
  have cAu22 : SA oz_H3clsl_5 A (updA A20 12 (1) ((z17 + z20))) := SA_upd (cA20) rfl
  have mAu22 := SAm_of cAu22 oz_H3cls_13
  have : ∀ s b z, tsF XX (((w12)) 1) = (s, b, z) → ((upd1 (w12) (1) ((z17 + z20)))) 1 = z + bvA (ub8 ((w14))) (8 * (u13_1)) ((u13_2)) b ∧ (y20_0_2) = (u13_2) - b := fun s b z h => by have h0 := hts.symm.trans h; have h1 : z19 = b := congrArg (fun q => q.2.1) h0; have h2 : z17 = z := congrArg (fun q => q.2.2) h0; subst h1 h2; exact ⟨by (rw [upd1_s, ← htk]; done), by omega⟩
  exact w_ret rfl (k _ _ _ H O (cF20) (cAu22) (y20_0_2) (((eF20 13 2).trans ey20_0_2)) (upd1 (w12) (1) ((z17 + z20))) (congrArg (fun q => upd1 q (1) ((z17 + z20))) (((show A20 12 = A19 12 from (eA20 12))).trans (((show A19 12 = A17 12 from (eA19 12))).trans (((show A17 12 = A 12 from (eA17 12))).trans (ew12))))) (show 0 ≤ ((upd1 (w12) (1) ((z17 + z20)))) 1 ∧ ((upd1 (w12) (1) ((z17 + z20)))) 1 < p2 ((u3_0)) by omega) (show 1 = 0 ∨ ((upd1 (w12) (1) ((z17 + z20)))) 0 = ((w12)) 0 by omega) (show 1 = 1 ∨ ((upd1 (w12) (1) ((z17 + z20)))) 1 = ((w12)) 1 by first | exact q_3863 | omega) (show 1 = 2 ∨ ((upd1 (w12) (1) ((z17 + z20)))) 2 = ((w12)) 2 by omega) (show 0 ≤ (y20_0_2) ∧ (y20_0_2) ≤ (u13_2) by omega) (hlf) (show ∀ s b z, tsF XX (((w12)) 1) = (s, b, z) → ((upd1 (w12) (1) ((z17 + z20)))) 1 = z + bvA (ub8 ((w14))) (8 * (u13_1)) ((u13_2)) b ∧ (y20_0_2) = (u13_2) - b by assumption))
abbrev V252_c12 : vV := [(0, 12, [(4, 0), (4, 0), (4, 0), (4, 0), (4, 0), (4, 0), (4, 0), (4, 0), (0, 0), (0, 0), (4, 0), (0, 0), (4, 0), (4, 0), (0, 0), (2, 0), (0, 0), (0, 0), (0, 0), (0, 0), (0, 0), (0, 0)]), (0, 9, [(4, 0), (4, 0), (4, 0)]), (1, 5, []), (0, 8, [(0, 0), (0, 0), (4, 0), (4, 0), (4, 0), (4, 0), (4, 0), (4, 0), (4, 0), (4, 0), (4, 0), (0, 0), (0, 0)]), (1, 1, []), (1, 1, []), (1, 1, []), (1, 1, []), (1, 1, []), (1, 1, []), (1, 1, []), (1, 1, []), (1, 1, []), (0, 2, [(4, 0), (0, 0), (0, 0)]), (1, 0, [])]
theorem len_V252_c12_oz_H3cls : (V252_c12).length = 15 := by decide +kernel
theorem oz_H3cls_21 : vsub V252_c12 V173 [3, 4, 5, 6, 7, 8, 9, 10, 11] = true := by decide +kernel
theorem oz_H3cls_22 : vsub V252_c12 V172 [3, 4, 5, 6, 7, 8, 9, 10, 11] = true := by decide +kernel
theorem oz_H3cls_23 : vsub V252_c12 V95 [13, 14] = true := by decide +kernel

theorem C252_c12 {σE : rS} {D N : Nat → Nat} {F : hF} {A : hA} {d c s : Nat} {Q : wQ} (H : HW V252_c12 σE D N F A)  (pf1 : HID (F 0 3 = (D 1 : Int))) (pf2 : HID (F 1 1 = (D 2 : Int))) (pf3 : HID (A 2 2 = (D 3 : Int))) (pf4 : HID (F 3 2 = (D 4 : Int))) (pf5 : HID (F 3 3 = (D 5 : Int))) (pf6 : HID (F 3 4 = (D 6 : Int))) (pf7 : HID (F 3 5 = (D 7 : Int))) (pf8 : HID (F 3 7 = (D 8 : Int))) (pf9 : HID (F 3 8 = (D 9 : Int))) (pf10 : HID (F 3 9 = (D 10 : Int))) (pf11 : HID (F 3 6 = (D 11 : Int))) (pf12 : HID (F 0 6 = (D 12 : Int))) (pf13 : HID (F 0 5 = (D 13 : Int))) (pf14 : HID (F 0 7 = (D 14 : Int))) (pk0 : HID (F 13 0 = (D 14 : Int))) (n2 : Int) (en2 : HID ((N 2 : Int) = n2)) (n4 : Int) (en4 : HID ((N 4 : Int) = n4)) (n5 : Int) (en5 : HID ((N 5 : Int) = n5)) (n6 : Int) (en6 : HID ((N 6 : Int) = n6)) (n7 : Int) (en7 : HID ((N 7 : Int) = n7)) (n8 : Int) (en8 : HID ((N 8 : Int) = n8)) (n9 : Int) (en9 : HID ((N 9 : Int) = n9)) (n10 : Int) (en10 : HID ((N 10 : Int) = n10)) (n11 : Int) (en11 : HID ((N 11 : Int) = n11)) (n12 : Int) (en12 : HID ((N 12 : Int) = n12)) (n14 : Int) (en14 : HID ((N 14 : Int) = n14)) (u3_0 : Int) (eu3_0 : HID (F 3 0 = u3_0)) (u3_1 : Int) (eu3_1 : HID (F 3 1 = u3_1)) (u13_1 : Int) (eu13_1 : HID (F 13 1 = u13_1)) (u13_2 : Int) (eu13_2 : HID (F 13 2 = u13_2)) (w4 : Int → Int) (ew4 : A 4 = w4) (w5 : Int → Int) (ew5 : A 5 = w5) (w6 : Int → Int) (ew6 : A 6 = w6) (w7 : Int → Int) (ew7 : A 7 = w7) (w8 : Int → Int) (ew8 : A 8 = w8) (w9 : Int → Int) (ew9 : A 9 = w9) (w10 : Int → Int) (ew10 : A 10 = w10) (w12 : Int → Int) (ew12 : A 12 = w12) (w14 : Int → Int) (ew14 : A 14 = w14) (XX : Tb) (h0 : inr (2)) (h1 : SL ((w4)) ((u3_1)) ((u3_0)) ((w5)) ((w6)) ((w7)) ((w8)) ((w9)) ((w10))) (h2 : SZD ((n4)) ((n5)) ((n6)) ((n7)) ((n11)) ((n8)) ((n9)) ((n10)) ((u3_1)) ((u3_0))) (h3 : 0 ≤ ((w12)) 2 ∧ ((w12)) 2 < p2 ((u3_0))) (h4 : (n12) = 3 ∧ (n2) = 3) (h5 : 0 ≤ (u13_1) ∧ (u13_1) ≤ 65536 ∧ 0 ≤ (u13_2) ∧ (u13_2) ≤ 8 * ((n14) - (u13_1)) ∧ (n14) ≤ 65536) (h6 : ∀ b, BB ((w4)) ((u3_0)) ((w8)) (((w12)) 2) b → b ≤ (u13_2)) (h7 : SHX (XX) ((u3_0)) ((u3_1)) ((w4))) (k : ∀ (σ : rS) (Fₚ : hF) (Aₚ : hA), HW V252_c12 σ D N Fₚ Aₚ → OUT (V252_c12).length D N σE c s D N σ c s → SF [(13, 2)] F Fₚ → SA [12] A Aₚ → ∀ y13_2 : Int, Fₚ 13 2 = y13_2 → ∀ v12 : Int → Int, Aₚ 12 = v12 → (0 ≤ ((v12)) 2 ∧ ((v12)) 2 < p2 ((u3_0))) → (2 = 0 ∨ ((v12)) 0 = ((w12)) 0) → (2 = 1 ∨ ((v12)) 1 = ((w12)) 1) → (2 = 2 ∨ ((v12)) 2 = ((w12)) 2) → (0 ≤ (y13_2) ∧ (y13_2) ≤ (u13_2)) → (∀ b, BB ((w4)) ((u3_0)) ((w8)) (((w12)) 2) b → (y13_2) = (u13_2) - b) → (∀ s b z, tsF XX (((w12)) 2) = (s, b, z) → ((v12)) 2 = z + bvA (ub8 ((w14))) (8 * (u13_1)) ((u13_2)) b ∧ (y13_2) = (u13_2) - b) → Q none σ c s) : Ew 252 (d + 2) 0 (rargs 0 [.ref (D 0), I 2]) [] σE c s Q := by
  have O := OUT_refl (n := (V252_c12).length) (D := D) (N := N) (σ := σE) (c := c) (s := s)
  have HE := H
  have r1 : (-2147483648 : Int) ≤ u3_0 ∧ u3_0 ≤ 2147483647 := rngE (show (-2147483648 : Int) ≤ F 3 0 ∧ F 3 0 ≤ 2147483647 from H.krg 3 0 (ltn len_V252_c12_oz_H3cls rfl)) (show F 3 0 = u3_0 from (eu3_0))
  have r2 : (-2147483648 : Int) ≤ u3_1 ∧ u3_1 ≤ 2147483647 := rngE (show (-2147483648 : Int) ≤ F 3 1 ∧ F 3 1 ≤ 2147483647 from H.krg 3 1 (ltn len_V252_c12_oz_H3cls rfl)) (show F 3 1 = u3_1 from (eu3_1))
  have r3 : (-2147483648 : Int) ≤ u13_1 ∧ u13_1 ≤ 2147483647 := rngE (show (-2147483648 : Int) ≤ F 13 1 ∧ F 13 1 ≤ 2147483647 from H.krg 13 1 (ltn len_V252_c12_oz_H3cls rfl)) (show F 13 1 = u13_1 from (eu13_1))
  have r4 : (-2147483648 : Int) ≤ u13_2 ∧ u13_2 ≤ 2147483647 := rngE (show (-2147483648 : Int) ≤ F 13 2 ∧ F 13 2 ≤ 2147483647 from H.krg 13 2 (ltn len_V252_c12_oz_H3cls rfl)) (show F 13 2 = u13_2 from (eu13_2))
  have r5 : (0 : Int) ≤ n2 ∧ n2 ≤ 1000000 := nleE (H.nle 2 (ltn len_V252_c12_oz_H3cls rfl)) (show (N 2 : Int) = n2 from en2)
  have r6 : (0 : Int) ≤ n4 ∧ n4 ≤ 1000000 := nleE (H.nle 4 (ltn len_V252_c12_oz_H3cls rfl)) (show (N 4 : Int) = n4 from en4)
  have r7 : (0 : Int) ≤ n5 ∧ n5 ≤ 1000000 := nleE (H.nle 5 (ltn len_V252_c12_oz_H3cls rfl)) (show (N 5 : Int) = n5 from en5)
  have r8 : (0 : Int) ≤ n6 ∧ n6 ≤ 1000000 := nleE (H.nle 6 (ltn len_V252_c12_oz_H3cls rfl)) (show (N 6 : Int) = n6 from en6)
  have r9 : (0 : Int) ≤ n7 ∧ n7 ≤ 1000000 := nleE (H.nle 7 (ltn len_V252_c12_oz_H3cls rfl)) (show (N 7 : Int) = n7 from en7)
  have r10 : (0 : Int) ≤ n8 ∧ n8 ≤ 1000000 := nleE (H.nle 8 (ltn len_V252_c12_oz_H3cls rfl)) (show (N 8 : Int) = n8 from en8)
  have r11 : (0 : Int) ≤ n9 ∧ n9 ≤ 1000000 := nleE (H.nle 9 (ltn len_V252_c12_oz_H3cls rfl)) (show (N 9 : Int) = n9 from en9)
  have r12 : (0 : Int) ≤ n10 ∧ n10 ≤ 1000000 := nleE (H.nle 10 (ltn len_V252_c12_oz_H3cls rfl)) (show (N 10 : Int) = n10 from en10)
  have r13 : (0 : Int) ≤ n11 ∧ n11 ≤ 1000000 := nleE (H.nle 11 (ltn len_V252_c12_oz_H3cls rfl)) (show (N 11 : Int) = n11 from en11)
  have r14 : (0 : Int) ≤ n12 ∧ n12 ≤ 1000000 := nleE (H.nle 12 (ltn len_V252_c12_oz_H3cls rfl)) (show (N 12 : Int) = n12 from en12)
  have r15 : (0 : Int) ≤ n14 ∧ n14 ≤ 1000000 := nleE (H.nle 14 (ltn len_V252_c12_oz_H3cls rfl)) (show (N 14 : Int) = n14 from en14)
  have hle : ∀ b, BB ((w4)) ((u3_0)) ((w8)) (((w12)) 2) b → b ≤ (u13_2) := h6
  have hsl : SL ((w4)) ((u3_1)) ((u3_0)) ((w5)) ((w6)) ((w7)) ((w8)) ((w9)) ((w10)) := h1
  have hsf := SHD_f hsl.1
  have hSX : SHX (XX) ((u3_0)) ((u3_1)) ((w4)) := h7
  refine Ew_of (pcₚ := 1) (fun _ => x_aload_n rfl rfl) ?_
  refine v_g H (o := 0) (v := .ref (D 1)) rfl rfl rfl rfl rfl (vrf (pf1)) ?_
  refine v_g H (o := 1) (v := .ref (D 2)) rfl rfl rfl rfl rfl (vrf (pf2)) ?_
  refine Ew_of (pcₚ := 8) (fun _ => x_iload_n rfl rfl) ?_
  refine v_lR H (o := 2) rfl rfl rfl rfl rfl (n := n2) (en2) (show 0 ≤ 2 ∧ 2 < n2 from q_3865 h4) (z := ((D 3 : Nat) : Int)) (v := .ref (D 3)) (pf3) (vrf rfl) ?_
  refine Ew_of (pcₚ := 10) (fun _ => x_astore_n rfl) ?_
  refine Ew_of (pcₚ := 11) (fun _ => x_aload_n rfl (rk_o (rfl) rfl rfl)) ?_
  refine v_g H (o := 0) (v := .ref (D 12)) rfl rfl rfl rfl rfl (vrf (pf12)) ?_
  refine Ew_of (pcₚ := 15) (fun _ => x_iload_n rfl (rk_o (rfl) rfl rfl)) ?_
  refine Ew_of (pcₚ := 16) (fun _ => x_aload_n rfl rk_s) ?_
  refine Ew_of (pcₚ := 17) (fun _ => x_aload_n rfl (rk_o (rfl) rfl rfl)) ?_
  refine v_g H (o := 0) (v := .ref (D 12)) rfl rfl rfl rfl rfl (vrf (pf12)) ?_
  refine Ew_of (pcₚ := 21) (fun _ => x_iload_n rfl (rk_o (rfl) rfl rfl)) ?_
  refine v_lI H (o := 12) rfl rfl rfl rfl (n := n12) (en12) (show 0 ≤ 2 ∧ 2 < n12 from q_3866 h4) (fun v16 ev16 qv16 => ?_)
  have ev16 : (w12) (2) = v16 := (congrFun (ew12) (2)).symm.trans ev16
  have hva := ev16
  refine v_inv H (o := 3) rfl rfl rfl rfl rfl rfl (by rfl) (C173o (D := puc 52038427443478050113539 D) (N := puc 52038427443478050113539 N) (HW_subc H oz_H3cls_21 oz_H3cls_14) (pf4) (pf5) (pf6) (pf7) (pf8) (pf9) (pf10) (pf11) (n4) (en4) (n5) (en5) (n6) (en6) (n7) (en7) (n8) (en8) (n9) (en9) (n10) (en10) (n11) (en11) (u3_0) ((eu3_0)) (u3_1) ((eu3_1)) (w4) (ew4) (w5) (ew5) (w6) (ew6) (w7) (ew7) (w8) (ew8) (w9) (ew9) (w10) (ew10) (show inr (v16) from qv16) (hsl) (h2) (show 0 ≤ (v16) ∧ (v16) < p2 ((u3_0)) from q_4050 ev16 h3) (fun z17 σ17 F17ₚ A17ₚ Hₚ Oₚ hS17 hA17 pz17_0 pz17_1 pz17_2 => ⟨rfl, ?_⟩))
  refine v_backc (c := c) (s := s) H oz_H3cls_21 oz_H3cls_14 Hₚ Oₚ (fun F17 A17 H Oₚ eF17 eA17 => ?_)
  have O := OUT_trans O Oₚ
  -- Share.baseBehind
  have cF17 : SF oz_H3clsl_4 F F17 := SF_trans (SF_refl) (SF_gluc (ι := oz_H3clsl_6) oz_H3cls_14 hS17 eF17 (by decide +kernel)) (any_sub (lₚ := []) (by decide +kernel))
  have mF17 := SFm_of cF17 oz_H3cls_12
  have cA17 : SA oz_H3clsl_5 A A17 := SA_trans (SA_refl) (SA_gluc (ι := oz_H3clsl_6) oz_H3cls_14 hA17 eA17 (by decide +kernel)) (any_subA (lₚ := []) (by decide +kernel))
  have mA17 := SAm_of cA17 oz_H3cls_13
  have hbas : BAS ((w4)) ((u3_0)) ((w8)) (((w12)) 2) (z17) := by rw [hva]; exact pz17_1
  refine Ew_of (pcₚ := 26) (fun _ => x_aload_n rfl (rk_o (rfl) rfl rfl)) ?_
  refine v_g H (o := 0) (v := .ref (D 13)) rfl rfl rfl rfl rfl (vrf ((mF17 0 5 rfl).trans (pf13))) ?_
  refine Ew_of (pcₚ := 30) (fun _ => x_aload_n rfl rk_s) ?_
  refine Ew_of (pcₚ := 31) (fun _ => x_aload_n rfl (rk_o (rfl) rfl rfl)) ?_
  refine v_g H (o := 0) (v := .ref (D 12)) rfl rfl rfl rfl rfl (vrf ((mF17 0 6 rfl).trans (pf12))) ?_
  refine Ew_of (pcₚ := 35) (fun _ => x_iload_n rfl (rk_o (rfl) rfl rfl)) ?_
  refine v_lI H (o := 12) rfl rfl rfl rfl (n := n12) (en12) (show 0 ≤ 2 ∧ 2 < n12 from q_3866 h4) (fun v18 ev18 qv18 => ?_)
  have ev18 : (w12) (2) = v18 := (congrFun (((show A17 12 = A 12 from (eA17 12))).trans (ew12)) (2)).symm.trans ev18
  have hvb := ev18
  refine v_inv H (o := 3) rfl rfl rfl rfl rfl rfl (by rfl) (C172o (D := puc 52038427443478050113539 D) (N := puc 52038427443478050113539 N) (HW_subc H oz_H3cls_22 oz_H3cls_14) ((mF17 3 2 rfl).trans (pf4)) ((mF17 3 3 rfl).trans (pf5)) ((mF17 3 4 rfl).trans (pf6)) ((mF17 3 5 rfl).trans (pf7)) ((mF17 3 7 rfl).trans (pf8)) ((mF17 3 8 rfl).trans (pf9)) ((mF17 3 9 rfl).trans (pf10)) ((mF17 3 6 rfl).trans (pf11)) (n4) (en4) (n5) (en5) (n6) (en6) (n7) (en7) (n8) (en8) (n9) (en9) (n10) (en10) (n11) (en11) (u3_0) (((mF17 3 0 rfl).trans (eu3_0))) (u3_1) (((mF17 3 1 rfl).trans (eu3_1))) (w4) ((funext (mA17 4 rfl)).trans (ew4)) (w5) ((funext (mA17 5 rfl)).trans (ew5)) (w6) ((funext (mA17 6 rfl)).trans (ew6)) (w7) ((funext (mA17 7 rfl)).trans (ew7)) (w8) ((funext (mA17 8 rfl)).trans (ew8)) (w9) ((funext (mA17 9 rfl)).trans (ew9)) (w10) ((funext (mA17 10 rfl)).trans (ew10)) (show inr (v18) from qv18) (hsl) (h2) (show 0 ≤ (v18) ∧ (v18) < p2 ((u3_0)) from q_4050 ev18 h3) (fun z19 σ19 F19ₚ A19ₚ Hₚ Oₚ hS19 hA19 pz19_0 pz19_1 pz19_2 => ⟨rfl, ?_⟩))
  refine v_backc (c := c) (s := s) H oz_H3cls_22 oz_H3cls_14 Hₚ Oₚ (fun F19 A19 H Oₚ eF19 eA19 => ?_)
  have O := OUT_trans O Oₚ
  -- Share.bitsBehind
  have cF19 : SF oz_H3clsl_4 F F19 := SF_trans (cF17) (SF_gluc (ι := oz_H3clsl_6) oz_H3cls_14 hS19 eF19 (by decide +kernel)) (any_sub (lₚ := []) (by decide +kernel))
  have mF19 := SFm_of cF19 oz_H3cls_12
  have cA19 : SA oz_H3clsl_5 A A19 := SA_trans (cA17) (SA_gluc (ι := oz_H3clsl_6) oz_H3cls_14 hA19 eA19 (by decide +kernel)) (any_subA (lₚ := []) (by decide +kernel))
  have mA19 := SAm_of cA19 oz_H3cls_13
  have hbb : BB ((w4)) ((u3_0)) ((w8)) (((w12)) 2) (z19) := by rw [hvb]; exact pz19_1
  have hbl := hle _ hbb
  have hbx := hbas _ hbb
  have hts := SHX_ts hSX hsl (by omega) (by omega) hbb hbas rfl
  refine v_inv H (o := 13) rfl rfl rfl rfl rfl rfl (by rfl) (C95 (D := puc 7181 D) (N := puc 7181 N) (HW_subc H oz_H3cls_23 oz_H3cls_15) ((mF19 13 0 rfl).trans (pk0)) (n14) (en14) (u13_1) (((mF19 13 1 rfl).trans (eu13_1))) (u13_2) (((((show F19 13 2 = F17 13 2 from (eF19 13 2))).trans ((show F17 13 2 = F 13 2 from (eF17 13 2)))).trans (eu13_2))) (w14) ((funext (mA19 14 rfl)).trans (ew14)) (show inr (z19) from pz19_0) (show 0 ≤ (z19) ∧ (z19) ≤ 31 by omega) (show 0 ≤ (u13_1) ∧ (u13_1) ≤ 65536 ∧ (u13_2) ≤ 8 * ((n14) - (u13_1)) ∧ (n14) ≤ 65536 from q_4052 h5) (show -100 ≤ (u13_2) from q_4051 h5) (fun z20 σ20 F20ₚ A20ₚ Hₚ Oₚ hS20 hA20 y20_0_2 (ey20_0_2 : HID _) pz20_0 pz20_1 pz20_2 pz20_3 => ⟨rfl, ?_⟩))
  refine v_backc (c := c) (s := s) H oz_H3cls_23 oz_H3cls_15 Hₚ Oₚ (fun F20 A20 H Oₚ eF20 eA20 => ?_)
  have O := OUT_trans O Oₚ
  -- BitSource.take
  have cF20 : SF oz_H3clsl_4 F F20 := SF_trans (cF19) (SF_gluc (ι := oz_H3clsl_7) oz_H3cls_15 hS20 eF20 (by decide +kernel)) (any_sub (lₚ := [(13, 2)]) (by decide +kernel))
  have mF20 := SFm_of cF20 oz_H3cls_12
  have cA20 : SA oz_H3clsl_5 A A20 := SA_trans (cA19) (SA_gluc (ι := oz_H3clsl_7) oz_H3cls_15 hA20 eA20 (by decide +kernel)) (any_subA (lₚ := []) (by decide +kernel))
  have mA20 := SAm_of cA20 oz_H3cls_13
  have r21 : (-2147483648 : Int) ≤ y20_0_2 ∧ y20_0_2 ≤ 2147483647 := rngE (show (-2147483648 : Int) ≤ F20 13 2 ∧ F20 13 2 ≤ 2147483647 from H.krg 13 2 (ltn len_V252_c12_oz_H3cls rfl)) (show F20 13 2 = y20_0_2 from ((eF20 13 2).trans ey20_0_2))
  have hlf : ∀ b, BB ((w4)) ((u3_0)) ((w8)) (((w12)) 2) b → (y20_0_2) = (u13_2) - b := fun b hb => by have := BB_uniq hbb hb; omega
  have htk : z20 = bvA (ub8 ((w14))) (8 * (u13_1)) ((u13_2)) (z19) := pk_A pz20_3 rfl (by omega) rfl rfl
  refine w_l2i rfl ?_
  refine w_iadd rfl ?_
  have hs_ := upd1_s (a := ((w12))) (j := 2) (z := ((z17 + z20)))
  have hu0_ : (2 : Int) = 0 ∨ upd1 ((w12)) 2 (((z17 + z20))) 0 = ((w12)) 0 := by by_cases w : (0 : Int) = 2; exact .inl (by omega); exact .inr (upd1_o w)
  have hu1_ : (2 : Int) = 1 ∨ upd1 ((w12)) 2 (((z17 + z20))) 1 = ((w12)) 1 := by by_cases w : (1 : Int) = 2; exact .inl (by omega); exact .inr (upd1_o w)
  have hu2_ : (2 : Int) = 2 ∨ upd1 ((w12)) 2 (((z17 + z20))) 2 = ((w12)) 2 := by by_cases w : (2 : Int) = 2; exact .inl (by omega); exact .inr (upd1_o w)
  refine v_sI H (o := 12) (z := (z17 + z20)) rfl rfl rfl rfl (n := n12) (en12) (show 0 ≤ 2 ∧ 2 < n12 from q_3866 h4) (show inr ((z17 + z20)) by omega) (fun σ H Oₚ => ?_)
  have O := OUT_trans O Oₚ
  have cAu22 : SA oz_H3clsl_5 A (updA A20 12 (2) ((z17 + z20))) := SA_upd (cA20) rfl
  have mAu22 := SAm_of cAu22 oz_H3cls_13
  have : ∀ s b z, tsF XX (((w12)) 2) = (s, b, z) → ((upd1 (w12) (2) ((z17 + z20)))) 2 = z + bvA (ub8 ((w14))) (8 * (u13_1)) ((u13_2)) b ∧ (y20_0_2) = (u13_2) - b := fun s b z h => by have h0 := hts.symm.trans h; have h1 : z19 = b := congrArg (fun q => q.2.1) h0; have h2 : z17 = z := congrArg (fun q => q.2.2) h0; subst h1 h2; exact ⟨by (rw [upd1_s, ← htk]; done), by omega⟩
  exact w_ret rfl (k _ _ _ H O (cF20) (cAu22) (y20_0_2) (((eF20 13 2).trans ey20_0_2)) (upd1 (w12) (2) ((z17 + z20))) (congrArg (fun q => upd1 q (2) ((z17 + z20))) (((show A20 12 = A19 12 from (eA20 12))).trans (((show A19 12 = A17 12 from (eA19 12))).trans (((show A17 12 = A 12 from (eA17 12))).trans (ew12))))) (show 0 ≤ ((upd1 (w12) (2) ((z17 + z20)))) 2 ∧ ((upd1 (w12) (2) ((z17 + z20)))) 2 < p2 ((u3_0)) by omega) (show 2 = 0 ∨ ((upd1 (w12) (2) ((z17 + z20)))) 0 = ((w12)) 0 by omega) (show 2 = 1 ∨ ((upd1 (w12) (2) ((z17 + z20)))) 1 = ((w12)) 1 by omega) (show 2 = 2 ∨ ((upd1 (w12) (2) ((z17 + z20)))) 2 = ((w12)) 2 by first | exact q_3868 | omega) (show 0 ≤ (y20_0_2) ∧ (y20_0_2) ≤ (u13_2) by omega) (hlf) (show ∀ s b z, tsF XX (((w12)) 2) = (s, b, z) → ((upd1 (w12) (2) ((z17 + z20)))) 2 = z + bvA (ub8 ((w14))) (8 * (u13_1)) ((u13_2)) b ∧ (y20_0_2) = (u13_2) - b by assumption))
abbrev V251 : vV := [(0, 12, [(4, 0), (4, 0), (4, 0), (4, 0), (4, 0), (4, 0), (4, 0), (4, 0), (0, 0), (0, 0), (4, 0), (0, 0), (4, 0), (4, 0), (0, 0), (2, 0), (0, 0), (0, 0), (0, 0), (0, 0), (0, 0), (0, 0)]), (0, 9, [(4, 0), (4, 0), (4, 0)]), (1, 5, []), (0, 8, [(0, 0), (0, 0), (4, 0), (4, 0), (4, 0), (4, 0), (4, 0), (4, 0), (4, 0), (4, 0), (4, 0), (0, 0), (0, 0)]), (1, 1, []), (1, 1, []), (1, 1, []), (1, 1, []), (1, 1, []), (1, 1, []), (1, 1, []), (1, 1, []), (1, 1, []), (0, 8, [(0, 0), (0, 0), (4, 0), (4, 0), (4, 0), (4, 0), (4, 0), (4, 0), (4, 0), (4, 0), (4, 0), (0, 0), (0, 0)]), (1, 1, []), (1, 1, []), (1, 1, []), (1, 1, []), (1, 1, []), (1, 1, []), (1, 1, []), (1, 1, []), (0, 8, [(0, 0), (0, 0), (4, 0), (4, 0), (4, 0), (4, 0), (4, 0), (4, 0), (4, 0), (4, 0), (4, 0), (0, 0), (0, 0)]), (1, 1, []), (1, 1, []), (1, 1, []), (1, 1, []), (1, 1, []), (1, 1, []), (1, 1, []), (1, 1, [])]
theorem len_V251_oz_H3cls : (V251).length = 31 := by decide +kernel
theorem oz_H3cls_25 : vsub V251 V172 [3, 4, 5, 6, 7, 8, 9, 10, 11] = true := by decide +kernel
theorem oz_H3cls_26 : vsub V251 V172 [13, 14, 15, 16, 17, 18, 19, 20, 21] = true := by decide +kernel
theorem oz_H3cls_27 : vsub V251 V172 [22, 23, 24, 25, 26, 27, 28, 29, 30] = true := by decide +kernel
def oz_H3clsl_8 : List Nat := [13, 14, 15, 16, 17, 18, 19, 20, 21]
theorem oz_H3cls_28 : okc oz_H3clsl_8 99354506489060405287949 = true := by decide +kernel
def oz_H3clsl_9 : List Nat := [22, 23, 24, 25, 26, 27, 28, 29, 30]
theorem oz_H3cls_29 : okc oz_H3clsl_9 141938977630084524944918 = true := by decide +kernel

theorem C251 {σE : rS} {D N : Nat → Nat} {F : hF} {A : hA} {d c s : Nat} {Q : wQ} (H : HW V251 σE D N F A)  (pf1 : HID (F 0 3 = (D 1 : Int))) (pf2 : HID (F 1 1 = (D 2 : Int))) (pf3 : HID (A 2 0 = (D 3 : Int))) (pf4 : HID (F 3 2 = (D 4 : Int))) (pf5 : HID (F 3 3 = (D 5 : Int))) (pf6 : HID (F 3 4 = (D 6 : Int))) (pf7 : HID (F 3 5 = (D 7 : Int))) (pf8 : HID (F 3 7 = (D 8 : Int))) (pf9 : HID (F 3 8 = (D 9 : Int))) (pf10 : HID (F 3 9 = (D 10 : Int))) (pf11 : HID (F 3 6 = (D 11 : Int))) (pf12 : HID (F 0 6 = (D 12 : Int))) (pf13 : HID (A 2 1 = (D 13 : Int))) (pf14 : HID (F 13 2 = (D 14 : Int))) (pf15 : HID (F 13 3 = (D 15 : Int))) (pf16 : HID (F 13 4 = (D 16 : Int))) (pf17 : HID (F 13 5 = (D 17 : Int))) (pf18 : HID (F 13 7 = (D 18 : Int))) (pf19 : HID (F 13 8 = (D 19 : Int))) (pf20 : HID (F 13 9 = (D 20 : Int))) (pf21 : HID (F 13 6 = (D 21 : Int))) (pf22 : HID (A 2 2 = (D 22 : Int))) (pf23 : HID (F 22 2 = (D 23 : Int))) (pf24 : HID (F 22 3 = (D 24 : Int))) (pf25 : HID (F 22 4 = (D 25 : Int))) (pf26 : HID (F 22 5 = (D 26 : Int))) (pf27 : HID (F 22 7 = (D 27 : Int))) (pf28 : HID (F 22 8 = (D 28 : Int))) (pf29 : HID (F 22 9 = (D 29 : Int))) (pf30 : HID (F 22 6 = (D 30 : Int))) (n2 : Int) (en2 : HID ((N 2 : Int) = n2)) (n4 : Int) (en4 : HID ((N 4 : Int) = n4)) (n5 : Int) (en5 : HID ((N 5 : Int) = n5)) (n6 : Int) (en6 : HID ((N 6 : Int) = n6)) (n7 : Int) (en7 : HID ((N 7 : Int) = n7)) (n8 : Int) (en8 : HID ((N 8 : Int) = n8)) (n9 : Int) (en9 : HID ((N 9 : Int) = n9)) (n10 : Int) (en10 : HID ((N 10 : Int) = n10)) (n11 : Int) (en11 : HID ((N 11 : Int) = n11)) (n12 : Int) (en12 : HID ((N 12 : Int) = n12)) (n14 : Int) (en14 : HID ((N 14 : Int) = n14)) (n15 : Int) (en15 : HID ((N 15 : Int) = n15)) (n16 : Int) (en16 : HID ((N 16 : Int) = n16)) (n17 : Int) (en17 : HID ((N 17 : Int) = n17)) (n18 : Int) (en18 : HID ((N 18 : Int) = n18)) (n19 : Int) (en19 : HID ((N 19 : Int) = n19)) (n20 : Int) (en20 : HID ((N 20 : Int) = n20)) (n21 : Int) (en21 : HID ((N 21 : Int) = n21)) (n23 : Int) (en23 : HID ((N 23 : Int) = n23)) (n24 : Int) (en24 : HID ((N 24 : Int) = n24)) (n25 : Int) (en25 : HID ((N 25 : Int) = n25)) (n26 : Int) (en26 : HID ((N 26 : Int) = n26)) (n27 : Int) (en27 : HID ((N 27 : Int) = n27)) (n28 : Int) (en28 : HID ((N 28 : Int) = n28)) (n29 : Int) (en29 : HID ((N 29 : Int) = n29)) (n30 : Int) (en30 : HID ((N 30 : Int) = n30)) (u3_0 : Int) (eu3_0 : HID (F 3 0 = u3_0)) (u3_1 : Int) (eu3_1 : HID (F 3 1 = u3_1)) (u13_0 : Int) (eu13_0 : HID (F 13 0 = u13_0)) (u13_1 : Int) (eu13_1 : HID (F 13 1 = u13_1)) (u22_0 : Int) (eu22_0 : HID (F 22 0 = u22_0)) (u22_1 : Int) (eu22_1 : HID (F 22 1 = u22_1)) (w4 : Int → Int) (ew4 : A 4 = w4) (w5 : Int → Int) (ew5 : A 5 = w5) (w6 : Int → Int) (ew6 : A 6 = w6) (w7 : Int → Int) (ew7 : A 7 = w7) (w8 : Int → Int) (ew8 : A 8 = w8) (w9 : Int → Int) (ew9 : A 9 = w9) (w10 : Int → Int) (ew10 : A 10 = w10) (w12 : Int → Int) (ew12 : A 12 = w12) (w14 : Int → Int) (ew14 : A 14 = w14) (w15 : Int → Int) (ew15 : A 15 = w15) (w16 : Int → Int) (ew16 : A 16 = w16) (w17 : Int → Int) (ew17 : A 17 = w17) (w18 : Int → Int) (ew18 : A 18 = w18) (w19 : Int → Int) (ew19 : A 19 = w19) (w20 : Int → Int) (ew20 : A 20 = w20) (w23 : Int → Int) (ew23 : A 23 = w23) (w24 : Int → Int) (ew24 : A 24 = w24) (w25 : Int → Int) (ew25 : A 25 = w25) (w26 : Int → Int) (ew26 : A 26 = w26) (w27 : Int → Int) (ew27 : A 27 = w27) (w28 : Int → Int) (ew28 : A 28 = w28) (w29 : Int → Int) (ew29 : A 29 = w29) (h0 : SL ((w4)) ((u3_1)) ((u3_0)) ((w5)) ((w6)) ((w7)) ((w8)) ((w9)) ((w10))) (h1 : SZD ((n4)) ((n5)) ((n6)) ((n7)) ((n11)) ((n8)) ((n9)) ((n10)) ((u3_1)) ((u3_0))) (h2 : (u3_1) ≤ 36) (h3 : 0 ≤ ((w12)) 0 ∧ ((w12)) 0 < p2 ((u3_0))) (h4 : SL ((w14)) ((u13_1)) ((u13_0)) ((w15)) ((w16)) ((w17)) ((w18)) ((w19)) ((w20))) (h5 : SZD ((n14)) ((n15)) ((n16)) ((n17)) ((n21)) ((n18)) ((n19)) ((n20)) ((u13_1)) ((u13_0))) (h6 : (u13_1) ≤ 32) (h7 : 0 ≤ ((w12)) 1 ∧ ((w12)) 1 < p2 ((u13_0))) (h8 : SL ((w23)) ((u22_1)) ((u22_0)) ((w24)) ((w25)) ((w26)) ((w27)) ((w28)) ((w29))) (h9 : SZD ((n23)) ((n24)) ((n25)) ((n26)) ((n30)) ((n27)) ((n28)) ((n29)) ((u22_1)) ((u22_0))) (h10 : (u22_1) ≤ 53) (h11 : 0 ≤ ((w12)) 2 ∧ ((w12)) 2 < p2 ((u22_0))) (h12 : (n12) = 3 ∧ (n2) = 3) (k : ∀ (z : Int) (σ : rS) (Fₚ : hF) (Aₚ : hA), HW V251 σ D N Fₚ Aₚ → OUT (V251).length D N σE c s D N σ c s → SF [] F Fₚ → SA [] A Aₚ → (inr (z)) → (0 ≤ (z) ∧ (z) ≤ 27) → (BSM (fun b => BB ((w4)) ((u3_0)) ((w8)) (((w12)) 0) b) (fun b => BB ((w14)) ((u13_0)) ((w18)) (((w12)) 1) b) (fun b => BB ((w23)) ((u22_0)) ((w27)) (((w12)) 2) b) 3 (z)) → Q (some (I z)) σ c s) : Ew 251 (d + 1) 0 (rargs 0 [.ref (D 0)]) [] σE c s Q := by
  have O := OUT_refl (n := (V251).length) (D := D) (N := N) (σ := σE) (c := c) (s := s)
  have HE := H
  have r1 : (-2147483648 : Int) ≤ u3_0 ∧ u3_0 ≤ 2147483647 := rngE (show (-2147483648 : Int) ≤ F 3 0 ∧ F 3 0 ≤ 2147483647 from H.krg 3 0 (ltn len_V251_oz_H3cls rfl)) (show F 3 0 = u3_0 from (eu3_0))
  have r2 : (-2147483648 : Int) ≤ u3_1 ∧ u3_1 ≤ 2147483647 := rngE (show (-2147483648 : Int) ≤ F 3 1 ∧ F 3 1 ≤ 2147483647 from H.krg 3 1 (ltn len_V251_oz_H3cls rfl)) (show F 3 1 = u3_1 from (eu3_1))
  have r3 : (-2147483648 : Int) ≤ u13_0 ∧ u13_0 ≤ 2147483647 := rngE (show (-2147483648 : Int) ≤ F 13 0 ∧ F 13 0 ≤ 2147483647 from H.krg 13 0 (ltn len_V251_oz_H3cls rfl)) (show F 13 0 = u13_0 from (eu13_0))
  have r4 : (-2147483648 : Int) ≤ u13_1 ∧ u13_1 ≤ 2147483647 := rngE (show (-2147483648 : Int) ≤ F 13 1 ∧ F 13 1 ≤ 2147483647 from H.krg 13 1 (ltn len_V251_oz_H3cls rfl)) (show F 13 1 = u13_1 from (eu13_1))
  have r5 : (-2147483648 : Int) ≤ u22_0 ∧ u22_0 ≤ 2147483647 := rngE (show (-2147483648 : Int) ≤ F 22 0 ∧ F 22 0 ≤ 2147483647 from H.krg 22 0 (ltn len_V251_oz_H3cls rfl)) (show F 22 0 = u22_0 from (eu22_0))
  have r6 : (-2147483648 : Int) ≤ u22_1 ∧ u22_1 ≤ 2147483647 := rngE (show (-2147483648 : Int) ≤ F 22 1 ∧ F 22 1 ≤ 2147483647 from H.krg 22 1 (ltn len_V251_oz_H3cls rfl)) (show F 22 1 = u22_1 from (eu22_1))
  have r7 : (0 : Int) ≤ n2 ∧ n2 ≤ 1000000 := nleE (H.nle 2 (ltn len_V251_oz_H3cls rfl)) (show (N 2 : Int) = n2 from en2)
  have r8 : (0 : Int) ≤ n4 ∧ n4 ≤ 1000000 := nleE (H.nle 4 (ltn len_V251_oz_H3cls rfl)) (show (N 4 : Int) = n4 from en4)
  have r9 : (0 : Int) ≤ n5 ∧ n5 ≤ 1000000 := nleE (H.nle 5 (ltn len_V251_oz_H3cls rfl)) (show (N 5 : Int) = n5 from en5)
  have r10 : (0 : Int) ≤ n6 ∧ n6 ≤ 1000000 := nleE (H.nle 6 (ltn len_V251_oz_H3cls rfl)) (show (N 6 : Int) = n6 from en6)
  have r11 : (0 : Int) ≤ n7 ∧ n7 ≤ 1000000 := nleE (H.nle 7 (ltn len_V251_oz_H3cls rfl)) (show (N 7 : Int) = n7 from en7)
  have r12 : (0 : Int) ≤ n8 ∧ n8 ≤ 1000000 := nleE (H.nle 8 (ltn len_V251_oz_H3cls rfl)) (show (N 8 : Int) = n8 from en8)
  have r13 : (0 : Int) ≤ n9 ∧ n9 ≤ 1000000 := nleE (H.nle 9 (ltn len_V251_oz_H3cls rfl)) (show (N 9 : Int) = n9 from en9)
  have r14 : (0 : Int) ≤ n10 ∧ n10 ≤ 1000000 := nleE (H.nle 10 (ltn len_V251_oz_H3cls rfl)) (show (N 10 : Int) = n10 from en10)
  have r15 : (0 : Int) ≤ n11 ∧ n11 ≤ 1000000 := nleE (H.nle 11 (ltn len_V251_oz_H3cls rfl)) (show (N 11 : Int) = n11 from en11)
  have r16 : (0 : Int) ≤ n12 ∧ n12 ≤ 1000000 := nleE (H.nle 12 (ltn len_V251_oz_H3cls rfl)) (show (N 12 : Int) = n12 from en12)
  have r17 : (0 : Int) ≤ n14 ∧ n14 ≤ 1000000 := nleE (H.nle 14 (ltn len_V251_oz_H3cls rfl)) (show (N 14 : Int) = n14 from en14)
  have r18 : (0 : Int) ≤ n15 ∧ n15 ≤ 1000000 := nleE (H.nle 15 (ltn len_V251_oz_H3cls rfl)) (show (N 15 : Int) = n15 from en15)
  have r19 : (0 : Int) ≤ n16 ∧ n16 ≤ 1000000 := nleE (H.nle 16 (ltn len_V251_oz_H3cls rfl)) (show (N 16 : Int) = n16 from en16)
  have r20 : (0 : Int) ≤ n17 ∧ n17 ≤ 1000000 := nleE (H.nle 17 (ltn len_V251_oz_H3cls rfl)) (show (N 17 : Int) = n17 from en17)
  have r21 : (0 : Int) ≤ n18 ∧ n18 ≤ 1000000 := nleE (H.nle 18 (ltn len_V251_oz_H3cls rfl)) (show (N 18 : Int) = n18 from en18)
  have r22 : (0 : Int) ≤ n19 ∧ n19 ≤ 1000000 := nleE (H.nle 19 (ltn len_V251_oz_H3cls rfl)) (show (N 19 : Int) = n19 from en19)
  have r23 : (0 : Int) ≤ n20 ∧ n20 ≤ 1000000 := nleE (H.nle 20 (ltn len_V251_oz_H3cls rfl)) (show (N 20 : Int) = n20 from en20)
  have r24 : (0 : Int) ≤ n21 ∧ n21 ≤ 1000000 := nleE (H.nle 21 (ltn len_V251_oz_H3cls rfl)) (show (N 21 : Int) = n21 from en21)
  have r25 : (0 : Int) ≤ n23 ∧ n23 ≤ 1000000 := nleE (H.nle 23 (ltn len_V251_oz_H3cls rfl)) (show (N 23 : Int) = n23 from en23)
  have r26 : (0 : Int) ≤ n24 ∧ n24 ≤ 1000000 := nleE (H.nle 24 (ltn len_V251_oz_H3cls rfl)) (show (N 24 : Int) = n24 from en24)
  have r27 : (0 : Int) ≤ n25 ∧ n25 ≤ 1000000 := nleE (H.nle 25 (ltn len_V251_oz_H3cls rfl)) (show (N 25 : Int) = n25 from en25)
  have r28 : (0 : Int) ≤ n26 ∧ n26 ≤ 1000000 := nleE (H.nle 26 (ltn len_V251_oz_H3cls rfl)) (show (N 26 : Int) = n26 from en26)
  have r29 : (0 : Int) ≤ n27 ∧ n27 ≤ 1000000 := nleE (H.nle 27 (ltn len_V251_oz_H3cls rfl)) (show (N 27 : Int) = n27 from en27)
  have r30 : (0 : Int) ≤ n28 ∧ n28 ≤ 1000000 := nleE (H.nle 28 (ltn len_V251_oz_H3cls rfl)) (show (N 28 : Int) = n28 from en28)
  have r31 : (0 : Int) ≤ n29 ∧ n29 ≤ 1000000 := nleE (H.nle 29 (ltn len_V251_oz_H3cls rfl)) (show (N 29 : Int) = n29 from en29)
  have r32 : (0 : Int) ≤ n30 ∧ n30 ≤ 1000000 := nleE (H.nle 30 (ltn len_V251_oz_H3cls rfl)) (show (N 30 : Int) = n30 from en30)
  have hsl0 : SL ((w4)) ((u3_1)) ((u3_0)) ((w5)) ((w6)) ((w7)) ((w8)) ((w9)) ((w10)) := h0
  have hsf0 : 0 ≤ (u3_0) ∧ (u3_0) ≤ 9 := ⟨(SHD_f hsl0.1).1, (SHD_f hsl0.1).2.1⟩
  have hsl1 : SL ((w14)) ((u13_1)) ((u13_0)) ((w15)) ((w16)) ((w17)) ((w18)) ((w19)) ((w20)) := h4
  have hsf1 : 0 ≤ (u13_0) ∧ (u13_0) ≤ 9 := ⟨(SHD_f hsl1.1).1, (SHD_f hsl1.1).2.1⟩
  have hsl2 : SL ((w23)) ((u22_1)) ((u22_0)) ((w24)) ((w25)) ((w26)) ((w27)) ((w28)) ((w29)) := h8
  have hsf2 : 0 ≤ (u22_0) ∧ (u22_0) ≤ 9 := ⟨(SHD_f hsl2.1).1, (SHD_f hsl2.1).2.1⟩
  refine Ew_of (pcₚ := 1) (fun _ => x_iconst rfl) ?_
  refine Ew_of (pcₚ := 2) (fun _ => x_istore_n rfl) ?_
  refine Ew_of (pcₚ := 3) (fun _ => x_iconst rfl) ?_
  refine Ew_of (pcₚ := 4) (fun _ => x_istore_n rfl) ?_
  have hb0 : BSM (fun b => BB ((w4)) ((u3_0)) ((w8)) (((w12)) 0) b) (fun b => BB ((w14)) ((u13_0)) ((w18)) (((w12)) 1) b) (fun b => BB ((w23)) ((u22_0)) ((w27)) (((w12)) 2) b) 0 0 := BSM_0
  suffices hl4 : ∀ (m : Nat), ∀ (ls : rO) (σ : rS) (F_4 : hF) (A_4 : hA) (x4_1 : Int) (x4_2 : Int), rlook ls 0 = some (.ref (D 0)) → rlook ls 1 = some (I (x4_1)) → rlook ls 2 = some (I (x4_2)) → HW V251 σ D N F_4 A_4 → OUT (V251).length D N σE c s D N σ c s → SF [] F F_4 → SA [] A A_4 → (inr (x4_1)) → (inr (x4_2)) → ((0) ≤ (x4_2)) → ((x4_2) ≤ (0) ∨ (x4_2) ≤ (3)) → (0 ≤ (x4_1) ∧ (x4_1) ≤ 9 * (x4_2)) → (BSM (fun b => BB ((w4)) ((u3_0)) ((w8)) (((w12)) 0) b) (fun b => BB ((w14)) ((u13_0)) ((w18)) (((w12)) 1) b) (fun b => BB ((w23)) ((u22_0)) ((w27)) (((w12)) 2) b) (x4_2) (x4_1)) → ((3) - (x4_2)).toNat = m → Ew 251 (d + 1) 4 ls [] σ c s Q from
    hl4 _ _ _ _ _ (0) (0) (rk_o (rk_o (rfl) rfl rfl) rfl rfl) (rk_o (rk_s) rfl rfl) (rk_s) H O (SF_refl) (SA_refl)     (show inr (0) from q_2) (show inr (0) from q_2) (show (0) ≤ (0) from q_1) (show (0) ≤ (0) ∨ (0) ≤ (3) from q_1793) (show 0 ≤ (0) ∧ (0) ≤ 9 * (0) from q_4053) (hb0) rfl
  as_aux_lemma =>
  intro m
  induction m using Nat.strongRecOn with
  | _ m ih4 =>
    intro ls σ F_4 A_4 x4_1 x4_2 l4_0 l4_1 l4_2 H O hS_4 hA_4     j4_0 j4_1 j4_2 j4_3 j4_4 j4_5 hm4
    have cF_4 : SF oz_H3clsl_0 F F_4 := SF_trans (SF_refl) hS_4 (any_sub (by decide +kernel))
    have mF_4 := SFm_of cF_4 oz_H3cls_2
    have cA_4 : SA oz_H3clsl_1 A A_4 := SA_trans (SA_refl) hA_4 (any_subA (by decide +kernel))
    have mA_4 := SAm_of cA_4 oz_H3cls_3
    have hbs : BSM (fun b => BB ((w4)) ((u3_0)) ((w8)) (((w12)) 0) b) (fun b => BB ((w14)) ((u13_0)) ((w18)) (((w12)) 1) b) (fun b => BB ((w23)) ((u22_0)) ((w27)) (((w12)) 2) b) (x4_2) (x4_1) := by assumption
    refine Ew_of (pcₚ := 5) (fun _ => x_iload_n rfl l4_2) ?_
    refine Ew_of (pcₚ := 6) (fun _ => x_iconst rfl) ?_
    refine w_icmpge (t := 36) rfl rfl (show inr (x4_2) from j4_1) (show inr (3) from q_246) (fun b33 => ?_) (fun b33 => ?_)
    · have hl2 : (x4_2) = 3 := q_3831 b33 j4_3
      have hbe : BSM (fun b => BB ((w4)) ((u3_0)) ((w8)) (((w12)) 0) b) (fun b => BB ((w14)) ((u13_0)) ((w18)) (((w12)) 1) b) (fun b => BB ((w23)) ((u22_0)) ((w27)) (((w12)) 2) b) 3 (x4_1) := by rw [← hl2]; assumption
      refine Ew_of (pcₚ := 37) (fun _ => x_iload_n rfl l4_1) ?_
      exact w_ireturn rfl (k (x4_1) _ _ _ H O (cF_4) (cA_4) (show inr (x4_1) from j4_0) (show 0 ≤ (x4_1) ∧ (x4_1) ≤ 27 from q_4054 hl2 j4_4) (hbe))
    · refine Ew_of (pcₚ := 10) (fun _ => x_iload_n rfl l4_1) ?_
      have hc28 : ∀ (tc28_0 : Int), ∀ (ls : rO) (σ : rS) (F_c28 : hF) (A_c28 : hA) , rlook ls 0 = some (.ref (D 0)) → rlook ls 2 = some (I (x4_2)) → HW V251 σ D N F_c28 A_c28 → OUT (V251).length D N σE c s D N σ c s → SF [] F_4 F_c28 → SA [] A_4 A_c28 → (inr (tc28_0)) → (0 ≤ (tc28_0) ∧ (tc28_0) ≤ 9) → (BSM (fun b => BB ((w4)) ((u3_0)) ((w8)) (((w12)) 0) b) (fun b => BB ((w14)) ((u13_0)) ((w18)) (((w12)) 1) b) (fun b => BB ((w23)) ((u22_0)) ((w27)) (((w12)) 2) b) ((x4_2) + 1) ((x4_1) + (tc28_0))) → Ew 251 (d + 1) 28 ls [I (tc28_0), I (x4_1)] σ c s Q := by
       as_aux_lemma =>
        intro tc28_0 ls σ F_c28 A_c28  lc28_0 lc28_2 H O hS_c28 hA_c28     jc28_0 jc28_1 jc28_2
        have cF_c28 : SF oz_H3clsl_0 F F_c28 := SF_trans (cF_4) hS_c28 (any_sub (by decide +kernel))
        have mF_c28 := SFm_of cF_c28 oz_H3cls_2
        have cA_c28 : SA oz_H3clsl_1 A A_c28 := SA_trans (cA_4) hA_c28 (any_subA (by decide +kernel))
        have mA_c28 := SAm_of cA_c28 oz_H3cls_3
        refine w_iadd rfl ?_
        refine Ew_of (pcₚ := 30) (fun _ => x_istore_n rfl) ?_
        refine Ew_of (pcₚ := 33) (fun _ => x_iinc (len := 3) rfl (rk_o (lc28_2) rfl rfl)) ?_
        refine Ew_of (pcₚ := 4) (fun _ => x_goto rfl rfl) ?_
        exact ih4 _ (msE hm4 q_813 (q_814 b33)) _ _ _ _ ((x4_1 + tc28_0)) ((x4_2 + 1)) (rk_o (rk_o (lc28_0) rfl rfl) rfl rfl) (rk_o (rk_s) rfl rfl) (rk_s) H O (SF_trans (hS_4) hS_c28 (any_sub (by decide +kernel))) (SA_trans (hA_4) hA_c28 (any_subA (by decide +kernel)))     (show inr ((x4_1 + tc28_0)) from q_4058 b33 j4_4 jc28_1) (show inr ((x4_2 + 1)) from q_4057 b33 j4_4) (show (0) ≤ ((x4_2 + 1)) from q_4056 j4_4) (show ((x4_2 + 1)) ≤ (0) ∨ ((x4_2 + 1)) ≤ (3) from q_1803 b33) (show 0 ≤ ((x4_1 + tc28_0)) ∧ ((x4_1 + tc28_0)) ≤ 9 * ((x4_2 + 1)) from q_4055 j4_4 jc28_1) (jc28_2) rfl
      refine Ew_of (pcₚ := 11) (fun _ => x_aload_n rfl l4_0) ?_
      refine v_g H (o := 0) (v := .ref (D 1)) rfl rfl rfl rfl rfl (vrf ((mF_4 0 3 rfl).trans (pf1))) ?_
      refine v_g H (o := 1) (v := .ref (D 2)) rfl rfl rfl rfl rfl (vrf ((mF_4 1 1 rfl).trans (pf2))) ?_
      refine Ew_of (pcₚ := 18) (fun _ => x_iload_n rfl l4_2) ?_
      rcases (show x4_2 = 0 ∨ x4_2 = 1 ∨ x4_2 = 2 by omega) with b34 | b34 | b34
      · refine v_lR H (o := 2) rfl rfl rfl rfl rfl (n := n2) (en2) (show 0 ≤ x4_2 ∧ x4_2 < n2 from q_4059 b34 h12 j4_2 r7) (z := ((D 3 : Nat) : Int)) (v := .ref (D 3)) ((congrArg (A_4 2) b34).trans ((mA_4 2 rfl 0).trans (pf3))) (vrf rfl) ?_
        refine Ew_of (pcₚ := 20) (fun _ => x_aload_n rfl l4_0) ?_
        refine v_g H (o := 0) (v := .ref (D 12)) rfl rfl rfl rfl rfl (vrf ((mF_4 0 6 rfl).trans (pf12))) ?_
        refine Ew_of (pcₚ := 24) (fun _ => x_iload_n rfl l4_2) ?_
        refine v_lI H (o := 12) rfl rfl rfl rfl (n := n12) (en12) (show 0 ≤ x4_2 ∧ x4_2 < n12 from q_4060 b34 h12 j4_2 r16) (fun v35 ev35 qv35 => ?_)
        have ev35 : (w12) (x4_2) = v35 := (congrFun ((funext (mA_4 12 rfl)).trans (ew12)) (x4_2)).symm.trans ev35
        have hvs := ev35
        have hvk0 : ((x4_2) : Int) = 0 → ((w12)) 0 = (v35) := fun q => by rw [← q]; exact hvs
        have hvk1 : ((x4_2) : Int) = 1 → ((w12)) 1 = (v35) := fun q => by rw [← q]; exact hvs
        have hvk2 : ((x4_2) : Int) = 2 → ((w12)) 2 = (v35) := fun q => by rw [← q]; exact hvs
        refine v_inv H (o := 3) rfl rfl rfl rfl rfl rfl (by rfl) (C172o (D := puc 52038427443478050113539 D) (N := puc 52038427443478050113539 N) (HW_subc H oz_H3cls_25 oz_H3cls_14) ((mF_4 3 2 rfl).trans (pf4)) ((mF_4 3 3 rfl).trans (pf5)) ((mF_4 3 4 rfl).trans (pf6)) ((mF_4 3 5 rfl).trans (pf7)) ((mF_4 3 7 rfl).trans (pf8)) ((mF_4 3 8 rfl).trans (pf9)) ((mF_4 3 9 rfl).trans (pf10)) ((mF_4 3 6 rfl).trans (pf11)) (n4) (en4) (n5) (en5) (n6) (en6) (n7) (en7) (n8) (en8) (n9) (en9) (n10) (en10) (n11) (en11) (u3_0) (((mF_4 3 0 rfl).trans (eu3_0))) (u3_1) (((mF_4 3 1 rfl).trans (eu3_1))) (w4) ((funext (mA_4 4 rfl)).trans (ew4)) (w5) ((funext (mA_4 5 rfl)).trans (ew5)) (w6) ((funext (mA_4 6 rfl)).trans (ew6)) (w7) ((funext (mA_4 7 rfl)).trans (ew7)) (w8) ((funext (mA_4 8 rfl)).trans (ew8)) (w9) ((funext (mA_4 9 rfl)).trans (ew9)) (w10) ((funext (mA_4 10 rfl)).trans (ew10)) (show inr (v35) from qv35) (hsl0) (h1) (show 0 ≤ (v35) ∧ (v35) < p2 ((u3_0)) from q_4061 b34 h3 hvk0) (fun z36 σ36 F36ₚ A36ₚ Hₚ Oₚ hS36 hA36 pz36_0 pz36_1 pz36_2 => ⟨rfl, ?_⟩))
        refine v_backc (c := c) (s := s) H oz_H3cls_25 oz_H3cls_14 Hₚ Oₚ (fun F36 A36 H Oₚ eF36 eA36 => ?_)
        have O := OUT_trans O Oₚ
        -- Share.bitsBehind
        have cF36 : SF oz_H3clsl_0 F F36 := SF_trans (cF_4) (SF_gluc (ι := oz_H3clsl_6) oz_H3cls_14 hS36 eF36 (by decide +kernel)) (any_sub (lₚ := []) (by decide +kernel))
        have mF36 := SFm_of cF36 oz_H3cls_2
        have cA36 : SA oz_H3clsl_1 A A36 := SA_trans (cA_4) (SA_gluc (ι := oz_H3clsl_6) oz_H3cls_14 hA36 eA36 (by decide +kernel)) (any_subA (lₚ := []) (by decide +kernel))
        have mA36 := SAm_of cA36 oz_H3cls_3
        have hbt : BSM (fun b => BB ((w4)) ((u3_0)) ((w8)) (((w12)) 0) b) (fun b => BB ((w14)) ((u13_0)) ((w18)) (((w12)) 1) b) (fun b => BB ((w23)) ((u22_0)) ((w27)) (((w12)) 2) b) ((x4_2) + 1) ((x4_1) + (z36)) := by exact BSM_a hbs (by omega) rfl (by show BB ((w4)) ((u3_0)) ((w8)) (((w12)) 0) ((z36)); have hl0 : ((x4_2) : Int) = 0 := (by omega); rw [← hl0, hvs]; exact pz36_1) (fun _ _ p q => BB_uniq p q) rfl
        exact hc28 (z36) _ _ _ _  (l4_0) (l4_2) H O (SF_trans (SF_refl) (SF_gluc (ι := oz_H3clsl_6) oz_H3cls_14 hS36 eF36 (by decide +kernel)) (any_sub (lₚ := []) (by decide +kernel))) (SA_trans (SA_refl) (SA_gluc (ι := oz_H3clsl_6) oz_H3cls_14 hA36 eA36 (by decide +kernel)) (any_subA (lₚ := []) (by decide +kernel)))     (show inr (z36) from pz36_0) (show 0 ≤ (z36) ∧ (z36) ≤ 9 from q_4062 hsf0 pz36_2) (hbt)
      · refine v_lR H (o := 2) rfl rfl rfl rfl rfl (n := n2) (en2) (show 0 ≤ x4_2 ∧ x4_2 < n2 from q_4063 b34 h12 j4_2 r7) (z := ((D 13 : Nat) : Int)) (v := .ref (D 13)) ((congrArg (A_4 2) b34).trans ((mA_4 2 rfl 1).trans (pf13))) (vrf rfl) ?_
        refine Ew_of (pcₚ := 20) (fun _ => x_aload_n rfl l4_0) ?_
        refine v_g H (o := 0) (v := .ref (D 12)) rfl rfl rfl rfl rfl (vrf ((mF_4 0 6 rfl).trans (pf12))) ?_
        refine Ew_of (pcₚ := 24) (fun _ => x_iload_n rfl l4_2) ?_
        refine v_lI H (o := 12) rfl rfl rfl rfl (n := n12) (en12) (show 0 ≤ x4_2 ∧ x4_2 < n12 from q_4064 b34 h12 j4_2 r16) (fun v37 ev37 qv37 => ?_)
        have ev37 : (w12) (x4_2) = v37 := (congrFun ((funext (mA_4 12 rfl)).trans (ew12)) (x4_2)).symm.trans ev37
        have hvs := ev37
        have hvk0 : ((x4_2) : Int) = 0 → ((w12)) 0 = (v37) := fun q => by rw [← q]; exact hvs
        have hvk1 : ((x4_2) : Int) = 1 → ((w12)) 1 = (v37) := fun q => by rw [← q]; exact hvs
        have hvk2 : ((x4_2) : Int) = 2 → ((w12)) 2 = (v37) := fun q => by rw [← q]; exact hvs
        refine v_inv H (o := 13) rfl rfl rfl rfl rfl rfl (by rfl) (C172o (D := puc 99354506489060405287949 D) (N := puc 99354506489060405287949 N) (HW_subc H oz_H3cls_26 oz_H3cls_28) ((mF_4 13 2 rfl).trans (pf14)) ((mF_4 13 3 rfl).trans (pf15)) ((mF_4 13 4 rfl).trans (pf16)) ((mF_4 13 5 rfl).trans (pf17)) ((mF_4 13 7 rfl).trans (pf18)) ((mF_4 13 8 rfl).trans (pf19)) ((mF_4 13 9 rfl).trans (pf20)) ((mF_4 13 6 rfl).trans (pf21)) (n14) (en14) (n15) (en15) (n16) (en16) (n17) (en17) (n18) (en18) (n19) (en19) (n20) (en20) (n21) (en21) (u13_0) (((mF_4 13 0 rfl).trans (eu13_0))) (u13_1) (((mF_4 13 1 rfl).trans (eu13_1))) (w14) ((funext (mA_4 14 rfl)).trans (ew14)) (w15) ((funext (mA_4 15 rfl)).trans (ew15)) (w16) ((funext (mA_4 16 rfl)).trans (ew16)) (w17) ((funext (mA_4 17 rfl)).trans (ew17)) (w18) ((funext (mA_4 18 rfl)).trans (ew18)) (w19) ((funext (mA_4 19 rfl)).trans (ew19)) (w20) ((funext (mA_4 20 rfl)).trans (ew20)) (show inr (v37) from qv37) (hsl1) (h5) (show 0 ≤ (v37) ∧ (v37) < p2 ((u13_0)) from q_4065 b34 h7 hvk1) (fun z38 σ38 F38ₚ A38ₚ Hₚ Oₚ hS38 hA38 pz38_0 pz38_1 pz38_2 => ⟨rfl, ?_⟩))
        refine v_backc (c := c) (s := s) H oz_H3cls_26 oz_H3cls_28 Hₚ Oₚ (fun F38 A38 H Oₚ eF38 eA38 => ?_)
        have O := OUT_trans O Oₚ
        -- Share.bitsBehind
        have cF38 : SF oz_H3clsl_0 F F38 := SF_trans (cF_4) (SF_gluc (ι := oz_H3clsl_8) oz_H3cls_28 hS38 eF38 (by decide +kernel)) (any_sub (lₚ := []) (by decide +kernel))
        have mF38 := SFm_of cF38 oz_H3cls_2
        have cA38 : SA oz_H3clsl_1 A A38 := SA_trans (cA_4) (SA_gluc (ι := oz_H3clsl_8) oz_H3cls_28 hA38 eA38 (by decide +kernel)) (any_subA (lₚ := []) (by decide +kernel))
        have mA38 := SAm_of cA38 oz_H3cls_3
        have hbt : BSM (fun b => BB ((w4)) ((u3_0)) ((w8)) (((w12)) 0) b) (fun b => BB ((w14)) ((u13_0)) ((w18)) (((w12)) 1) b) (fun b => BB ((w23)) ((u22_0)) ((w27)) (((w12)) 2) b) ((x4_2) + 1) ((x4_1) + (z38)) := by exact BSM_b hbs (by omega) rfl (by show BB ((w14)) ((u13_0)) ((w18)) (((w12)) 1) ((z38)); have hl0 : ((x4_2) : Int) = 1 := (by omega); rw [← hl0, hvs]; exact pz38_1) (fun _ _ p q => BB_uniq p q) rfl
        exact hc28 (z38) _ _ _ _  (l4_0) (l4_2) H O (SF_trans (SF_refl) (SF_gluc (ι := oz_H3clsl_8) oz_H3cls_28 hS38 eF38 (by decide +kernel)) (any_sub (lₚ := []) (by decide +kernel))) (SA_trans (SA_refl) (SA_gluc (ι := oz_H3clsl_8) oz_H3cls_28 hA38 eA38 (by decide +kernel)) (any_subA (lₚ := []) (by decide +kernel)))     (show inr (z38) from pz38_0) (show 0 ≤ (z38) ∧ (z38) ≤ 9 from q_4062 hsf1 pz38_2) (hbt)
      · refine v_lR H (o := 2) rfl rfl rfl rfl rfl (n := n2) (en2) (show 0 ≤ x4_2 ∧ x4_2 < n2 from q_4066 b34 h12 j4_2) (z := ((D 22 : Nat) : Int)) (v := .ref (D 22)) ((congrArg (A_4 2) b34).trans ((mA_4 2 rfl 2).trans (pf22))) (vrf rfl) ?_
        refine Ew_of (pcₚ := 20) (fun _ => x_aload_n rfl l4_0) ?_
        refine v_g H (o := 0) (v := .ref (D 12)) rfl rfl rfl rfl rfl (vrf ((mF_4 0 6 rfl).trans (pf12))) ?_
        refine Ew_of (pcₚ := 24) (fun _ => x_iload_n rfl l4_2) ?_
        refine v_lI H (o := 12) rfl rfl rfl rfl (n := n12) (en12) (show 0 ≤ x4_2 ∧ x4_2 < n12 from q_4067 b34 h12 j4_2) (fun v39 ev39 qv39 => ?_)
        have ev39 : (w12) (x4_2) = v39 := (congrFun ((funext (mA_4 12 rfl)).trans (ew12)) (x4_2)).symm.trans ev39
        have hvs := ev39
        have hvk0 : ((x4_2) : Int) = 0 → ((w12)) 0 = (v39) := fun q => by rw [← q]; exact hvs
        have hvk1 : ((x4_2) : Int) = 1 → ((w12)) 1 = (v39) := fun q => by rw [← q]; exact hvs
        have hvk2 : ((x4_2) : Int) = 2 → ((w12)) 2 = (v39) := fun q => by rw [← q]; exact hvs
        refine v_inv H (o := 22) rfl rfl rfl rfl rfl rfl (by rfl) (C172o (D := puc 141938977630084524944918 D) (N := puc 141938977630084524944918 N) (HW_subc H oz_H3cls_27 oz_H3cls_29) ((mF_4 22 2 rfl).trans (pf23)) ((mF_4 22 3 rfl).trans (pf24)) ((mF_4 22 4 rfl).trans (pf25)) ((mF_4 22 5 rfl).trans (pf26)) ((mF_4 22 7 rfl).trans (pf27)) ((mF_4 22 8 rfl).trans (pf28)) ((mF_4 22 9 rfl).trans (pf29)) ((mF_4 22 6 rfl).trans (pf30)) (n23) (en23) (n24) (en24) (n25) (en25) (n26) (en26) (n27) (en27) (n28) (en28) (n29) (en29) (n30) (en30) (u22_0) (((mF_4 22 0 rfl).trans (eu22_0))) (u22_1) (((mF_4 22 1 rfl).trans (eu22_1))) (w23) ((funext (mA_4 23 rfl)).trans (ew23)) (w24) ((funext (mA_4 24 rfl)).trans (ew24)) (w25) ((funext (mA_4 25 rfl)).trans (ew25)) (w26) ((funext (mA_4 26 rfl)).trans (ew26)) (w27) ((funext (mA_4 27 rfl)).trans (ew27)) (w28) ((funext (mA_4 28 rfl)).trans (ew28)) (w29) ((funext (mA_4 29 rfl)).trans (ew29)) (show inr (v39) from qv39) (hsl2) (h9) (show 0 ≤ (v39) ∧ (v39) < p2 ((u22_0)) from q_4068 b34 h11 hvk2) (fun z40 σ40 F40ₚ A40ₚ Hₚ Oₚ hS40 hA40 pz40_0 pz40_1 pz40_2 => ⟨rfl, ?_⟩))
        refine v_backc (c := c) (s := s) H oz_H3cls_27 oz_H3cls_29 Hₚ Oₚ (fun F40 A40 H Oₚ eF40 eA40 => ?_)
        have O := OUT_trans O Oₚ
        -- Share.bitsBehind
        have cF40 : SF oz_H3clsl_0 F F40 := SF_trans (cF_4) (SF_gluc (ι := oz_H3clsl_9) oz_H3cls_29 hS40 eF40 (by decide +kernel)) (any_sub (lₚ := []) (by decide +kernel))
        have mF40 := SFm_of cF40 oz_H3cls_2
        have cA40 : SA oz_H3clsl_1 A A40 := SA_trans (cA_4) (SA_gluc (ι := oz_H3clsl_9) oz_H3cls_29 hA40 eA40 (by decide +kernel)) (any_subA (lₚ := []) (by decide +kernel))
        have mA40 := SAm_of cA40 oz_H3cls_3
        have hbt : BSM (fun b => BB ((w4)) ((u3_0)) ((w8)) (((w12)) 0) b) (fun b => BB ((w14)) ((u13_0)) ((w18)) (((w12)) 1) b) (fun b => BB ((w23)) ((u22_0)) ((w27)) (((w12)) 2) b) ((x4_2) + 1) ((x4_1) + (z40)) := by exact BSM_c hbs (by omega) rfl (by show BB ((w23)) ((u22_0)) ((w27)) (((w12)) 2) ((z40)); have hl0 : ((x4_2) : Int) = 2 := (by omega); rw [← hl0, hvs]; exact pz40_1) (fun _ _ p q => BB_uniq p q) rfl
        exact hc28 (z40) _ _ _ _  (l4_0) (l4_2) H O (SF_trans (SF_refl) (SF_gluc (ι := oz_H3clsl_9) oz_H3cls_29 hS40 eF40 (by decide +kernel)) (any_sub (lₚ := []) (by decide +kernel))) (SA_trans (SA_refl) (SA_gluc (ι := oz_H3clsl_9) oz_H3cls_29 hA40 eA40 (by decide +kernel)) (any_subA (lₚ := []) (by decide +kernel)))     (show inr (z40) from pz40_0) (show 0 ≤ (z40) ∧ (z40) ≤ 9 from q_4062 hsf2 pz40_2) (hbt)

