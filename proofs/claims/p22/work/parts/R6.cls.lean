abbrev V32_Row_Ir_c20_va0 : vV := [(0, 0, [(4, 0), (4, 0), (4, 0), (4, 0), (4, 0), (4, 0), (4, 0), (4, 0), (4, 0), (4, 0), (4, 0), (4, 0), (4, 0), (4, 0), (4, 0), (4, 0), (4, 0), (0, 0), (0, 0)]), (0, 7, [(4, 0), (0, 0), (1, 0), (0, 0), (0, 0)]), (1, 1, []), (1, 0, []), (0, 7, [(4, 0), (0, 0), (1, 0), (0, 0), (0, 0)]), (1, 0, [])]
theorem len_V32_Row_Ir_c20_va0_oz_R6cls : (V32_Row_Ir_c20_va0).length = 6 := by decide +kernel
theorem oz_R6cls_1 : vsub V32_Row_Ir_c20_va0 V156 [4] = true := by decide +kernel
def oz_R6clsl_0 : List (Nat × Nat) := [(4, 1), (4, 2), (4, 3), (4, 4)]
theorem oz_R6cls_2 : (oz_R6clsl_0).all (fun p => !tbz 10208471007628153903901238222953046343680 (Nat.add (Nat.mul 32 p.1) p.2)) = true := by decide +kernel
def oz_R6clsl_1 : List Nat := []
theorem oz_R6cls_3 : (oz_R6clsl_1).all (fun p => !tbz 0 p) = true := by decide +kernel
def oz_R6clsl_2 : List Nat := [4]
theorem oz_R6cls_4 : okc oz_R6clsl_2 4 = true := by decide +kernel
/-- PackHouse.unpackRow: this, #1, #2, #1.bytes, this.content, this.content.bytes -/
theorem C32_Row_Ir_c20_va0 {σE : rS} {D N : Nat → Nat} {F : hF} {A : hA} {d c s : Nat} {Q : wQ} (H : HW V32_Row_Ir_c20_va0 σE D N F A) {a3 : Int} (pf3 : HID (F 1 0 = (D 3 : Int))) (pf4 : HID (F 0 6 = (D 4 : Int))) (pf5 : HID (F 4 0 = (D 5 : Int))) (n2 : Int) (en2 : HID ((N 2 : Int) = n2)) (n3 : Int) (en3 : HID ((N 3 : Int) = n3)) (n5 : Int) (en5 : HID ((N 5 : Int) = n5)) (u1_1 : Int) (eu1_1 : HID (F 1 1 = u1_1)) (u4_1 : Int) (eu4_1 : HID (F 4 1 = u4_1)) (h0 : inr (0)) (h1 : inr (a3)) (h2 : 0 ≤ (u1_1) ∧ (u1_1) ≤ (n3) ∧ (n3) ≤ 65536) (h3 : 0 ≤ (u4_1) ∧ (u4_1) ≤ (n5) ∧ (n5) ≤ 65536) (hc41 : ∀ (ls : rO) (σ : rS) (F_c41 : hF) (A_c41 : hA) , rlook ls 0 = some (.ref (D 0)) → rlook ls 1 = some (.ref (D 1)) → rlook ls 3 = some (I (a3)) → HW V32_Row_Ir_c20_va0 σ D N F_c41 A_c41 → OUT (V32_Row_Ir_c20_va0).length D N σE c s D N σ c s → SF [(4, 1), (4, 2), (4, 3), (4, 4)] F F_c41 → SA [] A A_c41 → ∀ yc41_4_1 : Int, F_c41 4 1 = yc41_4_1 → (0 ≤ (u1_1) ∧ (u1_1) ≤ (n3) ∧ (n3) ≤ 65536) → (0 ≤ (yc41_4_1) ∧ (yc41_4_1) ≤ (n5) ∧ (n5) ≤ 65536) → ((yc41_4_1) = 0) → Ew 32 (d + 1) 41 ls [.ref (D 0)] σ c s Q) (k : ∀ (z : Int) (σ : rS) (Fₚ : hF) (Aₚ : hA), HW V32_Row_Ir_c20_va0 σ D N Fₚ Aₚ → OUT (V32_Row_Ir_c20_va0).length D N σE c s D N σ c s → SF [(4, 1), (4, 2), (4, 3), (4, 4)] F Fₚ → SA [] A Aₚ → ∀ y4_1 : Int, Fₚ 4 1 = y4_1 → (inr (z)) → (0 ≤ (y4_1) ∧ (y4_1) ≤ (n5) ∧ (n5) ≤ 65536) → Q (some (I z)) σ c s) : Ew 32 (d + 1) 0 (rargs 0 [.ref (D 0), .ref (D 1), I 0, I a3, .ref (D 2)]) [] σE c s Q := by
  have O := OUT_refl (n := (V32_Row_Ir_c20_va0).length) (D := D) (N := N) (σ := σE) (c := c) (s := s)
  have HE := H
  have r4 : HID ((0 : Int) ≤ n5 ∧ n5 ≤ 1000000) := nrng (H.nle 5 (ltn len_V32_Row_Ir_c20_va0_oz_R6cls rfl)) (show (N 5 : Int) = n5 from en5)
  refine Ew_of (pcₚ := 1) (fun _ => x_aload_n rfl rfl) ?_
  refine v_g H (o := 0) (v := .ref (D 4)) rfl rfl rfl rfl rfl (vrf (pf4)) ?_
  refine v_inv H (o := 4) rfl rfl rfl rfl rfl rfl (by rfl) (C156h (D := puc 4 D) (N := puc 4 N) (HW_subc H oz_R6cls_1 oz_R6cls_4) (u4_1) ((eu4_1)) (F 4 2) (rfl) (F 4 4) (rfl)  (fun σ7 F7ₚ A7ₚ Hₚ Oₚ hS7 hA7 y7_0_1 (ey7_0_1 : HID _) y7_0_2 (ey7_0_2 : HID _) y7_0_4 (ey7_0_4 : HID _) pz7_0 => ⟨rfl, ?_⟩))
  refine v_backc (c := c) (s := s) H oz_R6cls_1 oz_R6cls_4 Hₚ Oₚ (fun F7 A7 H Oₚ eF7 eA7 => ?_)
  have O := OUT_trans O Oₚ
  -- Row.clear
  have cF7 : SF oz_R6clsl_0 F F7 := SF_trans (SF_refl) (SF_gluc (ι := oz_R6clsl_2) oz_R6cls_4 hS7 eF7 (by decide +kernel)) (any_sub (lₚ := [(4, 1), (4, 2), (4, 3), (4, 4)]) (by decide +kernel))
  have mF7 := SFm_of cF7 oz_R6cls_2
  have cA7 : SA oz_R6clsl_1 A A7 := SA_trans (SA_refl) (SA_gluc (ι := oz_R6clsl_2) oz_R6cls_4 hA7 eA7 (by decide +kernel)) (any_subA (lₚ := []) (by decide +kernel))
  have mA7 := SAm_of cA7 oz_R6cls_3
  refine Ew_of (pcₚ := 8) (fun _ => x_iconst rfl) ?_
  refine Ew_of (pcₚ := 10) (fun _ => x_istore rfl) ?_
  refine Ew_of (pcₚ := 11) (fun _ => x_iload_n rfl (rk_o (rfl) rfl rfl)) ?_
  refine w_tsk 0 40 rfl (show inr (0) from h0) (by omega) (by decide) rfl rfl ?_
  refine Ew_of (pcₚ := 41) (fun _ => x_aload_n rfl (rk_o (rfl) rfl rfl)) ?_
  exact hc41  _ _ _ _  (rk_o (rfl) rfl rfl) (rk_o (rfl) rfl rfl) (rk_o (rfl) rfl rfl) H O (SF_trans (SF_refl) (SF_gluc (ι := oz_R6clsl_2) oz_R6cls_4 hS7 eF7 (by decide +kernel)) (any_sub (lₚ := [(4, 1), (4, 2), (4, 3), (4, 4)]) (by decide +kernel))) (SA_trans (SA_refl) (SA_gluc (ι := oz_R6clsl_2) oz_R6cls_4 hA7 eA7 (by decide +kernel)) (any_subA (lₚ := []) (by decide +kernel)))   (y7_0_1) (((eF7 4 1).trans ey7_0_1))  (show 0 ≤ (u1_1) ∧ (u1_1) ≤ (n3) ∧ (n3) ≤ 65536 from h2) (show 0 ≤ (y7_0_1) ∧ (y7_0_1) ≤ (n5) ∧ (n5) ≤ 65536 from q_3960 (HIDe r4) h3 pz7_0) (show (y7_0_1) = 0 from q_3478 pz7_0)
abbrev V32_Row_Ir_vb0 : vV := [(0, 0, [(4, 0), (4, 0), (4, 0), (4, 0), (4, 0), (4, 0), (4, 0), (4, 0), (4, 0), (4, 0), (4, 0), (4, 0), (4, 0), (4, 0), (4, 0), (4, 0), (4, 0), (0, 0), (0, 0)]), (0, 7, [(4, 0), (0, 0), (1, 0), (0, 0), (0, 0)]), (1, 1, []), (1, 0, []), (0, 7, [(4, 0), (0, 0), (1, 0), (0, 0), (0, 0)]), (1, 0, []), (0, 11, [(4, 0), (4, 0), (4, 0), (4, 0), (4, 0), (0, 0), (4, 0), (0, 0), (0, 0), (0, 0), (0, 0), (0, 0), (0, 0)]), (0, 7, [(4, 0), (0, 0), (1, 0), (0, 0), (0, 0)]), (1, 0, [])]
theorem len_V32_Row_Ir_vb0_oz_R6cls : (V32_Row_Ir_vb0).length = 9 := by decide +kernel
theorem oz_R6cls_6 : vsub V32_Row_Ir_vb0 V223_Row_Row [6, 1, 4, 3, 5, 7, 8] = true := by decide +kernel
theorem oz_R6cls_7 : vmov V32_Row_Ir_vb0 [6, 1, 4, 3, 5, 7, 8] [4] = true := by decide +kernel
def oz_R6clsl_3 : List (Nat × Nat) := [(0, 17), (4, 0), (4, 1), (4, 2), (6, 4), (6, 5), (6, 6), (6, 7), (6, 11), (6, 12)]
theorem oz_R6cls_8 : (oz_R6clsl_3).all (fun p => !tbz 40073017478708569996330061654326188969641680779710418707939328 (Nat.add (Nat.mul 32 p.1) p.2)) = true := by decide +kernel
def oz_R6clsl_4 : List Nat := [5]
theorem oz_R6cls_9 : (oz_R6clsl_4).all (fun p => !tbz 32 p) = true := by decide +kernel
def oz_R6clsl_5 : List Nat := [6, 1, 4, 3, 5, 7, 8]
theorem oz_R6cls_10 : okc oz_R6clsl_5 144361822681563654 = true := by decide +kernel
/-- PackHouse.unpackRow: this, #1, #2, #1.bytes, this.content, this.content.bytes, this.tokens, this.tokens.past, this.tokens.past.bytes -/
theorem C32_Row_Ir_vb0 {σE : rS} {D N : Nat → Nat} {F : hF} {A : hA} {d c s : Nat} {Q : wQ} (H : HW V32_Row_Ir_vb0 σE D N F A) {x3 : Int} (pf3 : HID (F 1 0 = (D 3 : Int))) (pf4 : HID (F 0 6 = (D 4 : Int))) (pf5 : HID (F 4 0 = (D 5 : Int))) (pf6 : HID (F 0 8 = (D 6 : Int))) (pf7 : HID (F 6 1 = (D 7 : Int))) (pf8 : HID (F 7 0 = (D 8 : Int))) (n2 : Int) (en2 : HID ((N 2 : Int) = n2)) (n3 : Int) (en3 : HID ((N 3 : Int) = n3)) (n5 : Int) (en5 : HID ((N 5 : Int) = n5)) (n8 : Int) (en8 : HID ((N 8 : Int) = n8)) (u1_1 : Int) (eu1_1 : HID (F 1 1 = u1_1)) (u4_1 : Int) (eu4_1 : HID (F 4 1 = u4_1)) (u7_1 : Int) (eu7_1 : HID (F 7 1 = u7_1)) {ls : rO} (hl0 : rlook ls 0 = some (.ref (D 0))) (hl1 : rlook ls 1 = some (.ref (D 1))) (hl3 : rlook ls 3 = some (I (x3))) (h0 : inr (x3)) (h1 : 0 ≤ (u1_1) ∧ (u1_1) ≤ (n3) ∧ (n3) ≤ 65536) (h2 : 0 ≤ (u4_1) ∧ (u4_1) ≤ (n5) ∧ (n5) ≤ 65536) (h3 : (u4_1) = 0) (h4 : 0 ≤ (x3) ∧ (x3) ≤ 65536) (h5 : 0 ≤ (u7_1) ∧ (u7_1) ≤ (n8) ∧ (n8) ≤ 65536) (k : ∀ (z : Int) (σ : rS) (Dₚ Nₚ : Nat → Nat) (Fₚ : hF) (Aₚ : hA) (cₚ sₚ : Nat), HW V32_Row_Ir_vb0 σ Dₚ Nₚ Fₚ Aₚ → OUT (V32_Row_Ir_vb0).length D N σE c s Dₚ Nₚ σ cₚ sₚ → SD [5] D Dₚ → SD [5] N Nₚ → SF [(0, 17), (4, 0), (4, 1), (4, 2), (6, 4), (6, 5), (6, 6), (6, 7), (6, 11), (6, 12)] F Fₚ → SA [5] A Aₚ → Fₚ 4 0 = (Dₚ 5 : Int) → ∀ m5 : Int, (Nₚ 5 : Int) = m5 → ∀ y4_1 : Int, Fₚ 4 1 = y4_1 → (inr (z)) → (0 ≤ (y4_1) ∧ (y4_1) ≤ (m5) ∧ (m5) ≤ 65536) → Q (some (I z)) σ cₚ sₚ) : Ew 32 (d + 5) 44 ls [.ref (D 6)] σE c s Q := by
  have O := OUT_refl (n := (V32_Row_Ir_vb0).length) (D := D) (N := N) (σ := σE) (c := c) (s := s)
  have HE := H
  refine Ew_of (pcₚ := 45) (fun _ => x_aload_n rfl hl1) ?_
  refine Ew_of (pcₚ := 46) (fun _ => x_aload_n rfl hl0) ?_
  refine v_g H (o := 0) (v := .ref (D 4)) rfl rfl rfl rfl rfl (vrf (pf4)) ?_
  refine Ew_of (pcₚ := 50) (fun _ => x_iload_n rfl hl3) ?_
  refine v_inv H (o := 6) rfl rfl rfl rfl rfl rfl (by rfl) (C223_Row_Row (D := puc 144361822681563654 D) (N := puc 144361822681563654 N) (HW_subc H oz_R6cls_6 oz_R6cls_10) (pf3) (pf5) (pf7) (pf8) (n3) (en3) (n5) (en5) (n8) (en8) (u1_1) ((eu1_1)) (u4_1) ((eu4_1)) (u7_1) ((eu7_1)) (show inr (x3) from h0) (show 0 ≤ (u1_1) ∧ (u1_1) ≤ (n3) ∧ (n3) ≤ 65536 from h1) (show 0 ≤ (u4_1) ∧ (u4_1) ≤ (n5) ∧ (n5) ≤ 65536 from h2) (show 0 ≤ (u7_1) ∧ (u7_1) ≤ (n8) ∧ (n8) ≤ 65536 from h5) (show 0 ≤ (x3) ∧ (x3) ≤ 65536 from h4) (fun z7 σ7 D7ₚ N7ₚ F7ₚ A7ₚ c7 s7 Hₚ Oₚ hD7 hN7 hS7 hA7 (pm7_4 : HID _) m7_4 (em7_4 : HID _) y7_2_1 (ey7_2_1 : HID _) pz7_0 pz7_1 pz7_2 => ⟨rfl, ?_⟩))
  refine v_backMc (c := c) (s := s) H oz_R6cls_6 oz_R6cls_10 Hₚ Oₚ hD7 oz_R6cls_7 (fun D7 N7 F7 A7 H Oₚ eD7 eN7 eF7 eA7 => ?_)
  have O := OUT_trans O Oₚ
  -- Tokens.unpackAlone
  have cF7 : SF oz_R6clsl_3 F F7 := SF_trans (SF_refl) (SF_gluc (ι := oz_R6clsl_5) oz_R6cls_10 hS7 eF7 (by decide +kernel)) (any_sub (lₚ := [(4, 0), (4, 1), (4, 2), (6, 4), (6, 5), (6, 6), (6, 7), (6, 11), (6, 12)]) (by decide +kernel))
  have mF7 := SFm_of cF7 oz_R6cls_8
  have cA7 : SA oz_R6clsl_4 A A7 := SA_trans (SA_refl) (SA_gluc (ι := oz_R6clsl_5) oz_R6cls_10 hA7 eA7 (by decide +kernel)) (any_subA (lₚ := [5]) (by decide +kernel))
  have mA7 := SAm_of cA7 oz_R6cls_9
  have cD7 : SD oz_R6clsl_4 D D7 := SD_trans (SD_refl) (SD_gluc (ι := oz_R6clsl_5) oz_R6cls_10 hD7 eD7 (by decide +kernel)) (any_subA (lₚ := [5]) (by decide +kernel))
  have mD7 := SDm_of cD7 oz_R6cls_9
  have cN7 : SD oz_R6clsl_4 N N7 := SD_trans (SD_refl) (SD_gluc (ι := oz_R6clsl_5) oz_R6cls_10 hN7 eN7 (by decide +kernel)) (any_subA (lₚ := [5]) (by decide +kernel))
  have mN7 := SDm_of cN7 oz_R6cls_9
  have pf7_4_0 : HID (F7 4 0 = (D7 5 : Int)) := (eF7 4 0).trans (pm7_4.trans (congrArg (fun q : Nat => (q : Int)) (eD7 5).symm))
  refine Ew_of (pcₚ := 55) (fun _ => x_istore rfl) ?_
  refine Ew_of (pcₚ := 56) (fun _ => x_aload_n rfl (rk_o (hl0) rfl rfl)) ?_
  refine Ew_of (pcₚ := 57) (fun _ => x_aload_n rfl (rk_o (hl0) rfl rfl)) ?_
  refine Ew_stk (show ([.ref (D 0), .ref (D 0)] : List Value) = [.ref (D7 0), .ref (D7 0)] by rw [show D7 0 = D 0 from mD7 0 rfl]) ?_
  refine v_g H (o := 0) (v := .ref (D7 6)) rfl rfl rfl rfl rfl (vrf ((mF7 0 8 rfl).trans ((pf6).trans (congrArg (fun q : Nat => (q : Int)) (mD7 6 rfl).symm)))) ?_
  have r10 : HID ((-2147483648 : Int) ≤ F7 6 12 ∧ F7 6 12 ≤ 2147483647) := krg_e (show (-2147483648 : Int) ≤ F7 6 12 ∧ F7 6 12 ≤ 2147483647 from H.krg 6 12 (ltn len_V32_Row_Ir_vb0_oz_R6cls rfl)) (show F7 6 12 = F7 6 12 from rfl)
  refine v_g H (o := 6) (v := I (F7 6 12)) rfl rfl rfl rfl rfl (congrArg (fun z : Int => I z) (rfl : F7 6 12 = F7 6 12)) ?_
  refine v_p H (o := 0) (z := F7 6 12) (v := I (F7 6 12)) rfl rfl rfl rfl rfl rfl rfl rfl (show (-2147483648 : Int) ≤ F7 6 12 ∧ F7 6 12 ≤ 2147483647 from (HIDe r10)) (fun σ H Oₚ => ?_)
  have O := OUT_trans O Oₚ
  have cFu11 : SF oz_R6clsl_3 F (updF F7 0 17 (F7 6 12)) := SF_upd (cF7) rfl
  have mFu11 := SFm_of cFu11 oz_R6cls_8
  refine Ew_of (pcₚ := 188) (fun _ => x_goto rfl rfl) ?_
  refine Ew_of (pcₚ := 190) (fun _ => x_iload rfl rk_s) ?_
  refine w_ifne (t := 203) rfl rfl (show inr (z7) from pz7_0) (fun b12 => ?_) (fun b12 => ?_)
  · refine Ew_of (pcₚ := 205) (fun _ => x_iload rfl rk_s) ?_
    refine w_ineg rfl ?_
    exact w_ireturn rfl (k ((-z7)) _ _ _ _ _ _ _ H O (cD7) (cN7) (cFu11) (cA7) (pf7_4_0) (m7_4) ((congrArg (fun q : Nat => (q : Int)) (eN7 5)).trans em7_4) (y7_2_1) (((eF7 4 1).trans ey7_2_1)) (show inr ((-z7)) from q_4266 pz7_1) (show 0 ≤ (y7_2_1) ∧ (y7_2_1) ≤ (m7_4) ∧ (m7_4) ≤ 65536 from pz7_2))
  · refine Ew_of (pcₚ := 194) (fun _ => x_aload_n rfl (rk_o (hl0) rfl rfl)) ?_
    refine Ew_stk (congrArg (fun qz : Nat => ([.ref qz] : List Value)) (show D7 0 = D 0 from mD7 0 rfl).symm) ?_
    refine v_g H (o := 0) (v := .ref (D7 4)) rfl rfl rfl rfl rfl (vrf ((mFu11 0 6 rfl).trans ((pf4).trans (congrArg (fun q : Nat => (q : Int)) (mD7 4 rfl).symm)))) ?_
    refine v_g H (o := 4) (v := I (y7_2_1)) rfl rfl rfl rfl rfl (congrArg (fun z : Int => I z) (((eF7 4 1).trans ey7_2_1) : (updF F7 0 17 (F7 6 12)) 4 1 = y7_2_1)) ?_
    refine Ew_of (pcₚ := 206) (fun _ => x_goto rfl rfl) ?_
    exact w_ireturn rfl (k (y7_2_1) _ _ _ _ _ _ _ H O (cD7) (cN7) (cFu11) (cA7) (pf7_4_0) (m7_4) ((congrArg (fun q : Nat => (q : Int)) (eN7 5)).trans em7_4) (y7_2_1) (((eF7 4 1).trans ey7_2_1)) (show inr (y7_2_1) from q_884 pz7_2) (show 0 ≤ (y7_2_1) ∧ (y7_2_1) ≤ (m7_4) ∧ (m7_4) ≤ 65536 from pz7_2))
abbrev V32_Row_Ir_c21_va1 : vV := [(0, 0, [(4, 0), (4, 0), (4, 0), (4, 0), (4, 0), (4, 0), (4, 0), (4, 0), (4, 0), (4, 0), (4, 0), (4, 0), (4, 0), (4, 0), (4, 0), (4, 0), (4, 0), (0, 0), (0, 0)]), (0, 7, [(4, 0), (0, 0), (1, 0), (0, 0), (0, 0)]), (1, 1, []), (1, 0, []), (0, 7, [(4, 0), (0, 0), (1, 0), (0, 0), (0, 0)]), (1, 0, [])]
theorem len_V32_Row_Ir_c21_va1_oz_R6cls : (V32_Row_Ir_c21_va1).length = 6 := by decide +kernel
theorem oz_R6cls_12 : vsub V32_Row_Ir_c21_va1 V156 [4] = true := by decide +kernel
/-- PackHouse.unpackRow: this, #1, #2, #1.bytes, this.content, this.content.bytes -/
theorem C32_Row_Ir_c21_va1 {σE : rS} {D N : Nat → Nat} {F : hF} {A : hA} {d c s : Nat} {Q : wQ} (H : HW V32_Row_Ir_c21_va1 σE D N F A) {a3 : Int} (pf3 : HID (F 1 0 = (D 3 : Int))) (pf4 : HID (F 0 6 = (D 4 : Int))) (pf5 : HID (F 4 0 = (D 5 : Int))) (n2 : Int) (en2 : HID ((N 2 : Int) = n2)) (n3 : Int) (en3 : HID ((N 3 : Int) = n3)) (n5 : Int) (en5 : HID ((N 5 : Int) = n5)) (u1_1 : Int) (eu1_1 : HID (F 1 1 = u1_1)) (u4_1 : Int) (eu4_1 : HID (F 4 1 = u4_1)) (h0 : inr (1)) (h1 : inr (a3)) (h2 : 0 ≤ (u1_1) ∧ (u1_1) ≤ (n3) ∧ (n3) ≤ 65536) (h3 : 0 ≤ (u4_1) ∧ (u4_1) ≤ (n5) ∧ (n5) ≤ 65536) (hc70 : ∀ (ls : rO) (σ : rS) (F_c70 : hF) (A_c70 : hA) , rlook ls 0 = some (.ref (D 0)) → rlook ls 1 = some (.ref (D 1)) → rlook ls 3 = some (I (a3)) → HW V32_Row_Ir_c21_va1 σ D N F_c70 A_c70 → OUT (V32_Row_Ir_c21_va1).length D N σE c s D N σ c s → SF [(4, 1), (4, 2), (4, 3), (4, 4)] F F_c70 → SA [] A A_c70 → ∀ yc70_4_1 : Int, F_c70 4 1 = yc70_4_1 → (0 ≤ (u1_1) ∧ (u1_1) ≤ (n3) ∧ (n3) ≤ 65536) → (0 ≤ (yc70_4_1) ∧ (yc70_4_1) ≤ (n5) ∧ (n5) ≤ 65536) → ((yc70_4_1) = 0) → Ew 32 (d + 1) 70 ls [.ref (D 0)] σ c s Q) (k : ∀ (z : Int) (σ : rS) (Fₚ : hF) (Aₚ : hA), HW V32_Row_Ir_c21_va1 σ D N Fₚ Aₚ → OUT (V32_Row_Ir_c21_va1).length D N σE c s D N σ c s → SF [(4, 1), (4, 2), (4, 3), (4, 4)] F Fₚ → SA [] A Aₚ → ∀ y4_1 : Int, Fₚ 4 1 = y4_1 → (inr (z)) → (0 ≤ (y4_1) ∧ (y4_1) ≤ (n5) ∧ (n5) ≤ 65536) → Q (some (I z)) σ c s) : Ew 32 (d + 1) 0 (rargs 0 [.ref (D 0), .ref (D 1), I 1, I a3, .ref (D 2)]) [] σE c s Q := by
  have O := OUT_refl (n := (V32_Row_Ir_c21_va1).length) (D := D) (N := N) (σ := σE) (c := c) (s := s)
  have HE := H
  have r4 : HID ((0 : Int) ≤ n5 ∧ n5 ≤ 1000000) := nrng (H.nle 5 (ltn len_V32_Row_Ir_c21_va1_oz_R6cls rfl)) (show (N 5 : Int) = n5 from en5)
  refine Ew_of (pcₚ := 1) (fun _ => x_aload_n rfl rfl) ?_
  refine v_g H (o := 0) (v := .ref (D 4)) rfl rfl rfl rfl rfl (vrf (pf4)) ?_
  refine v_inv H (o := 4) rfl rfl rfl rfl rfl rfl (by rfl) (C156h (D := puc 4 D) (N := puc 4 N) (HW_subc H oz_R6cls_12 oz_R6cls_4) (u4_1) ((eu4_1)) (F 4 2) (rfl) (F 4 4) (rfl)  (fun σ7 F7ₚ A7ₚ Hₚ Oₚ hS7 hA7 y7_0_1 (ey7_0_1 : HID _) y7_0_2 (ey7_0_2 : HID _) y7_0_4 (ey7_0_4 : HID _) pz7_0 => ⟨rfl, ?_⟩))
  refine v_backc (c := c) (s := s) H oz_R6cls_12 oz_R6cls_4 Hₚ Oₚ (fun F7 A7 H Oₚ eF7 eA7 => ?_)
  have O := OUT_trans O Oₚ
  -- Row.clear
  have cF7 : SF oz_R6clsl_0 F F7 := SF_trans (SF_refl) (SF_gluc (ι := oz_R6clsl_2) oz_R6cls_4 hS7 eF7 (by decide +kernel)) (any_sub (lₚ := [(4, 1), (4, 2), (4, 3), (4, 4)]) (by decide +kernel))
  have mF7 := SFm_of cF7 oz_R6cls_2
  have cA7 : SA oz_R6clsl_1 A A7 := SA_trans (SA_refl) (SA_gluc (ι := oz_R6clsl_2) oz_R6cls_4 hA7 eA7 (by decide +kernel)) (any_subA (lₚ := []) (by decide +kernel))
  have mA7 := SAm_of cA7 oz_R6cls_3
  refine Ew_of (pcₚ := 8) (fun _ => x_iconst rfl) ?_
  refine Ew_of (pcₚ := 10) (fun _ => x_istore rfl) ?_
  refine Ew_of (pcₚ := 11) (fun _ => x_iload_n rfl (rk_o (rfl) rfl rfl)) ?_
  refine w_tsk 1 69 rfl (show inr (1) from h0) (by omega) (by decide) rfl rfl ?_
  refine Ew_of (pcₚ := 70) (fun _ => x_aload_n rfl (rk_o (rfl) rfl rfl)) ?_
  exact hc70  _ _ _ _  (rk_o (rfl) rfl rfl) (rk_o (rfl) rfl rfl) (rk_o (rfl) rfl rfl) H O (SF_trans (SF_refl) (SF_gluc (ι := oz_R6clsl_2) oz_R6cls_4 hS7 eF7 (by decide +kernel)) (any_sub (lₚ := [(4, 1), (4, 2), (4, 3), (4, 4)]) (by decide +kernel))) (SA_trans (SA_refl) (SA_gluc (ι := oz_R6clsl_2) oz_R6cls_4 hA7 eA7 (by decide +kernel)) (any_subA (lₚ := []) (by decide +kernel)))   (y7_0_1) (((eF7 4 1).trans ey7_0_1))  (show 0 ≤ (u1_1) ∧ (u1_1) ≤ (n3) ∧ (n3) ≤ 65536 from h2) (show 0 ≤ (y7_0_1) ∧ (y7_0_1) ≤ (n5) ∧ (n5) ≤ 65536 from q_3960 (HIDe r4) h3 pz7_0) (show (y7_0_1) = 0 from q_3478 pz7_0)
abbrev V32_Row_Ir_vb1 : vV := [(0, 0, [(4, 0), (4, 0), (4, 0), (4, 0), (4, 0), (4, 0), (4, 0), (4, 0), (4, 0), (4, 0), (4, 0), (4, 0), (4, 0), (4, 0), (4, 0), (4, 0), (4, 0), (0, 0), (0, 0)]), (0, 7, [(4, 0), (0, 0), (1, 0), (0, 0), (0, 0)]), (1, 1, []), (1, 0, []), (0, 7, [(4, 0), (0, 0), (1, 0), (0, 0), (0, 0)]), (1, 0, []), (0, 11, [(4, 0), (4, 0), (4, 0), (4, 0), (4, 0), (0, 0), (4, 0), (0, 0), (0, 0), (0, 0), (0, 0), (0, 0), (0, 0)]), (0, 7, [(4, 0), (0, 0), (1, 0), (0, 0), (0, 0)]), (1, 0, [])]
theorem len_V32_Row_Ir_vb1_oz_R6cls : (V32_Row_Ir_vb1).length = 9 := by decide +kernel
theorem oz_R6cls_14 : vsub V32_Row_Ir_vb1 V226_Row_Row [6, 1, 4, 3, 5, 7, 8] = true := by decide +kernel
theorem oz_R6cls_15 : vmov V32_Row_Ir_vb1 [6, 1, 4, 3, 5, 7, 8] [4] = true := by decide +kernel
def oz_R6clsl_6 : List (Nat × Nat) := [(0, 17), (4, 0), (4, 1), (4, 2), (6, 4), (6, 5), (6, 6), (6, 7), (6, 8), (6, 9), (6, 10), (6, 11), (6, 12)]
theorem oz_R6cls_16 : (oz_R6clsl_6).all (fun p => !tbz 51321583788521501925123796300714327187297101736189968555048960 (Nat.add (Nat.mul 32 p.1) p.2)) = true := by decide +kernel
/-- PackHouse.unpackRow: this, #1, #2, #1.bytes, this.content, this.content.bytes, this.tokens, this.tokens.past, this.tokens.past.bytes -/
theorem C32_Row_Ir_vb1 {σE : rS} {D N : Nat → Nat} {F : hF} {A : hA} {d c s : Nat} {Q : wQ} (H : HW V32_Row_Ir_vb1 σE D N F A) {x3 : Int} (pf3 : HID (F 1 0 = (D 3 : Int))) (pf4 : HID (F 0 6 = (D 4 : Int))) (pf5 : HID (F 4 0 = (D 5 : Int))) (pf6 : HID (F 0 8 = (D 6 : Int))) (pf7 : HID (F 6 1 = (D 7 : Int))) (pf8 : HID (F 7 0 = (D 8 : Int))) (n2 : Int) (en2 : HID ((N 2 : Int) = n2)) (n3 : Int) (en3 : HID ((N 3 : Int) = n3)) (n5 : Int) (en5 : HID ((N 5 : Int) = n5)) (n8 : Int) (en8 : HID ((N 8 : Int) = n8)) (u1_1 : Int) (eu1_1 : HID (F 1 1 = u1_1)) (u4_1 : Int) (eu4_1 : HID (F 4 1 = u4_1)) (u7_1 : Int) (eu7_1 : HID (F 7 1 = u7_1)) {ls : rO} (hl0 : rlook ls 0 = some (.ref (D 0))) (hl1 : rlook ls 1 = some (.ref (D 1))) (hl3 : rlook ls 3 = some (I (x3))) (h0 : inr (x3)) (h1 : 0 ≤ (u1_1) ∧ (u1_1) ≤ (n3) ∧ (n3) ≤ 65536) (h2 : 0 ≤ (u4_1) ∧ (u4_1) ≤ (n5) ∧ (n5) ≤ 65536) (h3 : (u4_1) = 0) (h4 : 0 ≤ (x3) ∧ (x3) ≤ 65536) (h5 : 0 ≤ (u7_1) ∧ (u7_1) ≤ (n8) ∧ (n8) ≤ 65536) (k : ∀ (z : Int) (σ : rS) (Dₚ Nₚ : Nat → Nat) (Fₚ : hF) (Aₚ : hA) (cₚ sₚ : Nat), HW V32_Row_Ir_vb1 σ Dₚ Nₚ Fₚ Aₚ → OUT (V32_Row_Ir_vb1).length D N σE c s Dₚ Nₚ σ cₚ sₚ → SD [5] D Dₚ → SD [5] N Nₚ → SF [(0, 17), (4, 0), (4, 1), (4, 2), (6, 4), (6, 5), (6, 6), (6, 7), (6, 8), (6, 9), (6, 10), (6, 11), (6, 12)] F Fₚ → SA [5] A Aₚ → Fₚ 4 0 = (Dₚ 5 : Int) → ∀ m5 : Int, (Nₚ 5 : Int) = m5 → ∀ y4_1 : Int, Fₚ 4 1 = y4_1 → (inr (z)) → (0 ≤ (y4_1) ∧ (y4_1) ≤ (m5) ∧ (m5) ≤ 65536) → Q (some (I z)) σ cₚ sₚ) : Ew 32 (d + 6) 73 ls [.ref (D 6)] σE c s Q := by
  have O := OUT_refl (n := (V32_Row_Ir_vb1).length) (D := D) (N := N) (σ := σE) (c := c) (s := s)
  have HE := H
  refine Ew_of (pcₚ := 74) (fun _ => x_aload_n rfl hl1) ?_
  refine Ew_of (pcₚ := 75) (fun _ => x_aload_n rfl hl0) ?_
  refine v_g H (o := 0) (v := .ref (D 4)) rfl rfl rfl rfl rfl (vrf (pf4)) ?_
  refine Ew_of (pcₚ := 79) (fun _ => x_iload_n rfl hl3) ?_
  refine v_inv H (o := 6) rfl rfl rfl rfl rfl rfl (by rfl) (C226_Row_Row (D := puc 144361822681563654 D) (N := puc 144361822681563654 N) (HW_subc H oz_R6cls_14 oz_R6cls_10) (pf3) (pf5) (pf7) (pf8) (n3) (en3) (n5) (en5) (n8) (en8) (u1_1) ((eu1_1)) (u4_1) ((eu4_1)) (u7_1) ((eu7_1)) (show inr (x3) from h0) (show 0 ≤ (u1_1) ∧ (u1_1) ≤ (n3) ∧ (n3) ≤ 65536 from h1) (show 0 ≤ (u4_1) ∧ (u4_1) ≤ (n5) ∧ (n5) ≤ 65536 from h2) (show 0 ≤ (u7_1) ∧ (u7_1) ≤ (n8) ∧ (n8) ≤ 65536 from h5) (show 0 ≤ (x3) ∧ (x3) ≤ 65536 from h4) (show (u4_1) ≤ (x3) from q_4267 h3 h4) (fun z7 σ7 D7ₚ N7ₚ F7ₚ A7ₚ c7 s7 Hₚ Oₚ hD7 hN7 hS7 hA7 (pm7_4 : HID _) m7_4 (em7_4 : HID _) y7_2_1 (ey7_2_1 : HID _) pz7_0 pz7_1 pz7_2 => ⟨rfl, ?_⟩))
  refine v_backMc (c := c) (s := s) H oz_R6cls_14 oz_R6cls_10 Hₚ Oₚ hD7 oz_R6cls_15 (fun D7 N7 F7 A7 H Oₚ eD7 eN7 eF7 eA7 => ?_)
  have O := OUT_trans O Oₚ
  -- Tokens.unpackFrames
  have cF7 : SF oz_R6clsl_6 F F7 := SF_trans (SF_refl) (SF_gluc (ι := oz_R6clsl_5) oz_R6cls_10 hS7 eF7 (by decide +kernel)) (any_sub (lₚ := [(4, 0), (4, 1), (4, 2), (6, 4), (6, 5), (6, 6), (6, 7), (6, 8), (6, 9), (6, 10), (6, 11), (6, 12)]) (by decide +kernel))
  have mF7 := SFm_of cF7 oz_R6cls_16
  have cA7 : SA oz_R6clsl_4 A A7 := SA_trans (SA_refl) (SA_gluc (ι := oz_R6clsl_5) oz_R6cls_10 hA7 eA7 (by decide +kernel)) (any_subA (lₚ := [5]) (by decide +kernel))
  have mA7 := SAm_of cA7 oz_R6cls_9
  have cD7 : SD oz_R6clsl_4 D D7 := SD_trans (SD_refl) (SD_gluc (ι := oz_R6clsl_5) oz_R6cls_10 hD7 eD7 (by decide +kernel)) (any_subA (lₚ := [5]) (by decide +kernel))
  have mD7 := SDm_of cD7 oz_R6cls_9
  have cN7 : SD oz_R6clsl_4 N N7 := SD_trans (SD_refl) (SD_gluc (ι := oz_R6clsl_5) oz_R6cls_10 hN7 eN7 (by decide +kernel)) (any_subA (lₚ := [5]) (by decide +kernel))
  have mN7 := SDm_of cN7 oz_R6cls_9
  have pf7_4_0 : HID (F7 4 0 = (D7 5 : Int)) := (eF7 4 0).trans (pm7_4.trans (congrArg (fun q : Nat => (q : Int)) (eD7 5).symm))
  refine Ew_of (pcₚ := 84) (fun _ => x_istore rfl) ?_
  refine Ew_of (pcₚ := 85) (fun _ => x_aload_n rfl (rk_o (hl0) rfl rfl)) ?_
  refine Ew_of (pcₚ := 86) (fun _ => x_aload_n rfl (rk_o (hl0) rfl rfl)) ?_
  refine Ew_stk (show ([.ref (D 0), .ref (D 0)] : List Value) = [.ref (D7 0), .ref (D7 0)] by rw [show D7 0 = D 0 from mD7 0 rfl]) ?_
  refine v_g H (o := 0) (v := .ref (D7 6)) rfl rfl rfl rfl rfl (vrf ((mF7 0 8 rfl).trans ((pf6).trans (congrArg (fun q : Nat => (q : Int)) (mD7 6 rfl).symm)))) ?_
  have r10 : HID ((-2147483648 : Int) ≤ F7 6 12 ∧ F7 6 12 ≤ 2147483647) := krg_e (show (-2147483648 : Int) ≤ F7 6 12 ∧ F7 6 12 ≤ 2147483647 from H.krg 6 12 (ltn len_V32_Row_Ir_vb1_oz_R6cls rfl)) (show F7 6 12 = F7 6 12 from rfl)
  refine v_g H (o := 6) (v := I (F7 6 12)) rfl rfl rfl rfl rfl (congrArg (fun z : Int => I z) (rfl : F7 6 12 = F7 6 12)) ?_
  refine v_p H (o := 0) (z := F7 6 12) (v := I (F7 6 12)) rfl rfl rfl rfl rfl rfl rfl rfl (show (-2147483648 : Int) ≤ F7 6 12 ∧ F7 6 12 ≤ 2147483647 from (HIDe r10)) (fun σ H Oₚ => ?_)
  have O := OUT_trans O Oₚ
  have cFu11 : SF oz_R6clsl_6 F (updF F7 0 17 (F7 6 12)) := SF_upd (cF7) rfl
  have mFu11 := SFm_of cFu11 oz_R6cls_16
  refine Ew_of (pcₚ := 188) (fun _ => x_goto rfl rfl) ?_
  refine Ew_of (pcₚ := 190) (fun _ => x_iload rfl rk_s) ?_
  refine w_ifne (t := 203) rfl rfl (show inr (z7) from pz7_0) (fun b12 => ?_) (fun b12 => ?_)
  · refine Ew_of (pcₚ := 205) (fun _ => x_iload rfl rk_s) ?_
    refine w_ineg rfl ?_
    exact w_ireturn rfl (k ((-z7)) _ _ _ _ _ _ _ H O (cD7) (cN7) (cFu11) (cA7) (pf7_4_0) (m7_4) ((congrArg (fun q : Nat => (q : Int)) (eN7 5)).trans em7_4) (y7_2_1) (((eF7 4 1).trans ey7_2_1)) (show inr ((-z7)) from q_4268 pz7_1) (show 0 ≤ (y7_2_1) ∧ (y7_2_1) ≤ (m7_4) ∧ (m7_4) ≤ 65536 from pz7_2))
  · refine Ew_of (pcₚ := 194) (fun _ => x_aload_n rfl (rk_o (hl0) rfl rfl)) ?_
    refine Ew_stk (congrArg (fun qz : Nat => ([.ref qz] : List Value)) (show D7 0 = D 0 from mD7 0 rfl).symm) ?_
    refine v_g H (o := 0) (v := .ref (D7 4)) rfl rfl rfl rfl rfl (vrf ((mFu11 0 6 rfl).trans ((pf4).trans (congrArg (fun q : Nat => (q : Int)) (mD7 4 rfl).symm)))) ?_
    refine v_g H (o := 4) (v := I (y7_2_1)) rfl rfl rfl rfl rfl (congrArg (fun z : Int => I z) (((eF7 4 1).trans ey7_2_1) : (updF F7 0 17 (F7 6 12)) 4 1 = y7_2_1)) ?_
    refine Ew_of (pcₚ := 206) (fun _ => x_goto rfl rfl) ?_
    exact w_ireturn rfl (k (y7_2_1) _ _ _ _ _ _ _ H O (cD7) (cN7) (cFu11) (cA7) (pf7_4_0) (m7_4) ((congrArg (fun q : Nat => (q : Int)) (eN7 5)).trans em7_4) (y7_2_1) (((eF7 4 1).trans ey7_2_1)) (show inr (y7_2_1) from q_884 pz7_2) (show 0 ≤ (y7_2_1) ∧ (y7_2_1) ≤ (m7_4) ∧ (m7_4) ≤ 65536 from pz7_2))
abbrev V32_Row_Ir_c22_va2 : vV := [(0, 0, [(4, 0), (4, 0), (4, 0), (4, 0), (4, 0), (4, 0), (4, 0), (4, 0), (4, 0), (4, 0), (4, 0), (4, 0), (4, 0), (4, 0), (4, 0), (4, 0), (4, 0), (0, 0), (0, 0)]), (0, 7, [(4, 0), (0, 0), (1, 0), (0, 0), (0, 0)]), (1, 1, []), (1, 0, []), (0, 7, [(4, 0), (0, 0), (1, 0), (0, 0), (0, 0)]), (1, 0, [])]
theorem len_V32_Row_Ir_c22_va2_oz_R6cls : (V32_Row_Ir_c22_va2).length = 6 := by decide +kernel
theorem oz_R6cls_18 : vsub V32_Row_Ir_c22_va2 V156 [4] = true := by decide +kernel
/-- PackHouse.unpackRow: this, #1, #2, #1.bytes, this.content, this.content.bytes -/
theorem C32_Row_Ir_c22_va2 {σE : rS} {D N : Nat → Nat} {F : hF} {A : hA} {d c s : Nat} {Q : wQ} (H : HW V32_Row_Ir_c22_va2 σE D N F A) {a3 : Int} (pf3 : HID (F 1 0 = (D 3 : Int))) (pf4 : HID (F 0 6 = (D 4 : Int))) (pf5 : HID (F 4 0 = (D 5 : Int))) (n2 : Int) (en2 : HID ((N 2 : Int) = n2)) (n3 : Int) (en3 : HID ((N 3 : Int) = n3)) (n5 : Int) (en5 : HID ((N 5 : Int) = n5)) (u1_1 : Int) (eu1_1 : HID (F 1 1 = u1_1)) (u4_1 : Int) (eu4_1 : HID (F 4 1 = u4_1)) (h0 : inr (2)) (h1 : inr (a3)) (h2 : 0 ≤ (u1_1) ∧ (u1_1) ≤ (n3) ∧ (n3) ≤ 65536) (h3 : 0 ≤ (u4_1) ∧ (u4_1) ≤ (n5) ∧ (n5) ≤ 65536) (hc99 : ∀ (ls : rO) (σ : rS) (F_c99 : hF) (A_c99 : hA) , rlook ls 0 = some (.ref (D 0)) → rlook ls 1 = some (.ref (D 1)) → rlook ls 3 = some (I (a3)) → HW V32_Row_Ir_c22_va2 σ D N F_c99 A_c99 → OUT (V32_Row_Ir_c22_va2).length D N σE c s D N σ c s → SF [(4, 1), (4, 2), (4, 3), (4, 4)] F F_c99 → SA [] A A_c99 → ∀ yc99_4_1 : Int, F_c99 4 1 = yc99_4_1 → (0 ≤ (u1_1) ∧ (u1_1) ≤ (n3) ∧ (n3) ≤ 65536) → (0 ≤ (yc99_4_1) ∧ (yc99_4_1) ≤ (n5) ∧ (n5) ≤ 65536) → ((yc99_4_1) = 0) → Ew 32 (d + 1) 99 ls [.ref (D 0)] σ c s Q) (k : ∀ (z : Int) (σ : rS) (Fₚ : hF) (Aₚ : hA), HW V32_Row_Ir_c22_va2 σ D N Fₚ Aₚ → OUT (V32_Row_Ir_c22_va2).length D N σE c s D N σ c s → SF [(4, 1), (4, 2), (4, 3), (4, 4)] F Fₚ → SA [] A Aₚ → ∀ y4_1 : Int, Fₚ 4 1 = y4_1 → (inr (z)) → (0 ≤ (y4_1) ∧ (y4_1) ≤ (n5) ∧ (n5) ≤ 65536) → Q (some (I z)) σ c s) : Ew 32 (d + 1) 0 (rargs 0 [.ref (D 0), .ref (D 1), I 2, I a3, .ref (D 2)]) [] σE c s Q := by
  have O := OUT_refl (n := (V32_Row_Ir_c22_va2).length) (D := D) (N := N) (σ := σE) (c := c) (s := s)
  have HE := H
  have r4 : HID ((0 : Int) ≤ n5 ∧ n5 ≤ 1000000) := nrng (H.nle 5 (ltn len_V32_Row_Ir_c22_va2_oz_R6cls rfl)) (show (N 5 : Int) = n5 from en5)
  refine Ew_of (pcₚ := 1) (fun _ => x_aload_n rfl rfl) ?_
  refine v_g H (o := 0) (v := .ref (D 4)) rfl rfl rfl rfl rfl (vrf (pf4)) ?_
  refine v_inv H (o := 4) rfl rfl rfl rfl rfl rfl (by rfl) (C156h (D := puc 4 D) (N := puc 4 N) (HW_subc H oz_R6cls_18 oz_R6cls_4) (u4_1) ((eu4_1)) (F 4 2) (rfl) (F 4 4) (rfl)  (fun σ7 F7ₚ A7ₚ Hₚ Oₚ hS7 hA7 y7_0_1 (ey7_0_1 : HID _) y7_0_2 (ey7_0_2 : HID _) y7_0_4 (ey7_0_4 : HID _) pz7_0 => ⟨rfl, ?_⟩))
  refine v_backc (c := c) (s := s) H oz_R6cls_18 oz_R6cls_4 Hₚ Oₚ (fun F7 A7 H Oₚ eF7 eA7 => ?_)
  have O := OUT_trans O Oₚ
  -- Row.clear
  have cF7 : SF oz_R6clsl_0 F F7 := SF_trans (SF_refl) (SF_gluc (ι := oz_R6clsl_2) oz_R6cls_4 hS7 eF7 (by decide +kernel)) (any_sub (lₚ := [(4, 1), (4, 2), (4, 3), (4, 4)]) (by decide +kernel))
  have mF7 := SFm_of cF7 oz_R6cls_2
  have cA7 : SA oz_R6clsl_1 A A7 := SA_trans (SA_refl) (SA_gluc (ι := oz_R6clsl_2) oz_R6cls_4 hA7 eA7 (by decide +kernel)) (any_subA (lₚ := []) (by decide +kernel))
  have mA7 := SAm_of cA7 oz_R6cls_3
  refine Ew_of (pcₚ := 8) (fun _ => x_iconst rfl) ?_
  refine Ew_of (pcₚ := 10) (fun _ => x_istore rfl) ?_
  refine Ew_of (pcₚ := 11) (fun _ => x_iload_n rfl (rk_o (rfl) rfl rfl)) ?_
  refine w_tsk 2 98 rfl (show inr (2) from h0) (by omega) (by decide) rfl rfl ?_
  refine Ew_of (pcₚ := 99) (fun _ => x_aload_n rfl (rk_o (rfl) rfl rfl)) ?_
  exact hc99  _ _ _ _  (rk_o (rfl) rfl rfl) (rk_o (rfl) rfl rfl) (rk_o (rfl) rfl rfl) H O (SF_trans (SF_refl) (SF_gluc (ι := oz_R6clsl_2) oz_R6cls_4 hS7 eF7 (by decide +kernel)) (any_sub (lₚ := [(4, 1), (4, 2), (4, 3), (4, 4)]) (by decide +kernel))) (SA_trans (SA_refl) (SA_gluc (ι := oz_R6clsl_2) oz_R6cls_4 hA7 eA7 (by decide +kernel)) (any_subA (lₚ := []) (by decide +kernel)))   (y7_0_1) (((eF7 4 1).trans ey7_0_1))  (show 0 ≤ (u1_1) ∧ (u1_1) ≤ (n3) ∧ (n3) ≤ 65536 from h2) (show 0 ≤ (y7_0_1) ∧ (y7_0_1) ≤ (n5) ∧ (n5) ≤ 65536 from q_3960 (HIDe r4) h3 pz7_0) (show (y7_0_1) = 0 from q_3478 pz7_0)
abbrev V32_Row_Ir_vb2 : vV := [(0, 0, [(4, 0), (4, 0), (4, 0), (4, 0), (4, 0), (4, 0), (4, 0), (4, 0), (4, 0), (4, 0), (4, 0), (4, 0), (4, 0), (4, 0), (4, 0), (4, 0), (4, 0), (0, 0), (0, 0)]), (0, 7, [(4, 0), (0, 0), (1, 0), (0, 0), (0, 0)]), (1, 1, []), (1, 0, []), (0, 7, [(4, 0), (0, 0), (1, 0), (0, 0), (0, 0)]), (1, 0, []), (0, 10, [(4, 0), (4, 0), (4, 0), (4, 0), (0, 0), (4, 0), (0, 0), (2, 0), (0, 0)])]
theorem len_V32_Row_Ir_vb2_oz_R6cls : (V32_Row_Ir_vb2).length = 7 := by decide +kernel
theorem oz_R6cls_20 : vsub V32_Row_Ir_vb2 V205_Row_Row [6, 1, 4, 3, 5] = true := by decide +kernel
theorem oz_R6cls_21 : vmov V32_Row_Ir_vb2 [6, 1, 4, 3, 5] [4] = true := by decide +kernel
def oz_R6clsl_7 : List (Nat × Nat) := [(0, 17), (4, 0), (4, 1), (4, 2), (6, 3), (6, 4), (6, 5), (6, 6), (6, 7), (6, 8)]
theorem oz_R6cls_22 : (oz_R6clsl_7).all (fun p => !tbz 3163659274634887104975619845865110442959830766261895772110848 (Nat.add (Nat.mul 32 p.1) p.2)) = true := by decide +kernel
def oz_R6clsl_8 : List Nat := [6, 1, 4, 3, 5]
theorem oz_R6cls_23 : okc oz_R6clsl_8 344001085958 = true := by decide +kernel
/-- PackHouse.unpackRow: this, #1, #2, #1.bytes, this.content, this.content.bytes, this.tags -/
theorem C32_Row_Ir_vb2 {σE : rS} {D N : Nat → Nat} {F : hF} {A : hA} {d c s : Nat} {Q : wQ} (H : HW V32_Row_Ir_vb2 σE D N F A) {x3 : Int} (pf3 : HID (F 1 0 = (D 3 : Int))) (pf4 : HID (F 0 6 = (D 4 : Int))) (pf5 : HID (F 4 0 = (D 5 : Int))) (pf6 : HID (F 0 9 = (D 6 : Int))) (n2 : Int) (en2 : HID ((N 2 : Int) = n2)) (n3 : Int) (en3 : HID ((N 3 : Int) = n3)) (n5 : Int) (en5 : HID ((N 5 : Int) = n5)) (u1_1 : Int) (eu1_1 : HID (F 1 1 = u1_1)) (u4_1 : Int) (eu4_1 : HID (F 4 1 = u4_1)) {ls : rO} (hl0 : rlook ls 0 = some (.ref (D 0))) (hl1 : rlook ls 1 = some (.ref (D 1))) (hl3 : rlook ls 3 = some (I (x3))) (h0 : inr (x3)) (h1 : 0 ≤ (u1_1) ∧ (u1_1) ≤ (n3) ∧ (n3) ≤ 65536) (h2 : 0 ≤ (u4_1) ∧ (u4_1) ≤ (n5) ∧ (n5) ≤ 65536) (h3 : (u4_1) = 0) (h4 : 0 ≤ (x3) ∧ (x3) ≤ 65536) (k : ∀ (z : Int) (σ : rS) (Dₚ Nₚ : Nat → Nat) (Fₚ : hF) (Aₚ : hA) (cₚ sₚ : Nat), HW V32_Row_Ir_vb2 σ Dₚ Nₚ Fₚ Aₚ → OUT (V32_Row_Ir_vb2).length D N σE c s Dₚ Nₚ σ cₚ sₚ → SD [5] D Dₚ → SD [5] N Nₚ → SF [(0, 17), (4, 0), (4, 1), (4, 2), (6, 3), (6, 4), (6, 5), (6, 6), (6, 7), (6, 8)] F Fₚ → SA [5] A Aₚ → Fₚ 4 0 = (Dₚ 5 : Int) → ∀ m5 : Int, (Nₚ 5 : Int) = m5 → ∀ y4_1 : Int, Fₚ 4 1 = y4_1 → (inr (z)) → (0 ≤ (y4_1) ∧ (y4_1) ≤ (m5) ∧ (m5) ≤ 65536) → Q (some (I z)) σ cₚ sₚ) : Ew 32 (d + 5) 102 ls [.ref (D 6)] σE c s Q := by
  have O := OUT_refl (n := (V32_Row_Ir_vb2).length) (D := D) (N := N) (σ := σE) (c := c) (s := s)
  have HE := H
  refine Ew_of (pcₚ := 103) (fun _ => x_aload_n rfl hl1) ?_
  refine Ew_of (pcₚ := 104) (fun _ => x_aload_n rfl hl0) ?_
  refine v_g H (o := 0) (v := .ref (D 4)) rfl rfl rfl rfl rfl (vrf (pf4)) ?_
  refine Ew_of (pcₚ := 108) (fun _ => x_iload_n rfl hl3) ?_
  refine v_inv H (o := 6) rfl rfl rfl rfl rfl rfl (by rfl) (C205_Row_Row (D := puc 344001085958 D) (N := puc 344001085958 N) (HW_subc H oz_R6cls_20 oz_R6cls_23) (pf3) (pf5) (n3) (en3) (n5) (en5) (u1_1) ((eu1_1)) (u4_1) ((eu4_1)) (show inr (x3) from h0) (show 0 ≤ (u1_1) ∧ (u1_1) ≤ (n3) ∧ (n3) ≤ 65536 from h1) (show 0 ≤ (u4_1) ∧ (u4_1) ≤ (n5) ∧ (n5) ≤ 65536 from h2) (show 0 ≤ (x3) ∧ (x3) ≤ 65536 from h4) (fun z5 σ5 D5ₚ N5ₚ F5ₚ A5ₚ c5 s5 Hₚ Oₚ hD5 hN5 hS5 hA5 (pm5_4 : HID _) m5_4 (em5_4 : HID _) y5_2_1 (ey5_2_1 : HID _) pz5_0 pz5_1 pz5_2 => ⟨rfl, ?_⟩))
  refine v_backMc (c := c) (s := s) H oz_R6cls_20 oz_R6cls_23 Hₚ Oₚ hD5 oz_R6cls_21 (fun D5 N5 F5 A5 H Oₚ eD5 eN5 eF5 eA5 => ?_)
  have O := OUT_trans O Oₚ
  -- Tags.unpackAlone
  have cF5 : SF oz_R6clsl_7 F F5 := SF_trans (SF_refl) (SF_gluc (ι := oz_R6clsl_8) oz_R6cls_23 hS5 eF5 (by decide +kernel)) (any_sub (lₚ := [(4, 0), (4, 1), (4, 2), (6, 3), (6, 4), (6, 5), (6, 6), (6, 7), (6, 8)]) (by decide +kernel))
  have mF5 := SFm_of cF5 oz_R6cls_22
  have cA5 : SA oz_R6clsl_4 A A5 := SA_trans (SA_refl) (SA_gluc (ι := oz_R6clsl_8) oz_R6cls_23 hA5 eA5 (by decide +kernel)) (any_subA (lₚ := [5]) (by decide +kernel))
  have mA5 := SAm_of cA5 oz_R6cls_9
  have cD5 : SD oz_R6clsl_4 D D5 := SD_trans (SD_refl) (SD_gluc (ι := oz_R6clsl_8) oz_R6cls_23 hD5 eD5 (by decide +kernel)) (any_subA (lₚ := [5]) (by decide +kernel))
  have mD5 := SDm_of cD5 oz_R6cls_9
  have cN5 : SD oz_R6clsl_4 N N5 := SD_trans (SD_refl) (SD_gluc (ι := oz_R6clsl_8) oz_R6cls_23 hN5 eN5 (by decide +kernel)) (any_subA (lₚ := [5]) (by decide +kernel))
  have mN5 := SDm_of cN5 oz_R6cls_9
  have pf5_4_0 : HID (F5 4 0 = (D5 5 : Int)) := (eF5 4 0).trans (pm5_4.trans (congrArg (fun q : Nat => (q : Int)) (eD5 5).symm))
  refine Ew_of (pcₚ := 113) (fun _ => x_istore rfl) ?_
  refine Ew_of (pcₚ := 114) (fun _ => x_aload_n rfl (rk_o (hl0) rfl rfl)) ?_
  refine Ew_of (pcₚ := 115) (fun _ => x_aload_n rfl (rk_o (hl0) rfl rfl)) ?_
  refine Ew_stk (show ([.ref (D 0), .ref (D 0)] : List Value) = [.ref (D5 0), .ref (D5 0)] by rw [show D5 0 = D 0 from mD5 0 rfl]) ?_
  refine v_g H (o := 0) (v := .ref (D5 6)) rfl rfl rfl rfl rfl (vrf ((mF5 0 9 rfl).trans ((pf6).trans (congrArg (fun q : Nat => (q : Int)) (mD5 6 rfl).symm)))) ?_
  have r8 : HID ((-2147483648 : Int) ≤ F5 6 8 ∧ F5 6 8 ≤ 2147483647) := krg_e (show (-2147483648 : Int) ≤ F5 6 8 ∧ F5 6 8 ≤ 2147483647 from H.krg 6 8 (ltn len_V32_Row_Ir_vb2_oz_R6cls rfl)) (show F5 6 8 = F5 6 8 from rfl)
  refine v_g H (o := 6) (v := I (F5 6 8)) rfl rfl rfl rfl rfl (congrArg (fun z : Int => I z) (rfl : F5 6 8 = F5 6 8)) ?_
  refine v_p H (o := 0) (z := F5 6 8) (v := I (F5 6 8)) rfl rfl rfl rfl rfl rfl rfl rfl (show (-2147483648 : Int) ≤ F5 6 8 ∧ F5 6 8 ≤ 2147483647 from (HIDe r8)) (fun σ H Oₚ => ?_)
  have O := OUT_trans O Oₚ
  have cFu9 : SF oz_R6clsl_7 F (updF F5 0 17 (F5 6 8)) := SF_upd (cF5) rfl
  have mFu9 := SFm_of cFu9 oz_R6cls_22
  refine Ew_of (pcₚ := 188) (fun _ => x_goto rfl rfl) ?_
  refine Ew_of (pcₚ := 190) (fun _ => x_iload rfl rk_s) ?_
  refine w_ifne (t := 203) rfl rfl (show inr (z5) from pz5_0) (fun b10 => ?_) (fun b10 => ?_)
  · refine Ew_of (pcₚ := 205) (fun _ => x_iload rfl rk_s) ?_
    refine w_ineg rfl ?_
    exact w_ireturn rfl (k ((-z5)) _ _ _ _ _ _ _ H O (cD5) (cN5) (cFu9) (cA5) (pf5_4_0) (m5_4) ((congrArg (fun q : Nat => (q : Int)) (eN5 5)).trans em5_4) (y5_2_1) (((eF5 4 1).trans ey5_2_1)) (show inr ((-z5)) from q_4269 pz5_1) (show 0 ≤ (y5_2_1) ∧ (y5_2_1) ≤ (m5_4) ∧ (m5_4) ≤ 65536 from pz5_2))
  · refine Ew_of (pcₚ := 194) (fun _ => x_aload_n rfl (rk_o (hl0) rfl rfl)) ?_
    refine Ew_stk (congrArg (fun qz : Nat => ([.ref qz] : List Value)) (show D5 0 = D 0 from mD5 0 rfl).symm) ?_
    refine v_g H (o := 0) (v := .ref (D5 4)) rfl rfl rfl rfl rfl (vrf ((mFu9 0 6 rfl).trans ((pf4).trans (congrArg (fun q : Nat => (q : Int)) (mD5 4 rfl).symm)))) ?_
    refine v_g H (o := 4) (v := I (y5_2_1)) rfl rfl rfl rfl rfl (congrArg (fun z : Int => I z) (((eF5 4 1).trans ey5_2_1) : (updF F5 0 17 (F5 6 8)) 4 1 = y5_2_1)) ?_
    refine Ew_of (pcₚ := 206) (fun _ => x_goto rfl rfl) ?_
    exact w_ireturn rfl (k (y5_2_1) _ _ _ _ _ _ _ H O (cD5) (cN5) (cFu9) (cA5) (pf5_4_0) (m5_4) ((congrArg (fun q : Nat => (q : Int)) (eN5 5)).trans em5_4) (y5_2_1) (((eF5 4 1).trans ey5_2_1)) (show inr (y5_2_1) from q_884 pz5_2) (show 0 ≤ (y5_2_1) ∧ (y5_2_1) ≤ (m5_4) ∧ (m5_4) ≤ 65536 from pz5_2))
abbrev V32_Row_Ir_c23_va3 : vV := [(0, 0, [(4, 0), (4, 0), (4, 0), (4, 0), (4, 0), (4, 0), (4, 0), (4, 0), (4, 0), (4, 0), (4, 0), (4, 0), (4, 0), (4, 0), (4, 0), (4, 0), (4, 0), (0, 0), (0, 0)]), (0, 7, [(4, 0), (0, 0), (1, 0), (0, 0), (0, 0)]), (1, 1, []), (1, 0, []), (0, 7, [(4, 0), (0, 0), (1, 0), (0, 0), (0, 0)]), (1, 0, [])]
theorem len_V32_Row_Ir_c23_va3_oz_R6cls : (V32_Row_Ir_c23_va3).length = 6 := by decide +kernel
theorem oz_R6cls_25 : vsub V32_Row_Ir_c23_va3 V156 [4] = true := by decide +kernel
/-- PackHouse.unpackRow: this, #1, #2, #1.bytes, this.content, this.content.bytes -/
theorem C32_Row_Ir_c23_va3 {σE : rS} {D N : Nat → Nat} {F : hF} {A : hA} {d c s : Nat} {Q : wQ} (H : HW V32_Row_Ir_c23_va3 σE D N F A) {a3 : Int} (pf3 : HID (F 1 0 = (D 3 : Int))) (pf4 : HID (F 0 6 = (D 4 : Int))) (pf5 : HID (F 4 0 = (D 5 : Int))) (n2 : Int) (en2 : HID ((N 2 : Int) = n2)) (n3 : Int) (en3 : HID ((N 3 : Int) = n3)) (n5 : Int) (en5 : HID ((N 5 : Int) = n5)) (u1_1 : Int) (eu1_1 : HID (F 1 1 = u1_1)) (u4_1 : Int) (eu4_1 : HID (F 4 1 = u4_1)) (h0 : inr (3)) (h1 : inr (a3)) (h2 : 0 ≤ (u1_1) ∧ (u1_1) ≤ (n3) ∧ (n3) ≤ 65536) (h3 : 0 ≤ (u4_1) ∧ (u4_1) ≤ (n5) ∧ (n5) ≤ 65536) (hc128 : ∀ (ls : rO) (σ : rS) (F_c128 : hF) (A_c128 : hA) , rlook ls 0 = some (.ref (D 0)) → rlook ls 1 = some (.ref (D 1)) → rlook ls 3 = some (I (a3)) → HW V32_Row_Ir_c23_va3 σ D N F_c128 A_c128 → OUT (V32_Row_Ir_c23_va3).length D N σE c s D N σ c s → SF [(4, 1), (4, 2), (4, 3), (4, 4)] F F_c128 → SA [] A A_c128 → ∀ yc128_4_1 : Int, F_c128 4 1 = yc128_4_1 → (0 ≤ (u1_1) ∧ (u1_1) ≤ (n3) ∧ (n3) ≤ 65536) → (0 ≤ (yc128_4_1) ∧ (yc128_4_1) ≤ (n5) ∧ (n5) ≤ 65536) → ((yc128_4_1) = 0) → Ew 32 (d + 1) 128 ls [.ref (D 0)] σ c s Q) (k : ∀ (z : Int) (σ : rS) (Fₚ : hF) (Aₚ : hA), HW V32_Row_Ir_c23_va3 σ D N Fₚ Aₚ → OUT (V32_Row_Ir_c23_va3).length D N σE c s D N σ c s → SF [(4, 1), (4, 2), (4, 3), (4, 4)] F Fₚ → SA [] A Aₚ → ∀ y4_1 : Int, Fₚ 4 1 = y4_1 → (inr (z)) → (0 ≤ (y4_1) ∧ (y4_1) ≤ (n5) ∧ (n5) ≤ 65536) → Q (some (I z)) σ c s) : Ew 32 (d + 1) 0 (rargs 0 [.ref (D 0), .ref (D 1), I 3, I a3, .ref (D 2)]) [] σE c s Q := by
  have O := OUT_refl (n := (V32_Row_Ir_c23_va3).length) (D := D) (N := N) (σ := σE) (c := c) (s := s)
  have HE := H
  have r4 : HID ((0 : Int) ≤ n5 ∧ n5 ≤ 1000000) := nrng (H.nle 5 (ltn len_V32_Row_Ir_c23_va3_oz_R6cls rfl)) (show (N 5 : Int) = n5 from en5)
  refine Ew_of (pcₚ := 1) (fun _ => x_aload_n rfl rfl) ?_
  refine v_g H (o := 0) (v := .ref (D 4)) rfl rfl rfl rfl rfl (vrf (pf4)) ?_
  refine v_inv H (o := 4) rfl rfl rfl rfl rfl rfl (by rfl) (C156h (D := puc 4 D) (N := puc 4 N) (HW_subc H oz_R6cls_25 oz_R6cls_4) (u4_1) ((eu4_1)) (F 4 2) (rfl) (F 4 4) (rfl)  (fun σ7 F7ₚ A7ₚ Hₚ Oₚ hS7 hA7 y7_0_1 (ey7_0_1 : HID _) y7_0_2 (ey7_0_2 : HID _) y7_0_4 (ey7_0_4 : HID _) pz7_0 => ⟨rfl, ?_⟩))
  refine v_backc (c := c) (s := s) H oz_R6cls_25 oz_R6cls_4 Hₚ Oₚ (fun F7 A7 H Oₚ eF7 eA7 => ?_)
  have O := OUT_trans O Oₚ
  -- Row.clear
  have cF7 : SF oz_R6clsl_0 F F7 := SF_trans (SF_refl) (SF_gluc (ι := oz_R6clsl_2) oz_R6cls_4 hS7 eF7 (by decide +kernel)) (any_sub (lₚ := [(4, 1), (4, 2), (4, 3), (4, 4)]) (by decide +kernel))
  have mF7 := SFm_of cF7 oz_R6cls_2
  have cA7 : SA oz_R6clsl_1 A A7 := SA_trans (SA_refl) (SA_gluc (ι := oz_R6clsl_2) oz_R6cls_4 hA7 eA7 (by decide +kernel)) (any_subA (lₚ := []) (by decide +kernel))
  have mA7 := SAm_of cA7 oz_R6cls_3
  refine Ew_of (pcₚ := 8) (fun _ => x_iconst rfl) ?_
  refine Ew_of (pcₚ := 10) (fun _ => x_istore rfl) ?_
  refine Ew_of (pcₚ := 11) (fun _ => x_iload_n rfl (rk_o (rfl) rfl rfl)) ?_
  refine w_tsk 3 127 rfl (show inr (3) from h0) (by omega) (by decide) rfl rfl ?_
  refine Ew_of (pcₚ := 128) (fun _ => x_aload_n rfl (rk_o (rfl) rfl rfl)) ?_
  exact hc128  _ _ _ _  (rk_o (rfl) rfl rfl) (rk_o (rfl) rfl rfl) (rk_o (rfl) rfl rfl) H O (SF_trans (SF_refl) (SF_gluc (ι := oz_R6clsl_2) oz_R6cls_4 hS7 eF7 (by decide +kernel)) (any_sub (lₚ := [(4, 1), (4, 2), (4, 3), (4, 4)]) (by decide +kernel))) (SA_trans (SA_refl) (SA_gluc (ι := oz_R6clsl_2) oz_R6cls_4 hA7 eA7 (by decide +kernel)) (any_subA (lₚ := []) (by decide +kernel)))   (y7_0_1) (((eF7 4 1).trans ey7_0_1))  (show 0 ≤ (u1_1) ∧ (u1_1) ≤ (n3) ∧ (n3) ≤ 65536 from h2) (show 0 ≤ (y7_0_1) ∧ (y7_0_1) ≤ (n5) ∧ (n5) ≤ 65536 from q_3960 (HIDe r4) h3 pz7_0) (show (y7_0_1) = 0 from q_3478 pz7_0)
abbrev V32_Row_Ir_vb3 : vV := [(0, 0, [(4, 0), (4, 0), (4, 0), (4, 0), (4, 0), (4, 0), (4, 0), (4, 0), (4, 0), (4, 0), (4, 0), (4, 0), (4, 0), (4, 0), (4, 0), (4, 0), (4, 0), (0, 0), (0, 0)]), (0, 7, [(4, 0), (0, 0), (1, 0), (0, 0), (0, 0)]), (1, 1, []), (1, 0, []), (0, 7, [(4, 0), (0, 0), (1, 0), (0, 0), (0, 0)]), (1, 0, []), (0, 10, [(4, 0), (4, 0), (4, 0), (4, 0), (0, 0), (4, 0), (0, 0), (2, 0), (0, 0)])]
theorem len_V32_Row_Ir_vb3_oz_R6cls : (V32_Row_Ir_vb3).length = 7 := by decide +kernel
theorem oz_R6cls_27 : vsub V32_Row_Ir_vb3 V210_Row_Row [6, 1, 4, 3, 5] = true := by decide +kernel
theorem oz_R6cls_28 : vmov V32_Row_Ir_vb3 [6, 1, 4, 3, 5] [4] = true := by decide +kernel
/-- PackHouse.unpackRow: this, #1, #2, #1.bytes, this.content, this.content.bytes, this.tags -/
theorem C32_Row_Ir_vb3 {σE : rS} {D N : Nat → Nat} {F : hF} {A : hA} {d c s : Nat} {Q : wQ} (H : HW V32_Row_Ir_vb3 σE D N F A) (HT : STC σE) {x3 : Int} (pf3 : HID (F 1 0 = (D 3 : Int))) (pf4 : HID (F 0 6 = (D 4 : Int))) (pf5 : HID (F 4 0 = (D 5 : Int))) (pf6 : HID (F 0 9 = (D 6 : Int))) (n2 : Int) (en2 : HID ((N 2 : Int) = n2)) (n3 : Int) (en3 : HID ((N 3 : Int) = n3)) (n5 : Int) (en5 : HID ((N 5 : Int) = n5)) (u1_1 : Int) (eu1_1 : HID (F 1 1 = u1_1)) (u4_1 : Int) (eu4_1 : HID (F 4 1 = u4_1)) {ls : rO} (hl0 : rlook ls 0 = some (.ref (D 0))) (hl1 : rlook ls 1 = some (.ref (D 1))) (hl3 : rlook ls 3 = some (I (x3))) (h0 : inr (x3)) (h1 : 0 ≤ (u1_1) ∧ (u1_1) ≤ (n3) ∧ (n3) ≤ 65536) (h2 : 0 ≤ (u4_1) ∧ (u4_1) ≤ (n5) ∧ (n5) ≤ 65536) (h3 : (u4_1) = 0) (h4 : 0 ≤ (x3) ∧ (x3) ≤ 65536) (k : ∀ (z : Int) (σ : rS) (Dₚ Nₚ : Nat → Nat) (Fₚ : hF) (Aₚ : hA) (cₚ sₚ : Nat), HW V32_Row_Ir_vb3 σ Dₚ Nₚ Fₚ Aₚ → OUT (V32_Row_Ir_vb3).length D N σE c s Dₚ Nₚ σ cₚ sₚ → SD [5] D Dₚ → SD [5] N Nₚ → SF [(0, 17), (4, 0), (4, 1), (4, 2), (6, 3), (6, 4), (6, 5), (6, 6), (6, 7), (6, 8)] F Fₚ → SA [5] A Aₚ → Fₚ 4 0 = (Dₚ 5 : Int) → ∀ m5 : Int, (Nₚ 5 : Int) = m5 → ∀ y4_1 : Int, Fₚ 4 1 = y4_1 → (inr (z)) → (0 ≤ (y4_1) ∧ (y4_1) ≤ (m5) ∧ (m5) ≤ 65536) → Q (some (I z)) σ cₚ sₚ) : Ew 32 (d + 6) 131 ls [.ref (D 6)] σE c s Q := by
  have O := OUT_refl (n := (V32_Row_Ir_vb3).length) (D := D) (N := N) (σ := σE) (c := c) (s := s)
  have HE := H
  refine Ew_of (pcₚ := 132) (fun _ => x_aload_n rfl hl1) ?_
  refine Ew_of (pcₚ := 133) (fun _ => x_aload_n rfl hl0) ?_
  refine v_g H (o := 0) (v := .ref (D 4)) rfl rfl rfl rfl rfl (vrf (pf4)) ?_
  refine Ew_of (pcₚ := 137) (fun _ => x_iload_n rfl hl3) ?_
  refine v_inv H (o := 6) rfl rfl rfl rfl rfl rfl (by rfl) (C210_Row_Row (D := puc 344001085958 D) (N := puc 344001085958 N) (HW_subc H oz_R6cls_27 oz_R6cls_23) (STC_out HT HE O) (pf3) (pf5) (n3) (en3) (n5) (en5) (u1_1) ((eu1_1)) (u4_1) ((eu4_1)) (show inr (x3) from h0) (show 0 ≤ (u1_1) ∧ (u1_1) ≤ (n3) ∧ (n3) ≤ 65536 from h1) (show 0 ≤ (u4_1) ∧ (u4_1) ≤ (n5) ∧ (n5) ≤ 65536 from h2) (show 0 ≤ (x3) ∧ (x3) ≤ 65536 from h4) (show (u4_1) ≤ (x3) from q_4267 h3 h4) (fun z5 σ5 D5ₚ N5ₚ F5ₚ A5ₚ c5 s5 Hₚ Oₚ hD5 hN5 hS5 hA5 (pm5_4 : HID _) m5_4 (em5_4 : HID _) y5_2_1 (ey5_2_1 : HID _) pz5_0 pz5_1 pz5_2 => ⟨rfl, ?_⟩))
  refine v_backMc (c := c) (s := s) H oz_R6cls_27 oz_R6cls_23 Hₚ Oₚ hD5 oz_R6cls_28 (fun D5 N5 F5 A5 H Oₚ eD5 eN5 eF5 eA5 => ?_)
  have O := OUT_trans O Oₚ
  -- Tags.unpackStream
  have cF5 : SF oz_R6clsl_7 F F5 := SF_trans (SF_refl) (SF_gluc (ι := oz_R6clsl_8) oz_R6cls_23 hS5 eF5 (by decide +kernel)) (any_sub (lₚ := [(4, 0), (4, 1), (4, 2), (6, 3), (6, 4), (6, 5), (6, 6), (6, 7), (6, 8)]) (by decide +kernel))
  have mF5 := SFm_of cF5 oz_R6cls_22
  have cA5 : SA oz_R6clsl_4 A A5 := SA_trans (SA_refl) (SA_gluc (ι := oz_R6clsl_8) oz_R6cls_23 hA5 eA5 (by decide +kernel)) (any_subA (lₚ := [5]) (by decide +kernel))
  have mA5 := SAm_of cA5 oz_R6cls_9
  have cD5 : SD oz_R6clsl_4 D D5 := SD_trans (SD_refl) (SD_gluc (ι := oz_R6clsl_8) oz_R6cls_23 hD5 eD5 (by decide +kernel)) (any_subA (lₚ := [5]) (by decide +kernel))
  have mD5 := SDm_of cD5 oz_R6cls_9
  have cN5 : SD oz_R6clsl_4 N N5 := SD_trans (SD_refl) (SD_gluc (ι := oz_R6clsl_8) oz_R6cls_23 hN5 eN5 (by decide +kernel)) (any_subA (lₚ := [5]) (by decide +kernel))
  have mN5 := SDm_of cN5 oz_R6cls_9
  have pf5_4_0 : HID (F5 4 0 = (D5 5 : Int)) := (eF5 4 0).trans (pm5_4.trans (congrArg (fun q : Nat => (q : Int)) (eD5 5).symm))
  refine Ew_of (pcₚ := 142) (fun _ => x_istore rfl) ?_
  refine Ew_of (pcₚ := 143) (fun _ => x_aload_n rfl (rk_o (hl0) rfl rfl)) ?_
  refine Ew_of (pcₚ := 144) (fun _ => x_aload_n rfl (rk_o (hl0) rfl rfl)) ?_
  refine Ew_stk (show ([.ref (D 0), .ref (D 0)] : List Value) = [.ref (D5 0), .ref (D5 0)] by rw [show D5 0 = D 0 from mD5 0 rfl]) ?_
  refine v_g H (o := 0) (v := .ref (D5 6)) rfl rfl rfl rfl rfl (vrf ((mF5 0 9 rfl).trans ((pf6).trans (congrArg (fun q : Nat => (q : Int)) (mD5 6 rfl).symm)))) ?_
  have r8 : HID ((-2147483648 : Int) ≤ F5 6 8 ∧ F5 6 8 ≤ 2147483647) := krg_e (show (-2147483648 : Int) ≤ F5 6 8 ∧ F5 6 8 ≤ 2147483647 from H.krg 6 8 (ltn len_V32_Row_Ir_vb3_oz_R6cls rfl)) (show F5 6 8 = F5 6 8 from rfl)
  refine v_g H (o := 6) (v := I (F5 6 8)) rfl rfl rfl rfl rfl (congrArg (fun z : Int => I z) (rfl : F5 6 8 = F5 6 8)) ?_
  refine v_p H (o := 0) (z := F5 6 8) (v := I (F5 6 8)) rfl rfl rfl rfl rfl rfl rfl rfl (show (-2147483648 : Int) ≤ F5 6 8 ∧ F5 6 8 ≤ 2147483647 from (HIDe r8)) (fun σ H Oₚ => ?_)
  have O := OUT_trans O Oₚ
  have cFu9 : SF oz_R6clsl_7 F (updF F5 0 17 (F5 6 8)) := SF_upd (cF5) rfl
  have mFu9 := SFm_of cFu9 oz_R6cls_22
  refine Ew_of (pcₚ := 188) (fun _ => x_goto rfl rfl) ?_
  refine Ew_of (pcₚ := 190) (fun _ => x_iload rfl rk_s) ?_
  refine w_ifne (t := 203) rfl rfl (show inr (z5) from pz5_0) (fun b10 => ?_) (fun b10 => ?_)
  · refine Ew_of (pcₚ := 205) (fun _ => x_iload rfl rk_s) ?_
    refine w_ineg rfl ?_
    exact w_ireturn rfl (k ((-z5)) _ _ _ _ _ _ _ H O (cD5) (cN5) (cFu9) (cA5) (pf5_4_0) (m5_4) ((congrArg (fun q : Nat => (q : Int)) (eN5 5)).trans em5_4) (y5_2_1) (((eF5 4 1).trans ey5_2_1)) (show inr ((-z5)) from q_4270 pz5_1) (show 0 ≤ (y5_2_1) ∧ (y5_2_1) ≤ (m5_4) ∧ (m5_4) ≤ 65536 from pz5_2))
  · refine Ew_of (pcₚ := 194) (fun _ => x_aload_n rfl (rk_o (hl0) rfl rfl)) ?_
    refine Ew_stk (congrArg (fun qz : Nat => ([.ref qz] : List Value)) (show D5 0 = D 0 from mD5 0 rfl).symm) ?_
    refine v_g H (o := 0) (v := .ref (D5 4)) rfl rfl rfl rfl rfl (vrf ((mFu9 0 6 rfl).trans ((pf4).trans (congrArg (fun q : Nat => (q : Int)) (mD5 4 rfl).symm)))) ?_
    refine v_g H (o := 4) (v := I (y5_2_1)) rfl rfl rfl rfl rfl (congrArg (fun z : Int => I z) (((eF5 4 1).trans ey5_2_1) : (updF F5 0 17 (F5 6 8)) 4 1 = y5_2_1)) ?_
    refine Ew_of (pcₚ := 206) (fun _ => x_goto rfl rfl) ?_
    exact w_ireturn rfl (k (y5_2_1) _ _ _ _ _ _ _ H O (cD5) (cN5) (cFu9) (cA5) (pf5_4_0) (m5_4) ((congrArg (fun q : Nat => (q : Int)) (eN5 5)).trans em5_4) (y5_2_1) (((eF5 4 1).trans ey5_2_1)) (show inr (y5_2_1) from q_884 pz5_2) (show 0 ≤ (y5_2_1) ∧ (y5_2_1) ≤ (m5_4) ∧ (m5_4) ≤ 65536 from pz5_2))
