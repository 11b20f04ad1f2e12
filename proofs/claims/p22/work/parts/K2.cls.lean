abbrev V148_Row_Share : vV := [(0, 6, [(4, 0), (4, 0), (4, 0), (4, 0), (4, 0), (4, 0), (4, 0), (4, 0), (4, 0), (4, 0), (4, 0), (4, 0), (4, 0), (4, 0), (4, 0), (0, 0), (0, 0), (4, 0), (4, 0)]), (0, 7, [(4, 0), (0, 0), (1, 0), (0, 0), (0, 0)]), (0, 8, [(0, 0), (0, 0), (4, 0), (4, 0), (4, 0), (4, 0), (4, 0), (4, 0), (4, 0), (4, 0), (4, 0), (0, 0), (0, 0)]), (0, 5, [(4, 0), (4, 0), (4, 0), (4, 0), (0, 0), (0, 0), (0, 0), (4, 0), (4, 0), (0, 0), (0, 0), (0, 0), (0, 0), (0, 0), (0, 0), (0, 0), (0, 0), (0, 0), (0, 0)]), (1, 1, []), (1, 1, []), (1, 0, [])]
theorem len_V148_Row_Share_oz_K2cls : (V148_Row_Share).length = 7 := by decide +kernel
theorem oz_K2cls_1 : vsub V148_Row_Share V178_Ir [2, 4, 5] = true := by decide +kernel
theorem oz_K2cls_2 : vsub V148_Row_Share V157 [1, 6] = true := by decide +kernel
theorem oz_K2cls_3 : vmov V148_Row_Share [1, 6] [1] = true := by decide +kernel
theorem oz_K2cls_4 : vsub V148_Row_Share V181_Row [2, 1, 5, 6] = true := by decide +kernel
def oz_K2clsl_0 : List (Nat × Nat) := [(1, 0), (1, 1), (1, 2), (1, 3), (1, 4), (2, 0)]
theorem oz_K2cls_5 : (oz_K2clsl_0).all (fun p => !tbz 18446744206853537792 (Nat.add (Nat.mul 32 p.1) p.2)) = true := by decide +kernel
def oz_K2clsl_1 : List Nat := [5, 6]
theorem oz_K2cls_6 : (oz_K2clsl_1).all (fun p => !tbz 96 p) = true := by decide +kernel
def oz_K2clsl_2 : List Nat := [6]
theorem oz_K2cls_7 : (oz_K2clsl_2).all (fun p => !tbz 64 p) = true := by decide +kernel
def oz_K2clsl_3 : List Nat := [2, 4, 5]
theorem oz_K2cls_8 : okc oz_K2clsl_3 1312770 = true := by decide +kernel
def oz_K2clsl_4 : List Nat := [1, 6]
theorem oz_K2cls_9 : okc oz_K2clsl_4 3073 = true := by decide +kernel
def oz_K2clsl_5 : List Nat := [2, 1, 5, 6]
theorem oz_K2cls_10 : okc oz_K2clsl_5 806617602 = true := by decide +kernel
/-- Packer.packShare: this, #1, #2, this.finder, this.symbolCounts, #2.points, #1.bytes -/
theorem C148_Row_Share {σE : rS} {D N : Nat → Nat} {F : hF} {A : hA} {d c s : Nat} {Q : wQ} (H : HW V148_Row_Share σE D N F A) {a3 : Int} (pf3 : HID (F 0 1 = (D 3 : Int))) (pf4 : HID (F 0 12 = (D 4 : Int))) (pf5 : HID (F 2 2 = (D 5 : Int))) (pf6 : HID (F 1 0 = (D 6 : Int))) (n4 : Int) (en4 : HID ((N 4 : Int) = n4)) (n5 : Int) (en5 : HID ((N 5 : Int) = n5)) (n6 : Int) (en6 : HID ((N 6 : Int) = n6)) (u1_1 : Int) (eu1_1 : HID (F 1 1 = u1_1)) (u1_4 : Int) (eu1_4 : HID (F 1 4 = u1_4)) (u2_0 : Int) (eu2_0 : HID (F 2 0 = u2_0)) (u2_1 : Int) (eu2_1 : HID (F 2 1 = u2_1)) (u3_4 : Int) (eu3_4 : HID (F 3 4 = u3_4)) (w4 : Int → Int) (ew4 : A 4 = w4) (w5 : Int → Int) (ew5 : A 5 = w5) (h0 : inr (a3)) (h1 : CNT ((w4)) ((u2_1)) ((u3_4)) (a3)) (h2 : (u2_1) ≤ (n4) ∧ (n5) = (u2_1)) (h3 : 0 ≤ (u1_1) ∧ (u1_1) ≤ (n6) ∧ (n6) ≤ 65536) (h4 : 0 ≤ (u1_4) ∧ (u1_4) ≤ 7) (k : ∀ (σ : rS) (Dₚ Nₚ : Nat → Nat) (Fₚ : hF) (Aₚ : hA) (cₚ sₚ : Nat), HW V148_Row_Share σ Dₚ Nₚ Fₚ Aₚ → OUT (V148_Row_Share).length D N σE c s Dₚ Nₚ σ cₚ sₚ → SD [6] D Dₚ → SD [6] N Nₚ → SF [(1, 0), (1, 1), (1, 2), (1, 3), (1, 4), (2, 0)] F Fₚ → SA [5, 6] A Aₚ → Fₚ 1 0 = (Dₚ 6 : Int) → ∀ m6 : Int, (Nₚ 6 : Int) = m6 → ∀ y1_1 : Int, Fₚ 1 1 = y1_1 → ∀ y1_4 : Int, Fₚ 1 4 = y1_4 → ∀ y2_0 : Int, Fₚ 2 0 = y2_0 → ∀ v5 : Int → Int, Aₚ 5 = v5 → (SHD ((v5)) ((u2_1)) ((y2_0))) → (DVI ((w4)) ((v5)) ((u2_1))) → ((y2_0) = (a3)) → (0 ≤ (y1_1) ∧ (y1_1) ≤ (m6) ∧ (m6) ≤ 65536) → ((y1_4) = 0) → ((u1_1) ≤ (y1_1)) → Q none σ cₚ sₚ) : Ew 148 (d + 2) 0 (rargs 0 [.ref (D 0), .ref (D 1), .ref (D 2), I a3]) [] σE c s Q := by
  have O := OUT_refl (n := (V148_Row_Share).length) (D := D) (N := N) (σ := σE) (c := c) (s := s)
  have HE := H
  have r5 : HID ((-2147483648 : Int) ≤ u3_4 ∧ u3_4 ≤ 2147483647) := krg_e (show (-2147483648 : Int) ≤ F 3 4 ∧ F 3 4 ≤ 2147483647 from H.krg 3 4 (ltn len_V148_Row_Share_oz_K2cls rfl)) (show F 3 4 = u3_4 from (eu3_4))
  have hcf := CNT_f (show CNT ((w4)) ((u2_1)) ((u3_4)) (a3) from h1)
  refine Ew_of (pcₚ := 1) (fun _ => x_aload_n rfl rfl) ?_
  refine Ew_of (pcₚ := 2) (fun _ => x_aload_n rfl rfl) ?_
  refine v_g H (o := 0) (v := .ref (D 4)) rfl rfl rfl rfl rfl (vrf (pf4)) ?_
  refine Ew_of (pcₚ := 6) (fun _ => x_aload_n rfl rfl) ?_
  refine v_g H (o := 0) (v := .ref (D 3)) rfl rfl rfl rfl rfl (vrf (pf3)) ?_
  refine v_g H (o := 3) (v := I (u3_4)) rfl rfl rfl rfl rfl (congrArg (fun z : Int => I z) ((eu3_4) : F 3 4 = u3_4)) ?_
  refine Ew_of (pcₚ := 13) (fun _ => x_iload_n rfl rfl) ?_
  refine v_inv H (o := 2) rfl rfl rfl rfl rfl rfl (by rfl) (C178_Ir (D := puc 1312770 D) (N := puc 1312770 N) (HW_subc H oz_K2cls_1 oz_K2cls_8) (pf5) (n4) (en4) (n5) (en5) (u2_0) ((eu2_0)) (u2_1) ((eu2_1)) (w4) (ew4) (w5) (ew5) (show inr (u3_4) from q_22 (HIDe r5)) (show inr (a3) from h0) (show CNT ((w4)) ((u2_1)) (u3_4) (a3) from h1) (show ((u2_1)) ≤ (n4) ∧ (n5) = ((u2_1)) from h2) (fun σ9 F9ₚ A9ₚ Hₚ Oₚ hS9 hA9 y9_0_0 (ey9_0_0 : HID _) w9_2 ew9_2 pz9_0 pz9_1 pz9_2 => ⟨rfl, ?_⟩))
  refine v_backc (c := c) (s := s) H oz_K2cls_1 oz_K2cls_8 Hₚ Oₚ (fun F9 A9 H Oₚ eF9 eA9 => ?_)
  have O := OUT_trans O Oₚ
  -- Share.takeCounts
  have cF9 : SF oz_K2clsl_0 F F9 := SF_trans (SF_refl) (SF_gluc (ι := oz_K2clsl_3) oz_K2cls_8 hS9 eF9 (by decide +kernel)) (any_sub (lₚ := [(2, 0)]) (by decide +kernel))
  have mF9 := SFm_of cF9 oz_K2cls_5
  have cA9 : SA oz_K2clsl_1 A A9 := SA_trans (SA_refl) (SA_gluc (ι := oz_K2clsl_3) oz_K2cls_8 hA9 eA9 (by decide +kernel)) (any_subA (lₚ := [5]) (by decide +kernel))
  have mA9 := SAm_of cA9 oz_K2cls_6
  have r10 : HID ((-2147483648 : Int) ≤ y9_0_0 ∧ y9_0_0 ≤ 2147483647) := krg_e (show (-2147483648 : Int) ≤ F9 2 0 ∧ F9 2 0 ≤ 2147483647 from H.krg 2 0 (ltn len_V148_Row_Share_oz_K2cls rfl)) (show F9 2 0 = y9_0_0 from ((eF9 2 0).trans ey9_0_0))
  refine Ew_of (pcₚ := 17) (fun _ => x_aload_n rfl rfl) ?_
  refine Ew_of (pcₚ := 20) (fun _ => x_sipush (z := 128) rfl (by decide)) ?_
  refine v_inv H (o := 1) rfl rfl rfl rfl rfl rfl (by rfl) (C157 (D := puc 3073 D) (N := puc 3073 N) (HW_subc H oz_K2cls_2 oz_K2cls_9) ((((show F9 1 0 = F 1 0 from (eF9 1 0)))).trans (pf6)) (n6) (en6) (u1_1) ((((show F9 1 1 = F 1 1 from (eF9 1 1))).trans (eu1_1))) (A 6) ((show A9 6 = A 6 from (eA9 6))) (show inr (128) from q_53) (show 0 ≤ (u1_1) ∧ (u1_1) ≤ (n6) ∧ (n6) ≤ 65536 from h3) (fun z11 σ11 D11ₚ N11ₚ F11ₚ A11ₚ c11 s11 Hₚ Oₚ hD11 hN11 hS11 hA11 (pm11_1 : HID _) m11_1 (em11_1 : HID _) w11_1 ew11_1 pz11_0 pz11_1 pz11_2 pz11_3 pz11_4 => ⟨rretB rfl pz11_0, ?_⟩))
  refine v_backMc (c := c) (s := s) H oz_K2cls_2 oz_K2cls_9 Hₚ Oₚ hD11 oz_K2cls_3 (fun D11 N11 F11 A11 H Oₚ eD11 eN11 eF11 eA11 => ?_)
  have O := OUT_trans O Oₚ
  -- Row.reserve
  have cF11 : SF oz_K2clsl_0 F F11 := SF_trans (cF9) (SF_gluc (ι := oz_K2clsl_4) oz_K2cls_9 hS11 eF11 (by decide +kernel)) (any_sub (lₚ := [(1, 0)]) (by decide +kernel))
  have mF11 := SFm_of cF11 oz_K2cls_5
  have cA11 : SA oz_K2clsl_1 A A11 := SA_trans (cA9) (SA_gluc (ι := oz_K2clsl_4) oz_K2cls_9 hA11 eA11 (by decide +kernel)) (any_subA (lₚ := [6]) (by decide +kernel))
  have mA11 := SAm_of cA11 oz_K2cls_6
  have cD11 : SD oz_K2clsl_2 D D11 := SD_trans (SD_refl) (SD_gluc (ι := oz_K2clsl_4) oz_K2cls_9 hD11 eD11 (by decide +kernel)) (any_subA (lₚ := [6]) (by decide +kernel))
  have mD11 := SDm_of cD11 oz_K2cls_7
  have cN11 : SD oz_K2clsl_2 N N11 := SD_trans (SD_refl) (SD_gluc (ι := oz_K2clsl_4) oz_K2cls_9 hN11 eN11 (by decide +kernel)) (any_subA (lₚ := [6]) (by decide +kernel))
  have mN11 := SDm_of cN11 oz_K2cls_7
  have pf11_1_0 : HID (F11 1 0 = (D11 6 : Int)) := (eF11 1 0).trans (pm11_1.trans (congrArg (fun q : Nat => (q : Int)) (eD11 6).symm))
  refine Ew_of (pcₚ := 24) (fun _ => x_pop rfl rfl) ?_
  refine Ew_of (pcₚ := 25) (fun _ => x_aload_n rfl rfl) ?_
  refine Ew_of (pcₚ := 26) (fun _ => x_aload_n rfl rfl) ?_
  refine Ew_stk (show ([.ref (D 1), .ref (D 2)] : List Value) = [.ref (D11 1), .ref (D11 2)] by rw [show D11 1 = D 1 from mD11 1 rfl, show D11 2 = D 2 from mD11 2 rfl]) ?_
  refine v_inv H (o := 2) rfl rfl rfl rfl rfl rfl (by rfl) (C181_Row (D := puc 806617602 D11) (N := puc 806617602 N11) (HW_subc H oz_K2cls_4 oz_K2cls_10) ((mF11 2 2 rfl).trans ((pf5).trans (congrArg (fun q : Nat => (q : Int)) (mD11 5 rfl).symm))) (pf11_1_0) (n5) ((congrArg (fun q : Nat => (q : Int)) (mN11 5 rfl)).trans (en5)) (m11_1) ((congrArg (fun q : Nat => (q : Int)) (eN11 6)).trans em11_1) (y9_0_0) ((((show F11 2 0 = F9 2 0 from (eF11 2 0))).trans ((eF9 2 0).trans ey9_0_0))) (u2_1) (((mF11 2 1 rfl).trans (eu2_1))) (u1_1) (((((show F11 1 1 = F9 1 1 from (eF11 1 1).trans (hS11 0 1 rfl))).trans ((show F9 1 1 = F 1 1 from (eF9 1 1)))).trans (eu1_1))) (u1_4) (((((show F11 1 4 = F9 1 4 from (eF11 1 4).trans (hS11 0 4 rfl))).trans ((show F9 1 4 = F 1 4 from (eF9 1 4)))).trans (eu1_4))) (w9_2) (((show A11 5 = A9 5 from (eA11 5))).trans ((eA9 5).trans ew9_2)) (show SHD ((w9_2)) ((u2_1)) ((y9_0_0)) from pz9_0) (show 5 ≤ ((y9_0_0)) by have qh0 := HIDe r10; omega) (show (n5) = ((u2_1)) from q_3949 h2) (show 0 ≤ (u1_1) ∧ (u1_1) ≤ (m11_1) ∧ (m11_1) ≤ 65536 from pz11_1) (show 0 ≤ (u1_4) ∧ (u1_4) ≤ 7 from h4) (fun σ13 F13ₚ A13ₚ Hₚ Oₚ hS13 hA13 y13_1_1 (ey13_1_1 : HID _) y13_1_4 (ey13_1_4 : HID _) pz13_0 pz13_1 pz13_2 => ⟨rfl, ?_⟩))
  refine v_backc (c := (c + c11)) (s := (s + s11)) H oz_K2cls_4 oz_K2cls_10 Hₚ Oₚ (fun F13 A13 H Oₚ eF13 eA13 => ?_)
  have O := OUT_trans O Oₚ
  -- Share.tell
  have cF13 : SF oz_K2clsl_0 F F13 := SF_trans (cF11) (SF_gluc (ι := oz_K2clsl_5) oz_K2cls_10 hS13 eF13 (by decide +kernel)) (any_sub (lₚ := [(1, 1), (1, 2), (1, 3), (1, 4)]) (by decide +kernel))
  have mF13 := SFm_of cF13 oz_K2cls_5
  have cA13 : SA oz_K2clsl_1 A A13 := SA_trans (cA11) (SA_gluc (ι := oz_K2clsl_5) oz_K2cls_10 hA13 eA13 (by decide +kernel)) (any_subA (lₚ := [6]) (by decide +kernel))
  have mA13 := SAm_of cA13 oz_K2cls_6
  exact w_ret rfl (k _ _ _ _ _ _ _ H O (cD11) (cN11) (cF13) (cA13) ((((show F13 1 0 = F11 1 0 from (eF13 1 0).trans (hS13 1 0 rfl)))).trans (pf11_1_0)) (m11_1) ((congrArg (fun q : Nat => (q : Int)) (eN11 6)).trans em11_1) (y13_1_1) (((eF13 1 1).trans ey13_1_1)) (y13_1_4) (((eF13 1 4).trans ey13_1_4)) (y9_0_0) (((((show F13 2 0 = F11 2 0 from (eF13 2 0).trans (hS13 0 0 rfl))).trans ((show F11 2 0 = F9 2 0 from (eF11 2 0)))).trans ((eF9 2 0).trans ey9_0_0))) (w9_2) (((show A13 5 = A11 5 from (eA13 5).trans (funext (hA13 2 rfl)))).trans (((show A11 5 = A9 5 from (eA11 5))).trans ((eA9 5).trans ew9_2))) (show SHD ((w9_2)) ((u2_1)) ((y9_0_0)) from pz9_0) (show DVI ((w4)) ((w9_2)) ((u2_1)) from pz9_1) (show (y9_0_0) = a3 from pz9_2) (show 0 ≤ (y13_1_1) ∧ (y13_1_1) ≤ (m11_1) ∧ (m11_1) ≤ 65536 from pz13_0) (show (y13_1_4) = 0 from pz13_1) (show (u1_1) ≤ (y13_1_1) from pz13_2))
