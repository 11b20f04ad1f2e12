abbrev V148_Row_Share : vV := [(0, 6, [(4, 0), (4, 0), (4, 0), (4, 0), (4, 0), (4, 0), (4, 0), (4, 0), (4, 0), (4, 0), (4, 0), (4, 0), (4, 0), (4, 0), (4, 0), (0, 0), (0, 0), (4, 0), (4, 0)]), (0, 7, [(4, 0), (0, 0), (1, 0), (0, 0), (0, 0)]), (0, 8, [(0, 0), (0, 0), (4, 0), (4, 0), (4, 0), (4, 0), (4, 0), (4, 0), (4, 0), (4, 0), (4, 0), (0, 0), (0, 0)]), (0, 5, [(4, 0), (4, 0), (4, 0), (4, 0), (0, 0), (0, 0), (0, 0), (4, 0), (4, 0), (0, 0), (0, 0), (0, 0), (0, 0), (0, 0), (0, 0), (0, 0), (0, 0), (0, 0), (0, 0)]), (1, 1, []), (1, 1, []), (1, 0, [])]
/-- Packer.packShare: this, #1, #2, this.finder, this.symbolCounts, #2.points, #1.bytes -/
theorem C148_Row_Share {σE : rS} {D N : Nat → Nat} {F : hF} {A : hA} {d c s : Nat} {Q : wQ} (H : HW V148_Row_Share σE D N F A) {a3 : Int} (pf3 : F 0 1 = (D 3 : Int)) (pf4 : F 0 12 = (D 4 : Int)) (pf5 : F 2 2 = (D 5 : Int)) (pf6 : F 1 0 = (D 6 : Int)) (n4 : Int) (en4 : (N 4 : Int) = n4) (n5 : Int) (en5 : (N 5 : Int) = n5) (n6 : Int) (en6 : (N 6 : Int) = n6) (u1_1 : Int) (eu1_1 : F 1 1 = u1_1) (u1_4 : Int) (eu1_4 : F 1 4 = u1_4) (u2_0 : Int) (eu2_0 : F 2 0 = u2_0) (u2_1 : Int) (eu2_1 : F 2 1 = u2_1) (u3_4 : Int) (eu3_4 : F 3 4 = u3_4) (w4 : Int → Int) (ew4 : A 4 = w4) (w5 : Int → Int) (ew5 : A 5 = w5) (h0 : inr (a3)) (h1 : CNT ((w4)) ((u2_1)) ((u3_4)) (a3)) (h2 : (u2_1) ≤ (n4) ∧ (n5) = (u2_1)) (h3 : 0 ≤ (u1_1) ∧ (u1_1) ≤ (n6) ∧ (n6) ≤ 65536) (h4 : 0 ≤ (u1_4) ∧ (u1_4) ≤ 7) (k : ∀ (σ : rS) (D' N' : Nat → Nat) (F' : hF) (A' : hA) (c' s' : Nat), HW V148_Row_Share σ D' N' F' A' → OUT (V148_Row_Share).length D N σE c s D' N' σ c' s' → SD [6] D D' → SD [6] N N' → SF [(1, 0), (1, 1), (1, 2), (1, 3), (1, 4), (2, 0)] F F' → SA [5, 6] A A' → F' 1 0 = (D' 6 : Int) → ∀ m6 : Int, (N' 6 : Int) = m6 → ∀ y1_1 : Int, F' 1 1 = y1_1 → ∀ y1_4 : Int, F' 1 4 = y1_4 → ∀ y2_0 : Int, F' 2 0 = y2_0 → ∀ v5 : Int → Int, A' 5 = v5 → (SHD ((v5)) ((u2_1)) ((y2_0))) → (DVI ((w4)) ((v5)) ((u2_1))) → ((y2_0) = (a3)) → (0 ≤ (y1_1) ∧ (y1_1) ≤ (m6) ∧ (m6) ≤ 65536) → ((y1_4) = 0) → ((u1_1) ≤ (y1_1)) → Q none σ c' s') : Ew 148 (d + 2) 0 (rargs 0 [.ref (D 0), .ref (D 1), .ref (D 2), I a3]) [] σE c s Q := by
  have O := OUT_refl (n := (V148_Row_Share).length) (D := D) (N := N) (σ := σE) (c := c) (s := s)
  have HE := H
  have r1 : HID ((-2147483648 : Int) ≤ u1_1 ∧ u1_1 ≤ 2147483647) := krg_e (show (-2147483648 : Int) ≤ F 1 1 ∧ F 1 1 ≤ 2147483647 from H.krg 1 1 (by decide)) (show F 1 1 = u1_1 from (eu1_1))
  have r2 : HID ((-2147483648 : Int) ≤ u1_4 ∧ u1_4 ≤ 2147483647) := krg_e (show (-2147483648 : Int) ≤ F 1 4 ∧ F 1 4 ≤ 2147483647 from H.krg 1 4 (by decide)) (show F 1 4 = u1_4 from (eu1_4))
  have r3 : HID ((-2147483648 : Int) ≤ u2_0 ∧ u2_0 ≤ 2147483647) := krg_e (show (-2147483648 : Int) ≤ F 2 0 ∧ F 2 0 ≤ 2147483647 from H.krg 2 0 (by decide)) (show F 2 0 = u2_0 from (eu2_0))
  have r4 : HID ((-2147483648 : Int) ≤ u2_1 ∧ u2_1 ≤ 2147483647) := krg_e (show (-2147483648 : Int) ≤ F 2 1 ∧ F 2 1 ≤ 2147483647 from H.krg 2 1 (by decide)) (show F 2 1 = u2_1 from (eu2_1))
  have r5 : HID ((-2147483648 : Int) ≤ u3_4 ∧ u3_4 ≤ 2147483647) := krg_e (show (-2147483648 : Int) ≤ F 3 4 ∧ F 3 4 ≤ 2147483647 from H.krg 3 4 (by decide)) (show F 3 4 = u3_4 from (eu3_4))
  replace pf3 := HIDm pf3
  replace pf4 := HIDm pf4
  replace pf5 := HIDm pf5
  replace pf6 := HIDm pf6
  replace en4 := HIDm en4
  replace en5 := HIDm en5
  replace en6 := HIDm en6
  replace eu1_1 := HIDm eu1_1
  replace eu1_4 := HIDm eu1_4
  replace eu2_0 := HIDm eu2_0
  replace eu2_1 := HIDm eu2_1
  replace eu3_4 := HIDm eu3_4
  have r6 : HID ((0 : Int) ≤ n4 ∧ n4 ≤ 1000000) := nrng (H.nle 4 (by decide)) (show (N 4 : Int) = n4 from en4)
  have r7 : HID ((0 : Int) ≤ n5 ∧ n5 ≤ 1000000) := nrng (H.nle 5 (by decide)) (show (N 5 : Int) = n5 from en5)
  have r8 : HID ((0 : Int) ≤ n6 ∧ n6 ≤ 1000000) := nrng (H.nle 6 (by decide)) (show (N 6 : Int) = n6 from en6)
  have hcf := CNT_f (show CNT ((w4)) ((u2_1)) ((u3_4)) (a3) by assumption)
  refine Ew_of (pc' := 1) (fun _ => x_aload_n rfl rfl) ?_
  refine Ew_of (pc' := 2) (fun _ => x_aload_n rfl rfl) ?_
  refine v_g H (o := 0) (v := .ref (D 4)) rfl rfl rfl rfl rfl (vrf (pf4)) ?_
  refine Ew_of (pc' := 6) (fun _ => x_aload_n rfl rfl) ?_
  refine v_g H (o := 0) (v := .ref (D 3)) rfl rfl rfl rfl rfl (vrf (pf3)) ?_
  refine v_g H (o := 3) (v := I (u3_4)) rfl rfl rfl rfl rfl (congrArg (fun z : Int => I z) ((eu3_4) : F 3 4 = u3_4)) ?_
  refine Ew_of (pc' := 13) (fun _ => x_iload_n rfl rfl) ?_
  refine v_inv H (o := 2) rfl rfl rfl rfl rfl rfl (by rfl) (C178_Ir (D := pul [2, 4, 5] D) (N := pul [2, 4, 5] N) (HW_sub H (VS_of (show vsub V148_Row_Share V178_Ir [2, 4, 5] = true by decide +kernel))) (pf5) (n4) (en4) (n5) (en5) (u2_0) ((eu2_0)) (u2_1) ((eu2_1)) (w4) (ew4) (w5) (ew5) (show inr (u3_4) by have qh0 := HIDe r5; omega) (show inr (a3) by omega) (show CNT ((w4)) ((u2_1)) (u3_4) (a3) by assumption) (show ((u2_1)) ≤ (n4) ∧ (n5) = ((u2_1)) by have qh0 := HIDe r4; have qh1 := HIDe r6; have qh2 := HIDe r7; omega) (fun σ9 F9' A9' H' O' hS9 hA9 y9_0_0 ey9_0_0 w9_2 ew9_2 pz9_0 pz9_1 pz9_2 pz9_3 => ⟨rfl, ?_⟩))
  replace ey9_0_0 := HIDm ey9_0_0
  refine v_back (c := c) (s := s) H (show vsub V148_Row_Share V178_Ir [2, 4, 5] = true by decide +kernel) H' O' (fun F9 A9 H O' eF9 eA9 => ?_)
  have O := OUT_trans O O'
  -- Share.takeCounts
  have r10 : HID ((-2147483648 : Int) ≤ y9_0_0 ∧ y9_0_0 ≤ 2147483647) := krg_e (show (-2147483648 : Int) ≤ F9 2 0 ∧ F9 2 0 ≤ 2147483647 from H.krg 2 0 (by decide)) (show F9 2 0 = y9_0_0 from ((eF9 2 0).trans ey9_0_0))
  refine Ew_of (pc' := 17) (fun _ => x_aload_n rfl rfl) ?_
  refine Ew_of (pc' := 20) (fun _ => x_sipush (z := 128) rfl (by decide)) ?_
  refine v_inv H (o := 1) rfl rfl rfl rfl rfl rfl (by rfl) (C157 (D := pul [1, 6] D) (N := pul [1, 6] N) (HW_sub H (VS_of (show vsub V148_Row_Share V157 [1, 6] = true by decide +kernel))) ((((show F9 1 0 = F 1 0 from (eF9 1 0)))).trans (pf6)) (n6) (en6) (u1_1) ((((show F9 1 1 = F 1 1 from (eF9 1 1))).trans (eu1_1))) (A 6) ((show A9 6 = A 6 from (eA9 6))) (show inr (128) by omega) (show 0 ≤ (u1_1) ∧ (u1_1) ≤ (n6) ∧ (n6) ≤ 65536 by have qh0 := HIDe r1; have qh1 := HIDe r8; omega) (fun z11 σ11 D11' N11' F11' A11' c11 s11 H' O' hD11 hN11 hS11 hA11 pm11_1 m11_1 em11_1 w11_1 ew11_1 pz11_0 pz11_1 pz11_2 pz11_3 pz11_4 => ⟨rretB rfl pz11_0, ?_⟩))
  replace pm11_1 := HIDm pm11_1
  replace em11_1 := HIDm em11_1
  refine v_backM (c := c) (s := s) H (show vsub V148_Row_Share V157 [1, 6] = true by decide +kernel) H' O' hD11 (show vmov V148_Row_Share [1, 6] [1] = true by decide +kernel) (fun D11 N11 F11 A11 H O' eD11 eN11 eF11 eA11 => ?_)
  have O := OUT_trans O O'
  -- Row.reserve
  have pf11_0_1 : HID (F11 0 1 = (D11 3 : Int)) := ((show F11 0 1 = F9 0 1 from (eF11 0 1))).trans (((((show F9 0 1 = F 0 1 from (eF9 0 1)))).trans (pf3)).trans (congrArg (fun q : Nat => (q : Int)) ((show D11 3 = D 3 from (eD11 3))).symm))
  have pf11_0_12 : HID (F11 0 12 = (D11 4 : Int)) := ((show F11 0 12 = F9 0 12 from (eF11 0 12))).trans (((((show F9 0 12 = F 0 12 from (eF9 0 12)))).trans (pf4)).trans (congrArg (fun q : Nat => (q : Int)) ((show D11 4 = D 4 from (eD11 4))).symm))
  have pf11_1_0 : HID (F11 1 0 = (D11 6 : Int)) := (eF11 1 0).trans (pm11_1.trans (congrArg (fun q : Nat => (q : Int)) (eD11 6).symm))
  have pf11_2_2 : HID (F11 2 2 = (D11 5 : Int)) := ((show F11 2 2 = F9 2 2 from (eF11 2 2))).trans (((((show F9 2 2 = F 2 2 from (eF9 2 2).trans (hS9 0 2 rfl)))).trans (pf5)).trans (congrArg (fun q : Nat => (q : Int)) ((show D11 5 = D 5 from (eD11 5))).symm))
  have r12 : HID ((0 : Int) ≤ m11_1 ∧ m11_1 ≤ 1000000) := nrng (H.nle 6 (by decide)) (show (N11 6 : Int) = m11_1 from (congrArg (fun q : Nat => (q : Int)) (eN11 6)).trans em11_1)
  refine Ew_of (pc' := 24) (fun _ => x_pop rfl rfl) ?_
  refine Ew_of (pc' := 25) (fun _ => x_aload_n rfl rfl) ?_
  refine Ew_of (pc' := 26) (fun _ => x_aload_n rfl rfl) ?_
  refine Ew_stk (show ([.ref (D 1), .ref (D 2)] : List Value) = [.ref (D11 1), .ref (D11 2)] by rw [show D11 1 = D 1 from ((show D11 1 = D 1 from (eD11 1).trans (hD11 0 rfl))), show D11 2 = D 2 from ((show D11 2 = D 2 from (eD11 2)))]) ?_
  have r13 : HID ((0 : Int) ≤ F 1 2 ∧ F 1 2 ≤ 1) := krg_e (show (0 : Int) ≤ F11 1 2 ∧ F11 1 2 ≤ 1 from H.krg 1 2 (by decide)) (show F11 1 2 = F 1 2 from (((show F11 1 2 = F9 1 2 from (eF11 1 2).trans (hS11 0 2 rfl))).trans ((show F9 1 2 = F 1 2 from (eF9 1 2)))))
  have r14 : HID ((-2147483648 : Int) ≤ F 1 3 ∧ F 1 3 ≤ 2147483647) := krg_e (show (-2147483648 : Int) ≤ F11 1 3 ∧ F11 1 3 ≤ 2147483647 from H.krg 1 3 (by decide)) (show F11 1 3 = F 1 3 from (((show F11 1 3 = F9 1 3 from (eF11 1 3).trans (hS11 0 3 rfl))).trans ((show F9 1 3 = F 1 3 from (eF9 1 3)))))
  refine v_inv H (o := 2) rfl rfl rfl rfl rfl rfl (by rfl) (C181_Row (D := pul [2, 1, 5, 6] D11) (N := pul [2, 1, 5, 6] N11) (HW_sub H (VS_of (show vsub V148_Row_Share V181_Row [2, 1, 5, 6] = true by decide +kernel))) (pf11_2_2) (pf11_1_0) (n5) ((congrArg (fun q : Nat => (q : Int)) (show N11 5 = N 5 from (eN11 5))).trans (en5)) (m11_1) ((congrArg (fun q : Nat => (q : Int)) (eN11 6)).trans em11_1) (y9_0_0) ((((show F11 2 0 = F9 2 0 from (eF11 2 0))).trans ((eF9 2 0).trans ey9_0_0))) (u2_1) (((((show F11 2 1 = F9 2 1 from (eF11 2 1))).trans ((show F9 2 1 = F 2 1 from (eF9 2 1).trans (hS9 0 1 rfl)))).trans (eu2_1))) (u1_1) (((((show F11 1 1 = F9 1 1 from (eF11 1 1).trans (hS11 0 1 rfl))).trans ((show F9 1 1 = F 1 1 from (eF9 1 1)))).trans (eu1_1))) (F 1 2) ((((show F11 1 2 = F9 1 2 from (eF11 1 2).trans (hS11 0 2 rfl))).trans ((show F9 1 2 = F 1 2 from (eF9 1 2))))) (F 1 3) ((((show F11 1 3 = F9 1 3 from (eF11 1 3).trans (hS11 0 3 rfl))).trans ((show F9 1 3 = F 1 3 from (eF9 1 3))))) (u1_4) (((((show F11 1 4 = F9 1 4 from (eF11 1 4).trans (hS11 0 4 rfl))).trans ((show F9 1 4 = F 1 4 from (eF9 1 4)))).trans (eu1_4))) (w9_2) (((show A11 5 = A9 5 from (eA11 5))).trans ((eA9 5).trans ew9_2)) (w11_1) ((eA11 6).trans ew11_1) (show SHD ((w9_2)) ((u2_1)) ((y9_0_0)) by assumption) (show 5 ≤ ((y9_0_0)) by have qh0 := HIDe r10; omega) (show (n5) = ((u2_1)) by have qh0 := HIDe r4; have qh1 := HIDe r7; omega) (show 0 ≤ (u1_1) ∧ (u1_1) ≤ (m11_1) ∧ (m11_1) ≤ 65536 by have qh0 := HIDe r1; have qh1 := HIDe r12; omega) (show 0 ≤ (u1_4) ∧ (u1_4) ≤ 7 by have qh0 := HIDe r2; omega) (fun σ15 F15' A15' H' O' hS15 hA15 y15_1_1 ey15_1_1 y15_1_2 ey15_1_2 y15_1_3 ey15_1_3 y15_1_4 ey15_1_4 w15_3 ew15_3 pz15_0 pz15_1 pz15_2 pz15_3 pz15_4 => ⟨rfl, ?_⟩))
  replace ey15_1_1 := HIDm ey15_1_1
  replace ey15_1_2 := HIDm ey15_1_2
  replace ey15_1_3 := HIDm ey15_1_3
  replace ey15_1_4 := HIDm ey15_1_4
  refine v_back (c := (c + c11)) (s := (s + s11)) H (show vsub V148_Row_Share V181_Row [2, 1, 5, 6] = true by decide +kernel) H' O' (fun F15 A15 H O' eF15 eA15 => ?_)
  have O := OUT_trans O O'
  -- Share.tell
  have r16 : HID ((-2147483648 : Int) ≤ y15_1_1 ∧ y15_1_1 ≤ 2147483647) := krg_e (show (-2147483648 : Int) ≤ F15 1 1 ∧ F15 1 1 ≤ 2147483647 from H.krg 1 1 (by decide)) (show F15 1 1 = y15_1_1 from ((eF15 1 1).trans ey15_1_1))
  have r17 : HID ((0 : Int) ≤ y15_1_2 ∧ y15_1_2 ≤ 1) := krg_e (show (0 : Int) ≤ F15 1 2 ∧ F15 1 2 ≤ 1 from H.krg 1 2 (by decide)) (show F15 1 2 = y15_1_2 from ((eF15 1 2).trans ey15_1_2))
  have r18 : HID ((-2147483648 : Int) ≤ y15_1_3 ∧ y15_1_3 ≤ 2147483647) := krg_e (show (-2147483648 : Int) ≤ F15 1 3 ∧ F15 1 3 ≤ 2147483647 from H.krg 1 3 (by decide)) (show F15 1 3 = y15_1_3 from ((eF15 1 3).trans ey15_1_3))
  have r19 : HID ((-2147483648 : Int) ≤ y15_1_4 ∧ y15_1_4 ≤ 2147483647) := krg_e (show (-2147483648 : Int) ≤ F15 1 4 ∧ F15 1 4 ≤ 2147483647 from H.krg 1 4 (by decide)) (show F15 1 4 = y15_1_4 from ((eF15 1 4).trans ey15_1_4))
  exact w_ret rfl (k _ _ _ _ _ _ _ H O (SD_trans (SD_refl) (SD_glu (ι := [1, 6]) hD11 eD11 (by decide +kernel)) (any_subA (l' := [6]) rfl)) (SD_trans (SD_refl) (SD_glu (ι := [1, 6]) hN11 eN11 (by decide +kernel)) (any_subA (l' := [6]) rfl)) (SF_trans (SF_trans (SF_trans (SF_refl) (SF_glu (ι := [2, 4, 5]) hS9 eF9 (by decide +kernel)) (any_sub (l' := [(2, 0)]) rfl)) (SF_glu (ι := [1, 6]) hS11 eF11 (by decide +kernel)) (any_sub (l' := [(1, 0)]) rfl)) (SF_glu (ι := [2, 1, 5, 6]) hS15 eF15 (by decide +kernel)) (any_sub (l' := [(1, 1), (1, 2), (1, 3), (1, 4)]) rfl)) (SA_trans (SA_trans (SA_trans (SA_refl) (SA_glu (ι := [2, 4, 5]) hA9 eA9 (by decide +kernel)) (any_subA (l' := [5]) rfl)) (SA_glu (ι := [1, 6]) hA11 eA11 (by decide +kernel)) (any_subA (l' := [6]) rfl)) (SA_glu (ι := [2, 1, 5, 6]) hA15 eA15 (by decide +kernel)) (any_subA (l' := [6]) rfl)) ((((show F15 1 0 = F11 1 0 from (eF15 1 0).trans (hS15 1 0 rfl)))).trans (pf11_1_0)) (m11_1) ((congrArg (fun q : Nat => (q : Int)) (eN11 6)).trans em11_1) (y15_1_1) (((eF15 1 1).trans ey15_1_1)) (y15_1_4) (((eF15 1 4).trans ey15_1_4)) (y9_0_0) (((((show F15 2 0 = F11 2 0 from (eF15 2 0).trans (hS15 0 0 rfl))).trans ((show F11 2 0 = F9 2 0 from (eF11 2 0)))).trans ((eF9 2 0).trans ey9_0_0))) (w9_2) (((show A15 5 = A11 5 from (eA15 5).trans (funext (hA15 2 rfl)))).trans (((show A11 5 = A9 5 from (eA11 5))).trans ((eA9 5).trans ew9_2))) (show SHD ((w9_2)) ((u2_1)) ((y9_0_0)) by assumption) (show DVI ((w4)) ((w9_2)) ((u2_1)) by assumption) (show (y9_0_0) = a3 by have qh0 := HIDe r10; omega) (show 0 ≤ (y15_1_1) ∧ (y15_1_1) ≤ (m11_1) ∧ (m11_1) ≤ 65536 by have qh0 := HIDe r12; have qh1 := HIDe r16; omega) (show (y15_1_4) = 0 by have qh0 := HIDe r19; omega) (show (u1_1) ≤ (y15_1_1) by have qh0 := HIDe r1; have qh1 := HIDe r16; omega))
