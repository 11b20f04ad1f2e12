abbrev V14 : vV := [(0, 0, [(4, 0), (4, 0), (4, 0), (4, 0), (4, 0), (4, 0), (4, 0), (4, 0), (4, 0), (4, 0), (4, 0), (4, 0), (4, 0), (4, 0), (4, 0), (4, 0), (4, 0), (0, 0), (0, 0)]), (1, 4, []), (0, 7, [(4, 0), (0, 0), (1, 0), (0, 0), (0, 0)]), (1, 0, []), (0, 7, [(4, 0), (0, 0), (1, 0), (0, 0), (0, 0)]), (1, 0, []), (0, 7, [(4, 0), (0, 0), (1, 0), (0, 0), (0, 0)]), (1, 0, []), (0, 7, [(4, 0), (0, 0), (1, 0), (0, 0), (0, 0)]), (1, 0, []), (0, 7, [(4, 0), (0, 0), (1, 0), (0, 0), (0, 0)]), (1, 0, [])]
/-- PackHouse.history: this, this.rows, this.rows.0, this.rows.0.bytes, this.rows.1, this.rows.1.bytes, this.rows.2, this.rows.2.bytes, this.rows.3, this.rows.3.bytes, this.past, this.past.bytes -/
theorem C14 {σE : rS} {D N : Nat → Nat} {F : hF} {A : hA} {d c s : Nat} {Q : wQ} (H : HW V14 σE D N F A) {a1 : Int} (pf1 : F 0 0 = (D 1 : Int)) (pf2 : A 1 0 = (D 2 : Int)) (pf3 : F 2 0 = (D 3 : Int)) (pf4 : A 1 1 = (D 4 : Int)) (pf5 : F 4 0 = (D 5 : Int)) (pf6 : A 1 2 = (D 6 : Int)) (pf7 : F 6 0 = (D 7 : Int)) (pf8 : A 1 3 = (D 8 : Int)) (pf9 : F 8 0 = (D 9 : Int)) (pf10 : F 0 2 = (D 10 : Int)) (pf11 : F 10 0 = (D 11 : Int)) (n1 : Int) (en1 : (N 1 : Int) = n1) (n3 : Int) (en3 : (N 3 : Int) = n3) (n5 : Int) (en5 : (N 5 : Int) = n5) (n7 : Int) (en7 : (N 7 : Int) = n7) (n9 : Int) (en9 : (N 9 : Int) = n9) (n11 : Int) (en11 : (N 11 : Int) = n11) (u2_1 : Int) (eu2_1 : F 2 1 = u2_1) (u4_1 : Int) (eu4_1 : F 4 1 = u4_1) (u6_1 : Int) (eu6_1 : F 6 1 = u6_1) (u8_1 : Int) (eu8_1 : F 8 1 = u8_1) (u10_1 : Int) (eu10_1 : F 10 1 = u10_1) (h0 : inr (a1)) (h1 : (n1) = 4) (h2 : 0 ≤ (u2_1) ∧ (u2_1) ≤ (n3) ∧ (n3) ≤ 65536) (h3 : 0 ≤ (u4_1) ∧ (u4_1) ≤ (n5) ∧ (n5) ≤ 65536) (h4 : 0 ≤ (u6_1) ∧ (u6_1) ≤ (n7) ∧ (n7) ≤ 65536) (h5 : 0 ≤ (u8_1) ∧ (u8_1) ≤ (n9) ∧ (n9) ≤ 65536) (h6 : 0 ≤ (u10_1) ∧ (u10_1) ≤ (n11) ∧ (n11) ≤ 65536) (k : ∀ (z : Int) (σ : rS) (Dₚ Nₚ : Nat → Nat) (Fₚ : hF) (Aₚ : hA) (cₚ sₚ : Nat), HW V14 σ Dₚ Nₚ Fₚ Aₚ → OUT (V14).length D N σE c s Dₚ Nₚ σ cₚ sₚ → SD [11] D Dₚ → SD [11] N Nₚ → SF [(10, 0), (10, 1), (10, 2), (10, 3), (10, 4)] F Fₚ → SA [11] A Aₚ → Fₚ 10 0 = (Dₚ 11 : Int) → ∀ m11 : Int, (Nₚ 11 : Int) = m11 → ∀ y10_1 : Int, Fₚ 10 1 = y10_1 → ((z) = 0 ∨ (z) = 1) → (0 ≤ (u2_1) ∧ (u2_1) ≤ (n3) ∧ (n3) ≤ 65536) → (0 ≤ (u4_1) ∧ (u4_1) ≤ (n5) ∧ (n5) ≤ 65536) → (0 ≤ (u6_1) ∧ (u6_1) ≤ (n7) ∧ (n7) ≤ 65536) → (0 ≤ (u8_1) ∧ (u8_1) ≤ (n9) ∧ (n9) ≤ 65536) → (0 ≤ (y10_1) ∧ (y10_1) ≤ (m11) ∧ (m11) ≤ 65536) → Q (some (I z)) σ cₚ sₚ) : Ew 14 (d + 4) 0 (rargs 0 [.ref (D 0), I a1]) [] σE c s Q := by
  have O := OUT_refl (n := (V14).length) (D := D) (N := N) (σ := σE) (c := c) (s := s)
  have HE := H
  have r1 : HID ((-2147483648 : Int) ≤ u2_1 ∧ u2_1 ≤ 2147483647) := krg_e (show (-2147483648 : Int) ≤ F 2 1 ∧ F 2 1 ≤ 2147483647 from H.krg 2 1 (by decide)) (show F 2 1 = u2_1 from (eu2_1))
  have r2 : HID ((-2147483648 : Int) ≤ u4_1 ∧ u4_1 ≤ 2147483647) := krg_e (show (-2147483648 : Int) ≤ F 4 1 ∧ F 4 1 ≤ 2147483647 from H.krg 4 1 (by decide)) (show F 4 1 = u4_1 from (eu4_1))
  have r3 : HID ((-2147483648 : Int) ≤ u6_1 ∧ u6_1 ≤ 2147483647) := krg_e (show (-2147483648 : Int) ≤ F 6 1 ∧ F 6 1 ≤ 2147483647 from H.krg 6 1 (by decide)) (show F 6 1 = u6_1 from (eu6_1))
  have r4 : HID ((-2147483648 : Int) ≤ u8_1 ∧ u8_1 ≤ 2147483647) := krg_e (show (-2147483648 : Int) ≤ F 8 1 ∧ F 8 1 ≤ 2147483647 from H.krg 8 1 (by decide)) (show F 8 1 = u8_1 from (eu8_1))
  have r5 : HID ((-2147483648 : Int) ≤ u10_1 ∧ u10_1 ≤ 2147483647) := krg_e (show (-2147483648 : Int) ≤ F 10 1 ∧ F 10 1 ≤ 2147483647 from H.krg 10 1 (by decide)) (show F 10 1 = u10_1 from (eu10_1))
  replace pf1 := HIDm pf1
  replace pf2 := HIDm pf2
  replace pf3 := HIDm pf3
  replace pf4 := HIDm pf4
  replace pf5 := HIDm pf5
  replace pf6 := HIDm pf6
  replace pf7 := HIDm pf7
  replace pf8 := HIDm pf8
  replace pf9 := HIDm pf9
  replace pf10 := HIDm pf10
  replace pf11 := HIDm pf11
  replace en1 := HIDm en1
  replace en3 := HIDm en3
  replace en5 := HIDm en5
  replace en7 := HIDm en7
  replace en9 := HIDm en9
  replace en11 := HIDm en11
  replace eu2_1 := HIDm eu2_1
  replace eu4_1 := HIDm eu4_1
  replace eu6_1 := HIDm eu6_1
  replace eu8_1 := HIDm eu8_1
  replace eu10_1 := HIDm eu10_1
  have r6 : HID ((0 : Int) ≤ n1 ∧ n1 ≤ 1000000) := nrng (H.nle 1 (by decide)) (show (N 1 : Int) = n1 from en1)
  have r7 : HID ((0 : Int) ≤ n3 ∧ n3 ≤ 1000000) := nrng (H.nle 3 (by decide)) (show (N 3 : Int) = n3 from en3)
  have r8 : HID ((0 : Int) ≤ n5 ∧ n5 ≤ 1000000) := nrng (H.nle 5 (by decide)) (show (N 5 : Int) = n5 from en5)
  have r9 : HID ((0 : Int) ≤ n7 ∧ n7 ≤ 1000000) := nrng (H.nle 7 (by decide)) (show (N 7 : Int) = n7 from en7)
  have r10 : HID ((0 : Int) ≤ n9 ∧ n9 ≤ 1000000) := nrng (H.nle 9 (by decide)) (show (N 9 : Int) = n9 from en9)
  have r11 : HID ((0 : Int) ≤ n11 ∧ n11 ≤ 1000000) := nrng (H.nle 11 (by decide)) (show (N 11 : Int) = n11 from en11)
  refine Ew_of (pcₚ := 1) (fun _ => x_iload_n rfl rfl) ?_
  refine w_stat24 rfl rfl (by rfl) (C24 (D := pul [] D) (N := pul [] N) (HW_sub H (VS_of (show vsub V14 V24 [] = true by decide +kernel))) (show inr (a1) by omega) (fun z12 σ12 F12ₚ A12ₚ Hₚ Oₚ hS12 hA12 pz12_0 pz12_1 => ⟨rretB rfl pz12_0, ?_⟩))
  refine v_back (c := c) (s := s) H (show vsub V14 V24 [] = true by decide +kernel) Hₚ Oₚ (fun F12 A12 H Oₚ eF12 eA12 => ?_)
  have O := OUT_trans O Oₚ
  -- PackHouse.isRow
  refine w_ifne (t := 9) rfl rfl (show inr (z12) by omega) (fun b13 => ?_) (fun b13 => ?_)
  · refine Ew_of (pcₚ := 10) (fun _ => x_aload_n rfl rfl) ?_
    refine v_g H (o := 0) (v := .ref (D 10)) rfl rfl rfl rfl rfl (vrf ((((show F12 0 2 = F 0 2 from (eF12 0 2)))).trans (pf10))) ?_
    refine Ew_of (pcₚ := 14) (fun _ => x_aload_n rfl rfl) ?_
    refine v_g H (o := 0) (v := .ref (D 1)) rfl rfl rfl rfl rfl (vrf ((((show F12 0 0 = F 0 0 from (eF12 0 0)))).trans (pf1))) ?_
    refine Ew_of (pcₚ := 18) (fun _ => x_iload_n rfl rfl) ?_
    rcases (show a1 = 0 ∨ a1 = 1 ∨ a1 = 2 ∨ a1 = 3 by omega) with b14 | b14 | b14 | b14
    · refine v_lR H (o := 1) rfl rfl rfl rfl rfl (n := n1) (en1) (show 0 ≤ a1 ∧ a1 < n1 by have qh0 := HIDe r6; omega) (z := ((D 2 : Nat) : Int)) (v := .ref (D 2)) ((congrArg (A12 1) b14).trans ((congrFun (((show A12 1 = A 1 from (eA12 1)))) 0).trans (pf2))) (vrf rfl) ?_
      refine v_inv H (o := 10) rfl rfl rfl rfl rfl rfl (by rfl) (C158_Row (D := pul [10, 2, 11, 3] D) (N := pul [10, 2, 11, 3] N) (HW_sub H (VS_of (show vsub V14 V158_Row [10, 2, 11, 3] = true by decide +kernel))) ((((show F12 10 0 = F 10 0 from (eF12 10 0)))).trans (pf11)) ((((show F12 2 0 = F 2 0 from (eF12 2 0)))).trans (pf3)) (n11) (en11) (n3) (en3) (u10_1) ((((show F12 10 1 = F 10 1 from (eF12 10 1))).trans (eu10_1))) (u2_1) ((((show F12 2 1 = F 2 1 from (eF12 2 1))).trans (eu2_1))) (show 0 ≤ (u10_1) ∧ (u10_1) ≤ (n11) ∧ (n11) ≤ 65536 by have qh0 := HIDe r11; have qh1 := HIDe r5; omega) (show 0 ≤ (u2_1) ∧ (u2_1) ≤ (n3) ∧ (n3) ≤ 65536 by have qh0 := HIDe r1; have qh1 := HIDe r7; omega) (fun σ15 D15ₚ N15ₚ F15ₚ A15ₚ c15 s15 Hₚ Oₚ hD15 hN15 hS15 hA15 pm15_2 m15_2 em15_2 y15_0_1 ey15_0_1 pz15_0 pz15_1 => ⟨rfl, ?_⟩))
      replace pm15_2 := HIDm pm15_2
      replace em15_2 := HIDm em15_2
      replace ey15_0_1 := HIDm ey15_0_1
      refine v_backM (c := c) (s := s) H (show vsub V14 V158_Row [10, 2, 11, 3] = true by decide +kernel) Hₚ Oₚ hD15 (show vmov V14 [10, 2, 11, 3] [2] = true by decide +kernel) (fun D15 N15 F15 A15 H Oₚ eD15 eN15 eF15 eA15 => ?_)
      have O := OUT_trans O Oₚ
      -- Row.become
      have pe15_1_0 : HID (A15 1 0 = (D15 2 : Int)) := (congrFun ((show A15 1 = A12 1 from (eA15 1))) 0).trans (((congrFun (((show A12 1 = A 1 from (eA12 1)))) 0).trans (pf2)).trans (congrArg (fun q : Nat => (q : Int)) ((show D15 2 = D 2 from (eD15 2).trans (hD15 1 rfl))).symm))
      have pe15_1_1 : HID (A15 1 1 = (D15 4 : Int)) := (congrFun ((show A15 1 = A12 1 from (eA15 1))) 1).trans (((congrFun (((show A12 1 = A 1 from (eA12 1)))) 1).trans (pf4)).trans (congrArg (fun q : Nat => (q : Int)) ((show D15 4 = D 4 from (eD15 4))).symm))
      have pe15_1_2 : HID (A15 1 2 = (D15 6 : Int)) := (congrFun ((show A15 1 = A12 1 from (eA15 1))) 2).trans (((congrFun (((show A12 1 = A 1 from (eA12 1)))) 2).trans (pf6)).trans (congrArg (fun q : Nat => (q : Int)) ((show D15 6 = D 6 from (eD15 6))).symm))
      have pe15_1_3 : HID (A15 1 3 = (D15 8 : Int)) := (congrFun ((show A15 1 = A12 1 from (eA15 1))) 3).trans (((congrFun (((show A12 1 = A 1 from (eA12 1)))) 3).trans (pf8)).trans (congrArg (fun q : Nat => (q : Int)) ((show D15 8 = D 8 from (eD15 8))).symm))
      have pf15_0_0 : HID (F15 0 0 = (D15 1 : Int)) := ((show F15 0 0 = F12 0 0 from (eF15 0 0))).trans (((((show F12 0 0 = F 0 0 from (eF12 0 0)))).trans (pf1)).trans (congrArg (fun q : Nat => (q : Int)) ((show D15 1 = D 1 from (eD15 1))).symm))
      have pf15_0_2 : HID (F15 0 2 = (D15 10 : Int)) := ((show F15 0 2 = F12 0 2 from (eF15 0 2))).trans (((((show F12 0 2 = F 0 2 from (eF12 0 2)))).trans (pf10)).trans (congrArg (fun q : Nat => (q : Int)) ((show D15 10 = D 10 from (eD15 10).trans (hD15 0 rfl))).symm))
      have pf15_10_0 : HID (F15 10 0 = (D15 11 : Int)) := (eF15 10 0).trans (pm15_2.trans (congrArg (fun q : Nat => (q : Int)) (eD15 11).symm))
      have pf15_2_0 : HID (F15 2 0 = (D15 3 : Int)) := ((show F15 2 0 = F12 2 0 from (eF15 2 0).trans (hS15 1 0 rfl))).trans (((((show F12 2 0 = F 2 0 from (eF12 2 0)))).trans (pf3)).trans (congrArg (fun q : Nat => (q : Int)) ((show D15 3 = D 3 from (eD15 3).trans (hD15 3 rfl))).symm))
      have pf15_4_0 : HID (F15 4 0 = (D15 5 : Int)) := ((show F15 4 0 = F12 4 0 from (eF15 4 0))).trans (((((show F12 4 0 = F 4 0 from (eF12 4 0)))).trans (pf5)).trans (congrArg (fun q : Nat => (q : Int)) ((show D15 5 = D 5 from (eD15 5))).symm))
      have pf15_6_0 : HID (F15 6 0 = (D15 7 : Int)) := ((show F15 6 0 = F12 6 0 from (eF15 6 0))).trans (((((show F12 6 0 = F 6 0 from (eF12 6 0)))).trans (pf7)).trans (congrArg (fun q : Nat => (q : Int)) ((show D15 7 = D 7 from (eD15 7))).symm))
      have pf15_8_0 : HID (F15 8 0 = (D15 9 : Int)) := ((show F15 8 0 = F12 8 0 from (eF15 8 0))).trans (((((show F12 8 0 = F 8 0 from (eF12 8 0)))).trans (pf9)).trans (congrArg (fun q : Nat => (q : Int)) ((show D15 9 = D 9 from (eD15 9))).symm))
      have r16 : HID ((0 : Int) ≤ m15_2 ∧ m15_2 ≤ 1000000) := nrng (H.nle 11 (by decide)) (show (N15 11 : Int) = m15_2 from (congrArg (fun q : Nat => (q : Int)) (eN15 11)).trans em15_2)
      have r17 : HID ((-2147483648 : Int) ≤ y15_0_1 ∧ y15_0_1 ≤ 2147483647) := krg_e (show (-2147483648 : Int) ≤ F15 10 1 ∧ F15 10 1 ≤ 2147483647 from H.krg 10 1 (by decide)) (show F15 10 1 = y15_0_1 from ((eF15 10 1).trans ey15_0_1))
      refine Ew_of (pcₚ := 23) (fun _ => x_iconst rfl) ?_
      exact w_ireturn rfl (k (1) _ _ _ _ _ _ _ H O (SD_trans (SD_refl) (SD_glu (ι := [10, 2, 11, 3]) hD15 eD15 (by decide +kernel)) (any_subA (lₚ := [11]) rfl)) (SD_trans (SD_refl) (SD_glu (ι := [10, 2, 11, 3]) hN15 eN15 (by decide +kernel)) (any_subA (lₚ := [11]) rfl)) (SF_trans (SF_trans (SF_refl) (SF_glu (ι := []) hS12 eF12 (by decide +kernel)) (any_sub (lₚ := []) rfl)) (SF_glu (ι := [10, 2, 11, 3]) hS15 eF15 (by decide +kernel)) (any_sub (lₚ := [(10, 0), (10, 1), (10, 2), (10, 3), (10, 4)]) rfl)) (SA_trans (SA_trans (SA_refl) (SA_glu (ι := []) hA12 eA12 (by decide +kernel)) (any_subA (lₚ := []) rfl)) (SA_glu (ι := [10, 2, 11, 3]) hA15 eA15 (by decide +kernel)) (any_subA (lₚ := [11]) rfl)) (pf15_10_0) (m15_2) ((congrArg (fun q : Nat => (q : Int)) (eN15 11)).trans em15_2) (y15_0_1) (((eF15 10 1).trans ey15_0_1)) (show (1) = 0 ∨ (1) = 1 by omega) (show 0 ≤ (u2_1) ∧ (u2_1) ≤ (n3) ∧ (n3) ≤ 65536 by have qh0 := HIDe r1; have qh1 := HIDe r7; omega) (show 0 ≤ (u4_1) ∧ (u4_1) ≤ (n5) ∧ (n5) ≤ 65536 by have qh0 := HIDe r2; have qh1 := HIDe r8; omega) (show 0 ≤ (u6_1) ∧ (u6_1) ≤ (n7) ∧ (n7) ≤ 65536 by have qh0 := HIDe r3; have qh1 := HIDe r9; omega) (show 0 ≤ (u8_1) ∧ (u8_1) ≤ (n9) ∧ (n9) ≤ 65536 by have qh0 := HIDe r10; have qh1 := HIDe r4; omega) (show 0 ≤ (y15_0_1) ∧ (y15_0_1) ≤ (m15_2) ∧ (m15_2) ≤ 65536 by have qh0 := HIDe r16; have qh1 := HIDe r17; omega))
    · refine v_lR H (o := 1) rfl rfl rfl rfl rfl (n := n1) (en1) (show 0 ≤ a1 ∧ a1 < n1 by have qh0 := HIDe r6; omega) (z := ((D 4 : Nat) : Int)) (v := .ref (D 4)) ((congrArg (A12 1) b14).trans ((congrFun (((show A12 1 = A 1 from (eA12 1)))) 1).trans (pf4))) (vrf rfl) ?_
      refine v_inv H (o := 10) rfl rfl rfl rfl rfl rfl (by rfl) (C158_Row (D := pul [10, 4, 11, 5] D) (N := pul [10, 4, 11, 5] N) (HW_sub H (VS_of (show vsub V14 V158_Row [10, 4, 11, 5] = true by decide +kernel))) ((((show F12 10 0 = F 10 0 from (eF12 10 0)))).trans (pf11)) ((((show F12 4 0 = F 4 0 from (eF12 4 0)))).trans (pf5)) (n11) (en11) (n5) (en5) (u10_1) ((((show F12 10 1 = F 10 1 from (eF12 10 1))).trans (eu10_1))) (u4_1) ((((show F12 4 1 = F 4 1 from (eF12 4 1))).trans (eu4_1))) (show 0 ≤ (u10_1) ∧ (u10_1) ≤ (n11) ∧ (n11) ≤ 65536 by have qh0 := HIDe r11; have qh1 := HIDe r5; omega) (show 0 ≤ (u4_1) ∧ (u4_1) ≤ (n5) ∧ (n5) ≤ 65536 by have qh0 := HIDe r2; have qh1 := HIDe r8; omega) (fun σ18 D18ₚ N18ₚ F18ₚ A18ₚ c18 s18 Hₚ Oₚ hD18 hN18 hS18 hA18 pm18_2 m18_2 em18_2 y18_0_1 ey18_0_1 pz18_0 pz18_1 => ⟨rfl, ?_⟩))
      replace pm18_2 := HIDm pm18_2
      replace em18_2 := HIDm em18_2
      replace ey18_0_1 := HIDm ey18_0_1
      refine v_backM (c := c) (s := s) H (show vsub V14 V158_Row [10, 4, 11, 5] = true by decide +kernel) Hₚ Oₚ hD18 (show vmov V14 [10, 4, 11, 5] [2] = true by decide +kernel) (fun D18 N18 F18 A18 H Oₚ eD18 eN18 eF18 eA18 => ?_)
      have O := OUT_trans O Oₚ
      -- Row.become
      have pe18_1_0 : HID (A18 1 0 = (D18 2 : Int)) := (congrFun ((show A18 1 = A12 1 from (eA18 1))) 0).trans (((congrFun (((show A12 1 = A 1 from (eA12 1)))) 0).trans (pf2)).trans (congrArg (fun q : Nat => (q : Int)) ((show D18 2 = D 2 from (eD18 2))).symm))
      have pe18_1_1 : HID (A18 1 1 = (D18 4 : Int)) := (congrFun ((show A18 1 = A12 1 from (eA18 1))) 1).trans (((congrFun (((show A12 1 = A 1 from (eA12 1)))) 1).trans (pf4)).trans (congrArg (fun q : Nat => (q : Int)) ((show D18 4 = D 4 from (eD18 4).trans (hD18 1 rfl))).symm))
      have pe18_1_2 : HID (A18 1 2 = (D18 6 : Int)) := (congrFun ((show A18 1 = A12 1 from (eA18 1))) 2).trans (((congrFun (((show A12 1 = A 1 from (eA12 1)))) 2).trans (pf6)).trans (congrArg (fun q : Nat => (q : Int)) ((show D18 6 = D 6 from (eD18 6))).symm))
      have pe18_1_3 : HID (A18 1 3 = (D18 8 : Int)) := (congrFun ((show A18 1 = A12 1 from (eA18 1))) 3).trans (((congrFun (((show A12 1 = A 1 from (eA12 1)))) 3).trans (pf8)).trans (congrArg (fun q : Nat => (q : Int)) ((show D18 8 = D 8 from (eD18 8))).symm))
      have pf18_0_0 : HID (F18 0 0 = (D18 1 : Int)) := ((show F18 0 0 = F12 0 0 from (eF18 0 0))).trans (((((show F12 0 0 = F 0 0 from (eF12 0 0)))).trans (pf1)).trans (congrArg (fun q : Nat => (q : Int)) ((show D18 1 = D 1 from (eD18 1))).symm))
      have pf18_0_2 : HID (F18 0 2 = (D18 10 : Int)) := ((show F18 0 2 = F12 0 2 from (eF18 0 2))).trans (((((show F12 0 2 = F 0 2 from (eF12 0 2)))).trans (pf10)).trans (congrArg (fun q : Nat => (q : Int)) ((show D18 10 = D 10 from (eD18 10).trans (hD18 0 rfl))).symm))
      have pf18_10_0 : HID (F18 10 0 = (D18 11 : Int)) := (eF18 10 0).trans (pm18_2.trans (congrArg (fun q : Nat => (q : Int)) (eD18 11).symm))
      have pf18_2_0 : HID (F18 2 0 = (D18 3 : Int)) := ((show F18 2 0 = F12 2 0 from (eF18 2 0))).trans (((((show F12 2 0 = F 2 0 from (eF12 2 0)))).trans (pf3)).trans (congrArg (fun q : Nat => (q : Int)) ((show D18 3 = D 3 from (eD18 3))).symm))
      have pf18_4_0 : HID (F18 4 0 = (D18 5 : Int)) := ((show F18 4 0 = F12 4 0 from (eF18 4 0).trans (hS18 1 0 rfl))).trans (((((show F12 4 0 = F 4 0 from (eF12 4 0)))).trans (pf5)).trans (congrArg (fun q : Nat => (q : Int)) ((show D18 5 = D 5 from (eD18 5).trans (hD18 3 rfl))).symm))
      have pf18_6_0 : HID (F18 6 0 = (D18 7 : Int)) := ((show F18 6 0 = F12 6 0 from (eF18 6 0))).trans (((((show F12 6 0 = F 6 0 from (eF12 6 0)))).trans (pf7)).trans (congrArg (fun q : Nat => (q : Int)) ((show D18 7 = D 7 from (eD18 7))).symm))
      have pf18_8_0 : HID (F18 8 0 = (D18 9 : Int)) := ((show F18 8 0 = F12 8 0 from (eF18 8 0))).trans (((((show F12 8 0 = F 8 0 from (eF12 8 0)))).trans (pf9)).trans (congrArg (fun q : Nat => (q : Int)) ((show D18 9 = D 9 from (eD18 9))).symm))
      have r19 : HID ((0 : Int) ≤ m18_2 ∧ m18_2 ≤ 1000000) := nrng (H.nle 11 (by decide)) (show (N18 11 : Int) = m18_2 from (congrArg (fun q : Nat => (q : Int)) (eN18 11)).trans em18_2)
      have r20 : HID ((-2147483648 : Int) ≤ y18_0_1 ∧ y18_0_1 ≤ 2147483647) := krg_e (show (-2147483648 : Int) ≤ F18 10 1 ∧ F18 10 1 ≤ 2147483647 from H.krg 10 1 (by decide)) (show F18 10 1 = y18_0_1 from ((eF18 10 1).trans ey18_0_1))
      refine Ew_of (pcₚ := 23) (fun _ => x_iconst rfl) ?_
      exact w_ireturn rfl (k (1) _ _ _ _ _ _ _ H O (SD_trans (SD_refl) (SD_glu (ι := [10, 4, 11, 5]) hD18 eD18 (by decide +kernel)) (any_subA (lₚ := [11]) rfl)) (SD_trans (SD_refl) (SD_glu (ι := [10, 4, 11, 5]) hN18 eN18 (by decide +kernel)) (any_subA (lₚ := [11]) rfl)) (SF_trans (SF_trans (SF_refl) (SF_glu (ι := []) hS12 eF12 (by decide +kernel)) (any_sub (lₚ := []) rfl)) (SF_glu (ι := [10, 4, 11, 5]) hS18 eF18 (by decide +kernel)) (any_sub (lₚ := [(10, 0), (10, 1), (10, 2), (10, 3), (10, 4)]) rfl)) (SA_trans (SA_trans (SA_refl) (SA_glu (ι := []) hA12 eA12 (by decide +kernel)) (any_subA (lₚ := []) rfl)) (SA_glu (ι := [10, 4, 11, 5]) hA18 eA18 (by decide +kernel)) (any_subA (lₚ := [11]) rfl)) (pf18_10_0) (m18_2) ((congrArg (fun q : Nat => (q : Int)) (eN18 11)).trans em18_2) (y18_0_1) (((eF18 10 1).trans ey18_0_1)) (show (1) = 0 ∨ (1) = 1 by omega) (show 0 ≤ (u2_1) ∧ (u2_1) ≤ (n3) ∧ (n3) ≤ 65536 by have qh0 := HIDe r1; have qh1 := HIDe r7; omega) (show 0 ≤ (u4_1) ∧ (u4_1) ≤ (n5) ∧ (n5) ≤ 65536 by have qh0 := HIDe r2; have qh1 := HIDe r8; omega) (show 0 ≤ (u6_1) ∧ (u6_1) ≤ (n7) ∧ (n7) ≤ 65536 by have qh0 := HIDe r3; have qh1 := HIDe r9; omega) (show 0 ≤ (u8_1) ∧ (u8_1) ≤ (n9) ∧ (n9) ≤ 65536 by have qh0 := HIDe r10; have qh1 := HIDe r4; omega) (show 0 ≤ (y18_0_1) ∧ (y18_0_1) ≤ (m18_2) ∧ (m18_2) ≤ 65536 by have qh0 := HIDe r19; have qh1 := HIDe r20; omega))
    · refine v_lR H (o := 1) rfl rfl rfl rfl rfl (n := n1) (en1) (show 0 ≤ a1 ∧ a1 < n1 by have qh0 := HIDe r6; omega) (z := ((D 6 : Nat) : Int)) (v := .ref (D 6)) ((congrArg (A12 1) b14).trans ((congrFun (((show A12 1 = A 1 from (eA12 1)))) 2).trans (pf6))) (vrf rfl) ?_
      refine v_inv H (o := 10) rfl rfl rfl rfl rfl rfl (by rfl) (C158_Row (D := pul [10, 6, 11, 7] D) (N := pul [10, 6, 11, 7] N) (HW_sub H (VS_of (show vsub V14 V158_Row [10, 6, 11, 7] = true by decide +kernel))) ((((show F12 10 0 = F 10 0 from (eF12 10 0)))).trans (pf11)) ((((show F12 6 0 = F 6 0 from (eF12 6 0)))).trans (pf7)) (n11) (en11) (n7) (en7) (u10_1) ((((show F12 10 1 = F 10 1 from (eF12 10 1))).trans (eu10_1))) (u6_1) ((((show F12 6 1 = F 6 1 from (eF12 6 1))).trans (eu6_1))) (show 0 ≤ (u10_1) ∧ (u10_1) ≤ (n11) ∧ (n11) ≤ 65536 by have qh0 := HIDe r11; have qh1 := HIDe r5; omega) (show 0 ≤ (u6_1) ∧ (u6_1) ≤ (n7) ∧ (n7) ≤ 65536 by have qh0 := HIDe r3; have qh1 := HIDe r9; omega) (fun σ21 D21ₚ N21ₚ F21ₚ A21ₚ c21 s21 Hₚ Oₚ hD21 hN21 hS21 hA21 pm21_2 m21_2 em21_2 y21_0_1 ey21_0_1 pz21_0 pz21_1 => ⟨rfl, ?_⟩))
      replace pm21_2 := HIDm pm21_2
      replace em21_2 := HIDm em21_2
      replace ey21_0_1 := HIDm ey21_0_1
      refine v_backM (c := c) (s := s) H (show vsub V14 V158_Row [10, 6, 11, 7] = true by decide +kernel) Hₚ Oₚ hD21 (show vmov V14 [10, 6, 11, 7] [2] = true by decide +kernel) (fun D21 N21 F21 A21 H Oₚ eD21 eN21 eF21 eA21 => ?_)
      have O := OUT_trans O Oₚ
      -- Row.become
      have pe21_1_0 : HID (A21 1 0 = (D21 2 : Int)) := (congrFun ((show A21 1 = A12 1 from (eA21 1))) 0).trans (((congrFun (((show A12 1 = A 1 from (eA12 1)))) 0).trans (pf2)).trans (congrArg (fun q : Nat => (q : Int)) ((show D21 2 = D 2 from (eD21 2))).symm))
      have pe21_1_1 : HID (A21 1 1 = (D21 4 : Int)) := (congrFun ((show A21 1 = A12 1 from (eA21 1))) 1).trans (((congrFun (((show A12 1 = A 1 from (eA12 1)))) 1).trans (pf4)).trans (congrArg (fun q : Nat => (q : Int)) ((show D21 4 = D 4 from (eD21 4))).symm))
      have pe21_1_2 : HID (A21 1 2 = (D21 6 : Int)) := (congrFun ((show A21 1 = A12 1 from (eA21 1))) 2).trans (((congrFun (((show A12 1 = A 1 from (eA12 1)))) 2).trans (pf6)).trans (congrArg (fun q : Nat => (q : Int)) ((show D21 6 = D 6 from (eD21 6).trans (hD21 1 rfl))).symm))
      have pe21_1_3 : HID (A21 1 3 = (D21 8 : Int)) := (congrFun ((show A21 1 = A12 1 from (eA21 1))) 3).trans (((congrFun (((show A12 1 = A 1 from (eA12 1)))) 3).trans (pf8)).trans (congrArg (fun q : Nat => (q : Int)) ((show D21 8 = D 8 from (eD21 8))).symm))
      have pf21_0_0 : HID (F21 0 0 = (D21 1 : Int)) := ((show F21 0 0 = F12 0 0 from (eF21 0 0))).trans (((((show F12 0 0 = F 0 0 from (eF12 0 0)))).trans (pf1)).trans (congrArg (fun q : Nat => (q : Int)) ((show D21 1 = D 1 from (eD21 1))).symm))
      have pf21_0_2 : HID (F21 0 2 = (D21 10 : Int)) := ((show F21 0 2 = F12 0 2 from (eF21 0 2))).trans (((((show F12 0 2 = F 0 2 from (eF12 0 2)))).trans (pf10)).trans (congrArg (fun q : Nat => (q : Int)) ((show D21 10 = D 10 from (eD21 10).trans (hD21 0 rfl))).symm))
      have pf21_10_0 : HID (F21 10 0 = (D21 11 : Int)) := (eF21 10 0).trans (pm21_2.trans (congrArg (fun q : Nat => (q : Int)) (eD21 11).symm))
      have pf21_2_0 : HID (F21 2 0 = (D21 3 : Int)) := ((show F21 2 0 = F12 2 0 from (eF21 2 0))).trans (((((show F12 2 0 = F 2 0 from (eF12 2 0)))).trans (pf3)).trans (congrArg (fun q : Nat => (q : Int)) ((show D21 3 = D 3 from (eD21 3))).symm))
      have pf21_4_0 : HID (F21 4 0 = (D21 5 : Int)) := ((show F21 4 0 = F12 4 0 from (eF21 4 0))).trans (((((show F12 4 0 = F 4 0 from (eF12 4 0)))).trans (pf5)).trans (congrArg (fun q : Nat => (q : Int)) ((show D21 5 = D 5 from (eD21 5))).symm))
      have pf21_6_0 : HID (F21 6 0 = (D21 7 : Int)) := ((show F21 6 0 = F12 6 0 from (eF21 6 0).trans (hS21 1 0 rfl))).trans (((((show F12 6 0 = F 6 0 from (eF12 6 0)))).trans (pf7)).trans (congrArg (fun q : Nat => (q : Int)) ((show D21 7 = D 7 from (eD21 7).trans (hD21 3 rfl))).symm))
      have pf21_8_0 : HID (F21 8 0 = (D21 9 : Int)) := ((show F21 8 0 = F12 8 0 from (eF21 8 0))).trans (((((show F12 8 0 = F 8 0 from (eF12 8 0)))).trans (pf9)).trans (congrArg (fun q : Nat => (q : Int)) ((show D21 9 = D 9 from (eD21 9))).symm))
      have r22 : HID ((0 : Int) ≤ m21_2 ∧ m21_2 ≤ 1000000) := nrng (H.nle 11 (by decide)) (show (N21 11 : Int) = m21_2 from (congrArg (fun q : Nat => (q : Int)) (eN21 11)).trans em21_2)
      have r23 : HID ((-2147483648 : Int) ≤ y21_0_1 ∧ y21_0_1 ≤ 2147483647) := krg_e (show (-2147483648 : Int) ≤ F21 10 1 ∧ F21 10 1 ≤ 2147483647 from H.krg 10 1 (by decide)) (show F21 10 1 = y21_0_1 from ((eF21 10 1).trans ey21_0_1))
      refine Ew_of (pcₚ := 23) (fun _ => x_iconst rfl) ?_
      exact w_ireturn rfl (k (1) _ _ _ _ _ _ _ H O (SD_trans (SD_refl) (SD_glu (ι := [10, 6, 11, 7]) hD21 eD21 (by decide +kernel)) (any_subA (lₚ := [11]) rfl)) (SD_trans (SD_refl) (SD_glu (ι := [10, 6, 11, 7]) hN21 eN21 (by decide +kernel)) (any_subA (lₚ := [11]) rfl)) (SF_trans (SF_trans (SF_refl) (SF_glu (ι := []) hS12 eF12 (by decide +kernel)) (any_sub (lₚ := []) rfl)) (SF_glu (ι := [10, 6, 11, 7]) hS21 eF21 (by decide +kernel)) (any_sub (lₚ := [(10, 0), (10, 1), (10, 2), (10, 3), (10, 4)]) rfl)) (SA_trans (SA_trans (SA_refl) (SA_glu (ι := []) hA12 eA12 (by decide +kernel)) (any_subA (lₚ := []) rfl)) (SA_glu (ι := [10, 6, 11, 7]) hA21 eA21 (by decide +kernel)) (any_subA (lₚ := [11]) rfl)) (pf21_10_0) (m21_2) ((congrArg (fun q : Nat => (q : Int)) (eN21 11)).trans em21_2) (y21_0_1) (((eF21 10 1).trans ey21_0_1)) (show (1) = 0 ∨ (1) = 1 by omega) (show 0 ≤ (u2_1) ∧ (u2_1) ≤ (n3) ∧ (n3) ≤ 65536 by have qh0 := HIDe r1; have qh1 := HIDe r7; omega) (show 0 ≤ (u4_1) ∧ (u4_1) ≤ (n5) ∧ (n5) ≤ 65536 by have qh0 := HIDe r2; have qh1 := HIDe r8; omega) (show 0 ≤ (u6_1) ∧ (u6_1) ≤ (n7) ∧ (n7) ≤ 65536 by have qh0 := HIDe r3; have qh1 := HIDe r9; omega) (show 0 ≤ (u8_1) ∧ (u8_1) ≤ (n9) ∧ (n9) ≤ 65536 by have qh0 := HIDe r10; have qh1 := HIDe r4; omega) (show 0 ≤ (y21_0_1) ∧ (y21_0_1) ≤ (m21_2) ∧ (m21_2) ≤ 65536 by have qh0 := HIDe r22; have qh1 := HIDe r23; omega))
    · refine v_lR H (o := 1) rfl rfl rfl rfl rfl (n := n1) (en1) (show 0 ≤ a1 ∧ a1 < n1 by have qh0 := HIDe r6; omega) (z := ((D 8 : Nat) : Int)) (v := .ref (D 8)) ((congrArg (A12 1) b14).trans ((congrFun (((show A12 1 = A 1 from (eA12 1)))) 3).trans (pf8))) (vrf rfl) ?_
      refine v_inv H (o := 10) rfl rfl rfl rfl rfl rfl (by rfl) (C158_Row (D := pul [10, 8, 11, 9] D) (N := pul [10, 8, 11, 9] N) (HW_sub H (VS_of (show vsub V14 V158_Row [10, 8, 11, 9] = true by decide +kernel))) ((((show F12 10 0 = F 10 0 from (eF12 10 0)))).trans (pf11)) ((((show F12 8 0 = F 8 0 from (eF12 8 0)))).trans (pf9)) (n11) (en11) (n9) (en9) (u10_1) ((((show F12 10 1 = F 10 1 from (eF12 10 1))).trans (eu10_1))) (u8_1) ((((show F12 8 1 = F 8 1 from (eF12 8 1))).trans (eu8_1))) (show 0 ≤ (u10_1) ∧ (u10_1) ≤ (n11) ∧ (n11) ≤ 65536 by have qh0 := HIDe r11; have qh1 := HIDe r5; omega) (show 0 ≤ (u8_1) ∧ (u8_1) ≤ (n9) ∧ (n9) ≤ 65536 by have qh0 := HIDe r10; have qh1 := HIDe r4; omega) (fun σ24 D24ₚ N24ₚ F24ₚ A24ₚ c24 s24 Hₚ Oₚ hD24 hN24 hS24 hA24 pm24_2 m24_2 em24_2 y24_0_1 ey24_0_1 pz24_0 pz24_1 => ⟨rfl, ?_⟩))
      replace pm24_2 := HIDm pm24_2
      replace em24_2 := HIDm em24_2
      replace ey24_0_1 := HIDm ey24_0_1
      refine v_backM (c := c) (s := s) H (show vsub V14 V158_Row [10, 8, 11, 9] = true by decide +kernel) Hₚ Oₚ hD24 (show vmov V14 [10, 8, 11, 9] [2] = true by decide +kernel) (fun D24 N24 F24 A24 H Oₚ eD24 eN24 eF24 eA24 => ?_)
      have O := OUT_trans O Oₚ
      -- Row.become
      have pe24_1_0 : HID (A24 1 0 = (D24 2 : Int)) := (congrFun ((show A24 1 = A12 1 from (eA24 1))) 0).trans (((congrFun (((show A12 1 = A 1 from (eA12 1)))) 0).trans (pf2)).trans (congrArg (fun q : Nat => (q : Int)) ((show D24 2 = D 2 from (eD24 2))).symm))
      have pe24_1_1 : HID (A24 1 1 = (D24 4 : Int)) := (congrFun ((show A24 1 = A12 1 from (eA24 1))) 1).trans (((congrFun (((show A12 1 = A 1 from (eA12 1)))) 1).trans (pf4)).trans (congrArg (fun q : Nat => (q : Int)) ((show D24 4 = D 4 from (eD24 4))).symm))
      have pe24_1_2 : HID (A24 1 2 = (D24 6 : Int)) := (congrFun ((show A24 1 = A12 1 from (eA24 1))) 2).trans (((congrFun (((show A12 1 = A 1 from (eA12 1)))) 2).trans (pf6)).trans (congrArg (fun q : Nat => (q : Int)) ((show D24 6 = D 6 from (eD24 6))).symm))
      have pe24_1_3 : HID (A24 1 3 = (D24 8 : Int)) := (congrFun ((show A24 1 = A12 1 from (eA24 1))) 3).trans (((congrFun (((show A12 1 = A 1 from (eA12 1)))) 3).trans (pf8)).trans (congrArg (fun q : Nat => (q : Int)) ((show D24 8 = D 8 from (eD24 8).trans (hD24 1 rfl))).symm))
      have pf24_0_0 : HID (F24 0 0 = (D24 1 : Int)) := ((show F24 0 0 = F12 0 0 from (eF24 0 0))).trans (((((show F12 0 0 = F 0 0 from (eF12 0 0)))).trans (pf1)).trans (congrArg (fun q : Nat => (q : Int)) ((show D24 1 = D 1 from (eD24 1))).symm))
      have pf24_0_2 : HID (F24 0 2 = (D24 10 : Int)) := ((show F24 0 2 = F12 0 2 from (eF24 0 2))).trans (((((show F12 0 2 = F 0 2 from (eF12 0 2)))).trans (pf10)).trans (congrArg (fun q : Nat => (q : Int)) ((show D24 10 = D 10 from (eD24 10).trans (hD24 0 rfl))).symm))
      have pf24_10_0 : HID (F24 10 0 = (D24 11 : Int)) := (eF24 10 0).trans (pm24_2.trans (congrArg (fun q : Nat => (q : Int)) (eD24 11).symm))
      have pf24_2_0 : HID (F24 2 0 = (D24 3 : Int)) := ((show F24 2 0 = F12 2 0 from (eF24 2 0))).trans (((((show F12 2 0 = F 2 0 from (eF12 2 0)))).trans (pf3)).trans (congrArg (fun q : Nat => (q : Int)) ((show D24 3 = D 3 from (eD24 3))).symm))
      have pf24_4_0 : HID (F24 4 0 = (D24 5 : Int)) := ((show F24 4 0 = F12 4 0 from (eF24 4 0))).trans (((((show F12 4 0 = F 4 0 from (eF12 4 0)))).trans (pf5)).trans (congrArg (fun q : Nat => (q : Int)) ((show D24 5 = D 5 from (eD24 5))).symm))
      have pf24_6_0 : HID (F24 6 0 = (D24 7 : Int)) := ((show F24 6 0 = F12 6 0 from (eF24 6 0))).trans (((((show F12 6 0 = F 6 0 from (eF12 6 0)))).trans (pf7)).trans (congrArg (fun q : Nat => (q : Int)) ((show D24 7 = D 7 from (eD24 7))).symm))
      have pf24_8_0 : HID (F24 8 0 = (D24 9 : Int)) := ((show F24 8 0 = F12 8 0 from (eF24 8 0).trans (hS24 1 0 rfl))).trans (((((show F12 8 0 = F 8 0 from (eF12 8 0)))).trans (pf9)).trans (congrArg (fun q : Nat => (q : Int)) ((show D24 9 = D 9 from (eD24 9).trans (hD24 3 rfl))).symm))
      have r25 : HID ((0 : Int) ≤ m24_2 ∧ m24_2 ≤ 1000000) := nrng (H.nle 11 (by decide)) (show (N24 11 : Int) = m24_2 from (congrArg (fun q : Nat => (q : Int)) (eN24 11)).trans em24_2)
      have r26 : HID ((-2147483648 : Int) ≤ y24_0_1 ∧ y24_0_1 ≤ 2147483647) := krg_e (show (-2147483648 : Int) ≤ F24 10 1 ∧ F24 10 1 ≤ 2147483647 from H.krg 10 1 (by decide)) (show F24 10 1 = y24_0_1 from ((eF24 10 1).trans ey24_0_1))
      refine Ew_of (pcₚ := 23) (fun _ => x_iconst rfl) ?_
      exact w_ireturn rfl (k (1) _ _ _ _ _ _ _ H O (SD_trans (SD_refl) (SD_glu (ι := [10, 8, 11, 9]) hD24 eD24 (by decide +kernel)) (any_subA (lₚ := [11]) rfl)) (SD_trans (SD_refl) (SD_glu (ι := [10, 8, 11, 9]) hN24 eN24 (by decide +kernel)) (any_subA (lₚ := [11]) rfl)) (SF_trans (SF_trans (SF_refl) (SF_glu (ι := []) hS12 eF12 (by decide +kernel)) (any_sub (lₚ := []) rfl)) (SF_glu (ι := [10, 8, 11, 9]) hS24 eF24 (by decide +kernel)) (any_sub (lₚ := [(10, 0), (10, 1), (10, 2), (10, 3), (10, 4)]) rfl)) (SA_trans (SA_trans (SA_refl) (SA_glu (ι := []) hA12 eA12 (by decide +kernel)) (any_subA (lₚ := []) rfl)) (SA_glu (ι := [10, 8, 11, 9]) hA24 eA24 (by decide +kernel)) (any_subA (lₚ := [11]) rfl)) (pf24_10_0) (m24_2) ((congrArg (fun q : Nat => (q : Int)) (eN24 11)).trans em24_2) (y24_0_1) (((eF24 10 1).trans ey24_0_1)) (show (1) = 0 ∨ (1) = 1 by omega) (show 0 ≤ (u2_1) ∧ (u2_1) ≤ (n3) ∧ (n3) ≤ 65536 by have qh0 := HIDe r1; have qh1 := HIDe r7; omega) (show 0 ≤ (u4_1) ∧ (u4_1) ≤ (n5) ∧ (n5) ≤ 65536 by have qh0 := HIDe r2; have qh1 := HIDe r8; omega) (show 0 ≤ (u6_1) ∧ (u6_1) ≤ (n7) ∧ (n7) ≤ 65536 by have qh0 := HIDe r3; have qh1 := HIDe r9; omega) (show 0 ≤ (u8_1) ∧ (u8_1) ≤ (n9) ∧ (n9) ≤ 65536 by have qh0 := HIDe r10; have qh1 := HIDe r4; omega) (show 0 ≤ (y24_0_1) ∧ (y24_0_1) ≤ (m24_2) ∧ (m24_2) ≤ 65536 by have qh0 := HIDe r25; have qh1 := HIDe r26; omega))
  · refine Ew_of (pcₚ := 8) (fun _ => x_iconst rfl) ?_
    exact w_ireturn rfl (k (0) _ _ _ _ _ _ _ H O (SD_refl) (SD_refl) (SF_trans (SF_refl) (SF_glu (ι := []) hS12 eF12 (by decide +kernel)) (any_sub (lₚ := []) rfl)) (SA_trans (SA_refl) (SA_glu (ι := []) hA12 eA12 (by decide +kernel)) (any_subA (lₚ := []) rfl)) ((((show F12 10 0 = F 10 0 from (eF12 10 0)))).trans (pf11)) (n11) (en11) (u10_1) ((((show F12 10 1 = F 10 1 from (eF12 10 1))).trans (eu10_1))) (show (0) = 0 ∨ (0) = 1 by omega) (show 0 ≤ (u2_1) ∧ (u2_1) ≤ (n3) ∧ (n3) ≤ 65536 by have qh0 := HIDe r1; have qh1 := HIDe r7; omega) (show 0 ≤ (u4_1) ∧ (u4_1) ≤ (n5) ∧ (n5) ≤ 65536 by have qh0 := HIDe r2; have qh1 := HIDe r8; omega) (show 0 ≤ (u6_1) ∧ (u6_1) ≤ (n7) ∧ (n7) ≤ 65536 by have qh0 := HIDe r3; have qh1 := HIDe r9; omega) (show 0 ≤ (u8_1) ∧ (u8_1) ≤ (n9) ∧ (n9) ≤ 65536 by have qh0 := HIDe r10; have qh1 := HIDe r4; omega) (show 0 ≤ (u10_1) ∧ (u10_1) ≤ (n11) ∧ (n11) ≤ 65536 by have qh0 := HIDe r11; have qh1 := HIDe r5; omega))
abbrev V19 : vV := [(0, 0, [(4, 0), (4, 0), (4, 0), (4, 0), (4, 0), (4, 0), (4, 0), (4, 0), (4, 0), (4, 0), (4, 0), (4, 0), (4, 0), (4, 0), (4, 0), (4, 0), (4, 0), (0, 0), (0, 0)]), (1, 4, []), (0, 7, [(4, 0), (0, 0), (1, 0), (0, 0), (0, 0)]), (1, 0, []), (0, 7, [(4, 0), (0, 0), (1, 0), (0, 0), (0, 0)]), (1, 0, []), (0, 7, [(4, 0), (0, 0), (1, 0), (0, 0), (0, 0)]), (1, 0, []), (0, 7, [(4, 0), (0, 0), (1, 0), (0, 0), (0, 0)]), (1, 0, [])]
/-- PackHouse.kind: this, this.rows, this.rows.0, this.rows.0.bytes, this.rows.1, this.rows.1.bytes, this.rows.2, this.rows.2.bytes, this.rows.3, this.rows.3.bytes -/
theorem C19 {σE : rS} {D N : Nat → Nat} {F : hF} {A : hA} {d c s : Nat} {Q : wQ} (H : HW V19 σE D N F A) (HT : STC σE) {a1 : Int} (pf1 : F 0 0 = (D 1 : Int)) (pf2 : A 1 0 = (D 2 : Int)) (pf3 : F 2 0 = (D 3 : Int)) (pf4 : A 1 1 = (D 4 : Int)) (pf5 : F 4 0 = (D 5 : Int)) (pf6 : A 1 2 = (D 6 : Int)) (pf7 : F 6 0 = (D 7 : Int)) (pf8 : A 1 3 = (D 8 : Int)) (pf9 : F 8 0 = (D 9 : Int)) (n1 : Int) (en1 : (N 1 : Int) = n1) (n3 : Int) (en3 : (N 3 : Int) = n3) (n5 : Int) (en5 : (N 5 : Int) = n5) (n7 : Int) (en7 : (N 7 : Int) = n7) (n9 : Int) (en9 : (N 9 : Int) = n9) (u2_1 : Int) (eu2_1 : F 2 1 = u2_1) (u4_1 : Int) (eu4_1 : F 4 1 = u4_1) (u6_1 : Int) (eu6_1 : F 6 1 = u6_1) (u8_1 : Int) (eu8_1 : F 8 1 = u8_1) (h0 : inr (a1)) (h1 : (n1) = 4) (h2 : 0 ≤ (u2_1) ∧ (u2_1) ≤ (n3) ∧ (n3) ≤ 65536) (h3 : 0 ≤ (u4_1) ∧ (u4_1) ≤ (n5) ∧ (n5) ≤ 65536) (h4 : 0 ≤ (u6_1) ∧ (u6_1) ≤ (n7) ∧ (n7) ≤ 65536) (h5 : 0 ≤ (u8_1) ∧ (u8_1) ≤ (n9) ∧ (n9) ≤ 65536) (k : ∀ (z : Int) (σ : rS) (Fₚ : hF) (Aₚ : hA), HW V19 σ D N Fₚ Aₚ → OUT (V19).length D N σE c s D N σ c s → SF [] F Fₚ → SA [] A Aₚ → (inr (z)) → Q (some (I z)) σ c s) : Ew 19 (d + 3) 0 (rargs 0 [.ref (D 0), I a1]) [] σE c s Q := by
  have O := OUT_refl (n := (V19).length) (D := D) (N := N) (σ := σE) (c := c) (s := s)
  have HE := H
  have r1 : HID ((-2147483648 : Int) ≤ u2_1 ∧ u2_1 ≤ 2147483647) := krg_e (show (-2147483648 : Int) ≤ F 2 1 ∧ F 2 1 ≤ 2147483647 from H.krg 2 1 (by decide)) (show F 2 1 = u2_1 from (eu2_1))
  have r2 : HID ((-2147483648 : Int) ≤ u4_1 ∧ u4_1 ≤ 2147483647) := krg_e (show (-2147483648 : Int) ≤ F 4 1 ∧ F 4 1 ≤ 2147483647 from H.krg 4 1 (by decide)) (show F 4 1 = u4_1 from (eu4_1))
  have r3 : HID ((-2147483648 : Int) ≤ u6_1 ∧ u6_1 ≤ 2147483647) := krg_e (show (-2147483648 : Int) ≤ F 6 1 ∧ F 6 1 ≤ 2147483647 from H.krg 6 1 (by decide)) (show F 6 1 = u6_1 from (eu6_1))
  have r4 : HID ((-2147483648 : Int) ≤ u8_1 ∧ u8_1 ≤ 2147483647) := krg_e (show (-2147483648 : Int) ≤ F 8 1 ∧ F 8 1 ≤ 2147483647 from H.krg 8 1 (by decide)) (show F 8 1 = u8_1 from (eu8_1))
  replace pf1 := HIDm pf1
  replace pf2 := HIDm pf2
  replace pf3 := HIDm pf3
  replace pf4 := HIDm pf4
  replace pf5 := HIDm pf5
  replace pf6 := HIDm pf6
  replace pf7 := HIDm pf7
  replace pf8 := HIDm pf8
  replace pf9 := HIDm pf9
  replace en1 := HIDm en1
  replace en3 := HIDm en3
  replace en5 := HIDm en5
  replace en7 := HIDm en7
  replace en9 := HIDm en9
  replace eu2_1 := HIDm eu2_1
  replace eu4_1 := HIDm eu4_1
  replace eu6_1 := HIDm eu6_1
  replace eu8_1 := HIDm eu8_1
  have r5 : HID ((0 : Int) ≤ n1 ∧ n1 ≤ 1000000) := nrng (H.nle 1 (by decide)) (show (N 1 : Int) = n1 from en1)
  have r6 : HID ((0 : Int) ≤ n3 ∧ n3 ≤ 1000000) := nrng (H.nle 3 (by decide)) (show (N 3 : Int) = n3 from en3)
  have r7 : HID ((0 : Int) ≤ n5 ∧ n5 ≤ 1000000) := nrng (H.nle 5 (by decide)) (show (N 5 : Int) = n5 from en5)
  have r8 : HID ((0 : Int) ≤ n7 ∧ n7 ≤ 1000000) := nrng (H.nle 7 (by decide)) (show (N 7 : Int) = n7 from en7)
  have r9 : HID ((0 : Int) ≤ n9 ∧ n9 ≤ 1000000) := nrng (H.nle 9 (by decide)) (show (N 9 : Int) = n9 from en9)
  refine Ew_of (pcₚ := 1) (fun _ => x_iload_n rfl rfl) ?_
  refine w_stat24 rfl rfl (by rfl) (C24 (D := pul [] D) (N := pul [] N) (HW_sub H (VS_of (show vsub V19 V24 [] = true by decide +kernel))) (show inr (a1) by omega) (fun z10 σ10 F10ₚ A10ₚ Hₚ Oₚ hS10 hA10 pz10_0 pz10_1 => ⟨rretB rfl pz10_0, ?_⟩))
  refine v_back (c := c) (s := s) H (show vsub V19 V24 [] = true by decide +kernel) Hₚ Oₚ (fun F10 A10 H Oₚ eF10 eA10 => ?_)
  have O := OUT_trans O Oₚ
  -- PackHouse.isRow
  refine w_ifeq (t := 19) rfl rfl (show inr (z10) by omega) (fun b11 => ?_) (fun b11 => ?_)
  · refine Ew_of (pcₚ := 20) (fun _ => x_iconst rfl) ?_
    exact w_ireturn rfl (k ((-1)) _ _ _ H O (SF_trans (SF_refl) (SF_glu (ι := []) hS10 eF10 (by decide +kernel)) (any_sub (lₚ := []) rfl)) (SA_trans (SA_refl) (SA_glu (ι := []) hA10 eA10 (by decide +kernel)) (any_subA (lₚ := []) rfl)) (show inr ((-1)) by omega))
  · refine Ew_of (pcₚ := 8) (fun _ => x_aload_n rfl rfl) ?_
    refine v_g H (o := 0) (v := .ref (D 1)) rfl rfl rfl rfl rfl (vrf ((((show F10 0 0 = F 0 0 from (eF10 0 0)))).trans (pf1))) ?_
    refine Ew_of (pcₚ := 12) (fun _ => x_iload_n rfl rfl) ?_
    rcases (show a1 = 0 ∨ a1 = 1 ∨ a1 = 2 ∨ a1 = 3 by omega) with b12 | b12 | b12 | b12
    · refine v_lR H (o := 1) rfl rfl rfl rfl rfl (n := n1) (en1) (show 0 ≤ a1 ∧ a1 < n1 by have qh0 := HIDe r5; omega) (z := ((D 2 : Nat) : Int)) (v := .ref (D 2)) ((congrArg (A10 1) b12).trans ((congrFun (((show A10 1 = A 1 from (eA10 1)))) 0).trans (pf2))) (vrf rfl) ?_
      refine w_stat24 rfl rfl (by rfl) (C33_Row (D := pul [2, 3] D) (N := pul [2, 3] N) (HW_sub H (VS_of (show vsub V19 V33_Row [2, 3] = true by decide +kernel))) (STC_out HT HE O) ((((show F10 2 0 = F 2 0 from (eF10 2 0)))).trans (pf3)) (n3) (en3) (u2_1) ((((show F10 2 1 = F 2 1 from (eF10 2 1))).trans (eu2_1))) (show 0 ≤ (u2_1) ∧ (u2_1) ≤ (n3) ∧ (n3) ≤ 65536 by have qh0 := HIDe r1; have qh1 := HIDe r6; omega) (fun z13 σ13 F13ₚ A13ₚ Hₚ Oₚ hS13 hA13 pz13_0 pz13_1 => ⟨rfl, ?_⟩))
      refine v_back (c := c) (s := s) H (show vsub V19 V33_Row [2, 3] = true by decide +kernel) Hₚ Oₚ (fun F13 A13 H Oₚ eF13 eA13 => ?_)
      have O := OUT_trans O Oₚ
      -- PackHouse.formatOf
      refine Ew_of (pcₚ := 20) (fun _ => x_goto rfl rfl) ?_
      exact w_ireturn rfl (k (z13) _ _ _ H O (SF_trans (SF_trans (SF_refl) (SF_glu (ι := []) hS10 eF10 (by decide +kernel)) (any_sub (lₚ := []) rfl)) (SF_glu (ι := [2, 3]) hS13 eF13 (by decide +kernel)) (any_sub (lₚ := []) rfl)) (SA_trans (SA_trans (SA_refl) (SA_glu (ι := []) hA10 eA10 (by decide +kernel)) (any_subA (lₚ := []) rfl)) (SA_glu (ι := [2, 3]) hA13 eA13 (by decide +kernel)) (any_subA (lₚ := []) rfl)) (show inr (z13) by omega))
    · refine v_lR H (o := 1) rfl rfl rfl rfl rfl (n := n1) (en1) (show 0 ≤ a1 ∧ a1 < n1 by have qh0 := HIDe r5; omega) (z := ((D 4 : Nat) : Int)) (v := .ref (D 4)) ((congrArg (A10 1) b12).trans ((congrFun (((show A10 1 = A 1 from (eA10 1)))) 1).trans (pf4))) (vrf rfl) ?_
      refine w_stat24 rfl rfl (by rfl) (C33_Row (D := pul [4, 5] D) (N := pul [4, 5] N) (HW_sub H (VS_of (show vsub V19 V33_Row [4, 5] = true by decide +kernel))) (STC_out HT HE O) ((((show F10 4 0 = F 4 0 from (eF10 4 0)))).trans (pf5)) (n5) (en5) (u4_1) ((((show F10 4 1 = F 4 1 from (eF10 4 1))).trans (eu4_1))) (show 0 ≤ (u4_1) ∧ (u4_1) ≤ (n5) ∧ (n5) ≤ 65536 by have qh0 := HIDe r2; have qh1 := HIDe r7; omega) (fun z14 σ14 F14ₚ A14ₚ Hₚ Oₚ hS14 hA14 pz14_0 pz14_1 => ⟨rfl, ?_⟩))
      refine v_back (c := c) (s := s) H (show vsub V19 V33_Row [4, 5] = true by decide +kernel) Hₚ Oₚ (fun F14 A14 H Oₚ eF14 eA14 => ?_)
      have O := OUT_trans O Oₚ
      -- PackHouse.formatOf
      refine Ew_of (pcₚ := 20) (fun _ => x_goto rfl rfl) ?_
      exact w_ireturn rfl (k (z14) _ _ _ H O (SF_trans (SF_trans (SF_refl) (SF_glu (ι := []) hS10 eF10 (by decide +kernel)) (any_sub (lₚ := []) rfl)) (SF_glu (ι := [4, 5]) hS14 eF14 (by decide +kernel)) (any_sub (lₚ := []) rfl)) (SA_trans (SA_trans (SA_refl) (SA_glu (ι := []) hA10 eA10 (by decide +kernel)) (any_subA (lₚ := []) rfl)) (SA_glu (ι := [4, 5]) hA14 eA14 (by decide +kernel)) (any_subA (lₚ := []) rfl)) (show inr (z14) by omega))
    · refine v_lR H (o := 1) rfl rfl rfl rfl rfl (n := n1) (en1) (show 0 ≤ a1 ∧ a1 < n1 by have qh0 := HIDe r5; omega) (z := ((D 6 : Nat) : Int)) (v := .ref (D 6)) ((congrArg (A10 1) b12).trans ((congrFun (((show A10 1 = A 1 from (eA10 1)))) 2).trans (pf6))) (vrf rfl) ?_
      refine w_stat24 rfl rfl (by rfl) (C33_Row (D := pul [6, 7] D) (N := pul [6, 7] N) (HW_sub H (VS_of (show vsub V19 V33_Row [6, 7] = true by decide +kernel))) (STC_out HT HE O) ((((show F10 6 0 = F 6 0 from (eF10 6 0)))).trans (pf7)) (n7) (en7) (u6_1) ((((show F10 6 1 = F 6 1 from (eF10 6 1))).trans (eu6_1))) (show 0 ≤ (u6_1) ∧ (u6_1) ≤ (n7) ∧ (n7) ≤ 65536 by have qh0 := HIDe r3; have qh1 := HIDe r8; omega) (fun z15 σ15 F15ₚ A15ₚ Hₚ Oₚ hS15 hA15 pz15_0 pz15_1 => ⟨rfl, ?_⟩))
      refine v_back (c := c) (s := s) H (show vsub V19 V33_Row [6, 7] = true by decide +kernel) Hₚ Oₚ (fun F15 A15 H Oₚ eF15 eA15 => ?_)
      have O := OUT_trans O Oₚ
      -- PackHouse.formatOf
      refine Ew_of (pcₚ := 20) (fun _ => x_goto rfl rfl) ?_
      exact w_ireturn rfl (k (z15) _ _ _ H O (SF_trans (SF_trans (SF_refl) (SF_glu (ι := []) hS10 eF10 (by decide +kernel)) (any_sub (lₚ := []) rfl)) (SF_glu (ι := [6, 7]) hS15 eF15 (by decide +kernel)) (any_sub (lₚ := []) rfl)) (SA_trans (SA_trans (SA_refl) (SA_glu (ι := []) hA10 eA10 (by decide +kernel)) (any_subA (lₚ := []) rfl)) (SA_glu (ι := [6, 7]) hA15 eA15 (by decide +kernel)) (any_subA (lₚ := []) rfl)) (show inr (z15) by omega))
    · refine v_lR H (o := 1) rfl rfl rfl rfl rfl (n := n1) (en1) (show 0 ≤ a1 ∧ a1 < n1 by have qh0 := HIDe r5; omega) (z := ((D 8 : Nat) : Int)) (v := .ref (D 8)) ((congrArg (A10 1) b12).trans ((congrFun (((show A10 1 = A 1 from (eA10 1)))) 3).trans (pf8))) (vrf rfl) ?_
      refine w_stat24 rfl rfl (by rfl) (C33_Row (D := pul [8, 9] D) (N := pul [8, 9] N) (HW_sub H (VS_of (show vsub V19 V33_Row [8, 9] = true by decide +kernel))) (STC_out HT HE O) ((((show F10 8 0 = F 8 0 from (eF10 8 0)))).trans (pf9)) (n9) (en9) (u8_1) ((((show F10 8 1 = F 8 1 from (eF10 8 1))).trans (eu8_1))) (show 0 ≤ (u8_1) ∧ (u8_1) ≤ (n9) ∧ (n9) ≤ 65536 by have qh0 := HIDe r4; have qh1 := HIDe r9; omega) (fun z16 σ16 F16ₚ A16ₚ Hₚ Oₚ hS16 hA16 pz16_0 pz16_1 => ⟨rfl, ?_⟩))
      refine v_back (c := c) (s := s) H (show vsub V19 V33_Row [8, 9] = true by decide +kernel) Hₚ Oₚ (fun F16 A16 H Oₚ eF16 eA16 => ?_)
      have O := OUT_trans O Oₚ
      -- PackHouse.formatOf
      refine Ew_of (pcₚ := 20) (fun _ => x_goto rfl rfl) ?_
      exact w_ireturn rfl (k (z16) _ _ _ H O (SF_trans (SF_trans (SF_refl) (SF_glu (ι := []) hS10 eF10 (by decide +kernel)) (any_sub (lₚ := []) rfl)) (SF_glu (ι := [8, 9]) hS16 eF16 (by decide +kernel)) (any_sub (lₚ := []) rfl)) (SA_trans (SA_trans (SA_refl) (SA_glu (ι := []) hA10 eA10 (by decide +kernel)) (any_subA (lₚ := []) rfl)) (SA_glu (ι := [8, 9]) hA16 eA16 (by decide +kernel)) (any_subA (lₚ := []) rfl)) (show inr (z16) by omega))
abbrev V10 : vV := [(0, 0, [(4, 0), (4, 0), (4, 0), (4, 0), (4, 0), (4, 0), (4, 0), (4, 0), (4, 0), (4, 0), (4, 0), (4, 0), (4, 0), (4, 0), (4, 0), (4, 0), (4, 0), (0, 0), (0, 0)]), (1, 1, [])]
/-- PackHouse.get: this, this.settings -/
theorem C10 {σE : rS} {D N : Nat → Nat} {F : hF} {A : hA} {d c s : Nat} {Q : wQ} (H : HW V10 σE D N F A) {a1 : Int} (pf1 : F 0 1 = (D 1 : Int)) (n1 : Int) (en1 : (N 1 : Int) = n1) (h0 : inr (a1)) (h1 : (n1) = 10) (k : ∀ (z : Int) (σ : rS) (Fₚ : hF) (Aₚ : hA), HW V10 σ D N Fₚ Aₚ → OUT (V10).length D N σE c s D N σ c s → SF [] F Fₚ → SA [] A Aₚ → (inr (z)) → Q (some (I z)) σ c s) : Ew 10 (d + 1) 0 (rargs 0 [.ref (D 0), I a1]) [] σE c s Q := by
  have O := OUT_refl (n := (V10).length) (D := D) (N := N) (σ := σE) (c := c) (s := s)
  have HE := H
  replace pf1 := HIDm pf1
  replace en1 := HIDm en1
  have r1 : HID ((0 : Int) ≤ n1 ∧ n1 ≤ 1000000) := nrng (H.nle 1 (by decide)) (show (N 1 : Int) = n1 from en1)
  refine Ew_of (pcₚ := 1) (fun _ => x_iload_n rfl rfl) ?_
  refine w_stat24 rfl rfl (by rfl) (C25 (D := pul [] D) (N := pul [] N) (HW_sub H (VS_of (show vsub V10 V25 [] = true by decide +kernel))) (show inr (a1) by omega) (fun z2 σ2 F2ₚ A2ₚ Hₚ Oₚ hS2 hA2 pz2_0 pz2_1 => ⟨rretB rfl pz2_0, ?_⟩))
  refine v_back (c := c) (s := s) H (show vsub V10 V25 [] = true by decide +kernel) Hₚ Oₚ (fun F2 A2 H Oₚ eF2 eA2 => ?_)
  have O := OUT_trans O Oₚ
  -- PackHouse.isSetting
  refine w_ifeq (t := 16) rfl rfl (show inr (z2) by omega) (fun b3 => ?_) (fun b3 => ?_)
  · refine Ew_of (pcₚ := 17) (fun _ => x_iconst rfl) ?_
    exact w_ireturn rfl (k ((-1)) _ _ _ H O (SF_trans (SF_refl) (SF_glu (ι := []) hS2 eF2 (by decide +kernel)) (any_sub (lₚ := []) rfl)) (SA_trans (SA_refl) (SA_glu (ι := []) hA2 eA2 (by decide +kernel)) (any_subA (lₚ := []) rfl)) (show inr ((-1)) by omega))
  · refine Ew_of (pcₚ := 8) (fun _ => x_aload_n rfl rfl) ?_
    refine v_g H (o := 0) (v := .ref (D 1)) rfl rfl rfl rfl rfl (vrf ((((show F2 0 1 = F 0 1 from (eF2 0 1)))).trans (pf1))) ?_
    refine Ew_of (pcₚ := 12) (fun _ => x_iload_n rfl rfl) ?_
    refine v_lI H (o := 1) rfl rfl rfl rfl (n := n1) (en1) (show 0 ≤ a1 ∧ a1 < n1 by have qh0 := HIDe r1; omega) (fun v4 ev4 qv4 => ?_)
    replace qv4 := HIDm qv4
    have ev4 : (A 1) (a1) = v4 := (congrFun ((show A2 1 = A 1 from (eA2 1))) (a1)).symm.trans ev4
    refine Ew_of (pcₚ := 17) (fun _ => x_goto rfl rfl) ?_
    exact w_ireturn rfl (k (v4) _ _ _ H O (SF_trans (SF_refl) (SF_glu (ι := []) hS2 eF2 (by decide +kernel)) (any_sub (lₚ := []) rfl)) (SA_trans (SA_refl) (SA_glu (ι := []) hA2 eA2 (by decide +kernel)) (any_subA (lₚ := []) rfl)) (show inr (v4) by have qh0 := HIDe qv4; omega))
abbrev V23 : vV := [(0, 0, [(4, 0), (4, 0), (4, 0), (4, 0), (4, 0), (4, 0), (4, 0), (4, 0), (4, 0), (4, 0), (4, 0), (4, 0), (4, 0), (4, 0), (4, 0), (4, 0), (4, 0), (0, 0), (0, 0)]), (1, 1, [])]
/-- PackHouse.strayed: this, this.strays -/
theorem C23 {σE : rS} {D N : Nat → Nat} {F : hF} {A : hA} {d c s : Nat} {Q : wQ} (H : HW V23 σE D N F A) {a1 : Int} (pf1 : F 0 16 = (D 1 : Int)) (n1 : Int) (en1 : (N 1 : Int) = n1) (h0 : inr (a1)) (h1 : (n1) = 2) (k : ∀ (z : Int) (σ : rS) (Fₚ : hF) (Aₚ : hA), HW V23 σ D N Fₚ Aₚ → OUT (V23).length D N σE c s D N σ c s → SF [] F Fₚ → SA [] A Aₚ → (inr (z)) → Q (some (I z)) σ c s) : Ew 23 (d + 0) 0 (rargs 0 [.ref (D 0), I a1]) [] σE c s Q := by
  have O := OUT_refl (n := (V23).length) (D := D) (N := N) (σ := σE) (c := c) (s := s)
  have HE := H
  replace pf1 := HIDm pf1
  replace en1 := HIDm en1
  have r1 : HID ((0 : Int) ≤ n1 ∧ n1 ≤ 1000000) := nrng (H.nle 1 (by decide)) (show (N 1 : Int) = n1 from en1)
  refine Ew_of (pcₚ := 1) (fun _ => x_iload_n rfl rfl) ?_
  have hc9 : ∀ (ls : rO) (σ : rS) (F_c9 : hF) (A_c9 : hA) , rlook ls 0 = some (.ref (D 0)) → rlook ls 1 = some (I (a1)) → HW V23 σ D N F_c9 A_c9 → OUT (V23).length D N σE c s D N σ c s → SF [] F F_c9 → SA [] A A_c9 → (((a1) = (0)) ∨ ((a1) ≠ (0) ∧ (a1) = (1))) → Ew 23 (d + 0) 9 ls [] σ c s Q := by
   as_aux_lemma =>
    intro  ls σ F_c9 A_c9  lc9_0 lc9_1 H O hS_c9 hA_c9     jc9_0
    refine Ew_of (pcₚ := 10) (fun _ => x_aload_n rfl lc9_0) ?_
    refine v_g H (o := 0) (v := .ref (D 1)) rfl rfl rfl rfl rfl (vrf (((hS_c9 0 16 rfl)).trans (pf1))) ?_
    refine Ew_of (pcₚ := 14) (fun _ => x_iload_n rfl lc9_1) ?_
    refine v_lI H (o := 1) rfl rfl rfl rfl (n := n1) (en1) (show 0 ≤ a1 ∧ a1 < n1 by have qh0 := HIDe r1; omega) (fun v2 ev2 qv2 => ?_)
    replace qv2 := HIDm qv2
    have ev2 : (A 1) (a1) = v2 := (congrFun (funext (hA_c9 1 rfl)) (a1)).symm.trans ev2
    refine Ew_of (pcₚ := 19) (fun _ => x_goto rfl rfl) ?_
    exact w_ireturn rfl (k (v2) _ _ _ H O (SF_trans (SF_refl) hS_c9 (any_sub rfl)) (SA_trans (SA_refl) hA_c9 (any_subA rfl)) (show inr (v2) by have qh0 := HIDe qv2; omega))
  refine w_ifeq (t := 9) rfl rfl (show inr (a1) by omega) (fun b3 => ?_) (fun b3 => ?_)
  · exact hc9  _ _ _ _  (rfl) (rfl) H O (SF_refl) (SA_refl)     (show ((a1) = (0)) ∨ ((a1) ≠ (0) ∧ (a1) = (1)) by omega)
  · refine Ew_of (pcₚ := 5) (fun _ => x_iload_n rfl rfl) ?_
    refine Ew_of (pcₚ := 6) (fun _ => x_iconst rfl) ?_
    refine w_icmpne (t := 18) rfl rfl (show inr (a1) by omega) (show inr (1) by omega) (fun b4 => ?_) (fun b4 => ?_)
    · refine Ew_of (pcₚ := 19) (fun _ => x_iconst rfl) ?_
      exact w_ireturn rfl (k ((-1)) _ _ _ H O (SF_refl) (SA_refl) (show inr ((-1)) by omega))
    · exact hc9  _ _ _ _  (rfl) (rfl) H O (SF_refl) (SA_refl)     (show ((a1) = (0)) ∨ ((a1) ≠ (0) ∧ (a1) = (1)) by omega)
abbrev V22 : vV := [(0, 0, [(4, 0), (4, 0), (4, 0), (4, 0), (4, 0), (4, 0), (4, 0), (4, 0), (4, 0), (4, 0), (4, 0), (4, 0), (4, 0), (4, 0), (4, 0), (4, 0), (4, 0), (0, 0), (0, 0)]), (1, 1, []), (1, 1, []), (0, 4, [(4, 0), (4, 0), (0, 0), (4, 0), (4, 0)]), (0, 7, [(4, 0), (0, 0), (1, 0), (0, 0), (0, 0)]), (0, 7, [(4, 0), (0, 0), (1, 0), (0, 0), (0, 0)])]
/-- PackHouse.about: this, this.packCounts, this.readCounts, this.dictionary, this.dictionary.content, this.past -/
theorem C22 {σE : rS} {D N : Nat → Nat} {F : hF} {A : hA} {d c s : Nat} {Q : wQ} (H : HW V22 σE D N F A) {a1 : Int} (pf1 : F 0 13 = (D 1 : Int)) (pf2 : F 0 14 = (D 2 : Int)) (pf3 : F 0 3 = (D 3 : Int)) (pf4 : F 3 0 = (D 4 : Int)) (pf5 : F 0 2 = (D 5 : Int)) (n1 : Int) (en1 : (N 1 : Int) = n1) (n2 : Int) (en2 : (N 2 : Int) = n2) (h0 : inr (a1)) (h1 : (n1) = 13) (h2 : (n2) = 5) (k : ∀ (z : Int) (σ : rS) (Fₚ : hF) (Aₚ : hA), HW V22 σ D N Fₚ Aₚ → OUT (V22).length D N σE c s D N σ c s → SF [] F Fₚ → SA [] A Aₚ → (inr (z)) → Q (some (I z)) σ c s) : Ew 22 (d + 0) 0 (rargs 0 [.ref (D 0), I a1]) [] σE c s Q := by
  have O := OUT_refl (n := (V22).length) (D := D) (N := N) (σ := σE) (c := c) (s := s)
  have HE := H
  replace pf1 := HIDm pf1
  replace pf2 := HIDm pf2
  replace pf3 := HIDm pf3
  replace pf4 := HIDm pf4
  replace pf5 := HIDm pf5
  replace en1 := HIDm en1
  replace en2 := HIDm en2
  have r1 : HID ((0 : Int) ≤ n1 ∧ n1 ≤ 1000000) := nrng (H.nle 1 (by decide)) (show (N 1 : Int) = n1 from en1)
  have r2 : HID ((0 : Int) ≤ n2 ∧ n2 ≤ 1000000) := nrng (H.nle 2 (by decide)) (show (N 2 : Int) = n2 from en2)
  refine Ew_of (pcₚ := 1) (fun _ => x_iload_n rfl rfl) ?_
  refine w_ifne (t := 9) rfl rfl (show inr (a1) by omega) (fun b3 => ?_) (fun b3 => ?_)
  · refine Ew_of (pcₚ := 10) (fun _ => x_iload_n rfl rfl) ?_
    refine Ew_of (pcₚ := 11) (fun _ => x_iconst rfl) ?_
    have hc27 : ∀ (ls : rO) (σ : rS) (F_c27 : hF) (A_c27 : hA) , rlook ls 0 = some (.ref (D 0)) → rlook ls 1 = some (I (a1)) → HW V22 σ D N F_c27 A_c27 → OUT (V22).length D N σE c s D N σ c s → SF [] F F_c27 → SA [] A A_c27 → (((a1) < (1)) ∨ ((a1) ≥ (1) ∧ (a1) > (12))) → Ew 22 (d + 0) 27 ls [] σ c s Q := by
     as_aux_lemma =>
      intro  ls σ F_c27 A_c27  lc27_0 lc27_1 H O hS_c27 hA_c27     jc27_0
      refine Ew_of (pcₚ := 28) (fun _ => x_iload_n rfl lc27_1) ?_
      refine Ew_of (pcₚ := 30) (fun _ => x_bipush (z := 13) rfl (by decide)) ?_
      have hc49 : ∀ (ls : rO) (σ : rS) (F_c49 : hF) (A_c49 : hA) , rlook ls 0 = some (.ref (D 0)) → rlook ls 1 = some (I (a1)) → HW V22 σ D N F_c49 A_c49 → OUT (V22).length D N σE c s D N σ c s → SF [] F_c27 F_c49 → SA [] A_c27 A_c49 → (((a1) < (13)) ∨ ((a1) ≥ (13) ∧ (a1) > (17))) → Ew 22 (d + 0) 49 ls [] σ c s Q := by
       as_aux_lemma =>
        intro  ls σ F_c49 A_c49  lc49_0 lc49_1 H O hS_c49 hA_c49     jc49_0
        refine Ew_of (pcₚ := 50) (fun _ => x_iload_n rfl lc49_1) ?_
        by_cases b4 : a1 = 18
        · refine w_tsk 0 76 rfl (show inr (a1) by omega) (by omega) (by decide) rfl rfl ?_
          refine Ew_of (pcₚ := 77) (fun _ => x_aload_n rfl lc49_0) ?_
          refine v_g H (o := 0) (v := .ref (D 5)) rfl rfl rfl rfl rfl (vrf ((((hS_c49 0 2 rfl).trans (hS_c27 0 2 rfl))).trans (pf5))) ?_
          have r5 : HID ((-2147483648 : Int) ≤ F 5 1 ∧ F 5 1 ≤ 2147483647) := krg_e (show (-2147483648 : Int) ≤ F_c49 5 1 ∧ F_c49 5 1 ≤ 2147483647 from H.krg 5 1 (by decide)) (show F_c49 5 1 = F 5 1 from ((hS_c49 5 1 rfl).trans (hS_c27 5 1 rfl)))
          refine v_g H (o := 5) (v := I (F 5 1)) rfl rfl rfl rfl rfl (congrArg (fun z : Int => I z) (((hS_c49 5 1 rfl).trans (hS_c27 5 1 rfl)) : F_c49 5 1 = F 5 1)) ?_
          exact w_ireturn rfl (k (F 5 1) _ _ _ H O (SF_trans (SF_trans (SF_refl) hS_c27 (any_sub rfl)) hS_c49 (any_sub rfl)) (SA_trans (SA_trans (SA_refl) hA_c27 (any_subA rfl)) hA_c49 (any_subA rfl)) (show inr (F 5 1) by have qh0 := HIDe r5; omega))
        ·
          by_cases b6 : a1 = 19
          · refine w_tsk 1 84 rfl (show inr (a1) by omega) (by omega) (by decide) rfl rfl ?_
            refine Ew_of (pcₚ := 85) (fun _ => x_aload_n rfl lc49_0) ?_
            refine v_g H (o := 0) (v := .ref (D 3)) rfl rfl rfl rfl rfl (vrf ((((hS_c49 0 3 rfl).trans (hS_c27 0 3 rfl))).trans (pf3))) ?_
            refine v_g H (o := 3) (v := .ref (D 4)) rfl rfl rfl rfl rfl (vrf ((((hS_c49 3 0 rfl).trans (hS_c27 3 0 rfl))).trans (pf4))) ?_
            have r7 : HID ((-2147483648 : Int) ≤ F 4 1 ∧ F 4 1 ≤ 2147483647) := krg_e (show (-2147483648 : Int) ≤ F_c49 4 1 ∧ F_c49 4 1 ≤ 2147483647 from H.krg 4 1 (by decide)) (show F_c49 4 1 = F 4 1 from ((hS_c49 4 1 rfl).trans (hS_c27 4 1 rfl)))
            refine v_g H (o := 4) (v := I (F 4 1)) rfl rfl rfl rfl rfl (congrArg (fun z : Int => I z) (((hS_c49 4 1 rfl).trans (hS_c27 4 1 rfl)) : F_c49 4 1 = F 4 1)) ?_
            exact w_ireturn rfl (k (F 4 1) _ _ _ H O (SF_trans (SF_trans (SF_refl) hS_c27 (any_sub rfl)) hS_c49 (any_sub rfl)) (SA_trans (SA_trans (SA_refl) hA_c27 (any_subA rfl)) hA_c49 (any_subA rfl)) (show inr (F 4 1) by have qh0 := HIDe r7; omega))
          ·
            by_cases b8 : a1 = 20
            · refine w_tsk 2 95 rfl (show inr (a1) by omega) (by omega) (by decide) rfl rfl ?_
              refine Ew_of (pcₚ := 96) (fun _ => x_aload_n rfl lc49_0) ?_
              refine v_g H (o := 0) (v := .ref (D 3)) rfl rfl rfl rfl rfl (vrf ((((hS_c49 0 3 rfl).trans (hS_c27 0 3 rfl))).trans (pf3))) ?_
              have r9 : HID ((-2147483648 : Int) ≤ F 3 2 ∧ F 3 2 ≤ 2147483647) := krg_e (show (-2147483648 : Int) ≤ F_c49 3 2 ∧ F_c49 3 2 ≤ 2147483647 from H.krg 3 2 (by decide)) (show F_c49 3 2 = F 3 2 from ((hS_c49 3 2 rfl).trans (hS_c27 3 2 rfl)))
              refine v_g H (o := 3) (v := I (F 3 2)) rfl rfl rfl rfl rfl (congrArg (fun z : Int => I z) (((hS_c49 3 2 rfl).trans (hS_c27 3 2 rfl)) : F_c49 3 2 = F 3 2)) ?_
              exact w_ireturn rfl (k (F 3 2) _ _ _ H O (SF_trans (SF_trans (SF_refl) hS_c27 (any_sub rfl)) hS_c49 (any_sub rfl)) (SA_trans (SA_trans (SA_refl) hA_c27 (any_subA rfl)) hA_c49 (any_subA rfl)) (show inr (F 3 2) by have qh0 := HIDe r9; omega))
            ·
              refine w_tsd 103 rfl (show inr (a1) by omega) (by omega) rfl ?_
              refine Ew_of (pcₚ := 104) (fun _ => x_iconst rfl) ?_
              exact w_ireturn rfl (k ((-1)) _ _ _ H O (SF_trans (SF_trans (SF_refl) hS_c27 (any_sub rfl)) hS_c49 (any_sub rfl)) (SA_trans (SA_trans (SA_refl) hA_c27 (any_subA rfl)) hA_c49 (any_subA rfl)) (show inr ((-1)) by omega))
      refine w_icmplt (t := 49) rfl rfl (show inr (a1) by omega) (show inr (13) by omega) (fun b10 => ?_) (fun b10 => ?_)
      · exact hc49  _ _ _ _  (lc27_0) (lc27_1) H O (SF_refl) (SA_refl)     (show ((a1) < (13)) ∨ ((a1) ≥ (13) ∧ (a1) > (17)) by omega)
      · refine Ew_of (pcₚ := 34) (fun _ => x_iload_n rfl lc27_1) ?_
        refine Ew_of (pcₚ := 36) (fun _ => x_bipush (z := 17) rfl (by decide)) ?_
        refine w_icmpgt (t := 49) rfl rfl (show inr (a1) by omega) (show inr (17) by omega) (fun b11 => ?_) (fun b11 => ?_)
        · exact hc49  _ _ _ _  (lc27_0) (lc27_1) H O (SF_refl) (SA_refl)     (show ((a1) < (13)) ∨ ((a1) ≥ (13) ∧ (a1) > (17)) by omega)
        · refine Ew_of (pcₚ := 40) (fun _ => x_aload_n rfl lc27_0) ?_
          refine v_g H (o := 0) (v := .ref (D 2)) rfl rfl rfl rfl rfl (vrf (((hS_c27 0 14 rfl)).trans (pf2))) ?_
          refine Ew_of (pcₚ := 44) (fun _ => x_iload_n rfl lc27_1) ?_
          refine Ew_of (pcₚ := 46) (fun _ => x_bipush (z := 13) rfl (by decide)) ?_
          refine w_isub rfl ?_
          refine v_lI H (o := 2) rfl rfl rfl rfl (n := n2) (en2) (show 0 ≤ (a1 - 13) ∧ (a1 - 13) < n2 by have qh0 := HIDe r2; omega) (fun v12 ev12 qv12 => ?_)
          replace qv12 := HIDm qv12
          have ev12 : (A 2) ((a1 - 13)) = v12 := (congrFun (funext (hA_c27 2 rfl)) ((a1 - 13))).symm.trans ev12
          exact w_ireturn rfl (k (v12) _ _ _ H O (SF_trans (SF_refl) hS_c27 (any_sub rfl)) (SA_trans (SA_refl) hA_c27 (any_subA rfl)) (show inr (v12) by have qh0 := HIDe qv12; omega))
    refine w_icmplt (t := 27) rfl rfl (show inr (a1) by omega) (show inr (1) by omega) (fun b13 => ?_) (fun b13 => ?_)
    · exact hc27  _ _ _ _  (rfl) (rfl) H O (SF_refl) (SA_refl)     (show ((a1) < (1)) ∨ ((a1) ≥ (1) ∧ (a1) > (12)) by omega)
    · refine Ew_of (pcₚ := 15) (fun _ => x_iload_n rfl rfl) ?_
      refine Ew_of (pcₚ := 17) (fun _ => x_bipush (z := 12) rfl (by decide)) ?_
      refine w_icmpgt (t := 27) rfl rfl (show inr (a1) by omega) (show inr (12) by omega) (fun b14 => ?_) (fun b14 => ?_)
      · exact hc27  _ _ _ _  (rfl) (rfl) H O (SF_refl) (SA_refl)     (show ((a1) < (1)) ∨ ((a1) ≥ (1) ∧ (a1) > (12)) by omega)
      · refine Ew_of (pcₚ := 21) (fun _ => x_aload_n rfl rfl) ?_
        refine v_g H (o := 0) (v := .ref (D 1)) rfl rfl rfl rfl rfl (vrf (pf1)) ?_
        refine Ew_of (pcₚ := 25) (fun _ => x_iload_n rfl rfl) ?_
        refine v_lI H (o := 1) rfl rfl rfl rfl (n := n1) (en1) (show 0 ≤ a1 ∧ a1 < n1 by have qh0 := HIDe r1; omega) (fun v15 ev15 qv15 => ?_)
        replace qv15 := HIDm qv15
        have ev15 : (A 1) (a1) = v15 := (congrFun (rfl : A 1 = A 1) (a1)).symm.trans ev15
        exact w_ireturn rfl (k (v15) _ _ _ H O (SF_refl) (SA_refl) (show inr (v15) by have qh0 := HIDe qv15; omega))
  · refine Ew_of (pcₚ := 5) (fun _ => x_aload_n rfl rfl) ?_
    have r16 : HID ((-2147483648 : Int) ≤ F 0 18 ∧ F 0 18 ≤ 2147483647) := krg_e (show (-2147483648 : Int) ≤ F 0 18 ∧ F 0 18 ≤ 2147483647 from H.krg 0 18 (by decide)) (show F 0 18 = F 0 18 from rfl)
    refine v_g H (o := 0) (v := I (F 0 18)) rfl rfl rfl rfl rfl (congrArg (fun z : Int => I z) (rfl : F 0 18 = F 0 18)) ?_
    exact w_ireturn rfl (k (F 0 18) _ _ _ H O (SF_refl) (SA_refl) (show inr (F 0 18) by have qh0 := HIDe r16; omega))
abbrev V30 : vV := [(0, 0, [(4, 0), (4, 0), (4, 0), (4, 0), (4, 0), (4, 0), (4, 0), (4, 0), (4, 0), (4, 0), (4, 0), (4, 0), (4, 0), (4, 0), (4, 0), (4, 0), (4, 0), (0, 0), (0, 0)]), (0, 7, [(4, 0), (0, 0), (1, 0), (0, 0), (0, 0)]), (0, 4, [(4, 0), (4, 0), (0, 0), (4, 0), (4, 0)]), (0, 7, [(4, 0), (0, 0), (1, 0), (0, 0), (0, 0)])]
/-- PackHouse.bytesAhead: this, this.past, this.dictionary, this.dictionary.content -/
theorem C30 {σE : rS} {D N : Nat → Nat} {F : hF} {A : hA} {d c s : Nat} {Q : wQ} (H : HW V30 σE D N F A) {a1 : Int} (pf1 : F 0 2 = (D 1 : Int)) (pf2 : F 0 3 = (D 2 : Int)) (pf3 : F 2 0 = (D 3 : Int)) (u1_1 : Int) (eu1_1 : F 1 1 = u1_1) (u3_1 : Int) (eu3_1 : F 3 1 = u3_1) (h0 : inr (a1)) (k : ∀ (z : Int) (σ : rS) (Fₚ : hF) (Aₚ : hA), HW V30 σ D N Fₚ Aₚ → OUT (V30).length D N σE c s D N σ c s → SF [] F Fₚ → SA [] A Aₚ → (inr (z)) → (0 ≤ (a1) ∧ (a1) ≤ 1 ∧ (z) = (u1_1) ∨ (a1) = 4 ∧ (z) = (u3_1) ∨ ((a1) < 0 ∨ (a1) = 2 ∨ (a1) = 3 ∨ 5 ≤ (a1)) ∧ (z) = 0) → Q (some (I z)) σ c s) : Ew 30 (d + 0) 0 (rargs 0 [.ref (D 0), I a1]) [] σE c s Q := by
  have O := OUT_refl (n := (V30).length) (D := D) (N := N) (σ := σE) (c := c) (s := s)
  have HE := H
  have r1 : HID ((-2147483648 : Int) ≤ u1_1 ∧ u1_1 ≤ 2147483647) := krg_e (show (-2147483648 : Int) ≤ F 1 1 ∧ F 1 1 ≤ 2147483647 from H.krg 1 1 (by decide)) (show F 1 1 = u1_1 from (eu1_1))
  have r2 : HID ((-2147483648 : Int) ≤ u3_1 ∧ u3_1 ≤ 2147483647) := krg_e (show (-2147483648 : Int) ≤ F 3 1 ∧ F 3 1 ≤ 2147483647 from H.krg 3 1 (by decide)) (show F 3 1 = u3_1 from (eu3_1))
  replace pf1 := HIDm pf1
  replace pf2 := HIDm pf2
  replace pf3 := HIDm pf3
  replace eu1_1 := HIDm eu1_1
  replace eu3_1 := HIDm eu3_1
  refine Ew_of (pcₚ := 1) (fun _ => x_iload_n rfl rfl) ?_
  refine w_ifeq (t := 9) rfl rfl (show inr (a1) by omega) (fun b3 => ?_) (fun b3 => ?_)
  · refine Ew_of (pcₚ := 10) (fun _ => x_aload_n rfl rfl) ?_
    refine v_g H (o := 0) (v := .ref (D 1)) rfl rfl rfl rfl rfl (vrf (pf1)) ?_
    refine v_g H (o := 1) (v := I (u1_1)) rfl rfl rfl rfl rfl (congrArg (fun z : Int => I z) ((eu1_1) : F 1 1 = u1_1)) ?_
    exact w_ireturn rfl (k (u1_1) _ _ _ H O (SF_refl) (SA_refl) (show inr (u1_1) by have qh0 := HIDe r1; omega) (show 0 ≤ a1 ∧ a1 ≤ 1 ∧ (u1_1) = (u1_1) ∨ a1 = 4 ∧ (u1_1) = (u3_1) ∨ (a1 < 0 ∨ a1 = 2 ∨ a1 = 3 ∨ 5 ≤ a1) ∧ (u1_1) = 0 by have qh0 := HIDe r1; have qh1 := HIDe r2; omega))
  · refine Ew_of (pcₚ := 5) (fun _ => x_iload_n rfl rfl) ?_
    refine Ew_of (pcₚ := 6) (fun _ => x_iconst rfl) ?_
    refine w_icmpne (t := 17) rfl rfl (show inr (a1) by omega) (show inr (1) by omega) (fun b4 => ?_) (fun b4 => ?_)
    · refine Ew_of (pcₚ := 18) (fun _ => x_iload_n rfl rfl) ?_
      refine Ew_of (pcₚ := 19) (fun _ => x_iconst rfl) ?_
      refine w_icmpne (t := 35) rfl rfl (show inr (a1) by omega) (show inr (4) by omega) (fun b5 => ?_) (fun b5 => ?_)
      · refine Ew_of (pcₚ := 36) (fun _ => x_iconst rfl) ?_
        exact w_ireturn rfl (k (0) _ _ _ H O (SF_refl) (SA_refl) (show inr (0) by omega) (show 0 ≤ a1 ∧ a1 ≤ 1 ∧ (0) = (u1_1) ∨ a1 = 4 ∧ (0) = (u3_1) ∨ (a1 < 0 ∨ a1 = 2 ∨ a1 = 3 ∨ 5 ≤ a1) ∧ (0) = 0 by have qh0 := HIDe r1; have qh1 := HIDe r2; omega))
      · refine Ew_of (pcₚ := 23) (fun _ => x_aload_n rfl rfl) ?_
        refine v_g H (o := 0) (v := .ref (D 2)) rfl rfl rfl rfl rfl (vrf (pf2)) ?_
        refine v_g H (o := 2) (v := .ref (D 3)) rfl rfl rfl rfl rfl (vrf (pf3)) ?_
        refine v_g H (o := 3) (v := I (u3_1)) rfl rfl rfl rfl rfl (congrArg (fun z : Int => I z) ((eu3_1) : F 3 1 = u3_1)) ?_
        refine Ew_of (pcₚ := 36) (fun _ => x_goto rfl rfl) ?_
        exact w_ireturn rfl (k (u3_1) _ _ _ H O (SF_refl) (SA_refl) (show inr (u3_1) by have qh0 := HIDe r2; omega) (show 0 ≤ a1 ∧ a1 ≤ 1 ∧ (u3_1) = (u1_1) ∨ a1 = 4 ∧ (u3_1) = (u3_1) ∨ (a1 < 0 ∨ a1 = 2 ∨ a1 = 3 ∨ 5 ≤ a1) ∧ (u3_1) = 0 by have qh0 := HIDe r1; have qh1 := HIDe r2; omega))
    · refine Ew_of (pcₚ := 10) (fun _ => x_aload_n rfl rfl) ?_
      refine v_g H (o := 0) (v := .ref (D 1)) rfl rfl rfl rfl rfl (vrf (pf1)) ?_
      refine v_g H (o := 1) (v := I (u1_1)) rfl rfl rfl rfl rfl (congrArg (fun z : Int => I z) ((eu1_1) : F 1 1 = u1_1)) ?_
      exact w_ireturn rfl (k (u1_1) _ _ _ H O (SF_refl) (SA_refl) (show inr (u1_1) by have qh0 := HIDe r1; omega) (show 0 ≤ a1 ∧ a1 ≤ 1 ∧ (u1_1) = (u1_1) ∨ a1 = 4 ∧ (u1_1) = (u3_1) ∨ (a1 < 0 ∨ a1 = 2 ∨ a1 = 3 ∨ 5 ≤ a1) ∧ (u1_1) = 0 by have qh0 := HIDe r1; have qh1 := HIDe r2; omega))
abbrev V31 : vV := [(0, 0, [(4, 0), (4, 0), (4, 0), (4, 0), (4, 0), (4, 0), (4, 0), (4, 0), (4, 0), (4, 0), (4, 0), (4, 0), (4, 0), (4, 0), (4, 0), (4, 0), (4, 0), (0, 0), (0, 0)]), (1, 4, []), (0, 7, [(4, 0), (0, 0), (1, 0), (0, 0), (0, 0)]), (1, 0, []), (0, 7, [(4, 0), (0, 0), (1, 0), (0, 0), (0, 0)]), (1, 0, []), (0, 7, [(4, 0), (0, 0), (1, 0), (0, 0), (0, 0)]), (1, 0, []), (0, 7, [(4, 0), (0, 0), (1, 0), (0, 0), (0, 0)]), (1, 0, []), (0, 7, [(4, 0), (0, 0), (1, 0), (0, 0), (0, 0)]), (1, 0, [])]
/-- PackHouse.settle: this, this.rows, this.rows.0, this.rows.0.bytes, this.rows.1, this.rows.1.bytes, this.rows.2, this.rows.2.bytes, this.rows.3, this.rows.3.bytes, this.content, this.content.bytes -/
theorem C31 {σE : rS} {D N : Nat → Nat} {F : hF} {A : hA} {d c s : Nat} {Q : wQ} (H : HW V31 σE D N F A) {a1 a2 : Int} (pf1 : F 0 0 = (D 1 : Int)) (pf2 : A 1 0 = (D 2 : Int)) (pf3 : F 2 0 = (D 3 : Int)) (pf4 : A 1 1 = (D 4 : Int)) (pf5 : F 4 0 = (D 5 : Int)) (pf6 : A 1 2 = (D 6 : Int)) (pf7 : F 6 0 = (D 7 : Int)) (pf8 : A 1 3 = (D 8 : Int)) (pf9 : F 8 0 = (D 9 : Int)) (pf10 : F 0 6 = (D 10 : Int)) (pf11 : F 10 0 = (D 11 : Int)) (n1 : Int) (en1 : (N 1 : Int) = n1) (n3 : Int) (en3 : (N 3 : Int) = n3) (n5 : Int) (en5 : (N 5 : Int) = n5) (n7 : Int) (en7 : (N 7 : Int) = n7) (n9 : Int) (en9 : (N 9 : Int) = n9) (n11 : Int) (en11 : (N 11 : Int) = n11) (u2_1 : Int) (eu2_1 : F 2 1 = u2_1) (u4_1 : Int) (eu4_1 : F 4 1 = u4_1) (u6_1 : Int) (eu6_1 : F 6 1 = u6_1) (u8_1 : Int) (eu8_1 : F 8 1 = u8_1) (u10_1 : Int) (eu10_1 : F 10 1 = u10_1) (h0 : inr (a1)) (h1 : inr (a2)) (h2 : (n1) = 4) (h3 : 0 ≤ (u2_1) ∧ (u2_1) ≤ (n3) ∧ (n3) ≤ 65536) (h4 : 0 ≤ (u4_1) ∧ (u4_1) ≤ (n5) ∧ (n5) ≤ 65536) (h5 : 0 ≤ (u6_1) ∧ (u6_1) ≤ (n7) ∧ (n7) ≤ 65536) (h6 : 0 ≤ (u8_1) ∧ (u8_1) ≤ (n9) ∧ (n9) ≤ 65536) (h7 : 0 ≤ (u10_1) ∧ (u10_1) ≤ (n11) ∧ (n11) ≤ 65536) (h8 : 0 ≤ (a1) ∧ (a1) ≤ 3) (k : ∀ (z : Int) (σ : rS) (Dₚ Nₚ : Nat → Nat) (Fₚ : hF) (Aₚ : hA) (cₚ sₚ : Nat), HW V31 σ Dₚ Nₚ Fₚ Aₚ → OUT (V31).length D N σE c s Dₚ Nₚ σ cₚ sₚ → SD [3, 5, 7, 9] D Dₚ → SD [3, 5, 7, 9] N Nₚ → SF [(0, 18), (2, 0), (2, 1), (2, 2), (2, 3), (2, 4), (4, 0), (4, 1), (4, 2), (4, 3), (4, 4), (6, 0), (6, 1), (6, 2), (6, 3), (6, 4), (8, 0), (8, 1), (8, 2), (8, 3), (8, 4)] F Fₚ → SA [3, 5, 7, 9] A Aₚ → Fₚ 2 0 = (Dₚ 3 : Int) → Fₚ 4 0 = (Dₚ 5 : Int) → Fₚ 6 0 = (Dₚ 7 : Int) → Fₚ 8 0 = (Dₚ 9 : Int) → ∀ m3 : Int, (Nₚ 3 : Int) = m3 → ∀ m5 : Int, (Nₚ 5 : Int) = m5 → ∀ m7 : Int, (Nₚ 7 : Int) = m7 → ∀ m9 : Int, (Nₚ 9 : Int) = m9 → ∀ y2_1 : Int, Fₚ 2 1 = y2_1 → ∀ y4_1 : Int, Fₚ 4 1 = y4_1 → ∀ y6_1 : Int, Fₚ 6 1 = y6_1 → ∀ y8_1 : Int, Fₚ 8 1 = y8_1 → (inr (z)) → (0 ≤ (y2_1) ∧ (y2_1) ≤ (m3) ∧ (m3) ≤ 65536) → (0 ≤ (y4_1) ∧ (y4_1) ≤ (m5) ∧ (m5) ≤ 65536) → (0 ≤ (y6_1) ∧ (y6_1) ≤ (m7) ∧ (m7) ≤ 65536) → (0 ≤ (y8_1) ∧ (y8_1) ≤ (m9) ∧ (m9) ≤ 65536) → (0 ≤ (u10_1) ∧ (u10_1) ≤ (n11) ∧ (n11) ≤ 65536) → Q (some (I z)) σ cₚ sₚ) : Ew 31 (d + 4) 0 (rargs 0 [.ref (D 0), I a1, I a2]) [] σE c s Q := by
  have O := OUT_refl (n := (V31).length) (D := D) (N := N) (σ := σE) (c := c) (s := s)
  have HE := H
  have r1 : HID ((-2147483648 : Int) ≤ u2_1 ∧ u2_1 ≤ 2147483647) := krg_e (show (-2147483648 : Int) ≤ F 2 1 ∧ F 2 1 ≤ 2147483647 from H.krg 2 1 (by decide)) (show F 2 1 = u2_1 from (eu2_1))
  have r2 : HID ((-2147483648 : Int) ≤ u4_1 ∧ u4_1 ≤ 2147483647) := krg_e (show (-2147483648 : Int) ≤ F 4 1 ∧ F 4 1 ≤ 2147483647 from H.krg 4 1 (by decide)) (show F 4 1 = u4_1 from (eu4_1))
  have r3 : HID ((-2147483648 : Int) ≤ u6_1 ∧ u6_1 ≤ 2147483647) := krg_e (show (-2147483648 : Int) ≤ F 6 1 ∧ F 6 1 ≤ 2147483647 from H.krg 6 1 (by decide)) (show F 6 1 = u6_1 from (eu6_1))
  have r4 : HID ((-2147483648 : Int) ≤ u8_1 ∧ u8_1 ≤ 2147483647) := krg_e (show (-2147483648 : Int) ≤ F 8 1 ∧ F 8 1 ≤ 2147483647 from H.krg 8 1 (by decide)) (show F 8 1 = u8_1 from (eu8_1))
  have r5 : HID ((-2147483648 : Int) ≤ u10_1 ∧ u10_1 ≤ 2147483647) := krg_e (show (-2147483648 : Int) ≤ F 10 1 ∧ F 10 1 ≤ 2147483647 from H.krg 10 1 (by decide)) (show F 10 1 = u10_1 from (eu10_1))
  replace pf1 := HIDm pf1
  replace pf2 := HIDm pf2
  replace pf3 := HIDm pf3
  replace pf4 := HIDm pf4
  replace pf5 := HIDm pf5
  replace pf6 := HIDm pf6
  replace pf7 := HIDm pf7
  replace pf8 := HIDm pf8
  replace pf9 := HIDm pf9
  replace pf10 := HIDm pf10
  replace pf11 := HIDm pf11
  replace en1 := HIDm en1
  replace en3 := HIDm en3
  replace en5 := HIDm en5
  replace en7 := HIDm en7
  replace en9 := HIDm en9
  replace en11 := HIDm en11
  replace eu2_1 := HIDm eu2_1
  replace eu4_1 := HIDm eu4_1
  replace eu6_1 := HIDm eu6_1
  replace eu8_1 := HIDm eu8_1
  replace eu10_1 := HIDm eu10_1
  have r6 : HID ((0 : Int) ≤ n1 ∧ n1 ≤ 1000000) := nrng (H.nle 1 (by decide)) (show (N 1 : Int) = n1 from en1)
  have r7 : HID ((0 : Int) ≤ n3 ∧ n3 ≤ 1000000) := nrng (H.nle 3 (by decide)) (show (N 3 : Int) = n3 from en3)
  have r8 : HID ((0 : Int) ≤ n5 ∧ n5 ≤ 1000000) := nrng (H.nle 5 (by decide)) (show (N 5 : Int) = n5 from en5)
  have r9 : HID ((0 : Int) ≤ n7 ∧ n7 ≤ 1000000) := nrng (H.nle 7 (by decide)) (show (N 7 : Int) = n7 from en7)
  have r10 : HID ((0 : Int) ≤ n9 ∧ n9 ≤ 1000000) := nrng (H.nle 9 (by decide)) (show (N 9 : Int) = n9 from en9)
  have r11 : HID ((0 : Int) ≤ n11 ∧ n11 ≤ 1000000) := nrng (H.nle 11 (by decide)) (show (N 11 : Int) = n11 from en11)
  refine Ew_of (pcₚ := 1) (fun _ => x_aload_n rfl rfl) ?_
  refine Ew_of (pcₚ := 2) (fun _ => x_aload_n rfl rfl) ?_
  have r12 : HID ((-2147483648 : Int) ≤ F 0 17 ∧ F 0 17 ≤ 2147483647) := krg_e (show (-2147483648 : Int) ≤ F 0 17 ∧ F 0 17 ≤ 2147483647 from H.krg 0 17 (by decide)) (show F 0 17 = F 0 17 from rfl)
  refine v_g H (o := 0) (v := I (F 0 17)) rfl rfl rfl rfl rfl (congrArg (fun z : Int => I z) (rfl : F 0 17 = F 0 17)) ?_
  refine v_p H (o := 0) (z := F 0 17) (v := I (F 0 17)) rfl rfl rfl rfl rfl rfl rfl rfl (show (-2147483648 : Int) ≤ F 0 17 ∧ F 0 17 ≤ 2147483647 by have qh0 := HIDe r12; omega) (fun σ H Oₚ => ?_)
  have O := OUT_trans O Oₚ
  refine Ew_of (pcₚ := 9) (fun _ => x_iload_n rfl rfl) ?_
  refine w_iflt (t := 25) rfl rfl (show inr (a2) by omega) (fun b13 => ?_) (fun b13 => ?_)
  · refine Ew_of (pcₚ := 26) (fun _ => x_iload_n rfl rfl) ?_
    exact w_ireturn rfl (k (a2) _ _ _ _ _ _ _ H O (SD_refl) (SD_refl) (SF_upd (SF_refl) rfl) (SA_refl) (pf3) (pf5) (pf7) (pf9) (n3) (en3) (n5) (en5) (n7) (en7) (n9) (en9) (u2_1) ((eu2_1)) (u4_1) ((eu4_1)) (u6_1) ((eu6_1)) (u8_1) ((eu8_1)) (show inr (a2) by omega) (show 0 ≤ (u2_1) ∧ (u2_1) ≤ (n3) ∧ (n3) ≤ 65536 by have qh0 := HIDe r1; have qh1 := HIDe r7; omega) (show 0 ≤ (u4_1) ∧ (u4_1) ≤ (n5) ∧ (n5) ≤ 65536 by have qh0 := HIDe r2; have qh1 := HIDe r8; omega) (show 0 ≤ (u6_1) ∧ (u6_1) ≤ (n7) ∧ (n7) ≤ 65536 by have qh0 := HIDe r3; have qh1 := HIDe r9; omega) (show 0 ≤ (u8_1) ∧ (u8_1) ≤ (n9) ∧ (n9) ≤ 65536 by have qh0 := HIDe r10; have qh1 := HIDe r4; omega) (show 0 ≤ (u10_1) ∧ (u10_1) ≤ (n11) ∧ (n11) ≤ 65536 by have qh0 := HIDe r11; have qh1 := HIDe r5; omega))
  · refine Ew_of (pcₚ := 13) (fun _ => x_aload_n rfl rfl) ?_
    refine v_g H (o := 0) (v := .ref (D 1)) rfl rfl rfl rfl rfl (vrf (pf1)) ?_
    refine Ew_of (pcₚ := 17) (fun _ => x_iload_n rfl rfl) ?_
    rcases (show a1 = 0 ∨ a1 = 1 ∨ a1 = 2 ∨ a1 = 3 by omega) with b14 | b14 | b14 | b14
    · refine v_lR H (o := 1) rfl rfl rfl rfl rfl (n := n1) (en1) (show 0 ≤ a1 ∧ a1 < n1 by have qh0 := HIDe r6; omega) (z := ((D 2 : Nat) : Int)) (v := .ref (D 2)) ((congrArg (A 1) b14).trans (pf2)) (vrf rfl) ?_
      refine Ew_of (pcₚ := 19) (fun _ => x_aload_n rfl rfl) ?_
      refine v_g H (o := 0) (v := .ref (D 10)) rfl rfl rfl rfl rfl (vrf (pf10)) ?_
      refine v_inv H (o := 2) rfl rfl rfl rfl rfl rfl (by rfl) (C158_Row (D := pul [2, 10, 3, 11] D) (N := pul [2, 10, 3, 11] N) (HW_sub H (VS_of (show vsub V31 V158_Row [2, 10, 3, 11] = true by decide +kernel))) (pf3) (pf11) (n3) (en3) (n11) (en11) (u2_1) ((eu2_1)) (u10_1) ((eu10_1)) (show 0 ≤ (u2_1) ∧ (u2_1) ≤ (n3) ∧ (n3) ≤ 65536 by have qh0 := HIDe r1; have qh1 := HIDe r7; omega) (show 0 ≤ (u10_1) ∧ (u10_1) ≤ (n11) ∧ (n11) ≤ 65536 by have qh0 := HIDe r11; have qh1 := HIDe r5; omega) (fun σ15 D15ₚ N15ₚ F15ₚ A15ₚ c15 s15 Hₚ Oₚ hD15 hN15 hS15 hA15 pm15_2 m15_2 em15_2 y15_0_1 ey15_0_1 pz15_0 pz15_1 => ⟨rfl, ?_⟩))
      replace pm15_2 := HIDm pm15_2
      replace em15_2 := HIDm em15_2
      replace ey15_0_1 := HIDm ey15_0_1
      refine v_backM (c := c) (s := s) H (show vsub V31 V158_Row [2, 10, 3, 11] = true by decide +kernel) Hₚ Oₚ hD15 (show vmov V31 [2, 10, 3, 11] [2] = true by decide +kernel) (fun D15 N15 F15 A15 H Oₚ eD15 eN15 eF15 eA15 => ?_)
      have O := OUT_trans O Oₚ
      -- Row.become
      have pe15_1_0 : HID (A15 1 0 = (D15 2 : Int)) := (congrFun ((show A15 1 = A 1 from (eA15 1))) 0).trans ((pf2).trans (congrArg (fun q : Nat => (q : Int)) ((show D15 2 = D 2 from (eD15 2).trans (hD15 0 rfl))).symm))
      have pe15_1_1 : HID (A15 1 1 = (D15 4 : Int)) := (congrFun ((show A15 1 = A 1 from (eA15 1))) 1).trans ((pf4).trans (congrArg (fun q : Nat => (q : Int)) ((show D15 4 = D 4 from (eD15 4))).symm))
      have pe15_1_2 : HID (A15 1 2 = (D15 6 : Int)) := (congrFun ((show A15 1 = A 1 from (eA15 1))) 2).trans ((pf6).trans (congrArg (fun q : Nat => (q : Int)) ((show D15 6 = D 6 from (eD15 6))).symm))
      have pe15_1_3 : HID (A15 1 3 = (D15 8 : Int)) := (congrFun ((show A15 1 = A 1 from (eA15 1))) 3).trans ((pf8).trans (congrArg (fun q : Nat => (q : Int)) ((show D15 8 = D 8 from (eD15 8))).symm))
      have pf15_0_0 : HID (F15 0 0 = (D15 1 : Int)) := ((show F15 0 0 = (updF F 0 18 (F 0 17)) 0 0 from (eF15 0 0))).trans ((pf1).trans (congrArg (fun q : Nat => (q : Int)) ((show D15 1 = D 1 from (eD15 1))).symm))
      have pf15_0_6 : HID (F15 0 6 = (D15 10 : Int)) := ((show F15 0 6 = (updF F 0 18 (F 0 17)) 0 6 from (eF15 0 6))).trans ((pf10).trans (congrArg (fun q : Nat => (q : Int)) ((show D15 10 = D 10 from (eD15 10).trans (hD15 1 rfl))).symm))
      have pf15_10_0 : HID (F15 10 0 = (D15 11 : Int)) := ((show F15 10 0 = (updF F 0 18 (F 0 17)) 10 0 from (eF15 10 0).trans (hS15 1 0 rfl))).trans ((pf11).trans (congrArg (fun q : Nat => (q : Int)) ((show D15 11 = D 11 from (eD15 11).trans (hD15 3 rfl))).symm))
      have pf15_2_0 : HID (F15 2 0 = (D15 3 : Int)) := (eF15 2 0).trans (pm15_2.trans (congrArg (fun q : Nat => (q : Int)) (eD15 3).symm))
      have pf15_4_0 : HID (F15 4 0 = (D15 5 : Int)) := ((show F15 4 0 = (updF F 0 18 (F 0 17)) 4 0 from (eF15 4 0))).trans ((pf5).trans (congrArg (fun q : Nat => (q : Int)) ((show D15 5 = D 5 from (eD15 5))).symm))
      have pf15_6_0 : HID (F15 6 0 = (D15 7 : Int)) := ((show F15 6 0 = (updF F 0 18 (F 0 17)) 6 0 from (eF15 6 0))).trans ((pf7).trans (congrArg (fun q : Nat => (q : Int)) ((show D15 7 = D 7 from (eD15 7))).symm))
      have pf15_8_0 : HID (F15 8 0 = (D15 9 : Int)) := ((show F15 8 0 = (updF F 0 18 (F 0 17)) 8 0 from (eF15 8 0))).trans ((pf9).trans (congrArg (fun q : Nat => (q : Int)) ((show D15 9 = D 9 from (eD15 9))).symm))
      have r16 : HID ((0 : Int) ≤ m15_2 ∧ m15_2 ≤ 1000000) := nrng (H.nle 3 (by decide)) (show (N15 3 : Int) = m15_2 from (congrArg (fun q : Nat => (q : Int)) (eN15 3)).trans em15_2)
      have r17 : HID ((-2147483648 : Int) ≤ y15_0_1 ∧ y15_0_1 ≤ 2147483647) := krg_e (show (-2147483648 : Int) ≤ F15 2 1 ∧ F15 2 1 ≤ 2147483647 from H.krg 2 1 (by decide)) (show F15 2 1 = y15_0_1 from ((eF15 2 1).trans ey15_0_1))
      refine Ew_of (pcₚ := 26) (fun _ => x_iload_n rfl rfl) ?_
      exact w_ireturn rfl (k (a2) _ _ _ _ _ _ _ H O (SD_trans (SD_refl) (SD_glu (ι := [2, 10, 3, 11]) hD15 eD15 (by decide +kernel)) (any_subA (lₚ := [3]) rfl)) (SD_trans (SD_refl) (SD_glu (ι := [2, 10, 3, 11]) hN15 eN15 (by decide +kernel)) (any_subA (lₚ := [3]) rfl)) (SF_trans (SF_upd (SF_refl) rfl) (SF_glu (ι := [2, 10, 3, 11]) hS15 eF15 (by decide +kernel)) (any_sub (lₚ := [(2, 0), (2, 1), (2, 2), (2, 3), (2, 4)]) rfl)) (SA_trans (SA_refl) (SA_glu (ι := [2, 10, 3, 11]) hA15 eA15 (by decide +kernel)) (any_subA (lₚ := [3]) rfl)) (pf15_2_0) (pf15_4_0) (pf15_6_0) (pf15_8_0) (m15_2) ((congrArg (fun q : Nat => (q : Int)) (eN15 3)).trans em15_2) (n5) ((congrArg (fun q : Nat => (q : Int)) (show N15 5 = N 5 from (eN15 5))).trans (en5)) (n7) ((congrArg (fun q : Nat => (q : Int)) (show N15 7 = N 7 from (eN15 7))).trans (en7)) (n9) ((congrArg (fun q : Nat => (q : Int)) (show N15 9 = N 9 from (eN15 9))).trans (en9)) (y15_0_1) (((eF15 2 1).trans ey15_0_1)) (u4_1) ((((show F15 4 1 = (updF F 0 18 (F 0 17)) 4 1 from (eF15 4 1))).trans (eu4_1))) (u6_1) ((((show F15 6 1 = (updF F 0 18 (F 0 17)) 6 1 from (eF15 6 1))).trans (eu6_1))) (u8_1) ((((show F15 8 1 = (updF F 0 18 (F 0 17)) 8 1 from (eF15 8 1))).trans (eu8_1))) (show inr (a2) by omega) (show 0 ≤ (y15_0_1) ∧ (y15_0_1) ≤ (m15_2) ∧ (m15_2) ≤ 65536 by have qh0 := HIDe r16; have qh1 := HIDe r17; omega) (show 0 ≤ (u4_1) ∧ (u4_1) ≤ (n5) ∧ (n5) ≤ 65536 by have qh0 := HIDe r2; have qh1 := HIDe r8; omega) (show 0 ≤ (u6_1) ∧ (u6_1) ≤ (n7) ∧ (n7) ≤ 65536 by have qh0 := HIDe r3; have qh1 := HIDe r9; omega) (show 0 ≤ (u8_1) ∧ (u8_1) ≤ (n9) ∧ (n9) ≤ 65536 by have qh0 := HIDe r10; have qh1 := HIDe r4; omega) (show 0 ≤ (u10_1) ∧ (u10_1) ≤ (n11) ∧ (n11) ≤ 65536 by have qh0 := HIDe r11; have qh1 := HIDe r5; omega))
    · refine v_lR H (o := 1) rfl rfl rfl rfl rfl (n := n1) (en1) (show 0 ≤ a1 ∧ a1 < n1 by have qh0 := HIDe r6; omega) (z := ((D 4 : Nat) : Int)) (v := .ref (D 4)) ((congrArg (A 1) b14).trans (pf4)) (vrf rfl) ?_
      refine Ew_of (pcₚ := 19) (fun _ => x_aload_n rfl rfl) ?_
      refine v_g H (o := 0) (v := .ref (D 10)) rfl rfl rfl rfl rfl (vrf (pf10)) ?_
      refine v_inv H (o := 4) rfl rfl rfl rfl rfl rfl (by rfl) (C158_Row (D := pul [4, 10, 5, 11] D) (N := pul [4, 10, 5, 11] N) (HW_sub H (VS_of (show vsub V31 V158_Row [4, 10, 5, 11] = true by decide +kernel))) (pf5) (pf11) (n5) (en5) (n11) (en11) (u4_1) ((eu4_1)) (u10_1) ((eu10_1)) (show 0 ≤ (u4_1) ∧ (u4_1) ≤ (n5) ∧ (n5) ≤ 65536 by have qh0 := HIDe r2; have qh1 := HIDe r8; omega) (show 0 ≤ (u10_1) ∧ (u10_1) ≤ (n11) ∧ (n11) ≤ 65536 by have qh0 := HIDe r11; have qh1 := HIDe r5; omega) (fun σ18 D18ₚ N18ₚ F18ₚ A18ₚ c18 s18 Hₚ Oₚ hD18 hN18 hS18 hA18 pm18_2 m18_2 em18_2 y18_0_1 ey18_0_1 pz18_0 pz18_1 => ⟨rfl, ?_⟩))
      replace pm18_2 := HIDm pm18_2
      replace em18_2 := HIDm em18_2
      replace ey18_0_1 := HIDm ey18_0_1
      refine v_backM (c := c) (s := s) H (show vsub V31 V158_Row [4, 10, 5, 11] = true by decide +kernel) Hₚ Oₚ hD18 (show vmov V31 [4, 10, 5, 11] [2] = true by decide +kernel) (fun D18 N18 F18 A18 H Oₚ eD18 eN18 eF18 eA18 => ?_)
      have O := OUT_trans O Oₚ
      -- Row.become
      have pe18_1_0 : HID (A18 1 0 = (D18 2 : Int)) := (congrFun ((show A18 1 = A 1 from (eA18 1))) 0).trans ((pf2).trans (congrArg (fun q : Nat => (q : Int)) ((show D18 2 = D 2 from (eD18 2))).symm))
      have pe18_1_1 : HID (A18 1 1 = (D18 4 : Int)) := (congrFun ((show A18 1 = A 1 from (eA18 1))) 1).trans ((pf4).trans (congrArg (fun q : Nat => (q : Int)) ((show D18 4 = D 4 from (eD18 4).trans (hD18 0 rfl))).symm))
      have pe18_1_2 : HID (A18 1 2 = (D18 6 : Int)) := (congrFun ((show A18 1 = A 1 from (eA18 1))) 2).trans ((pf6).trans (congrArg (fun q : Nat => (q : Int)) ((show D18 6 = D 6 from (eD18 6))).symm))
      have pe18_1_3 : HID (A18 1 3 = (D18 8 : Int)) := (congrFun ((show A18 1 = A 1 from (eA18 1))) 3).trans ((pf8).trans (congrArg (fun q : Nat => (q : Int)) ((show D18 8 = D 8 from (eD18 8))).symm))
      have pf18_0_0 : HID (F18 0 0 = (D18 1 : Int)) := ((show F18 0 0 = (updF F 0 18 (F 0 17)) 0 0 from (eF18 0 0))).trans ((pf1).trans (congrArg (fun q : Nat => (q : Int)) ((show D18 1 = D 1 from (eD18 1))).symm))
      have pf18_0_6 : HID (F18 0 6 = (D18 10 : Int)) := ((show F18 0 6 = (updF F 0 18 (F 0 17)) 0 6 from (eF18 0 6))).trans ((pf10).trans (congrArg (fun q : Nat => (q : Int)) ((show D18 10 = D 10 from (eD18 10).trans (hD18 1 rfl))).symm))
      have pf18_10_0 : HID (F18 10 0 = (D18 11 : Int)) := ((show F18 10 0 = (updF F 0 18 (F 0 17)) 10 0 from (eF18 10 0).trans (hS18 1 0 rfl))).trans ((pf11).trans (congrArg (fun q : Nat => (q : Int)) ((show D18 11 = D 11 from (eD18 11).trans (hD18 3 rfl))).symm))
      have pf18_2_0 : HID (F18 2 0 = (D18 3 : Int)) := ((show F18 2 0 = (updF F 0 18 (F 0 17)) 2 0 from (eF18 2 0))).trans ((pf3).trans (congrArg (fun q : Nat => (q : Int)) ((show D18 3 = D 3 from (eD18 3))).symm))
      have pf18_4_0 : HID (F18 4 0 = (D18 5 : Int)) := (eF18 4 0).trans (pm18_2.trans (congrArg (fun q : Nat => (q : Int)) (eD18 5).symm))
      have pf18_6_0 : HID (F18 6 0 = (D18 7 : Int)) := ((show F18 6 0 = (updF F 0 18 (F 0 17)) 6 0 from (eF18 6 0))).trans ((pf7).trans (congrArg (fun q : Nat => (q : Int)) ((show D18 7 = D 7 from (eD18 7))).symm))
      have pf18_8_0 : HID (F18 8 0 = (D18 9 : Int)) := ((show F18 8 0 = (updF F 0 18 (F 0 17)) 8 0 from (eF18 8 0))).trans ((pf9).trans (congrArg (fun q : Nat => (q : Int)) ((show D18 9 = D 9 from (eD18 9))).symm))
      have r19 : HID ((0 : Int) ≤ m18_2 ∧ m18_2 ≤ 1000000) := nrng (H.nle 5 (by decide)) (show (N18 5 : Int) = m18_2 from (congrArg (fun q : Nat => (q : Int)) (eN18 5)).trans em18_2)
      have r20 : HID ((-2147483648 : Int) ≤ y18_0_1 ∧ y18_0_1 ≤ 2147483647) := krg_e (show (-2147483648 : Int) ≤ F18 4 1 ∧ F18 4 1 ≤ 2147483647 from H.krg 4 1 (by decide)) (show F18 4 1 = y18_0_1 from ((eF18 4 1).trans ey18_0_1))
      refine Ew_of (pcₚ := 26) (fun _ => x_iload_n rfl rfl) ?_
      exact w_ireturn rfl (k (a2) _ _ _ _ _ _ _ H O (SD_trans (SD_refl) (SD_glu (ι := [4, 10, 5, 11]) hD18 eD18 (by decide +kernel)) (any_subA (lₚ := [5]) rfl)) (SD_trans (SD_refl) (SD_glu (ι := [4, 10, 5, 11]) hN18 eN18 (by decide +kernel)) (any_subA (lₚ := [5]) rfl)) (SF_trans (SF_upd (SF_refl) rfl) (SF_glu (ι := [4, 10, 5, 11]) hS18 eF18 (by decide +kernel)) (any_sub (lₚ := [(4, 0), (4, 1), (4, 2), (4, 3), (4, 4)]) rfl)) (SA_trans (SA_refl) (SA_glu (ι := [4, 10, 5, 11]) hA18 eA18 (by decide +kernel)) (any_subA (lₚ := [5]) rfl)) (pf18_2_0) (pf18_4_0) (pf18_6_0) (pf18_8_0) (n3) ((congrArg (fun q : Nat => (q : Int)) (show N18 3 = N 3 from (eN18 3))).trans (en3)) (m18_2) ((congrArg (fun q : Nat => (q : Int)) (eN18 5)).trans em18_2) (n7) ((congrArg (fun q : Nat => (q : Int)) (show N18 7 = N 7 from (eN18 7))).trans (en7)) (n9) ((congrArg (fun q : Nat => (q : Int)) (show N18 9 = N 9 from (eN18 9))).trans (en9)) (u2_1) ((((show F18 2 1 = (updF F 0 18 (F 0 17)) 2 1 from (eF18 2 1))).trans (eu2_1))) (y18_0_1) (((eF18 4 1).trans ey18_0_1)) (u6_1) ((((show F18 6 1 = (updF F 0 18 (F 0 17)) 6 1 from (eF18 6 1))).trans (eu6_1))) (u8_1) ((((show F18 8 1 = (updF F 0 18 (F 0 17)) 8 1 from (eF18 8 1))).trans (eu8_1))) (show inr (a2) by omega) (show 0 ≤ (u2_1) ∧ (u2_1) ≤ (n3) ∧ (n3) ≤ 65536 by have qh0 := HIDe r1; have qh1 := HIDe r7; omega) (show 0 ≤ (y18_0_1) ∧ (y18_0_1) ≤ (m18_2) ∧ (m18_2) ≤ 65536 by have qh0 := HIDe r19; have qh1 := HIDe r20; omega) (show 0 ≤ (u6_1) ∧ (u6_1) ≤ (n7) ∧ (n7) ≤ 65536 by have qh0 := HIDe r3; have qh1 := HIDe r9; omega) (show 0 ≤ (u8_1) ∧ (u8_1) ≤ (n9) ∧ (n9) ≤ 65536 by have qh0 := HIDe r10; have qh1 := HIDe r4; omega) (show 0 ≤ (u10_1) ∧ (u10_1) ≤ (n11) ∧ (n11) ≤ 65536 by have qh0 := HIDe r11; have qh1 := HIDe r5; omega))
    · refine v_lR H (o := 1) rfl rfl rfl rfl rfl (n := n1) (en1) (show 0 ≤ a1 ∧ a1 < n1 by have qh0 := HIDe r6; omega) (z := ((D 6 : Nat) : Int)) (v := .ref (D 6)) ((congrArg (A 1) b14).trans (pf6)) (vrf rfl) ?_
      refine Ew_of (pcₚ := 19) (fun _ => x_aload_n rfl rfl) ?_
      refine v_g H (o := 0) (v := .ref (D 10)) rfl rfl rfl rfl rfl (vrf (pf10)) ?_
      refine v_inv H (o := 6) rfl rfl rfl rfl rfl rfl (by rfl) (C158_Row (D := pul [6, 10, 7, 11] D) (N := pul [6, 10, 7, 11] N) (HW_sub H (VS_of (show vsub V31 V158_Row [6, 10, 7, 11] = true by decide +kernel))) (pf7) (pf11) (n7) (en7) (n11) (en11) (u6_1) ((eu6_1)) (u10_1) ((eu10_1)) (show 0 ≤ (u6_1) ∧ (u6_1) ≤ (n7) ∧ (n7) ≤ 65536 by have qh0 := HIDe r3; have qh1 := HIDe r9; omega) (show 0 ≤ (u10_1) ∧ (u10_1) ≤ (n11) ∧ (n11) ≤ 65536 by have qh0 := HIDe r11; have qh1 := HIDe r5; omega) (fun σ21 D21ₚ N21ₚ F21ₚ A21ₚ c21 s21 Hₚ Oₚ hD21 hN21 hS21 hA21 pm21_2 m21_2 em21_2 y21_0_1 ey21_0_1 pz21_0 pz21_1 => ⟨rfl, ?_⟩))
      replace pm21_2 := HIDm pm21_2
      replace em21_2 := HIDm em21_2
      replace ey21_0_1 := HIDm ey21_0_1
      refine v_backM (c := c) (s := s) H (show vsub V31 V158_Row [6, 10, 7, 11] = true by decide +kernel) Hₚ Oₚ hD21 (show vmov V31 [6, 10, 7, 11] [2] = true by decide +kernel) (fun D21 N21 F21 A21 H Oₚ eD21 eN21 eF21 eA21 => ?_)
      have O := OUT_trans O Oₚ
      -- Row.become
      have pe21_1_0 : HID (A21 1 0 = (D21 2 : Int)) := (congrFun ((show A21 1 = A 1 from (eA21 1))) 0).trans ((pf2).trans (congrArg (fun q : Nat => (q : Int)) ((show D21 2 = D 2 from (eD21 2))).symm))
      have pe21_1_1 : HID (A21 1 1 = (D21 4 : Int)) := (congrFun ((show A21 1 = A 1 from (eA21 1))) 1).trans ((pf4).trans (congrArg (fun q : Nat => (q : Int)) ((show D21 4 = D 4 from (eD21 4))).symm))
      have pe21_1_2 : HID (A21 1 2 = (D21 6 : Int)) := (congrFun ((show A21 1 = A 1 from (eA21 1))) 2).trans ((pf6).trans (congrArg (fun q : Nat => (q : Int)) ((show D21 6 = D 6 from (eD21 6).trans (hD21 0 rfl))).symm))
      have pe21_1_3 : HID (A21 1 3 = (D21 8 : Int)) := (congrFun ((show A21 1 = A 1 from (eA21 1))) 3).trans ((pf8).trans (congrArg (fun q : Nat => (q : Int)) ((show D21 8 = D 8 from (eD21 8))).symm))
      have pf21_0_0 : HID (F21 0 0 = (D21 1 : Int)) := ((show F21 0 0 = (updF F 0 18 (F 0 17)) 0 0 from (eF21 0 0))).trans ((pf1).trans (congrArg (fun q : Nat => (q : Int)) ((show D21 1 = D 1 from (eD21 1))).symm))
      have pf21_0_6 : HID (F21 0 6 = (D21 10 : Int)) := ((show F21 0 6 = (updF F 0 18 (F 0 17)) 0 6 from (eF21 0 6))).trans ((pf10).trans (congrArg (fun q : Nat => (q : Int)) ((show D21 10 = D 10 from (eD21 10).trans (hD21 1 rfl))).symm))
      have pf21_10_0 : HID (F21 10 0 = (D21 11 : Int)) := ((show F21 10 0 = (updF F 0 18 (F 0 17)) 10 0 from (eF21 10 0).trans (hS21 1 0 rfl))).trans ((pf11).trans (congrArg (fun q : Nat => (q : Int)) ((show D21 11 = D 11 from (eD21 11).trans (hD21 3 rfl))).symm))
      have pf21_2_0 : HID (F21 2 0 = (D21 3 : Int)) := ((show F21 2 0 = (updF F 0 18 (F 0 17)) 2 0 from (eF21 2 0))).trans ((pf3).trans (congrArg (fun q : Nat => (q : Int)) ((show D21 3 = D 3 from (eD21 3))).symm))
      have pf21_4_0 : HID (F21 4 0 = (D21 5 : Int)) := ((show F21 4 0 = (updF F 0 18 (F 0 17)) 4 0 from (eF21 4 0))).trans ((pf5).trans (congrArg (fun q : Nat => (q : Int)) ((show D21 5 = D 5 from (eD21 5))).symm))
      have pf21_6_0 : HID (F21 6 0 = (D21 7 : Int)) := (eF21 6 0).trans (pm21_2.trans (congrArg (fun q : Nat => (q : Int)) (eD21 7).symm))
      have pf21_8_0 : HID (F21 8 0 = (D21 9 : Int)) := ((show F21 8 0 = (updF F 0 18 (F 0 17)) 8 0 from (eF21 8 0))).trans ((pf9).trans (congrArg (fun q : Nat => (q : Int)) ((show D21 9 = D 9 from (eD21 9))).symm))
      have r22 : HID ((0 : Int) ≤ m21_2 ∧ m21_2 ≤ 1000000) := nrng (H.nle 7 (by decide)) (show (N21 7 : Int) = m21_2 from (congrArg (fun q : Nat => (q : Int)) (eN21 7)).trans em21_2)
      have r23 : HID ((-2147483648 : Int) ≤ y21_0_1 ∧ y21_0_1 ≤ 2147483647) := krg_e (show (-2147483648 : Int) ≤ F21 6 1 ∧ F21 6 1 ≤ 2147483647 from H.krg 6 1 (by decide)) (show F21 6 1 = y21_0_1 from ((eF21 6 1).trans ey21_0_1))
      refine Ew_of (pcₚ := 26) (fun _ => x_iload_n rfl rfl) ?_
      exact w_ireturn rfl (k (a2) _ _ _ _ _ _ _ H O (SD_trans (SD_refl) (SD_glu (ι := [6, 10, 7, 11]) hD21 eD21 (by decide +kernel)) (any_subA (lₚ := [7]) rfl)) (SD_trans (SD_refl) (SD_glu (ι := [6, 10, 7, 11]) hN21 eN21 (by decide +kernel)) (any_subA (lₚ := [7]) rfl)) (SF_trans (SF_upd (SF_refl) rfl) (SF_glu (ι := [6, 10, 7, 11]) hS21 eF21 (by decide +kernel)) (any_sub (lₚ := [(6, 0), (6, 1), (6, 2), (6, 3), (6, 4)]) rfl)) (SA_trans (SA_refl) (SA_glu (ι := [6, 10, 7, 11]) hA21 eA21 (by decide +kernel)) (any_subA (lₚ := [7]) rfl)) (pf21_2_0) (pf21_4_0) (pf21_6_0) (pf21_8_0) (n3) ((congrArg (fun q : Nat => (q : Int)) (show N21 3 = N 3 from (eN21 3))).trans (en3)) (n5) ((congrArg (fun q : Nat => (q : Int)) (show N21 5 = N 5 from (eN21 5))).trans (en5)) (m21_2) ((congrArg (fun q : Nat => (q : Int)) (eN21 7)).trans em21_2) (n9) ((congrArg (fun q : Nat => (q : Int)) (show N21 9 = N 9 from (eN21 9))).trans (en9)) (u2_1) ((((show F21 2 1 = (updF F 0 18 (F 0 17)) 2 1 from (eF21 2 1))).trans (eu2_1))) (u4_1) ((((show F21 4 1 = (updF F 0 18 (F 0 17)) 4 1 from (eF21 4 1))).trans (eu4_1))) (y21_0_1) (((eF21 6 1).trans ey21_0_1)) (u8_1) ((((show F21 8 1 = (updF F 0 18 (F 0 17)) 8 1 from (eF21 8 1))).trans (eu8_1))) (show inr (a2) by omega) (show 0 ≤ (u2_1) ∧ (u2_1) ≤ (n3) ∧ (n3) ≤ 65536 by have qh0 := HIDe r1; have qh1 := HIDe r7; omega) (show 0 ≤ (u4_1) ∧ (u4_1) ≤ (n5) ∧ (n5) ≤ 65536 by have qh0 := HIDe r2; have qh1 := HIDe r8; omega) (show 0 ≤ (y21_0_1) ∧ (y21_0_1) ≤ (m21_2) ∧ (m21_2) ≤ 65536 by have qh0 := HIDe r22; have qh1 := HIDe r23; omega) (show 0 ≤ (u8_1) ∧ (u8_1) ≤ (n9) ∧ (n9) ≤ 65536 by have qh0 := HIDe r10; have qh1 := HIDe r4; omega) (show 0 ≤ (u10_1) ∧ (u10_1) ≤ (n11) ∧ (n11) ≤ 65536 by have qh0 := HIDe r11; have qh1 := HIDe r5; omega))
    · refine v_lR H (o := 1) rfl rfl rfl rfl rfl (n := n1) (en1) (show 0 ≤ a1 ∧ a1 < n1 by have qh0 := HIDe r6; omega) (z := ((D 8 : Nat) : Int)) (v := .ref (D 8)) ((congrArg (A 1) b14).trans (pf8)) (vrf rfl) ?_
      refine Ew_of (pcₚ := 19) (fun _ => x_aload_n rfl rfl) ?_
      refine v_g H (o := 0) (v := .ref (D 10)) rfl rfl rfl rfl rfl (vrf (pf10)) ?_
      refine v_inv H (o := 8) rfl rfl rfl rfl rfl rfl (by rfl) (C158_Row (D := pul [8, 10, 9, 11] D) (N := pul [8, 10, 9, 11] N) (HW_sub H (VS_of (show vsub V31 V158_Row [8, 10, 9, 11] = true by decide +kernel))) (pf9) (pf11) (n9) (en9) (n11) (en11) (u8_1) ((eu8_1)) (u10_1) ((eu10_1)) (show 0 ≤ (u8_1) ∧ (u8_1) ≤ (n9) ∧ (n9) ≤ 65536 by have qh0 := HIDe r10; have qh1 := HIDe r4; omega) (show 0 ≤ (u10_1) ∧ (u10_1) ≤ (n11) ∧ (n11) ≤ 65536 by have qh0 := HIDe r11; have qh1 := HIDe r5; omega) (fun σ24 D24ₚ N24ₚ F24ₚ A24ₚ c24 s24 Hₚ Oₚ hD24 hN24 hS24 hA24 pm24_2 m24_2 em24_2 y24_0_1 ey24_0_1 pz24_0 pz24_1 => ⟨rfl, ?_⟩))
      replace pm24_2 := HIDm pm24_2
      replace em24_2 := HIDm em24_2
      replace ey24_0_1 := HIDm ey24_0_1
      refine v_backM (c := c) (s := s) H (show vsub V31 V158_Row [8, 10, 9, 11] = true by decide +kernel) Hₚ Oₚ hD24 (show vmov V31 [8, 10, 9, 11] [2] = true by decide +kernel) (fun D24 N24 F24 A24 H Oₚ eD24 eN24 eF24 eA24 => ?_)
      have O := OUT_trans O Oₚ
      -- Row.become
      have pe24_1_0 : HID (A24 1 0 = (D24 2 : Int)) := (congrFun ((show A24 1 = A 1 from (eA24 1))) 0).trans ((pf2).trans (congrArg (fun q : Nat => (q : Int)) ((show D24 2 = D 2 from (eD24 2))).symm))
      have pe24_1_1 : HID (A24 1 1 = (D24 4 : Int)) := (congrFun ((show A24 1 = A 1 from (eA24 1))) 1).trans ((pf4).trans (congrArg (fun q : Nat => (q : Int)) ((show D24 4 = D 4 from (eD24 4))).symm))
      have pe24_1_2 : HID (A24 1 2 = (D24 6 : Int)) := (congrFun ((show A24 1 = A 1 from (eA24 1))) 2).trans ((pf6).trans (congrArg (fun q : Nat => (q : Int)) ((show D24 6 = D 6 from (eD24 6))).symm))
      have pe24_1_3 : HID (A24 1 3 = (D24 8 : Int)) := (congrFun ((show A24 1 = A 1 from (eA24 1))) 3).trans ((pf8).trans (congrArg (fun q : Nat => (q : Int)) ((show D24 8 = D 8 from (eD24 8).trans (hD24 0 rfl))).symm))
      have pf24_0_0 : HID (F24 0 0 = (D24 1 : Int)) := ((show F24 0 0 = (updF F 0 18 (F 0 17)) 0 0 from (eF24 0 0))).trans ((pf1).trans (congrArg (fun q : Nat => (q : Int)) ((show D24 1 = D 1 from (eD24 1))).symm))
      have pf24_0_6 : HID (F24 0 6 = (D24 10 : Int)) := ((show F24 0 6 = (updF F 0 18 (F 0 17)) 0 6 from (eF24 0 6))).trans ((pf10).trans (congrArg (fun q : Nat => (q : Int)) ((show D24 10 = D 10 from (eD24 10).trans (hD24 1 rfl))).symm))
      have pf24_10_0 : HID (F24 10 0 = (D24 11 : Int)) := ((show F24 10 0 = (updF F 0 18 (F 0 17)) 10 0 from (eF24 10 0).trans (hS24 1 0 rfl))).trans ((pf11).trans (congrArg (fun q : Nat => (q : Int)) ((show D24 11 = D 11 from (eD24 11).trans (hD24 3 rfl))).symm))
      have pf24_2_0 : HID (F24 2 0 = (D24 3 : Int)) := ((show F24 2 0 = (updF F 0 18 (F 0 17)) 2 0 from (eF24 2 0))).trans ((pf3).trans (congrArg (fun q : Nat => (q : Int)) ((show D24 3 = D 3 from (eD24 3))).symm))
      have pf24_4_0 : HID (F24 4 0 = (D24 5 : Int)) := ((show F24 4 0 = (updF F 0 18 (F 0 17)) 4 0 from (eF24 4 0))).trans ((pf5).trans (congrArg (fun q : Nat => (q : Int)) ((show D24 5 = D 5 from (eD24 5))).symm))
      have pf24_6_0 : HID (F24 6 0 = (D24 7 : Int)) := ((show F24 6 0 = (updF F 0 18 (F 0 17)) 6 0 from (eF24 6 0))).trans ((pf7).trans (congrArg (fun q : Nat => (q : Int)) ((show D24 7 = D 7 from (eD24 7))).symm))
      have pf24_8_0 : HID (F24 8 0 = (D24 9 : Int)) := (eF24 8 0).trans (pm24_2.trans (congrArg (fun q : Nat => (q : Int)) (eD24 9).symm))
      have r25 : HID ((0 : Int) ≤ m24_2 ∧ m24_2 ≤ 1000000) := nrng (H.nle 9 (by decide)) (show (N24 9 : Int) = m24_2 from (congrArg (fun q : Nat => (q : Int)) (eN24 9)).trans em24_2)
      have r26 : HID ((-2147483648 : Int) ≤ y24_0_1 ∧ y24_0_1 ≤ 2147483647) := krg_e (show (-2147483648 : Int) ≤ F24 8 1 ∧ F24 8 1 ≤ 2147483647 from H.krg 8 1 (by decide)) (show F24 8 1 = y24_0_1 from ((eF24 8 1).trans ey24_0_1))
      refine Ew_of (pcₚ := 26) (fun _ => x_iload_n rfl rfl) ?_
      exact w_ireturn rfl (k (a2) _ _ _ _ _ _ _ H O (SD_trans (SD_refl) (SD_glu (ι := [8, 10, 9, 11]) hD24 eD24 (by decide +kernel)) (any_subA (lₚ := [9]) rfl)) (SD_trans (SD_refl) (SD_glu (ι := [8, 10, 9, 11]) hN24 eN24 (by decide +kernel)) (any_subA (lₚ := [9]) rfl)) (SF_trans (SF_upd (SF_refl) rfl) (SF_glu (ι := [8, 10, 9, 11]) hS24 eF24 (by decide +kernel)) (any_sub (lₚ := [(8, 0), (8, 1), (8, 2), (8, 3), (8, 4)]) rfl)) (SA_trans (SA_refl) (SA_glu (ι := [8, 10, 9, 11]) hA24 eA24 (by decide +kernel)) (any_subA (lₚ := [9]) rfl)) (pf24_2_0) (pf24_4_0) (pf24_6_0) (pf24_8_0) (n3) ((congrArg (fun q : Nat => (q : Int)) (show N24 3 = N 3 from (eN24 3))).trans (en3)) (n5) ((congrArg (fun q : Nat => (q : Int)) (show N24 5 = N 5 from (eN24 5))).trans (en5)) (n7) ((congrArg (fun q : Nat => (q : Int)) (show N24 7 = N 7 from (eN24 7))).trans (en7)) (m24_2) ((congrArg (fun q : Nat => (q : Int)) (eN24 9)).trans em24_2) (u2_1) ((((show F24 2 1 = (updF F 0 18 (F 0 17)) 2 1 from (eF24 2 1))).trans (eu2_1))) (u4_1) ((((show F24 4 1 = (updF F 0 18 (F 0 17)) 4 1 from (eF24 4 1))).trans (eu4_1))) (u6_1) ((((show F24 6 1 = (updF F 0 18 (F 0 17)) 6 1 from (eF24 6 1))).trans (eu6_1))) (y24_0_1) (((eF24 8 1).trans ey24_0_1)) (show inr (a2) by omega) (show 0 ≤ (u2_1) ∧ (u2_1) ≤ (n3) ∧ (n3) ≤ 65536 by have qh0 := HIDe r1; have qh1 := HIDe r7; omega) (show 0 ≤ (u4_1) ∧ (u4_1) ≤ (n5) ∧ (n5) ≤ 65536 by have qh0 := HIDe r2; have qh1 := HIDe r8; omega) (show 0 ≤ (u6_1) ∧ (u6_1) ≤ (n7) ∧ (n7) ≤ 65536 by have qh0 := HIDe r3; have qh1 := HIDe r9; omega) (show 0 ≤ (y24_0_1) ∧ (y24_0_1) ≤ (m24_2) ∧ (m24_2) ≤ 65536 by have qh0 := HIDe r25; have qh1 := HIDe r26; omega) (show 0 ≤ (u10_1) ∧ (u10_1) ≤ (n11) ∧ (n11) ≤ 65536 by have qh0 := HIDe r11; have qh1 := HIDe r5; omega))
