abbrev V14 : vV := [(0, 0, [(4, 0), (4, 0), (4, 0), (4, 0), (4, 0), (4, 0), (4, 0), (4, 0), (4, 0), (4, 0), (4, 0), (4, 0), (4, 0), (4, 0), (4, 0), (4, 0), (4, 0), (0, 0), (0, 0)]), (1, 4, []), (0, 7, [(4, 0), (0, 0), (1, 0), (0, 0), (0, 0)]), (1, 0, []), (0, 7, [(4, 0), (0, 0), (1, 0), (0, 0), (0, 0)]), (1, 0, []), (0, 7, [(4, 0), (0, 0), (1, 0), (0, 0), (0, 0)]), (1, 0, []), (0, 7, [(4, 0), (0, 0), (1, 0), (0, 0), (0, 0)]), (1, 0, []), (0, 7, [(4, 0), (0, 0), (1, 0), (0, 0), (0, 0)]), (1, 0, [])]
/-- PackHouse.history: this, this.rows, this.rows.0, this.rows.0.bytes, this.rows.1, this.rows.1.bytes, this.rows.2, this.rows.2.bytes, this.rows.3, this.rows.3.bytes, this.past, this.past.bytes -/
theorem C14 {σE : rS} {D N : Nat → Nat} {F : hF} {A : hA} {d c s : Nat} {Q : wQ} (H : HW V14 σE D N F A) {a1 : Int} (pf1 : F 0 0 = (D 1 : Int)) (pf2 : A 1 0 = (D 2 : Int)) (pf3 : F 2 0 = (D 3 : Int)) (pf4 : A 1 1 = (D 4 : Int)) (pf5 : F 4 0 = (D 5 : Int)) (pf6 : A 1 2 = (D 6 : Int)) (pf7 : F 6 0 = (D 7 : Int)) (pf8 : A 1 3 = (D 8 : Int)) (pf9 : F 8 0 = (D 9 : Int)) (pf10 : F 0 2 = (D 10 : Int)) (pf11 : F 10 0 = (D 11 : Int)) (n1 : Int) (en1 : (N 1 : Int) = n1) (n3 : Int) (en3 : (N 3 : Int) = n3) (n5 : Int) (en5 : (N 5 : Int) = n5) (n7 : Int) (en7 : (N 7 : Int) = n7) (n9 : Int) (en9 : (N 9 : Int) = n9) (n11 : Int) (en11 : (N 11 : Int) = n11) (u2_1 : Int) (eu2_1 : F 2 1 = u2_1) (u4_1 : Int) (eu4_1 : F 4 1 = u4_1) (u6_1 : Int) (eu6_1 : F 6 1 = u6_1) (u8_1 : Int) (eu8_1 : F 8 1 = u8_1) (u10_1 : Int) (eu10_1 : F 10 1 = u10_1) (h0 : inr (a1)) (h1 : (n1) = 4) (h2 : 0 ≤ (u2_1) ∧ (u2_1) ≤ (n3) ∧ (n3) ≤ 65536) (h3 : 0 ≤ (u4_1) ∧ (u4_1) ≤ (n5) ∧ (n5) ≤ 65536) (h4 : 0 ≤ (u6_1) ∧ (u6_1) ≤ (n7) ∧ (n7) ≤ 65536) (h5 : 0 ≤ (u8_1) ∧ (u8_1) ≤ (n9) ∧ (n9) ≤ 65536) (h6 : 0 ≤ (u10_1) ∧ (u10_1) ≤ (n11) ∧ (n11) ≤ 65536) (k : ∀ (z : Int) (σ : rS) (D' N' : Nat → Nat) (F' : hF) (A' : hA) (c' s' : Nat), HW V14 σ D' N' F' A' → OUT (V14).length D N σE c s D' N' σ c' s' → SD [11] D D' → SD [11] N N' → SF [(10, 0), (10, 1), (10, 2), (10, 3), (10, 4)] F F' → SA [11] A A' → F' 10 0 = (D' 11 : Int) → ∀ m11 : Int, (N' 11 : Int) = m11 → ∀ y10_1 : Int, F' 10 1 = y10_1 → ((z) = 0 ∨ (z) = 1) → (0 ≤ (u2_1) ∧ (u2_1) ≤ (n3) ∧ (n3) ≤ 65536) → (0 ≤ (u4_1) ∧ (u4_1) ≤ (n5) ∧ (n5) ≤ 65536) → (0 ≤ (u6_1) ∧ (u6_1) ≤ (n7) ∧ (n7) ≤ 65536) → (0 ≤ (u8_1) ∧ (u8_1) ≤ (n9) ∧ (n9) ≤ 65536) → (0 ≤ (y10_1) ∧ (y10_1) ≤ (m11) ∧ (m11) ≤ 65536) → Q (some (I z)) σ c' s') : Ew 14 (d + 4) 0 (rargs 0 [.ref (D 0), I a1]) [] σE c s Q := by
  have O := OUT_refl (n := (V14).length) (D := D) (N := N) (σ := σE) (c := c) (s := s)
  have HE := H
  have r1 : HID ((-2147483648 : Int) ≤ u2_1 ∧ u2_1 ≤ 2147483647) := krg_e (show (-2147483648 : Int) ≤ F 2 1 ∧ F 2 1 ≤ 2147483647 from H.krg 2 1 (by decide)) (show F 2 1 = u2_1 from (eu2_1))
  have r2 : HID ((-2147483648 : Int) ≤ u4_1 ∧ u4_1 ≤ 2147483647) := krg_e (show (-2147483648 : Int) ≤ F 4 1 ∧ F 4 1 ≤ 2147483647 from H.krg 4 1 (by decide)) (show F 4 1 = u4_1 from (eu4_1))
  have r3 : HID ((-2147483648 : Int) ≤ u6_1 ∧ u6_1 ≤ 2147483647) := krg_e (show (-2147483648 : Int) ≤ F 6 1 ∧ F 6 1 ≤ 2147483647 from H.krg 6 1 (by decide)) (show F 6 1 = u6_1 from (eu6_1))
  have r4 : HID ((-2147483648 : Int) ≤ u8_1 ∧ u8_1 ≤ 2147483647) := krg_e (show (-2147483648 : Int) ≤ F 8 1 ∧ F 8 1 ≤ 2147483647 from H.krg 8 1 (by decide)) (show F 8 1 = u8_1 from (eu8_1))
  have r5 : HID ((-2147483648 : Int) ≤ u10_1 ∧ u10_1 ≤ 2147483647) := krg_e (show (-2147483648 : Int) ≤ F 10 1 ∧ F 10 1 ≤ 2147483647 from H.krg 10 1 (by decide)) (show F 10 1 = u10_1 from (eu10_1))
  replace pf1 := HIDm pf1
  replace pf2 := HIDm pf2
  replace pf3 := HIDm pf3
  replace pf4 := HIDm pf4
  replace pf5 := HIDm pf5
  replace pf6 := HIDm pf6
  replace pf7 := HIDm pf7
  replace pf8 := HIDm pf8
  replace pf9 := HIDm pf9
  replace pf10 := HIDm pf10
  replace pf11 := HIDm pf11
  replace en1 := HIDm en1
  replace en3 := HIDm en3
  replace en5 := HIDm en5
  replace en7 := HIDm en7
  replace en9 := HIDm en9
  replace en11 := HIDm en11
  replace eu2_1 := HIDm eu2_1
  replace eu4_1 := HIDm eu4_1
  replace eu6_1 := HIDm eu6_1
  replace eu8_1 := HIDm eu8_1
  replace eu10_1 := HIDm eu10_1
  have r6 : HID ((0 : Int) ≤ n1 ∧ n1 ≤ 1000000) := nrng (H.nle 1 (by decide)) (show (N 1 : Int) = n1 from en1)
  have r7 : HID ((0 : Int) ≤ n3 ∧ n3 ≤ 1000000) := nrng (H.nle 3 (by decide)) (show (N 3 : Int) = n3 from en3)
  have r8 : HID ((0 : Int) ≤ n5 ∧ n5 ≤ 1000000) := nrng (H.nle 5 (by decide)) (show (N 5 : Int) = n5 from en5)
  have r9 : HID ((0 : Int) ≤ n7 ∧ n7 ≤ 1000000) := nrng (H.nle 7 (by decide)) (show (N 7 : Int) = n7 from en7)
  have r10 : HID ((0 : Int) ≤ n9 ∧ n9 ≤ 1000000) := nrng (H.nle 9 (by decide)) (show (N 9 : Int) = n9 from en9)
  have r11 : HID ((0 : Int) ≤ n11 ∧ n11 ≤ 1000000) := nrng (H.nle 11 (by decide)) (show (N 11 : Int) = n11 from en11)
  refine Ew_of (pc' := 1) (fun _ => x_iload_n rfl rfl) ?_
  refine w_stat24 rfl rfl (by rfl) (C24 (D := pul [] D) (N := pul [] N) (HW_sub H (VS_of (show vsub V14 V24 [] = true by decide +kernel))) (show inr (a1) by omega) (fun z12 σ12 F12' A12' H' O' hS12 hA12 pz12_0 pz12_1 => ⟨rretB rfl pz12_0, ?_⟩))
  refine v_back (c := c) (s := s) H (show vsub V14 V24 [] = true by decide +kernel) H' O' (fun F12 A12 H O' eF12 eA12 => ?_)
  have O := OUT_trans O O'
  -- PackHouse.isRow
  refine w_ifne (t := 9) rfl rfl (show inr (z12) by omega) (fun b13 => ?_) (fun b13 => ?_)
  · refine Ew_of (pc' := 10) (fun _ => x_aload_n rfl rfl) ?_
    refine v_g H (o := 0) (v := .ref (D 10)) rfl rfl rfl rfl rfl (vrf ((((show F12 0 2 = F 0 2 from (eF12 0 2)))).trans (pf10))) ?_
    refine Ew_of (pc' := 14) (fun _ => x_aload_n rfl rfl) ?_
    refine v_g H (o := 0) (v := .ref (D 1)) rfl rfl rfl rfl rfl (vrf ((((show F12 0 0 = F 0 0 from (eF12 0 0)))).trans (pf1))) ?_
    refine Ew_of (pc' := 18) (fun _ => x_iload_n rfl rfl) ?_
    rcases (show a1 = 0 ∨ a1 = 1 ∨ a1 = 2 ∨ a1 = 3 by omega) with b14 | b14 | b14 | b14
    · refine v_lR H (o := 1) rfl rfl rfl rfl rfl (n := n1) (en1) (show 0 ≤ a1 ∧ a1 < n1 by have qh0 := HIDe r6; omega) (z := ((D 2 : Nat) : Int)) (v := .ref (D 2)) ((congrArg (A12 1) b14).trans ((congrFun (((show A12 1 = A 1 from (eA12 1)))) 0).trans (pf2))) (vrf rfl) ?_
      have r15 : HID ((0 : Int) ≤ F 10 2 ∧ F 10 2 ≤ 1) := krg_e (show (0 : Int) ≤ F12 10 2 ∧ F12 10 2 ≤ 1 from H.krg 10 2 (by decide)) (show F12 10 2 = F 10 2 from ((show F12 10 2 = F 10 2 from (eF12 10 2))))
      refine v_inv H (o := 10) rfl rfl rfl rfl rfl rfl (by rfl) (C158_Row (D := pul [10, 2, 11, 3] D) (N := pul [10, 2, 11, 3] N) (HW_sub H (VS_of (show vsub V14 V158_Row [10, 2, 11, 3] = true by decide +kernel))) ((((show F12 10 0 = F 10 0 from (eF12 10 0)))).trans (pf11)) ((((show F12 2 0 = F 2 0 from (eF12 2 0)))).trans (pf3)) (n11) (en11) (n3) (en3) (u10_1) ((((show F12 10 1 = F 10 1 from (eF12 10 1))).trans (eu10_1))) (F 10 2) (((show F12 10 2 = F 10 2 from (eF12 10 2)))) (u2_1) ((((show F12 2 1 = F 2 1 from (eF12 2 1))).trans (eu2_1))) (A 11) ((show A12 11 = A 11 from (eA12 11))) (A 3) ((show A12 3 = A 3 from (eA12 3))) (show 0 ≤ (u10_1) ∧ (u10_1) ≤ (n11) ∧ (n11) ≤ 65536 by have qh0 := HIDe r11; have qh1 := HIDe r5; omega) (show 0 ≤ (u2_1) ∧ (u2_1) ≤ (n3) ∧ (n3) ≤ 65536 by have qh0 := HIDe r1; have qh1 := HIDe r7; omega) (fun σ16 D16' N16' F16' A16' c16 s16 H' O' hD16 hN16 hS16 hA16 pm16_2 m16_2 em16_2 y16_0_1 ey16_0_1 y16_0_2 ey16_0_2 w16_2 ew16_2 pz16_0 pz16_1 pz16_2 pz16_3 => ⟨rfl, ?_⟩))
      replace pm16_2 := HIDm pm16_2
      replace em16_2 := HIDm em16_2
      replace ey16_0_1 := HIDm ey16_0_1
      replace ey16_0_2 := HIDm ey16_0_2
      refine v_backM (c := c) (s := s) H (show vsub V14 V158_Row [10, 2, 11, 3] = true by decide +kernel) H' O' hD16 (show vmov V14 [10, 2, 11, 3] [2] = true by decide +kernel) (fun D16 N16 F16 A16 H O' eD16 eN16 eF16 eA16 => ?_)
      have O := OUT_trans O O'
      -- Row.become
      have pe16_1_0 : HID (A16 1 0 = (D16 2 : Int)) := (congrFun ((show A16 1 = A12 1 from (eA16 1))) 0).trans (((congrFun (((show A12 1 = A 1 from (eA12 1)))) 0).trans (pf2)).trans (congrArg (fun q : Nat => (q : Int)) ((show D16 2 = D 2 from (eD16 2).trans (hD16 1 rfl))).symm))
      have pe16_1_1 : HID (A16 1 1 = (D16 4 : Int)) := (congrFun ((show A16 1 = A12 1 from (eA16 1))) 1).trans (((congrFun (((show A12 1 = A 1 from (eA12 1)))) 1).trans (pf4)).trans (congrArg (fun q : Nat => (q : Int)) ((show D16 4 = D 4 from (eD16 4))).symm))
      have pe16_1_2 : HID (A16 1 2 = (D16 6 : Int)) := (congrFun ((show A16 1 = A12 1 from (eA16 1))) 2).trans (((congrFun (((show A12 1 = A 1 from (eA12 1)))) 2).trans (pf6)).trans (congrArg (fun q : Nat => (q : Int)) ((show D16 6 = D 6 from (eD16 6))).symm))
      have pe16_1_3 : HID (A16 1 3 = (D16 8 : Int)) := (congrFun ((show A16 1 = A12 1 from (eA16 1))) 3).trans (((congrFun (((show A12 1 = A 1 from (eA12 1)))) 3).trans (pf8)).trans (congrArg (fun q : Nat => (q : Int)) ((show D16 8 = D 8 from (eD16 8))).symm))
      have pf16_0_0 : HID (F16 0 0 = (D16 1 : Int)) := ((show F16 0 0 = F12 0 0 from (eF16 0 0))).trans (((((show F12 0 0 = F 0 0 from (eF12 0 0)))).trans (pf1)).trans (congrArg (fun q : Nat => (q : Int)) ((show D16 1 = D 1 from (eD16 1))).symm))
      have pf16_0_2 : HID (F16 0 2 = (D16 10 : Int)) := ((show F16 0 2 = F12 0 2 from (eF16 0 2))).trans (((((show F12 0 2 = F 0 2 from (eF12 0 2)))).trans (pf10)).trans (congrArg (fun q : Nat => (q : Int)) ((show D16 10 = D 10 from (eD16 10).trans (hD16 0 rfl))).symm))
      have pf16_10_0 : HID (F16 10 0 = (D16 11 : Int)) := (eF16 10 0).trans (pm16_2.trans (congrArg (fun q : Nat => (q : Int)) (eD16 11).symm))
      have pf16_2_0 : HID (F16 2 0 = (D16 3 : Int)) := ((show F16 2 0 = F12 2 0 from (eF16 2 0).trans (hS16 1 0 rfl))).trans (((((show F12 2 0 = F 2 0 from (eF12 2 0)))).trans (pf3)).trans (congrArg (fun q : Nat => (q : Int)) ((show D16 3 = D 3 from (eD16 3).trans (hD16 3 rfl))).symm))
      have pf16_4_0 : HID (F16 4 0 = (D16 5 : Int)) := ((show F16 4 0 = F12 4 0 from (eF16 4 0))).trans (((((show F12 4 0 = F 4 0 from (eF12 4 0)))).trans (pf5)).trans (congrArg (fun q : Nat => (q : Int)) ((show D16 5 = D 5 from (eD16 5))).symm))
      have pf16_6_0 : HID (F16 6 0 = (D16 7 : Int)) := ((show F16 6 0 = F12 6 0 from (eF16 6 0))).trans (((((show F12 6 0 = F 6 0 from (eF12 6 0)))).trans (pf7)).trans (congrArg (fun q : Nat => (q : Int)) ((show D16 7 = D 7 from (eD16 7))).symm))
      have pf16_8_0 : HID (F16 8 0 = (D16 9 : Int)) := ((show F16 8 0 = F12 8 0 from (eF16 8 0))).trans (((((show F12 8 0 = F 8 0 from (eF12 8 0)))).trans (pf9)).trans (congrArg (fun q : Nat => (q : Int)) ((show D16 9 = D 9 from (eD16 9))).symm))
      have r17 : HID ((0 : Int) ≤ m16_2 ∧ m16_2 ≤ 1000000) := nrng (H.nle 11 (by decide)) (show (N16 11 : Int) = m16_2 from (congrArg (fun q : Nat => (q : Int)) (eN16 11)).trans em16_2)
      have r18 : HID ((-2147483648 : Int) ≤ y16_0_1 ∧ y16_0_1 ≤ 2147483647) := krg_e (show (-2147483648 : Int) ≤ F16 10 1 ∧ F16 10 1 ≤ 2147483647 from H.krg 10 1 (by decide)) (show F16 10 1 = y16_0_1 from ((eF16 10 1).trans ey16_0_1))
      have r19 : HID ((0 : Int) ≤ y16_0_2 ∧ y16_0_2 ≤ 1) := krg_e (show (0 : Int) ≤ F16 10 2 ∧ F16 10 2 ≤ 1 from H.krg 10 2 (by decide)) (show F16 10 2 = y16_0_2 from ((eF16 10 2).trans ey16_0_2))
      refine Ew_of (pc' := 23) (fun _ => x_iconst rfl) ?_
      exact w_ireturn rfl (k (1) _ _ _ _ _ _ _ H O (SD_trans (SD_refl) (SD_glu (ι := [10, 2, 11, 3]) hD16 eD16 (by decide +kernel)) (any_subA (l' := [11]) rfl)) (SD_trans (SD_refl) (SD_glu (ι := [10, 2, 11, 3]) hN16 eN16 (by decide +kernel)) (any_subA (l' := [11]) rfl)) (SF_trans (SF_trans (SF_refl) (SF_glu (ι := []) hS12 eF12 (by decide +kernel)) (any_sub (l' := []) rfl)) (SF_glu (ι := [10, 2, 11, 3]) hS16 eF16 (by decide +kernel)) (any_sub (l' := [(10, 0), (10, 1), (10, 2), (10, 3), (10, 4)]) rfl)) (SA_trans (SA_trans (SA_refl) (SA_glu (ι := []) hA12 eA12 (by decide +kernel)) (any_subA (l' := []) rfl)) (SA_glu (ι := [10, 2, 11, 3]) hA16 eA16 (by decide +kernel)) (any_subA (l' := [11]) rfl)) (pf16_10_0) (m16_2) ((congrArg (fun q : Nat => (q : Int)) (eN16 11)).trans em16_2) (y16_0_1) (((eF16 10 1).trans ey16_0_1)) (show (1) = 0 ∨ (1) = 1 by omega) (show 0 ≤ (u2_1) ∧ (u2_1) ≤ (n3) ∧ (n3) ≤ 65536 by have qh0 := HIDe r1; have qh1 := HIDe r7; omega) (show 0 ≤ (u4_1) ∧ (u4_1) ≤ (n5) ∧ (n5) ≤ 65536 by have qh0 := HIDe r2; have qh1 := HIDe r8; omega) (show 0 ≤ (u6_1) ∧ (u6_1) ≤ (n7) ∧ (n7) ≤ 65536 by have qh0 := HIDe r3; have qh1 := HIDe r9; omega) (show 0 ≤ (u8_1) ∧ (u8_1) ≤ (n9) ∧ (n9) ≤ 65536 by have qh0 := HIDe r10; have qh1 := HIDe r4; omega) (show 0 ≤ (y16_0_1) ∧ (y16_0_1) ≤ (m16_2) ∧ (m16_2) ≤ 65536 by have qh0 := HIDe r17; have qh1 := HIDe r18; omega))
    · refine v_lR H (o := 1) rfl rfl rfl rfl rfl (n := n1) (en1) (show 0 ≤ a1 ∧ a1 < n1 by have qh0 := HIDe r6; omega) (z := ((D 4 : Nat) : Int)) (v := .ref (D 4)) ((congrArg (A12 1) b14).trans ((congrFun (((show A12 1 = A 1 from (eA12 1)))) 1).trans (pf4))) (vrf rfl) ?_
      have r20 : HID ((0 : Int) ≤ F 10 2 ∧ F 10 2 ≤ 1) := krg_e (show (0 : Int) ≤ F12 10 2 ∧ F12 10 2 ≤ 1 from H.krg 10 2 (by decide)) (show F12 10 2 = F 10 2 from ((show F12 10 2 = F 10 2 from (eF12 10 2))))
      refine v_inv H (o := 10) rfl rfl rfl rfl rfl rfl (by rfl) (C158_Row (D := pul [10, 4, 11, 5] D) (N := pul [10, 4, 11, 5] N) (HW_sub H (VS_of (show vsub V14 V158_Row [10, 4, 11, 5] = true by decide +kernel))) ((((show F12 10 0 = F 10 0 from (eF12 10 0)))).trans (pf11)) ((((show F12 4 0 = F 4 0 from (eF12 4 0)))).trans (pf5)) (n11) (en11) (n5) (en5) (u10_1) ((((show F12 10 1 = F 10 1 from (eF12 10 1))).trans (eu10_1))) (F 10 2) (((show F12 10 2 = F 10 2 from (eF12 10 2)))) (u4_1) ((((show F12 4 1 = F 4 1 from (eF12 4 1))).trans (eu4_1))) (A 11) ((show A12 11 = A 11 from (eA12 11))) (A 5) ((show A12 5 = A 5 from (eA12 5))) (show 0 ≤ (u10_1) ∧ (u10_1) ≤ (n11) ∧ (n11) ≤ 65536 by have qh0 := HIDe r11; have qh1 := HIDe r5; omega) (show 0 ≤ (u4_1) ∧ (u4_1) ≤ (n5) ∧ (n5) ≤ 65536 by have qh0 := HIDe r2; have qh1 := HIDe r8; omega) (fun σ21 D21' N21' F21' A21' c21 s21 H' O' hD21 hN21 hS21 hA21 pm21_2 m21_2 em21_2 y21_0_1 ey21_0_1 y21_0_2 ey21_0_2 w21_2 ew21_2 pz21_0 pz21_1 pz21_2 pz21_3 => ⟨rfl, ?_⟩))
      replace pm21_2 := HIDm pm21_2
      replace em21_2 := HIDm em21_2
      replace ey21_0_1 := HIDm ey21_0_1
      replace ey21_0_2 := HIDm ey21_0_2
      refine v_backM (c := c) (s := s) H (show vsub V14 V158_Row [10, 4, 11, 5] = true by decide +kernel) H' O' hD21 (show vmov V14 [10, 4, 11, 5] [2] = true by decide +kernel) (fun D21 N21 F21 A21 H O' eD21 eN21 eF21 eA21 => ?_)
      have O := OUT_trans O O'
      -- Row.become
      have pe21_1_0 : HID (A21 1 0 = (D21 2 : Int)) := (congrFun ((show A21 1 = A12 1 from (eA21 1))) 0).trans (((congrFun (((show A12 1 = A 1 from (eA12 1)))) 0).trans (pf2)).trans (congrArg (fun q : Nat => (q : Int)) ((show D21 2 = D 2 from (eD21 2))).symm))
      have pe21_1_1 : HID (A21 1 1 = (D21 4 : Int)) := (congrFun ((show A21 1 = A12 1 from (eA21 1))) 1).trans (((congrFun (((show A12 1 = A 1 from (eA12 1)))) 1).trans (pf4)).trans (congrArg (fun q : Nat => (q : Int)) ((show D21 4 = D 4 from (eD21 4).trans (hD21 1 rfl))).symm))
      have pe21_1_2 : HID (A21 1 2 = (D21 6 : Int)) := (congrFun ((show A21 1 = A12 1 from (eA21 1))) 2).trans (((congrFun (((show A12 1 = A 1 from (eA12 1)))) 2).trans (pf6)).trans (congrArg (fun q : Nat => (q : Int)) ((show D21 6 = D 6 from (eD21 6))).symm))
      have pe21_1_3 : HID (A21 1 3 = (D21 8 : Int)) := (congrFun ((show A21 1 = A12 1 from (eA21 1))) 3).trans (((congrFun (((show A12 1 = A 1 from (eA12 1)))) 3).trans (pf8)).trans (congrArg (fun q : Nat => (q : Int)) ((show D21 8 = D 8 from (eD21 8))).symm))
      have pf21_0_0 : HID (F21 0 0 = (D21 1 : Int)) := ((show F21 0 0 = F12 0 0 from (eF21 0 0))).trans (((((show F12 0 0 = F 0 0 from (eF12 0 0)))).trans (pf1)).trans (congrArg (fun q : Nat => (q : Int)) ((show D21 1 = D 1 from (eD21 1))).symm))
      have pf21_0_2 : HID (F21 0 2 = (D21 10 : Int)) := ((show F21 0 2 = F12 0 2 from (eF21 0 2))).trans (((((show F12 0 2 = F 0 2 from (eF12 0 2)))).trans (pf10)).trans (congrArg (fun q : Nat => (q : Int)) ((show D21 10 = D 10 from (eD21 10).trans (hD21 0 rfl))).symm))
      have pf21_10_0 : HID (F21 10 0 = (D21 11 : Int)) := (eF21 10 0).trans (pm21_2.trans (congrArg (fun q : Nat => (q : Int)) (eD21 11).symm))
      have pf21_2_0 : HID (F21 2 0 = (D21 3 : Int)) := ((show F21 2 0 = F12 2 0 from (eF21 2 0))).trans (((((show F12 2 0 = F 2 0 from (eF12 2 0)))).trans (pf3)).trans (congrArg (fun q : Nat => (q : Int)) ((show D21 3 = D 3 from (eD21 3))).symm))
      have pf21_4_0 : HID (F21 4 0 = (D21 5 : Int)) := ((show F21 4 0 = F12 4 0 from (eF21 4 0).trans (hS21 1 0 rfl))).trans (((((show F12 4 0 = F 4 0 from (eF12 4 0)))).trans (pf5)).trans (congrArg (fun q : Nat => (q : Int)) ((show D21 5 = D 5 from (eD21 5).trans (hD21 3 rfl))).symm))
      have pf21_6_0 : HID (F21 6 0 = (D21 7 : Int)) := ((show F21 6 0 = F12 6 0 from (eF21 6 0))).trans (((((show F12 6 0 = F 6 0 from (eF12 6 0)))).trans (pf7)).trans (congrArg (fun q : Nat => (q : Int)) ((show D21 7 = D 7 from (eD21 7))).symm))
      have pf21_8_0 : HID (F21 8 0 = (D21 9 : Int)) := ((show F21 8 0 = F12 8 0 from (eF21 8 0))).trans (((((show F12 8 0 = F 8 0 from (eF12 8 0)))).trans (pf9)).trans (congrArg (fun q : Nat => (q : Int)) ((show D21 9 = D 9 from (eD21 9))).symm))
      have r22 : HID ((0 : Int) ≤ m21_2 ∧ m21_2 ≤ 1000000) := nrng (H.nle 11 (by decide)) (show (N21 11 : Int) = m21_2 from (congrArg (fun q : Nat => (q : Int)) (eN21 11)).trans em21_2)
      have r23 : HID ((-2147483648 : Int) ≤ y21_0_1 ∧ y21_0_1 ≤ 2147483647) := krg_e (show (-2147483648 : Int) ≤ F21 10 1 ∧ F21 10 1 ≤ 2147483647 from H.krg 10 1 (by decide)) (show F21 10 1 = y21_0_1 from ((eF21 10 1).trans ey21_0_1))
      have r24 : HID ((0 : Int) ≤ y21_0_2 ∧ y21_0_2 ≤ 1) := krg_e (show (0 : Int) ≤ F21 10 2 ∧ F21 10 2 ≤ 1 from H.krg 10 2 (by decide)) (show F21 10 2 = y21_0_2 from ((eF21 10 2).trans ey21_0_2))
      refine Ew_of (pc' := 23) (fun _ => x_iconst rfl) ?_
      exact w_ireturn rfl (k (1) _ _ _ _ _ _ _ H O (SD_trans (SD_refl) (SD_glu (ι := [10, 4, 11, 5]) hD21 eD21 (by decide +kernel)) (any_subA (l' := [11]) rfl)) (SD_trans (SD_refl) (SD_glu (ι := [10, 4, 11, 5]) hN21 eN21 (by decide +kernel)) (any_subA (l' := [11]) rfl)) (SF_trans (SF_trans (SF_refl) (SF_glu (ι := []) hS12 eF12 (by decide +kernel)) (any_sub (l' := []) rfl)) (SF_glu (ι := [10, 4, 11, 5]) hS21 eF21 (by decide +kernel)) (any_sub (l' := [(10, 0), (10, 1), (10, 2), (10, 3), (10, 4)]) rfl)) (SA_trans (SA_trans (SA_refl) (SA_glu (ι := []) hA12 eA12 (by decide +kernel)) (any_subA (l' := []) rfl)) (SA_glu (ι := [10, 4, 11, 5]) hA21 eA21 (by decide +kernel)) (any_subA (l' := [11]) rfl)) (pf21_10_0) (m21_2) ((congrArg (fun q : Nat => (q : Int)) (eN21 11)).trans em21_2) (y21_0_1) (((eF21 10 1).trans ey21_0_1)) (show (1) = 0 ∨ (1) = 1 by omega) (show 0 ≤ (u2_1) ∧ (u2_1) ≤ (n3) ∧ (n3) ≤ 65536 by have qh0 := HIDe r1; have qh1 := HIDe r7; omega) (show 0 ≤ (u4_1) ∧ (u4_1) ≤ (n5) ∧ (n5) ≤ 65536 by have qh0 := HIDe r2; have qh1 := HIDe r8; omega) (show 0 ≤ (u6_1) ∧ (u6_1) ≤ (n7) ∧ (n7) ≤ 65536 by have qh0 := HIDe r3; have qh1 := HIDe r9; omega) (show 0 ≤ (u8_1) ∧ (u8_1) ≤ (n9) ∧ (n9) ≤ 65536 by have qh0 := HIDe r10; have qh1 := HIDe r4; omega) (show 0 ≤ (y21_0_1) ∧ (y21_0_1) ≤ (m21_2) ∧ (m21_2) ≤ 65536 by have qh0 := HIDe r22; have qh1 := HIDe r23; omega))
    · refine v_lR H (o := 1) rfl rfl rfl rfl rfl (n := n1) (en1) (show 0 ≤ a1 ∧ a1 < n1 by have qh0 := HIDe r6; omega) (z := ((D 6 : Nat) : Int)) (v := .ref (D 6)) ((congrArg (A12 1) b14).trans ((congrFun (((show A12 1 = A 1 from (eA12 1)))) 2).trans (pf6))) (vrf rfl) ?_
      have r25 : HID ((0 : Int) ≤ F 10 2 ∧ F 10 2 ≤ 1) := krg_e (show (0 : Int) ≤ F12 10 2 ∧ F12 10 2 ≤ 1 from H.krg 10 2 (by decide)) (show F12 10 2 = F 10 2 from ((show F12 10 2 = F 10 2 from (eF12 10 2))))
      refine v_inv H (o := 10) rfl rfl rfl rfl rfl rfl (by rfl) (C158_Row (D := pul [10, 6, 11, 7] D) (N := pul [10, 6, 11, 7] N) (HW_sub H (VS_of (show vsub V14 V158_Row [10, 6, 11, 7] = true by decide +kernel))) ((((show F12 10 0 = F 10 0 from (eF12 10 0)))).trans (pf11)) ((((show F12 6 0 = F 6 0 from (eF12 6 0)))).trans (pf7)) (n11) (en11) (n7) (en7) (u10_1) ((((show F12 10 1 = F 10 1 from (eF12 10 1))).trans (eu10_1))) (F 10 2) (((show F12 10 2 = F 10 2 from (eF12 10 2)))) (u6_1) ((((show F12 6 1 = F 6 1 from (eF12 6 1))).trans (eu6_1))) (A 11) ((show A12 11 = A 11 from (eA12 11))) (A 7) ((show A12 7 = A 7 from (eA12 7))) (show 0 ≤ (u10_1) ∧ (u10_1) ≤ (n11) ∧ (n11) ≤ 65536 by have qh0 := HIDe r11; have qh1 := HIDe r5; omega) (show 0 ≤ (u6_1) ∧ (u6_1) ≤ (n7) ∧ (n7) ≤ 65536 by have qh0 := HIDe r3; have qh1 := HIDe r9; omega) (fun σ26 D26' N26' F26' A26' c26 s26 H' O' hD26 hN26 hS26 hA26 pm26_2 m26_2 em26_2 y26_0_1 ey26_0_1 y26_0_2 ey26_0_2 w26_2 ew26_2 pz26_0 pz26_1 pz26_2 pz26_3 => ⟨rfl, ?_⟩))
      replace pm26_2 := HIDm pm26_2
      replace em26_2 := HIDm em26_2
      replace ey26_0_1 := HIDm ey26_0_1
      replace ey26_0_2 := HIDm ey26_0_2
      refine v_backM (c := c) (s := s) H (show vsub V14 V158_Row [10, 6, 11, 7] = true by decide +kernel) H' O' hD26 (show vmov V14 [10, 6, 11, 7] [2] = true by decide +kernel) (fun D26 N26 F26 A26 H O' eD26 eN26 eF26 eA26 => ?_)
      have O := OUT_trans O O'
      -- Row.become
      have pe26_1_0 : HID (A26 1 0 = (D26 2 : Int)) := (congrFun ((show A26 1 = A12 1 from (eA26 1))) 0).trans (((congrFun (((show A12 1 = A 1 from (eA12 1)))) 0).trans (pf2)).trans (congrArg (fun q : Nat => (q : Int)) ((show D26 2 = D 2 from (eD26 2))).symm))
      have pe26_1_1 : HID (A26 1 1 = (D26 4 : Int)) := (congrFun ((show A26 1 = A12 1 from (eA26 1))) 1).trans (((congrFun (((show A12 1 = A 1 from (eA12 1)))) 1).trans (pf4)).trans (congrArg (fun q : Nat => (q : Int)) ((show D26 4 = D 4 from (eD26 4))).symm))
      have pe26_1_2 : HID (A26 1 2 = (D26 6 : Int)) := (congrFun ((show A26 1 = A12 1 from (eA26 1))) 2).trans (((congrFun (((show A12 1 = A 1 from (eA12 1)))) 2).trans (pf6)).trans (congrArg (fun q : Nat => (q : Int)) ((show D26 6 = D 6 from (eD26 6).trans (hD26 1 rfl))).symm))
      have pe26_1_3 : HID (A26 1 3 = (D26 8 : Int)) := (congrFun ((show A26 1 = A12 1 from (eA26 1))) 3).trans (((congrFun (((show A12 1 = A 1 from (eA12 1)))) 3).trans (pf8)).trans (congrArg (fun q : Nat => (q : Int)) ((show D26 8 = D 8 from (eD26 8))).symm))
      have pf26_0_0 : HID (F26 0 0 = (D26 1 : Int)) := ((show F26 0 0 = F12 0 0 from (eF26 0 0))).trans (((((show F12 0 0 = F 0 0 from (eF12 0 0)))).trans (pf1)).trans (congrArg (fun q : Nat => (q : Int)) ((show D26 1 = D 1 from (eD26 1))).symm))
      have pf26_0_2 : HID (F26 0 2 = (D26 10 : Int)) := ((show F26 0 2 = F12 0 2 from (eF26 0 2))).trans (((((show F12 0 2 = F 0 2 from (eF12 0 2)))).trans (pf10)).trans (congrArg (fun q : Nat => (q : Int)) ((show D26 10 = D 10 from (eD26 10).trans (hD26 0 rfl))).symm))
      have pf26_10_0 : HID (F26 10 0 = (D26 11 : Int)) := (eF26 10 0).trans (pm26_2.trans (congrArg (fun q : Nat => (q : Int)) (eD26 11).symm))
      have pf26_2_0 : HID (F26 2 0 = (D26 3 : Int)) := ((show F26 2 0 = F12 2 0 from (eF26 2 0))).trans (((((show F12 2 0 = F 2 0 from (eF12 2 0)))).trans (pf3)).trans (congrArg (fun q : Nat => (q : Int)) ((show D26 3 = D 3 from (eD26 3))).symm))
      have pf26_4_0 : HID (F26 4 0 = (D26 5 : Int)) := ((show F26 4 0 = F12 4 0 from (eF26 4 0))).trans (((((show F12 4 0 = F 4 0 from (eF12 4 0)))).trans (pf5)).trans (congrArg (fun q : Nat => (q : Int)) ((show D26 5 = D 5 from (eD26 5))).symm))
      have pf26_6_0 : HID (F26 6 0 = (D26 7 : Int)) := ((show F26 6 0 = F12 6 0 from (eF26 6 0).trans (hS26 1 0 rfl))).trans (((((show F12 6 0 = F 6 0 from (eF12 6 0)))).trans (pf7)).trans (congrArg (fun q : Nat => (q : Int)) ((show D26 7 = D 7 from (eD26 7).trans (hD26 3 rfl))).symm))
      have pf26_8_0 : HID (F26 8 0 = (D26 9 : Int)) := ((show F26 8 0 = F12 8 0 from (eF26 8 0))).trans (((((show F12 8 0 = F 8 0 from (eF12 8 0)))).trans (pf9)).trans (congrArg (fun q : Nat => (q : Int)) ((show D26 9 = D 9 from (eD26 9))).symm))
      have r27 : HID ((0 : Int) ≤ m26_2 ∧ m26_2 ≤ 1000000) := nrng (H.nle 11 (by decide)) (show (N26 11 : Int) = m26_2 from (congrArg (fun q : Nat => (q : Int)) (eN26 11)).trans em26_2)
      have r28 : HID ((-2147483648 : Int) ≤ y26_0_1 ∧ y26_0_1 ≤ 2147483647) := krg_e (show (-2147483648 : Int) ≤ F26 10 1 ∧ F26 10 1 ≤ 2147483647 from H.krg 10 1 (by decide)) (show F26 10 1 = y26_0_1 from ((eF26 10 1).trans ey26_0_1))
      have r29 : HID ((0 : Int) ≤ y26_0_2 ∧ y26_0_2 ≤ 1) := krg_e (show (0 : Int) ≤ F26 10 2 ∧ F26 10 2 ≤ 1 from H.krg 10 2 (by decide)) (show F26 10 2 = y26_0_2 from ((eF26 10 2).trans ey26_0_2))
      refine Ew_of (pc' := 23) (fun _ => x_iconst rfl) ?_
      exact w_ireturn rfl (k (1) _ _ _ _ _ _ _ H O (SD_trans (SD_refl) (SD_glu (ι := [10, 6, 11, 7]) hD26 eD26 (by decide +kernel)) (any_subA (l' := [11]) rfl)) (SD_trans (SD_refl) (SD_glu (ι := [10, 6, 11, 7]) hN26 eN26 (by decide +kernel)) (any_subA (l' := [11]) rfl)) (SF_trans (SF_trans (SF_refl) (SF_glu (ι := []) hS12 eF12 (by decide +kernel)) (any_sub (l' := []) rfl)) (SF_glu (ι := [10, 6, 11, 7]) hS26 eF26 (by decide +kernel)) (any_sub (l' := [(10, 0), (10, 1), (10, 2), (10, 3), (10, 4)]) rfl)) (SA_trans (SA_trans (SA_refl) (SA_glu (ι := []) hA12 eA12 (by decide +kernel)) (any_subA (l' := []) rfl)) (SA_glu (ι := [10, 6, 11, 7]) hA26 eA26 (by decide +kernel)) (any_subA (l' := [11]) rfl)) (pf26_10_0) (m26_2) ((congrArg (fun q : Nat => (q : Int)) (eN26 11)).trans em26_2) (y26_0_1) (((eF26 10 1).trans ey26_0_1)) (show (1) = 0 ∨ (1) = 1 by omega) (show 0 ≤ (u2_1) ∧ (u2_1) ≤ (n3) ∧ (n3) ≤ 65536 by have qh0 := HIDe r1; have qh1 := HIDe r7; omega) (show 0 ≤ (u4_1) ∧ (u4_1) ≤ (n5) ∧ (n5) ≤ 65536 by have qh0 := HIDe r2; have qh1 := HIDe r8; omega) (show 0 ≤ (u6_1) ∧ (u6_1) ≤ (n7) ∧ (n7) ≤ 65536 by have qh0 := HIDe r3; have qh1 := HIDe r9; omega) (show 0 ≤ (u8_1) ∧ (u8_1) ≤ (n9) ∧ (n9) ≤ 65536 by have qh0 := HIDe r10; have qh1 := HIDe r4; omega) (show 0 ≤ (y26_0_1) ∧ (y26_0_1) ≤ (m26_2) ∧ (m26_2) ≤ 65536 by have qh0 := HIDe r27; have qh1 := HIDe r28; omega))
    · refine v_lR H (o := 1) rfl rfl rfl rfl rfl (n := n1) (en1) (show 0 ≤ a1 ∧ a1 < n1 by have qh0 := HIDe r6; omega) (z := ((D 8 : Nat) : Int)) (v := .ref (D 8)) ((congrArg (A12 1) b14).trans ((congrFun (((show A12 1 = A 1 from (eA12 1)))) 3).trans (pf8))) (vrf rfl) ?_
      have r30 : HID ((0 : Int) ≤ F 10 2 ∧ F 10 2 ≤ 1) := krg_e (show (0 : Int) ≤ F12 10 2 ∧ F12 10 2 ≤ 1 from H.krg 10 2 (by decide)) (show F12 10 2 = F 10 2 from ((show F12 10 2 = F 10 2 from (eF12 10 2))))
      refine v_inv H (o := 10) rfl rfl rfl rfl rfl rfl (by rfl) (C158_Row (D := pul [10, 8, 11, 9] D) (N := pul [10, 8, 11, 9] N) (HW_sub H (VS_of (show vsub V14 V158_Row [10, 8, 11, 9] = true by decide +kernel))) ((((show F12 10 0 = F 10 0 from (eF12 10 0)))).trans (pf11)) ((((show F12 8 0 = F 8 0 from (eF12 8 0)))).trans (pf9)) (n11) (en11) (n9) (en9) (u10_1) ((((show F12 10 1 = F 10 1 from (eF12 10 1))).trans (eu10_1))) (F 10 2) (((show F12 10 2 = F 10 2 from (eF12 10 2)))) (u8_1) ((((show F12 8 1 = F 8 1 from (eF12 8 1))).trans (eu8_1))) (A 11) ((show A12 11 = A 11 from (eA12 11))) (A 9) ((show A12 9 = A 9 from (eA12 9))) (show 0 ≤ (u10_1) ∧ (u10_1) ≤ (n11) ∧ (n11) ≤ 65536 by have qh0 := HIDe r11; have qh1 := HIDe r5; omega) (show 0 ≤ (u8_1) ∧ (u8_1) ≤ (n9) ∧ (n9) ≤ 65536 by have qh0 := HIDe r10; have qh1 := HIDe r4; omega) (fun σ31 D31' N31' F31' A31' c31 s31 H' O' hD31 hN31 hS31 hA31 pm31_2 m31_2 em31_2 y31_0_1 ey31_0_1 y31_0_2 ey31_0_2 w31_2 ew31_2 pz31_0 pz31_1 pz31_2 pz31_3 => ⟨rfl, ?_⟩))
      replace pm31_2 := HIDm pm31_2
      replace em31_2 := HIDm em31_2
      replace ey31_0_1 := HIDm ey31_0_1
      replace ey31_0_2 := HIDm ey31_0_2
      refine v_backM (c := c) (s := s) H (show vsub V14 V158_Row [10, 8, 11, 9] = true by decide +kernel) H' O' hD31 (show vmov V14 [10, 8, 11, 9] [2] = true by decide +kernel) (fun D31 N31 F31 A31 H O' eD31 eN31 eF31 eA31 => ?_)
      have O := OUT_trans O O'
      -- Row.become
      have pe31_1_0 : HID (A31 1 0 = (D31 2 : Int)) := (congrFun ((show A31 1 = A12 1 from (eA31 1))) 0).trans (((congrFun (((show A12 1 = A 1 from (eA12 1)))) 0).trans (pf2)).trans (congrArg (fun q : Nat => (q : Int)) ((show D31 2 = D 2 from (eD31 2))).symm))
      have pe31_1_1 : HID (A31 1 1 = (D31 4 : Int)) := (congrFun ((show A31 1 = A12 1 from (eA31 1))) 1).trans (((congrFun (((show A12 1 = A 1 from (eA12 1)))) 1).trans (pf4)).trans (congrArg (fun q : Nat => (q : Int)) ((show D31 4 = D 4 from (eD31 4))).symm))
      have pe31_1_2 : HID (A31 1 2 = (D31 6 : Int)) := (congrFun ((show A31 1 = A12 1 from (eA31 1))) 2).trans (((congrFun (((show A12 1 = A 1 from (eA12 1)))) 2).trans (pf6)).trans (congrArg (fun q : Nat => (q : Int)) ((show D31 6 = D 6 from (eD31 6))).symm))
      have pe31_1_3 : HID (A31 1 3 = (D31 8 : Int)) := (congrFun ((show A31 1 = A12 1 from (eA31 1))) 3).trans (((congrFun (((show A12 1 = A 1 from (eA12 1)))) 3).trans (pf8)).trans (congrArg (fun q : Nat => (q : Int)) ((show D31 8 = D 8 from (eD31 8).trans (hD31 1 rfl))).symm))
      have pf31_0_0 : HID (F31 0 0 = (D31 1 : Int)) := ((show F31 0 0 = F12 0 0 from (eF31 0 0))).trans (((((show F12 0 0 = F 0 0 from (eF12 0 0)))).trans (pf1)).trans (congrArg (fun q : Nat => (q : Int)) ((show D31 1 = D 1 from (eD31 1))).symm))
      have pf31_0_2 : HID (F31 0 2 = (D31 10 : Int)) := ((show F31 0 2 = F12 0 2 from (eF31 0 2))).trans (((((show F12 0 2 = F 0 2 from (eF12 0 2)))).trans (pf10)).trans (congrArg (fun q : Nat => (q : Int)) ((show D31 10 = D 10 from (eD31 10).trans (hD31 0 rfl))).symm))
      have pf31_10_0 : HID (F31 10 0 = (D31 11 : Int)) := (eF31 10 0).trans (pm31_2.trans (congrArg (fun q : Nat => (q : Int)) (eD31 11).symm))
      have pf31_2_0 : HID (F31 2 0 = (D31 3 : Int)) := ((show F31 2 0 = F12 2 0 from (eF31 2 0))).trans (((((show F12 2 0 = F 2 0 from (eF12 2 0)))).trans (pf3)).trans (congrArg (fun q : Nat => (q : Int)) ((show D31 3 = D 3 from (eD31 3))).symm))
      have pf31_4_0 : HID (F31 4 0 = (D31 5 : Int)) := ((show F31 4 0 = F12 4 0 from (eF31 4 0))).trans (((((show F12 4 0 = F 4 0 from (eF12 4 0)))).trans (pf5)).trans (congrArg (fun q : Nat => (q : Int)) ((show D31 5 = D 5 from (eD31 5))).symm))
      have pf31_6_0 : HID (F31 6 0 = (D31 7 : Int)) := ((show F31 6 0 = F12 6 0 from (eF31 6 0))).trans (((((show F12 6 0 = F 6 0 from (eF12 6 0)))).trans (pf7)).trans (congrArg (fun q : Nat => (q : Int)) ((show D31 7 = D 7 from (eD31 7))).symm))
      have pf31_8_0 : HID (F31 8 0 = (D31 9 : Int)) := ((show F31 8 0 = F12 8 0 from (eF31 8 0).trans (hS31 1 0 rfl))).trans (((((show F12 8 0 = F 8 0 from (eF12 8 0)))).trans (pf9)).trans (congrArg (fun q : Nat => (q : Int)) ((show D31 9 = D 9 from (eD31 9).trans (hD31 3 rfl))).symm))
      have r32 : HID ((0 : Int) ≤ m31_2 ∧ m31_2 ≤ 1000000) := nrng (H.nle 11 (by decide)) (show (N31 11 : Int) = m31_2 from (congrArg (fun q : Nat => (q : Int)) (eN31 11)).trans em31_2)
      have r33 : HID ((-2147483648 : Int) ≤ y31_0_1 ∧ y31_0_1 ≤ 2147483647) := krg_e (show (-2147483648 : Int) ≤ F31 10 1 ∧ F31 10 1 ≤ 2147483647 from H.krg 10 1 (by decide)) (show F31 10 1 = y31_0_1 from ((eF31 10 1).trans ey31_0_1))
      have r34 : HID ((0 : Int) ≤ y31_0_2 ∧ y31_0_2 ≤ 1) := krg_e (show (0 : Int) ≤ F31 10 2 ∧ F31 10 2 ≤ 1 from H.krg 10 2 (by decide)) (show F31 10 2 = y31_0_2 from ((eF31 10 2).trans ey31_0_2))
      refine Ew_of (pc' := 23) (fun _ => x_iconst rfl) ?_
      exact w_ireturn rfl (k (1) _ _ _ _ _ _ _ H O (SD_trans (SD_refl) (SD_glu (ι := [10, 8, 11, 9]) hD31 eD31 (by decide +kernel)) (any_subA (l' := [11]) rfl)) (SD_trans (SD_refl) (SD_glu (ι := [10, 8, 11, 9]) hN31 eN31 (by decide +kernel)) (any_subA (l' := [11]) rfl)) (SF_trans (SF_trans (SF_refl) (SF_glu (ι := []) hS12 eF12 (by decide +kernel)) (any_sub (l' := []) rfl)) (SF_glu (ι := [10, 8, 11, 9]) hS31 eF31 (by decide +kernel)) (any_sub (l' := [(10, 0), (10, 1), (10, 2), (10, 3), (10, 4)]) rfl)) (SA_trans (SA_trans (SA_refl) (SA_glu (ι := []) hA12 eA12 (by decide +kernel)) (any_subA (l' := []) rfl)) (SA_glu (ι := [10, 8, 11, 9]) hA31 eA31 (by decide +kernel)) (any_subA (l' := [11]) rfl)) (pf31_10_0) (m31_2) ((congrArg (fun q : Nat => (q : Int)) (eN31 11)).trans em31_2) (y31_0_1) (((eF31 10 1).trans ey31_0_1)) (show (1) = 0 ∨ (1) = 1 by omega) (show 0 ≤ (u2_1) ∧ (u2_1) ≤ (n3) ∧ (n3) ≤ 65536 by have qh0 := HIDe r1; have qh1 := HIDe r7; omega) (show 0 ≤ (u4_1) ∧ (u4_1) ≤ (n5) ∧ (n5) ≤ 65536 by have qh0 := HIDe r2; have qh1 := HIDe r8; omega) (show 0 ≤ (u6_1) ∧ (u6_1) ≤ (n7) ∧ (n7) ≤ 65536 by have qh0 := HIDe r3; have qh1 := HIDe r9; omega) (show 0 ≤ (u8_1) ∧ (u8_1) ≤ (n9) ∧ (n9) ≤ 65536 by have qh0 := HIDe r10; have qh1 := HIDe r4; omega) (show 0 ≤ (y31_0_1) ∧ (y31_0_1) ≤ (m31_2) ∧ (m31_2) ≤ 65536 by have qh0 := HIDe r32; have qh1 := HIDe r33; omega))
  · refine Ew_of (pc' := 8) (fun _ => x_iconst rfl) ?_
    exact w_ireturn rfl (k (0) _ _ _ _ _ _ _ H O (SD_refl) (SD_refl) (SF_trans (SF_refl) (SF_glu (ι := []) hS12 eF12 (by decide +kernel)) (any_sub (l' := []) rfl)) (SA_trans (SA_refl) (SA_glu (ι := []) hA12 eA12 (by decide +kernel)) (any_subA (l' := []) rfl)) ((((show F12 10 0 = F 10 0 from (eF12 10 0)))).trans (pf11)) (n11) (en11) (u10_1) ((((show F12 10 1 = F 10 1 from (eF12 10 1))).trans (eu10_1))) (show (0) = 0 ∨ (0) = 1 by omega) (show 0 ≤ (u2_1) ∧ (u2_1) ≤ (n3) ∧ (n3) ≤ 65536 by have qh0 := HIDe r1; have qh1 := HIDe r7; omega) (show 0 ≤ (u4_1) ∧ (u4_1) ≤ (n5) ∧ (n5) ≤ 65536 by have qh0 := HIDe r2; have qh1 := HIDe r8; omega) (show 0 ≤ (u6_1) ∧ (u6_1) ≤ (n7) ∧ (n7) ≤ 65536 by have qh0 := HIDe r3; have qh1 := HIDe r9; omega) (show 0 ≤ (u8_1) ∧ (u8_1) ≤ (n9) ∧ (n9) ≤ 65536 by have qh0 := HIDe r10; have qh1 := HIDe r4; omega) (show 0 ≤ (u10_1) ∧ (u10_1) ≤ (n11) ∧ (n11) ≤ 65536 by have qh0 := HIDe r11; have qh1 := HIDe r5; omega))
abbrev V19 : vV := [(0, 0, [(4, 0), (4, 0), (4, 0), (4, 0), (4, 0), (4, 0), (4, 0), (4, 0), (4, 0), (4, 0), (4, 0), (4, 0), (4, 0), (4, 0), (4, 0), (4, 0), (4, 0), (0, 0), (0, 0)]), (1, 4, []), (0, 7, [(4, 0), (0, 0), (1, 0), (0, 0), (0, 0)]), (1, 0, []), (0, 7, [(4, 0), (0, 0), (1, 0), (0, 0), (0, 0)]), (1, 0, []), (0, 7, [(4, 0), (0, 0), (1, 0), (0, 0), (0, 0)]), (1, 0, []), (0, 7, [(4, 0), (0, 0), (1, 0), (0, 0), (0, 0)]), (1, 0, [])]
/-- PackHouse.kind: this, this.rows, this.rows.0, this.rows.0.bytes, this.rows.1, this.rows.1.bytes, this.rows.2, this.rows.2.bytes, this.rows.3, this.rows.3.bytes -/
theorem C19 {σE : rS} {D N : Nat → Nat} {F : hF} {A : hA} {d c s : Nat} {Q : wQ} (H : HW V19 σE D N F A) (HT : STC σE) {a1 : Int} (pf1 : F 0 0 = (D 1 : Int)) (pf2 : A 1 0 = (D 2 : Int)) (pf3 : F 2 0 = (D 3 : Int)) (pf4 : A 1 1 = (D 4 : Int)) (pf5 : F 4 0 = (D 5 : Int)) (pf6 : A 1 2 = (D 6 : Int)) (pf7 : F 6 0 = (D 7 : Int)) (pf8 : A 1 3 = (D 8 : Int)) (pf9 : F 8 0 = (D 9 : Int)) (n1 : Int) (en1 : (N 1 : Int) = n1) (n3 : Int) (en3 : (N 3 : Int) = n3) (n5 : Int) (en5 : (N 5 : Int) = n5) (n7 : Int) (en7 : (N 7 : Int) = n7) (n9 : Int) (en9 : (N 9 : Int) = n9) (u2_1 : Int) (eu2_1 : F 2 1 = u2_1) (u4_1 : Int) (eu4_1 : F 4 1 = u4_1) (u6_1 : Int) (eu6_1 : F 6 1 = u6_1) (u8_1 : Int) (eu8_1 : F 8 1 = u8_1) (h0 : inr (a1)) (h1 : (n1) = 4) (h2 : 0 ≤ (u2_1) ∧ (u2_1) ≤ (n3) ∧ (n3) ≤ 65536) (h3 : 0 ≤ (u4_1) ∧ (u4_1) ≤ (n5) ∧ (n5) ≤ 65536) (h4 : 0 ≤ (u6_1) ∧ (u6_1) ≤ (n7) ∧ (n7) ≤ 65536) (h5 : 0 ≤ (u8_1) ∧ (u8_1) ≤ (n9) ∧ (n9) ≤ 65536) (k : ∀ (z : Int) (σ : rS) (F' : hF) (A' : hA), HW V19 σ D N F' A' → OUT (V19).length D N σE c s D N σ c s → SF [] F F' → SA [] A A' → (inr (z)) → Q (some (I z)) σ c s) : Ew 19 (d + 3) 0 (rargs 0 [.ref (D 0), I a1]) [] σE c s Q := by
  have O := OUT_refl (n := (V19).length) (D := D) (N := N) (σ := σE) (c := c) (s := s)
  have HE := H
  have r1 : HID ((-2147483648 : Int) ≤ u2_1 ∧ u2_1 ≤ 2147483647) := krg_e (show (-2147483648 : Int) ≤ F 2 1 ∧ F 2 1 ≤ 2147483647 from H.krg 2 1 (by decide)) (show F 2 1 = u2_1 from (eu2_1))
  have r2 : HID ((-2147483648 : Int) ≤ u4_1 ∧ u4_1 ≤ 2147483647) := krg_e (show (-2147483648 : Int) ≤ F 4 1 ∧ F 4 1 ≤ 2147483647 from H.krg 4 1 (by decide)) (show F 4 1 = u4_1 from (eu4_1))
  have r3 : HID ((-2147483648 : Int) ≤ u6_1 ∧ u6_1 ≤ 2147483647) := krg_e (show (-2147483648 : Int) ≤ F 6 1 ∧ F 6 1 ≤ 2147483647 from H.krg 6 1 (by decide)) (show F 6 1 = u6_1 from (eu6_1))
  have r4 : HID ((-2147483648 : Int) ≤ u8_1 ∧ u8_1 ≤ 2147483647) := krg_e (show (-2147483648 : Int) ≤ F 8 1 ∧ F 8 1 ≤ 2147483647 from H.krg 8 1 (by decide)) (show F 8 1 = u8_1 from (eu8_1))
  replace pf1 := HIDm pf1
  replace pf2 := HIDm pf2
  replace pf3 := HIDm pf3
  replace pf4 := HIDm pf4
  replace pf5 := HIDm pf5
  replace pf6 := HIDm pf6
  replace pf7 := HIDm pf7
  replace pf8 := HIDm pf8
  replace pf9 := HIDm pf9
  replace en1 := HIDm en1
  replace en3 := HIDm en3
  replace en5 := HIDm en5
  replace en7 := HIDm en7
  replace en9 := HIDm en9
  replace eu2_1 := HIDm eu2_1
  replace eu4_1 := HIDm eu4_1
  replace eu6_1 := HIDm eu6_1
  replace eu8_1 := HIDm eu8_1
  have r5 : HID ((0 : Int) ≤ n1 ∧ n1 ≤ 1000000) := nrng (H.nle 1 (by decide)) (show (N 1 : Int) = n1 from en1)
  have r6 : HID ((0 : Int) ≤ n3 ∧ n3 ≤ 1000000) := nrng (H.nle 3 (by decide)) (show (N 3 : Int) = n3 from en3)
  have r7 : HID ((0 : Int) ≤ n5 ∧ n5 ≤ 1000000) := nrng (H.nle 5 (by decide)) (show (N 5 : Int) = n5 from en5)
  have r8 : HID ((0 : Int) ≤ n7 ∧ n7 ≤ 1000000) := nrng (H.nle 7 (by decide)) (show (N 7 : Int) = n7 from en7)
  have r9 : HID ((0 : Int) ≤ n9 ∧ n9 ≤ 1000000) := nrng (H.nle 9 (by decide)) (show (N 9 : Int) = n9 from en9)
  refine Ew_of (pc' := 1) (fun _ => x_iload_n rfl rfl) ?_
  refine w_stat24 rfl rfl (by rfl) (C24 (D := pul [] D) (N := pul [] N) (HW_sub H (VS_of (show vsub V19 V24 [] = true by decide +kernel))) (show inr (a1) by omega) (fun z10 σ10 F10' A10' H' O' hS10 hA10 pz10_0 pz10_1 => ⟨rretB rfl pz10_0, ?_⟩))
  refine v_back (c := c) (s := s) H (show vsub V19 V24 [] = true by decide +kernel) H' O' (fun F10 A10 H O' eF10 eA10 => ?_)
  have O := OUT_trans O O'
  -- PackHouse.isRow
  refine w_ifeq (t := 19) rfl rfl (show inr (z10) by omega) (fun b11 => ?_) (fun b11 => ?_)
  · refine Ew_of (pc' := 20) (fun _ => x_iconst rfl) ?_
    exact w_ireturn rfl (k ((-1)) _ _ _ H O (SF_trans (SF_refl) (SF_glu (ι := []) hS10 eF10 (by decide +kernel)) (any_sub (l' := []) rfl)) (SA_trans (SA_refl) (SA_glu (ι := []) hA10 eA10 (by decide +kernel)) (any_subA (l' := []) rfl)) (show inr ((-1)) by omega))
  · refine Ew_of (pc' := 8) (fun _ => x_aload_n rfl rfl) ?_
    refine v_g H (o := 0) (v := .ref (D 1)) rfl rfl rfl rfl rfl (vrf ((((show F10 0 0 = F 0 0 from (eF10 0 0)))).trans (pf1))) ?_
    refine Ew_of (pc' := 12) (fun _ => x_iload_n rfl rfl) ?_
    rcases (show a1 = 0 ∨ a1 = 1 ∨ a1 = 2 ∨ a1 = 3 by omega) with b12 | b12 | b12 | b12
    · refine v_lR H (o := 1) rfl rfl rfl rfl rfl (n := n1) (en1) (show 0 ≤ a1 ∧ a1 < n1 by have qh0 := HIDe r5; omega) (z := ((D 2 : Nat) : Int)) (v := .ref (D 2)) ((congrArg (A10 1) b12).trans ((congrFun (((show A10 1 = A 1 from (eA10 1)))) 0).trans (pf2))) (vrf rfl) ?_
      refine w_stat24 rfl rfl (by rfl) (C33_Row (D := pul [2, 3] D) (N := pul [2, 3] N) (HW_sub H (VS_of (show vsub V19 V33_Row [2, 3] = true by decide +kernel))) (STC_out HT HE O) ((((show F10 2 0 = F 2 0 from (eF10 2 0)))).trans (pf3)) (n3) (en3) (u2_1) ((((show F10 2 1 = F 2 1 from (eF10 2 1))).trans (eu2_1))) (show 0 ≤ (u2_1) ∧ (u2_1) ≤ (n3) ∧ (n3) ≤ 65536 by have qh0 := HIDe r1; have qh1 := HIDe r6; omega) (fun z13 σ13 F13' A13' H' O' hS13 hA13 pz13_0 pz13_1 => ⟨rfl, ?_⟩))
      refine v_back (c := c) (s := s) H (show vsub V19 V33_Row [2, 3] = true by decide +kernel) H' O' (fun F13 A13 H O' eF13 eA13 => ?_)
      have O := OUT_trans O O'
      -- PackHouse.formatOf
      refine Ew_of (pc' := 20) (fun _ => x_goto rfl rfl) ?_
      exact w_ireturn rfl (k (z13) _ _ _ H O (SF_trans (SF_trans (SF_refl) (SF_glu (ι := []) hS10 eF10 (by decide +kernel)) (any_sub (l' := []) rfl)) (SF_glu (ι := [2, 3]) hS13 eF13 (by decide +kernel)) (any_sub (l' := []) rfl)) (SA_trans (SA_trans (SA_refl) (SA_glu (ι := []) hA10 eA10 (by decide +kernel)) (any_subA (l' := []) rfl)) (SA_glu (ι := [2, 3]) hA13 eA13 (by decide +kernel)) (any_subA (l' := []) rfl)) (show inr (z13) by omega))
    · refine v_lR H (o := 1) rfl rfl rfl rfl rfl (n := n1) (en1) (show 0 ≤ a1 ∧ a1 < n1 by have qh0 := HIDe r5; omega) (z := ((D 4 : Nat) : Int)) (v := .ref (D 4)) ((congrArg (A10 1) b12).trans ((congrFun (((show A10 1 = A 1 from (eA10 1)))) 1).trans (pf4))) (vrf rfl) ?_
      refine w_stat24 rfl rfl (by rfl) (C33_Row (D := pul [4, 5] D) (N := pul [4, 5] N) (HW_sub H (VS_of (show vsub V19 V33_Row [4, 5] = true by decide +kernel))) (STC_out HT HE O) ((((show F10 4 0 = F 4 0 from (eF10 4 0)))).trans (pf5)) (n5) (en5) (u4_1) ((((show F10 4 1 = F 4 1 from (eF10 4 1))).trans (eu4_1))) (show 0 ≤ (u4_1) ∧ (u4_1) ≤ (n5) ∧ (n5) ≤ 65536 by have qh0 := HIDe r2; have qh1 := HIDe r7; omega) (fun z14 σ14 F14' A14' H' O' hS14 hA14 pz14_0 pz14_1 => ⟨rfl, ?_⟩))
      refine v_back (c := c) (s := s) H (show vsub V19 V33_Row [4, 5] = true by decide +kernel) H' O' (fun F14 A14 H O' eF14 eA14 => ?_)
      have O := OUT_trans O O'
      -- PackHouse.formatOf
      refine Ew_of (pc' := 20) (fun _ => x_goto rfl rfl) ?_
      exact w_ireturn rfl (k (z14) _ _ _ H O (SF_trans (SF_trans (SF_refl) (SF_glu (ι := []) hS10 eF10 (by decide +kernel)) (any_sub (l' := []) rfl)) (SF_glu (ι := [4, 5]) hS14 eF14 (by decide +kernel)) (any_sub (l' := []) rfl)) (SA_trans (SA_trans (SA_refl) (SA_glu (ι := []) hA10 eA10 (by decide +kernel)) (any_subA (l' := []) rfl)) (SA_glu (ι := [4, 5]) hA14 eA14 (by decide +kernel)) (any_subA (l' := []) rfl)) (show inr (z14) by omega))
    · refine v_lR H (o := 1) rfl rfl rfl rfl rfl (n := n1) (en1) (show 0 ≤ a1 ∧ a1 < n1 by have qh0 := HIDe r5; omega) (z := ((D 6 : Nat) : Int)) (v := .ref (D 6)) ((congrArg (A10 1) b12).trans ((congrFun (((show A10 1 = A 1 from (eA10 1)))) 2).trans (pf6))) (vrf rfl) ?_
      refine w_stat24 rfl rfl (by rfl) (C33_Row (D := pul [6, 7] D) (N := pul [6, 7] N) (HW_sub H (VS_of (show vsub V19 V33_Row [6, 7] = true by decide +kernel))) (STC_out HT HE O) ((((show F10 6 0 = F 6 0 from (eF10 6 0)))).trans (pf7)) (n7) (en7) (u6_1) ((((show F10 6 1 = F 6 1 from (eF10 6 1))).trans (eu6_1))) (show 0 ≤ (u6_1) ∧ (u6_1) ≤ (n7) ∧ (n7) ≤ 65536 by have qh0 := HIDe r3; have qh1 := HIDe r8; omega) (fun z15 σ15 F15' A15' H' O' hS15 hA15 pz15_0 pz15_1 => ⟨rfl, ?_⟩))
      refine v_back (c := c) (s := s) H (show vsub V19 V33_Row [6, 7] = true by decide +kernel) H' O' (fun F15 A15 H O' eF15 eA15 => ?_)
      have O := OUT_trans O O'
      -- PackHouse.formatOf
      refine Ew_of (pc' := 20) (fun _ => x_goto rfl rfl) ?_
      exact w_ireturn rfl (k (z15) _ _ _ H O (SF_trans (SF_trans (SF_refl) (SF_glu (ι := []) hS10 eF10 (by decide +kernel)) (any_sub (l' := []) rfl)) (SF_glu (ι := [6, 7]) hS15 eF15 (by decide +kernel)) (any_sub (l' := []) rfl)) (SA_trans (SA_trans (SA_refl) (SA_glu (ι := []) hA10 eA10 (by decide +kernel)) (any_subA (l' := []) rfl)) (SA_glu (ι := [6, 7]) hA15 eA15 (by decide +kernel)) (any_subA (l' := []) rfl)) (show inr (z15) by omega))
    · refine v_lR H (o := 1) rfl rfl rfl rfl rfl (n := n1) (en1) (show 0 ≤ a1 ∧ a1 < n1 by have qh0 := HIDe r5; omega) (z := ((D 8 : Nat) : Int)) (v := .ref (D 8)) ((congrArg (A10 1) b12).trans ((congrFun (((show A10 1 = A 1 from (eA10 1)))) 3).trans (pf8))) (vrf rfl) ?_
      refine w_stat24 rfl rfl (by rfl) (C33_Row (D := pul [8, 9] D) (N := pul [8, 9] N) (HW_sub H (VS_of (show vsub V19 V33_Row [8, 9] = true by decide +kernel))) (STC_out HT HE O) ((((show F10 8 0 = F 8 0 from (eF10 8 0)))).trans (pf9)) (n9) (en9) (u8_1) ((((show F10 8 1 = F 8 1 from (eF10 8 1))).trans (eu8_1))) (show 0 ≤ (u8_1) ∧ (u8_1) ≤ (n9) ∧ (n9) ≤ 65536 by have qh0 := HIDe r4; have qh1 := HIDe r9; omega) (fun z16 σ16 F16' A16' H' O' hS16 hA16 pz16_0 pz16_1 => ⟨rfl, ?_⟩))
      refine v_back (c := c) (s := s) H (show vsub V19 V33_Row [8, 9] = true by decide +kernel) H' O' (fun F16 A16 H O' eF16 eA16 => ?_)
      have O := OUT_trans O O'
      -- PackHouse.formatOf
      refine Ew_of (pc' := 20) (fun _ => x_goto rfl rfl) ?_
      exact w_ireturn rfl (k (z16) _ _ _ H O (SF_trans (SF_trans (SF_refl) (SF_glu (ι := []) hS10 eF10 (by decide +kernel)) (any_sub (l' := []) rfl)) (SF_glu (ι := [8, 9]) hS16 eF16 (by decide +kernel)) (any_sub (l' := []) rfl)) (SA_trans (SA_trans (SA_refl) (SA_glu (ι := []) hA10 eA10 (by decide +kernel)) (any_subA (l' := []) rfl)) (SA_glu (ι := [8, 9]) hA16 eA16 (by decide +kernel)) (any_subA (l' := []) rfl)) (show inr (z16) by omega))
abbrev V10 : vV := [(0, 0, [(4, 0), (4, 0), (4, 0), (4, 0), (4, 0), (4, 0), (4, 0), (4, 0), (4, 0), (4, 0), (4, 0), (4, 0), (4, 0), (4, 0), (4, 0), (4, 0), (4, 0), (0, 0), (0, 0)]), (1, 1, [])]
/-- PackHouse.get: this, this.settings -/
theorem C10 {σE : rS} {D N : Nat → Nat} {F : hF} {A : hA} {d c s : Nat} {Q : wQ} (H : HW V10 σE D N F A) {a1 : Int} (pf1 : F 0 1 = (D 1 : Int)) (n1 : Int) (en1 : (N 1 : Int) = n1) (h0 : inr (a1)) (h1 : (n1) = 10) (k : ∀ (z : Int) (σ : rS) (F' : hF) (A' : hA), HW V10 σ D N F' A' → OUT (V10).length D N σE c s D N σ c s → SF [] F F' → SA [] A A' → (inr (z)) → Q (some (I z)) σ c s) : Ew 10 (d + 1) 0 (rargs 0 [.ref (D 0), I a1]) [] σE c s Q := by
  have O := OUT_refl (n := (V10).length) (D := D) (N := N) (σ := σE) (c := c) (s := s)
  have HE := H
  replace pf1 := HIDm pf1
  replace en1 := HIDm en1
  have r1 : HID ((0 : Int) ≤ n1 ∧ n1 ≤ 1000000) := nrng (H.nle 1 (by decide)) (show (N 1 : Int) = n1 from en1)
  refine Ew_of (pc' := 1) (fun _ => x_iload_n rfl rfl) ?_
  refine w_stat24 rfl rfl (by rfl) (C25 (D := pul [] D) (N := pul [] N) (HW_sub H (VS_of (show vsub V10 V25 [] = true by decide +kernel))) (show inr (a1) by omega) (fun z2 σ2 F2' A2' H' O' hS2 hA2 pz2_0 pz2_1 => ⟨rretB rfl pz2_0, ?_⟩))
  refine v_back (c := c) (s := s) H (show vsub V10 V25 [] = true by decide +kernel) H' O' (fun F2 A2 H O' eF2 eA2 => ?_)
  have O := OUT_trans O O'
  -- PackHouse.isSetting
  refine w_ifeq (t := 16) rfl rfl (show inr (z2) by omega) (fun b3 => ?_) (fun b3 => ?_)
  · refine Ew_of (pc' := 17) (fun _ => x_iconst rfl) ?_
    exact w_ireturn rfl (k ((-1)) _ _ _ H O (SF_trans (SF_refl) (SF_glu (ι := []) hS2 eF2 (by decide +kernel)) (any_sub (l' := []) rfl)) (SA_trans (SA_refl) (SA_glu (ι := []) hA2 eA2 (by decide +kernel)) (any_subA (l' := []) rfl)) (show inr ((-1)) by omega))
  · refine Ew_of (pc' := 8) (fun _ => x_aload_n rfl rfl) ?_
    refine v_g H (o := 0) (v := .ref (D 1)) rfl rfl rfl rfl rfl (vrf ((((show F2 0 1 = F 0 1 from (eF2 0 1)))).trans (pf1))) ?_
    refine Ew_of (pc' := 12) (fun _ => x_iload_n rfl rfl) ?_
    refine v_lI H (o := 1) rfl rfl rfl rfl (n := n1) (en1) (show 0 ≤ a1 ∧ a1 < n1 by have qh0 := HIDe r1; omega) (fun v4 ev4 qv4 => ?_)
    replace qv4 := HIDm qv4
    have ev4 : (A 1) (a1) = v4 := (congrFun ((show A2 1 = A 1 from (eA2 1))) (a1)).symm.trans ev4
    refine Ew_of (pc' := 17) (fun _ => x_goto rfl rfl) ?_
    exact w_ireturn rfl (k (v4) _ _ _ H O (SF_trans (SF_refl) (SF_glu (ι := []) hS2 eF2 (by decide +kernel)) (any_sub (l' := []) rfl)) (SA_trans (SA_refl) (SA_glu (ι := []) hA2 eA2 (by decide +kernel)) (any_subA (l' := []) rfl)) (show inr (v4) by have qh0 := HIDe qv4; omega))
abbrev V23 : vV := [(0, 0, [(4, 0), (4, 0), (4, 0), (4, 0), (4, 0), (4, 0), (4, 0), (4, 0), (4, 0), (4, 0), (4, 0), (4, 0), (4, 0), (4, 0), (4, 0), (4, 0), (4, 0), (0, 0), (0, 0)]), (1, 1, [])]
/-- PackHouse.strayed: this, this.strays -/
theorem C23 {σE : rS} {D N : Nat → Nat} {F : hF} {A : hA} {d c s : Nat} {Q : wQ} (H : HW V23 σE D N F A) {a1 : Int} (pf1 : F 0 16 = (D 1 : Int)) (n1 : Int) (en1 : (N 1 : Int) = n1) (h0 : inr (a1)) (h1 : (n1) = 2) (k : ∀ (z : Int) (σ : rS) (F' : hF) (A' : hA), HW V23 σ D N F' A' → OUT (V23).length D N σE c s D N σ c s → SF [] F F' → SA [] A A' → (inr (z)) → Q (some (I z)) σ c s) : Ew 23 (d + 0) 0 (rargs 0 [.ref (D 0), I a1]) [] σE c s Q := by
  have O := OUT_refl (n := (V23).length) (D := D) (N := N) (σ := σE) (c := c) (s := s)
  have HE := H
  replace pf1 := HIDm pf1
  replace en1 := HIDm en1
  have r1 : HID ((0 : Int) ≤ n1 ∧ n1 ≤ 1000000) := nrng (H.nle 1 (by decide)) (show (N 1 : Int) = n1 from en1)
  refine Ew_of (pc' := 1) (fun _ => x_iload_n rfl rfl) ?_
  have hc9 : ∀ (ls : rO) (σ : rS) (F_c9 : hF) (A_c9 : hA) , rlook ls 0 = some (.ref (D 0)) → rlook ls 1 = some (I (a1)) → HW V23 σ D N F_c9 A_c9 → OUT (V23).length D N σE c s D N σ c s → SF [] F F_c9 → SA [] A A_c9 → (((a1) = (0)) ∨ ((a1) ≠ (0) ∧ (a1) = (1))) → Ew 23 (d + 0) 9 ls [] σ c s Q := by
   as_aux_lemma =>
    intro  ls σ F_c9 A_c9  lc9_0 lc9_1 H O hS_c9 hA_c9     jc9_0
    refine Ew_of (pc' := 10) (fun _ => x_aload_n rfl lc9_0) ?_
    refine v_g H (o := 0) (v := .ref (D 1)) rfl rfl rfl rfl rfl (vrf (((hS_c9 0 16 rfl)).trans (pf1))) ?_
    refine Ew_of (pc' := 14) (fun _ => x_iload_n rfl lc9_1) ?_
    refine v_lI H (o := 1) rfl rfl rfl rfl (n := n1) (en1) (show 0 ≤ a1 ∧ a1 < n1 by have qh0 := HIDe r1; omega) (fun v2 ev2 qv2 => ?_)
    replace qv2 := HIDm qv2
    have ev2 : (A 1) (a1) = v2 := (congrFun (funext (hA_c9 1 rfl)) (a1)).symm.trans ev2
    refine Ew_of (pc' := 19) (fun _ => x_goto rfl rfl) ?_
    exact w_ireturn rfl (k (v2) _ _ _ H O (SF_trans (SF_refl) hS_c9 (any_sub rfl)) (SA_trans (SA_refl) hA_c9 (any_subA rfl)) (show inr (v2) by have qh0 := HIDe qv2; omega))
  refine w_ifeq (t := 9) rfl rfl (show inr (a1) by omega) (fun b3 => ?_) (fun b3 => ?_)
  · exact hc9  _ _ _ _  (rfl) (rfl) H O (SF_refl) (SA_refl)     (show ((a1) = (0)) ∨ ((a1) ≠ (0) ∧ (a1) = (1)) by omega)
  · refine Ew_of (pc' := 5) (fun _ => x_iload_n rfl rfl) ?_
    refine Ew_of (pc' := 6) (fun _ => x_iconst rfl) ?_
    refine w_icmpne (t := 18) rfl rfl (show inr (a1) by omega) (show inr (1) by omega) (fun b4 => ?_) (fun b4 => ?_)
    · refine Ew_of (pc' := 19) (fun _ => x_iconst rfl) ?_
      exact w_ireturn rfl (k ((-1)) _ _ _ H O (SF_refl) (SA_refl) (show inr ((-1)) by omega))
    · exact hc9  _ _ _ _  (rfl) (rfl) H O (SF_refl) (SA_refl)     (show ((a1) = (0)) ∨ ((a1) ≠ (0) ∧ (a1) = (1)) by omega)
abbrev V22 : vV := [(0, 0, [(4, 0), (4, 0), (4, 0), (4, 0), (4, 0), (4, 0), (4, 0), (4, 0), (4, 0), (4, 0), (4, 0), (4, 0), (4, 0), (4, 0), (4, 0), (4, 0), (4, 0), (0, 0), (0, 0)]), (1, 1, []), (1, 1, []), (0, 4, [(4, 0), (4, 0), (0, 0), (4, 0), (4, 0)]), (0, 7, [(4, 0), (0, 0), (1, 0), (0, 0), (0, 0)]), (0, 7, [(4, 0), (0, 0), (1, 0), (0, 0), (0, 0)])]
/-- PackHouse.about: this, this.packCounts, this.readCounts, this.dictionary, this.dictionary.content, this.past -/
theorem C22 {σE : rS} {D N : Nat → Nat} {F : hF} {A : hA} {d c s : Nat} {Q : wQ} (H : HW V22 σE D N F A) {a1 : Int} (pf1 : F 0 13 = (D 1 : Int)) (pf2 : F 0 14 = (D 2 : Int)) (pf3 : F 0 3 = (D 3 : Int)) (pf4 : F 3 0 = (D 4 : Int)) (pf5 : F 0 2 = (D 5 : Int)) (n1 : Int) (en1 : (N 1 : Int) = n1) (n2 : Int) (en2 : (N 2 : Int) = n2) (h0 : inr (a1)) (h1 : (n1) = 13) (h2 : (n2) = 5) (k : ∀ (z : Int) (σ : rS) (F' : hF) (A' : hA), HW V22 σ D N F' A' → OUT (V22).length D N σE c s D N σ c s → SF [] F F' → SA [] A A' → (inr (z)) → Q (some (I z)) σ c s) : Ew 22 (d + 0) 0 (rargs 0 [.ref (D 0), I a1]) [] σE c s Q := by
  have O := OUT_refl (n := (V22).length) (D := D) (N := N) (σ := σE) (c := c) (s := s)
  have HE := H
  replace pf1 := HIDm pf1
  replace pf2 := HIDm pf2
  replace pf3 := HIDm pf3
  replace pf4 := HIDm pf4
  replace pf5 := HIDm pf5
  replace en1 := HIDm en1
  replace en2 := HIDm en2
  have r1 : HID ((0 : Int) ≤ n1 ∧ n1 ≤ 1000000) := nrng (H.nle 1 (by decide)) (show (N 1 : Int) = n1 from en1)
  have r2 : HID ((0 : Int) ≤ n2 ∧ n2 ≤ 1000000) := nrng (H.nle 2 (by decide)) (show (N 2 : Int) = n2 from en2)
  refine Ew_of (pc' := 1) (fun _ => x_iload_n rfl rfl) ?_
  refine w_ifne (t := 9) rfl rfl (show inr (a1) by omega) (fun b3 => ?_) (fun b3 => ?_)
  · refine Ew_of (pc' := 10) (fun _ => x_iload_n rfl rfl) ?_
    refine Ew_of (pc' := 11) (fun _ => x_iconst rfl) ?_
    have hc27 : ∀ (ls : rO) (σ : rS) (F_c27 : hF) (A_c27 : hA) , rlook ls 0 = some (.ref (D 0)) → rlook ls 1 = some (I (a1)) → HW V22 σ D N F_c27 A_c27 → OUT (V22).length D N σE c s D N σ c s → SF [] F F_c27 → SA [] A A_c27 → (((a1) < (1)) ∨ ((a1) ≥ (1) ∧ (a1) > (12))) → Ew 22 (d + 0) 27 ls [] σ c s Q := by
     as_aux_lemma =>
      intro  ls σ F_c27 A_c27  lc27_0 lc27_1 H O hS_c27 hA_c27     jc27_0
      refine Ew_of (pc' := 28) (fun _ => x_iload_n rfl lc27_1) ?_
      refine Ew_of (pc' := 30) (fun _ => x_bipush (z := 13) rfl (by decide)) ?_
      have hc49 : ∀ (ls : rO) (σ : rS) (F_c49 : hF) (A_c49 : hA) , rlook ls 0 = some (.ref (D 0)) → rlook ls 1 = some (I (a1)) → HW V22 σ D N F_c49 A_c49 → OUT (V22).length D N σE c s D N σ c s → SF [] F_c27 F_c49 → SA [] A_c27 A_c49 → (((a1) < (13)) ∨ ((a1) ≥ (13) ∧ (a1) > (17))) → Ew 22 (d + 0) 49 ls [] σ c s Q := by
       as_aux_lemma =>
        intro  ls σ F_c49 A_c49  lc49_0 lc49_1 H O hS_c49 hA_c49     jc49_0
        refine Ew_of (pc' := 50) (fun _ => x_iload_n rfl lc49_1) ?_
        by_cases b4 : a1 = 18
        · refine w_tsk 0 76 rfl (show inr (a1) by omega) (by omega) (by decide) rfl rfl ?_
          refine Ew_of (pc' := 77) (fun _ => x_aload_n rfl lc49_0) ?_
          refine v_g H (o := 0) (v := .ref (D 5)) rfl rfl rfl rfl rfl (vrf ((((hS_c49 0 2 rfl).trans (hS_c27 0 2 rfl))).trans (pf5))) ?_
          have r5 : HID ((-2147483648 : Int) ≤ F 5 1 ∧ F 5 1 ≤ 2147483647) := krg_e (show (-2147483648 : Int) ≤ F_c49 5 1 ∧ F_c49 5 1 ≤ 2147483647 from H.krg 5 1 (by decide)) (show F_c49 5 1 = F 5 1 from ((hS_c49 5 1 rfl).trans (hS_c27 5 1 rfl)))
          refine v_g H (o := 5) (v := I (F 5 1)) rfl rfl rfl rfl rfl (congrArg (fun z : Int => I z) (((hS_c49 5 1 rfl).trans (hS_c27 5 1 rfl)) : F_c49 5 1 = F 5 1)) ?_
          exact w_ireturn rfl (k (F 5 1) _ _ _ H O (SF_trans (SF_trans (SF_refl) hS_c27 (any_sub rfl)) hS_c49 (any_sub rfl)) (SA_trans (SA_trans (SA_refl) hA_c27 (any_subA rfl)) hA_c49 (any_subA rfl)) (show inr (F 5 1) by have qh0 := HIDe r5; omega))
        ·
          by_cases b6 : a1 = 19
          · refine w_tsk 1 84 rfl (show inr (a1) by omega) (by omega) (by decide) rfl rfl ?_
            refine Ew_of (pc' := 85) (fun _ => x_aload_n rfl lc49_0) ?_
            refine v_g H (o := 0) (v := .ref (D 3)) rfl rfl rfl rfl rfl (vrf ((((hS_c49 0 3 rfl).trans (hS_c27 0 3 rfl))).trans (pf3))) ?_
            refine v_g H (o := 3) (v := .ref (D 4)) rfl rfl rfl rfl rfl (vrf ((((hS_c49 3 0 rfl).trans (hS_c27 3 0 rfl))).trans (pf4))) ?_
            have r7 : HID ((-2147483648 : Int) ≤ F 4 1 ∧ F 4 1 ≤ 2147483647) := krg_e (show (-2147483648 : Int) ≤ F_c49 4 1 ∧ F_c49 4 1 ≤ 2147483647 from H.krg 4 1 (by decide)) (show F_c49 4 1 = F 4 1 from ((hS_c49 4 1 rfl).trans (hS_c27 4 1 rfl)))
            refine v_g H (o := 4) (v := I (F 4 1)) rfl rfl rfl rfl rfl (congrArg (fun z : Int => I z) (((hS_c49 4 1 rfl).trans (hS_c27 4 1 rfl)) : F_c49 4 1 = F 4 1)) ?_
            exact w_ireturn rfl (k (F 4 1) _ _ _ H O (SF_trans (SF_trans (SF_refl) hS_c27 (any_sub rfl)) hS_c49 (any_sub rfl)) (SA_trans (SA_trans (SA_refl) hA_c27 (any_subA rfl)) hA_c49 (any_subA rfl)) (show inr (F 4 1) by have qh0 := HIDe r7; omega))
          ·
            by_cases b8 : a1 = 20
            · refine w_tsk 2 95 rfl (show inr (a1) by omega) (by omega) (by decide) rfl rfl ?_
              refine Ew_of (pc' := 96) (fun _ => x_aload_n rfl lc49_0) ?_
              refine v_g H (o := 0) (v := .ref (D 3)) rfl rfl rfl rfl rfl (vrf ((((hS_c49 0 3 rfl).trans (hS_c27 0 3 rfl))).trans (pf3))) ?_
              have r9 : HID ((-2147483648 : Int) ≤ F 3 2 ∧ F 3 2 ≤ 2147483647) := krg_e (show (-2147483648 : Int) ≤ F_c49 3 2 ∧ F_c49 3 2 ≤ 2147483647 from H.krg 3 2 (by decide)) (show F_c49 3 2 = F 3 2 from ((hS_c49 3 2 rfl).trans (hS_c27 3 2 rfl)))
              refine v_g H (o := 3) (v := I (F 3 2)) rfl rfl rfl rfl rfl (congrArg (fun z : Int => I z) (((hS_c49 3 2 rfl).trans (hS_c27 3 2 rfl)) : F_c49 3 2 = F 3 2)) ?_
              exact w_ireturn rfl (k (F 3 2) _ _ _ H O (SF_trans (SF_trans (SF_refl) hS_c27 (any_sub rfl)) hS_c49 (any_sub rfl)) (SA_trans (SA_trans (SA_refl) hA_c27 (any_subA rfl)) hA_c49 (any_subA rfl)) (show inr (F 3 2) by have qh0 := HIDe r9; omega))
            ·
              refine w_tsd 103 rfl (show inr (a1) by omega) (by omega) rfl ?_
              refine Ew_of (pc' := 104) (fun _ => x_iconst rfl) ?_
              exact w_ireturn rfl (k ((-1)) _ _ _ H O (SF_trans (SF_trans (SF_refl) hS_c27 (any_sub rfl)) hS_c49 (any_sub rfl)) (SA_trans (SA_trans (SA_refl) hA_c27 (any_subA rfl)) hA_c49 (any_subA rfl)) (show inr ((-1)) by omega))
      refine w_icmplt (t := 49) rfl rfl (show inr (a1) by omega) (show inr (13) by omega) (fun b10 => ?_) (fun b10 => ?_)
      · exact hc49  _ _ _ _  (lc27_0) (lc27_1) H O (SF_refl) (SA_refl)     (show ((a1) < (13)) ∨ ((a1) ≥ (13) ∧ (a1) > (17)) by omega)
      · refine Ew_of (pc' := 34) (fun _ => x_iload_n rfl lc27_1) ?_
        refine Ew_of (pc' := 36) (fun _ => x_bipush (z := 17) rfl (by decide)) ?_
        refine w_icmpgt (t := 49) rfl rfl (show inr (a1) by omega) (show inr (17) by omega) (fun b11 => ?_) (fun b11 => ?_)
        · exact hc49  _ _ _ _  (lc27_0) (lc27_1) H O (SF_refl) (SA_refl)     (show ((a1) < (13)) ∨ ((a1) ≥ (13) ∧ (a1) > (17)) by omega)
        · refine Ew_of (pc' := 40) (fun _ => x_aload_n rfl lc27_0) ?_
          refine v_g H (o := 0) (v := .ref (D 2)) rfl rfl rfl rfl rfl (vrf (((hS_c27 0 14 rfl)).trans (pf2))) ?_
          refine Ew_of (pc' := 44) (fun _ => x_iload_n rfl lc27_1) ?_
          refine Ew_of (pc' := 46) (fun _ => x_bipush (z := 13) rfl (by decide)) ?_
          refine w_isub rfl ?_
          refine v_lI H (o := 2) rfl rfl rfl rfl (n := n2) (en2) (show 0 ≤ (a1 - 13) ∧ (a1 - 13) < n2 by have qh0 := HIDe r2; omega) (fun v12 ev12 qv12 => ?_)
          replace qv12 := HIDm qv12
          have ev12 : (A 2) ((a1 - 13)) = v12 := (congrFun (funext (hA_c27 2 rfl)) ((a1 - 13))).symm.trans ev12
          exact w_ireturn rfl (k (v12) _ _ _ H O (SF_trans (SF_refl) hS_c27 (any_sub rfl)) (SA_trans (SA_refl) hA_c27 (any_subA rfl)) (show inr (v12) by have qh0 := HIDe qv12; omega))
    refine w_icmplt (t := 27) rfl rfl (show inr (a1) by omega) (show inr (1) by omega) (fun b13 => ?_) (fun b13 => ?_)
    · exact hc27  _ _ _ _  (rfl) (rfl) H O (SF_refl) (SA_refl)     (show ((a1) < (1)) ∨ ((a1) ≥ (1) ∧ (a1) > (12)) by omega)
    · refine Ew_of (pc' := 15) (fun _ => x_iload_n rfl rfl) ?_
      refine Ew_of (pc' := 17) (fun _ => x_bipush (z := 12) rfl (by decide)) ?_
      refine w_icmpgt (t := 27) rfl rfl (show inr (a1) by omega) (show inr (12) by omega) (fun b14 => ?_) (fun b14 => ?_)
      · exact hc27  _ _ _ _  (rfl) (rfl) H O (SF_refl) (SA_refl)     (show ((a1) < (1)) ∨ ((a1) ≥ (1) ∧ (a1) > (12)) by omega)
      · refine Ew_of (pc' := 21) (fun _ => x_aload_n rfl rfl) ?_
        refine v_g H (o := 0) (v := .ref (D 1)) rfl rfl rfl rfl rfl (vrf (pf1)) ?_
        refine Ew_of (pc' := 25) (fun _ => x_iload_n rfl rfl) ?_
        refine v_lI H (o := 1) rfl rfl rfl rfl (n := n1) (en1) (show 0 ≤ a1 ∧ a1 < n1 by have qh0 := HIDe r1; omega) (fun v15 ev15 qv15 => ?_)
        replace qv15 := HIDm qv15
        have ev15 : (A 1) (a1) = v15 := (congrFun (rfl : A 1 = A 1) (a1)).symm.trans ev15
        exact w_ireturn rfl (k (v15) _ _ _ H O (SF_refl) (SA_refl) (show inr (v15) by have qh0 := HIDe qv15; omega))
  · refine Ew_of (pc' := 5) (fun _ => x_aload_n rfl rfl) ?_
    have r16 : HID ((-2147483648 : Int) ≤ F 0 18 ∧ F 0 18 ≤ 2147483647) := krg_e (show (-2147483648 : Int) ≤ F 0 18 ∧ F 0 18 ≤ 2147483647 from H.krg 0 18 (by decide)) (show F 0 18 = F 0 18 from rfl)
    refine v_g H (o := 0) (v := I (F 0 18)) rfl rfl rfl rfl rfl (congrArg (fun z : Int => I z) (rfl : F 0 18 = F 0 18)) ?_
    exact w_ireturn rfl (k (F 0 18) _ _ _ H O (SF_refl) (SA_refl) (show inr (F 0 18) by have qh0 := HIDe r16; omega))
abbrev V30 : vV := [(0, 0, [(4, 0), (4, 0), (4, 0), (4, 0), (4, 0), (4, 0), (4, 0), (4, 0), (4, 0), (4, 0), (4, 0), (4, 0), (4, 0), (4, 0), (4, 0), (4, 0), (4, 0), (0, 0), (0, 0)]), (0, 7, [(4, 0), (0, 0), (1, 0), (0, 0), (0, 0)]), (0, 4, [(4, 0), (4, 0), (0, 0), (4, 0), (4, 0)]), (0, 7, [(4, 0), (0, 0), (1, 0), (0, 0), (0, 0)])]
/-- PackHouse.bytesAhead: this, this.past, this.dictionary, this.dictionary.content -/
theorem C30 {σE : rS} {D N : Nat → Nat} {F : hF} {A : hA} {d c s : Nat} {Q : wQ} (H : HW V30 σE D N F A) {a1 : Int} (pf1 : F 0 2 = (D 1 : Int)) (pf2 : F 0 3 = (D 2 : Int)) (pf3 : F 2 0 = (D 3 : Int)) (u1_1 : Int) (eu1_1 : F 1 1 = u1_1) (u3_1 : Int) (eu3_1 : F 3 1 = u3_1) (h0 : inr (a1)) (k : ∀ (z : Int) (σ : rS) (F' : hF) (A' : hA), HW V30 σ D N F' A' → OUT (V30).length D N σE c s D N σ c s → SF [] F F' → SA [] A A' → (inr (z)) → (0 ≤ (a1) ∧ (a1) ≤ 1 ∧ (z) = (u1_1) ∨ (a1) = 4 ∧ (z) = (u3_1) ∨ ((a1) < 0 ∨ (a1) = 2 ∨ (a1) = 3 ∨ 5 ≤ (a1)) ∧ (z) = 0) → Q (some (I z)) σ c s) : Ew 30 (d + 0) 0 (rargs 0 [.ref (D 0), I a1]) [] σE c s Q := by
  have O := OUT_refl (n := (V30).length) (D := D) (N := N) (σ := σE) (c := c) (s := s)
  have HE := H
  have r1 : HID ((-2147483648 : Int) ≤ u1_1 ∧ u1_1 ≤ 2147483647) := krg_e (show (-2147483648 : Int) ≤ F 1 1 ∧ F 1 1 ≤ 2147483647 from H.krg 1 1 (by decide)) (show F 1 1 = u1_1 from (eu1_1))
  have r2 : HID ((-2147483648 : Int) ≤ u3_1 ∧ u3_1 ≤ 2147483647) := krg_e (show (-2147483648 : Int) ≤ F 3 1 ∧ F 3 1 ≤ 2147483647 from H.krg 3 1 (by decide)) (show F 3 1 = u3_1 from (eu3_1))
  replace pf1 := HIDm pf1
  replace pf2 := HIDm pf2
  replace pf3 := HIDm pf3
  replace eu1_1 := HIDm eu1_1
  replace eu3_1 := HIDm eu3_1
  refine Ew_of (pc' := 1) (fun _ => x_iload_n rfl rfl) ?_
  refine w_ifeq (t := 9) rfl rfl (show inr (a1) by omega) (fun b3 => ?_) (fun b3 => ?_)
  · refine Ew_of (pc' := 10) (fun _ => x_aload_n rfl rfl) ?_
    refine v_g H (o := 0) (v := .ref (D 1)) rfl rfl rfl rfl rfl (vrf (pf1)) ?_
    refine v_g H (o := 1) (v := I (u1_1)) rfl rfl rfl rfl rfl (congrArg (fun z : Int => I z) ((eu1_1) : F 1 1 = u1_1)) ?_
    exact w_ireturn rfl (k (u1_1) _ _ _ H O (SF_refl) (SA_refl) (show inr (u1_1) by have qh0 := HIDe r1; omega) (show 0 ≤ a1 ∧ a1 ≤ 1 ∧ (u1_1) = (u1_1) ∨ a1 = 4 ∧ (u1_1) = (u3_1) ∨ (a1 < 0 ∨ a1 = 2 ∨ a1 = 3 ∨ 5 ≤ a1) ∧ (u1_1) = 0 by have qh0 := HIDe r1; have qh1 := HIDe r2; omega))
  · refine Ew_of (pc' := 5) (fun _ => x_iload_n rfl rfl) ?_
    refine Ew_of (pc' := 6) (fun _ => x_iconst rfl) ?_
    refine w_icmpne (t := 17) rfl rfl (show inr (a1) by omega) (show inr (1) by omega) (fun b4 => ?_) (fun b4 => ?_)
    · refine Ew_of (pc' := 18) (fun _ => x_iload_n rfl rfl) ?_
      refine Ew_of (pc' := 19) (fun _ => x_iconst rfl) ?_
      refine w_icmpne (t := 35) rfl rfl (show inr (a1) by omega) (show inr (4) by omega) (fun b5 => ?_) (fun b5 => ?_)
      · refine Ew_of (pc' := 36) (fun _ => x_iconst rfl) ?_
        exact w_ireturn rfl (k (0) _ _ _ H O (SF_refl) (SA_refl) (show inr (0) by omega) (show 0 ≤ a1 ∧ a1 ≤ 1 ∧ (0) = (u1_1) ∨ a1 = 4 ∧ (0) = (u3_1) ∨ (a1 < 0 ∨ a1 = 2 ∨ a1 = 3 ∨ 5 ≤ a1) ∧ (0) = 0 by have qh0 := HIDe r1; have qh1 := HIDe r2; omega))
      · refine Ew_of (pc' := 23) (fun _ => x_aload_n rfl rfl) ?_
        refine v_g H (o := 0) (v := .ref (D 2)) rfl rfl rfl rfl rfl (vrf (pf2)) ?_
        refine v_g H (o := 2) (v := .ref (D 3)) rfl rfl rfl rfl rfl (vrf (pf3)) ?_
        refine v_g H (o := 3) (v := I (u3_1)) rfl rfl rfl rfl rfl (congrArg (fun z : Int => I z) ((eu3_1) : F 3 1 = u3_1)) ?_
        refine Ew_of (pc' := 36) (fun _ => x_goto rfl rfl) ?_
        exact w_ireturn rfl (k (u3_1) _ _ _ H O (SF_refl) (SA_refl) (show inr (u3_1) by have qh0 := HIDe r2; omega) (show 0 ≤ a1 ∧ a1 ≤ 1 ∧ (u3_1) = (u1_1) ∨ a1 = 4 ∧ (u3_1) = (u3_1) ∨ (a1 < 0 ∨ a1 = 2 ∨ a1 = 3 ∨ 5 ≤ a1) ∧ (u3_1) = 0 by have qh0 := HIDe r1; have qh1 := HIDe r2; omega))
    · refine Ew_of (pc' := 10) (fun _ => x_aload_n rfl rfl) ?_
      refine v_g H (o := 0) (v := .ref (D 1)) rfl rfl rfl rfl rfl (vrf (pf1)) ?_
      refine v_g H (o := 1) (v := I (u1_1)) rfl rfl rfl rfl rfl (congrArg (fun z : Int => I z) ((eu1_1) : F 1 1 = u1_1)) ?_
      exact w_ireturn rfl (k (u1_1) _ _ _ H O (SF_refl) (SA_refl) (show inr (u1_1) by have qh0 := HIDe r1; omega) (show 0 ≤ a1 ∧ a1 ≤ 1 ∧ (u1_1) = (u1_1) ∨ a1 = 4 ∧ (u1_1) = (u3_1) ∨ (a1 < 0 ∨ a1 = 2 ∨ a1 = 3 ∨ 5 ≤ a1) ∧ (u1_1) = 0 by have qh0 := HIDe r1; have qh1 := HIDe r2; omega))
abbrev V31 : vV := [(0, 0, [(4, 0), (4, 0), (4, 0), (4, 0), (4, 0), (4, 0), (4, 0), (4, 0), (4, 0), (4, 0), (4, 0), (4, 0), (4, 0), (4, 0), (4, 0), (4, 0), (4, 0), (0, 0), (0, 0)]), (1, 4, []), (0, 7, [(4, 0), (0, 0), (1, 0), (0, 0), (0, 0)]), (1, 0, []), (0, 7, [(4, 0), (0, 0), (1, 0), (0, 0), (0, 0)]), (1, 0, []), (0, 7, [(4, 0), (0, 0), (1, 0), (0, 0), (0, 0)]), (1, 0, []), (0, 7, [(4, 0), (0, 0), (1, 0), (0, 0), (0, 0)]), (1, 0, []), (0, 7, [(4, 0), (0, 0), (1, 0), (0, 0), (0, 0)]), (1, 0, [])]
/-- PackHouse.settle: this, this.rows, this.rows.0, this.rows.0.bytes, this.rows.1, this.rows.1.bytes, this.rows.2, this.rows.2.bytes, this.rows.3, this.rows.3.bytes, this.content, this.content.bytes -/
theorem C31 {σE : rS} {D N : Nat → Nat} {F : hF} {A : hA} {d c s : Nat} {Q : wQ} (H : HW V31 σE D N F A) {a1 a2 : Int} (pf1 : F 0 0 = (D 1 : Int)) (pf2 : A 1 0 = (D 2 : Int)) (pf3 : F 2 0 = (D 3 : Int)) (pf4 : A 1 1 = (D 4 : Int)) (pf5 : F 4 0 = (D 5 : Int)) (pf6 : A 1 2 = (D 6 : Int)) (pf7 : F 6 0 = (D 7 : Int)) (pf8 : A 1 3 = (D 8 : Int)) (pf9 : F 8 0 = (D 9 : Int)) (pf10 : F 0 6 = (D 10 : Int)) (pf11 : F 10 0 = (D 11 : Int)) (n1 : Int) (en1 : (N 1 : Int) = n1) (n3 : Int) (en3 : (N 3 : Int) = n3) (n5 : Int) (en5 : (N 5 : Int) = n5) (n7 : Int) (en7 : (N 7 : Int) = n7) (n9 : Int) (en9 : (N 9 : Int) = n9) (n11 : Int) (en11 : (N 11 : Int) = n11) (u2_1 : Int) (eu2_1 : F 2 1 = u2_1) (u4_1 : Int) (eu4_1 : F 4 1 = u4_1) (u6_1 : Int) (eu6_1 : F 6 1 = u6_1) (u8_1 : Int) (eu8_1 : F 8 1 = u8_1) (u10_1 : Int) (eu10_1 : F 10 1 = u10_1) (h0 : inr (a1)) (h1 : inr (a2)) (h2 : (n1) = 4) (h3 : 0 ≤ (u2_1) ∧ (u2_1) ≤ (n3) ∧ (n3) ≤ 65536) (h4 : 0 ≤ (u4_1) ∧ (u4_1) ≤ (n5) ∧ (n5) ≤ 65536) (h5 : 0 ≤ (u6_1) ∧ (u6_1) ≤ (n7) ∧ (n7) ≤ 65536) (h6 : 0 ≤ (u8_1) ∧ (u8_1) ≤ (n9) ∧ (n9) ≤ 65536) (h7 : 0 ≤ (u10_1) ∧ (u10_1) ≤ (n11) ∧ (n11) ≤ 65536) (h8 : 0 ≤ (a1) ∧ (a1) ≤ 3) (k : ∀ (z : Int) (σ : rS) (D' N' : Nat → Nat) (F' : hF) (A' : hA) (c' s' : Nat), HW V31 σ D' N' F' A' → OUT (V31).length D N σE c s D' N' σ c' s' → SD [3, 5, 7, 9] D D' → SD [3, 5, 7, 9] N N' → SF [(0, 18), (2, 0), (2, 1), (2, 2), (2, 3), (2, 4), (4, 0), (4, 1), (4, 2), (4, 3), (4, 4), (6, 0), (6, 1), (6, 2), (6, 3), (6, 4), (8, 0), (8, 1), (8, 2), (8, 3), (8, 4)] F F' → SA [3, 5, 7, 9] A A' → F' 2 0 = (D' 3 : Int) → F' 4 0 = (D' 5 : Int) → F' 6 0 = (D' 7 : Int) → F' 8 0 = (D' 9 : Int) → ∀ m3 : Int, (N' 3 : Int) = m3 → ∀ m5 : Int, (N' 5 : Int) = m5 → ∀ m7 : Int, (N' 7 : Int) = m7 → ∀ m9 : Int, (N' 9 : Int) = m9 → ∀ y2_1 : Int, F' 2 1 = y2_1 → ∀ y4_1 : Int, F' 4 1 = y4_1 → ∀ y6_1 : Int, F' 6 1 = y6_1 → ∀ y8_1 : Int, F' 8 1 = y8_1 → (inr (z)) → (0 ≤ (y2_1) ∧ (y2_1) ≤ (m3) ∧ (m3) ≤ 65536) → (0 ≤ (y4_1) ∧ (y4_1) ≤ (m5) ∧ (m5) ≤ 65536) → (0 ≤ (y6_1) ∧ (y6_1) ≤ (m7) ∧ (m7) ≤ 65536) → (0 ≤ (y8_1) ∧ (y8_1) ≤ (m9) ∧ (m9) ≤ 65536) → (0 ≤ (u10_1) ∧ (u10_1) ≤ (n11) ∧ (n11) ≤ 65536) → Q (some (I z)) σ c' s') : Ew 31 (d + 4) 0 (rargs 0 [.ref (D 0), I a1, I a2]) [] σE c s Q := by
  have O := OUT_refl (n := (V31).length) (D := D) (N := N) (σ := σE) (c := c) (s := s)
  have HE := H
  have r1 : HID ((-2147483648 : Int) ≤ u2_1 ∧ u2_1 ≤ 2147483647) := krg_e (show (-2147483648 : Int) ≤ F 2 1 ∧ F 2 1 ≤ 2147483647 from H.krg 2 1 (by decide)) (show F 2 1 = u2_1 from (eu2_1))
  have r2 : HID ((-2147483648 : Int) ≤ u4_1 ∧ u4_1 ≤ 2147483647) := krg_e (show (-2147483648 : Int) ≤ F 4 1 ∧ F 4 1 ≤ 2147483647 from H.krg 4 1 (by decide)) (show F 4 1 = u4_1 from (eu4_1))
  have r3 : HID ((-2147483648 : Int) ≤ u6_1 ∧ u6_1 ≤ 2147483647) := krg_e (show (-2147483648 : Int) ≤ F 6 1 ∧ F 6 1 ≤ 2147483647 from H.krg 6 1 (by decide)) (show F 6 1 = u6_1 from (eu6_1))
  have r4 : HID ((-2147483648 : Int) ≤ u8_1 ∧ u8_1 ≤ 2147483647) := krg_e (show (-2147483648 : Int) ≤ F 8 1 ∧ F 8 1 ≤ 2147483647 from H.krg 8 1 (by decide)) (show F 8 1 = u8_1 from (eu8_1))
  have r5 : HID ((-2147483648 : Int) ≤ u10_1 ∧ u10_1 ≤ 2147483647) := krg_e (show (-2147483648 : Int) ≤ F 10 1 ∧ F 10 1 ≤ 2147483647 from H.krg 10 1 (by decide)) (show F 10 1 = u10_1 from (eu10_1))
  replace pf1 := HIDm pf1
  replace pf2 := HIDm pf2
  replace pf3 := HIDm pf3
  replace pf4 := HIDm pf4
  replace pf5 := HIDm pf5
  replace pf6 := HIDm pf6
  replace pf7 := HIDm pf7
  replace pf8 := HIDm pf8
  replace pf9 := HIDm pf9
  replace pf10 := HIDm pf10
  replace pf11 := HIDm pf11
  replace en1 := HIDm en1
  replace en3 := HIDm en3
  replace en5 := HIDm en5
  replace en7 := HIDm en7
  replace en9 := HIDm en9
  replace en11 := HIDm en11
  replace eu2_1 := HIDm eu2_1
  replace eu4_1 := HIDm eu4_1
  replace eu6_1 := HIDm eu6_1
  replace eu8_1 := HIDm eu8_1
  replace eu10_1 := HIDm eu10_1
  have r6 : HID ((0 : Int) ≤ n1 ∧ n1 ≤ 1000000) := nrng (H.nle 1 (by decide)) (show (N 1 : Int) = n1 from en1)
  have r7 : HID ((0 : Int) ≤ n3 ∧ n3 ≤ 1000000) := nrng (H.nle 3 (by decide)) (show (N 3 : Int) = n3 from en3)
  have r8 : HID ((0 : Int) ≤ n5 ∧ n5 ≤ 1000000) := nrng (H.nle 5 (by decide)) (show (N 5 : Int) = n5 from en5)
  have r9 : HID ((0 : Int) ≤ n7 ∧ n7 ≤ 1000000) := nrng (H.nle 7 (by decide)) (show (N 7 : Int) = n7 from en7)
  have r10 : HID ((0 : Int) ≤ n9 ∧ n9 ≤ 1000000) := nrng (H.nle 9 (by decide)) (show (N 9 : Int) = n9 from en9)
  have r11 : HID ((0 : Int) ≤ n11 ∧ n11 ≤ 1000000) := nrng (H.nle 11 (by decide)) (show (N 11 : Int) = n11 from en11)
  refine Ew_of (pc' := 1) (fun _ => x_aload_n rfl rfl) ?_
  refine Ew_of (pc' := 2) (fun _ => x_aload_n rfl rfl) ?_
  have r12 : HID ((-2147483648 : Int) ≤ F 0 17 ∧ F 0 17 ≤ 2147483647) := krg_e (show (-2147483648 : Int) ≤ F 0 17 ∧ F 0 17 ≤ 2147483647 from H.krg 0 17 (by decide)) (show F 0 17 = F 0 17 from rfl)
  refine v_g H (o := 0) (v := I (F 0 17)) rfl rfl rfl rfl rfl (congrArg (fun z : Int => I z) (rfl : F 0 17 = F 0 17)) ?_
  refine v_p H (o := 0) (z := F 0 17) (v := I (F 0 17)) rfl rfl rfl rfl rfl rfl rfl rfl (show (-2147483648 : Int) ≤ F 0 17 ∧ F 0 17 ≤ 2147483647 by have qh0 := HIDe r12; omega) (fun σ H O' => ?_)
  have O := OUT_trans O O'
  refine Ew_of (pc' := 9) (fun _ => x_iload_n rfl rfl) ?_
  refine w_iflt (t := 25) rfl rfl (show inr (a2) by omega) (fun b13 => ?_) (fun b13 => ?_)
  · refine Ew_of (pc' := 26) (fun _ => x_iload_n rfl rfl) ?_
    exact w_ireturn rfl (k (a2) _ _ _ _ _ _ _ H O (SD_refl) (SD_refl) (SF_upd (SF_refl) rfl) (SA_refl) (pf3) (pf5) (pf7) (pf9) (n3) (en3) (n5) (en5) (n7) (en7) (n9) (en9) (u2_1) ((eu2_1)) (u4_1) ((eu4_1)) (u6_1) ((eu6_1)) (u8_1) ((eu8_1)) (show inr (a2) by omega) (show 0 ≤ (u2_1) ∧ (u2_1) ≤ (n3) ∧ (n3) ≤ 65536 by have qh0 := HIDe r1; have qh1 := HIDe r7; omega) (show 0 ≤ (u4_1) ∧ (u4_1) ≤ (n5) ∧ (n5) ≤ 65536 by have qh0 := HIDe r2; have qh1 := HIDe r8; omega) (show 0 ≤ (u6_1) ∧ (u6_1) ≤ (n7) ∧ (n7) ≤ 65536 by have qh0 := HIDe r3; have qh1 := HIDe r9; omega) (show 0 ≤ (u8_1) ∧ (u8_1) ≤ (n9) ∧ (n9) ≤ 65536 by have qh0 := HIDe r10; have qh1 := HIDe r4; omega) (show 0 ≤ (u10_1) ∧ (u10_1) ≤ (n11) ∧ (n11) ≤ 65536 by have qh0 := HIDe r11; have qh1 := HIDe r5; omega))
  · refine Ew_of (pc' := 13) (fun _ => x_aload_n rfl rfl) ?_
    refine v_g H (o := 0) (v := .ref (D 1)) rfl rfl rfl rfl rfl (vrf (pf1)) ?_
    refine Ew_of (pc' := 17) (fun _ => x_iload_n rfl rfl) ?_
    rcases (show a1 = 0 ∨ a1 = 1 ∨ a1 = 2 ∨ a1 = 3 by omega) with b14 | b14 | b14 | b14
    · refine v_lR H (o := 1) rfl rfl rfl rfl rfl (n := n1) (en1) (show 0 ≤ a1 ∧ a1 < n1 by have qh0 := HIDe r6; omega) (z := ((D 2 : Nat) : Int)) (v := .ref (D 2)) ((congrArg (A 1) b14).trans (pf2)) (vrf rfl) ?_
      refine Ew_of (pc' := 19) (fun _ => x_aload_n rfl rfl) ?_
      refine v_g H (o := 0) (v := .ref (D 10)) rfl rfl rfl rfl rfl (vrf (pf10)) ?_
      have r15 : HID ((0 : Int) ≤ F 2 2 ∧ F 2 2 ≤ 1) := krg_e (show (0 : Int) ≤ (updF F 0 18 (F 0 17)) 2 2 ∧ (updF F 0 18 (F 0 17)) 2 2 ≤ 1 from H.krg 2 2 (by decide)) (show (updF F 0 18 (F 0 17)) 2 2 = F 2 2 from rfl)
      refine v_inv H (o := 2) rfl rfl rfl rfl rfl rfl (by rfl) (C158_Row (D := pul [2, 10, 3, 11] D) (N := pul [2, 10, 3, 11] N) (HW_sub H (VS_of (show vsub V31 V158_Row [2, 10, 3, 11] = true by decide +kernel))) (pf3) (pf11) (n3) (en3) (n11) (en11) (u2_1) ((eu2_1)) (F 2 2) (rfl) (u10_1) ((eu10_1)) (A 3) (rfl) (A 11) (rfl) (show 0 ≤ (u2_1) ∧ (u2_1) ≤ (n3) ∧ (n3) ≤ 65536 by have qh0 := HIDe r1; have qh1 := HIDe r7; omega) (show 0 ≤ (u10_1) ∧ (u10_1) ≤ (n11) ∧ (n11) ≤ 65536 by have qh0 := HIDe r11; have qh1 := HIDe r5; omega) (fun σ16 D16' N16' F16' A16' c16 s16 H' O' hD16 hN16 hS16 hA16 pm16_2 m16_2 em16_2 y16_0_1 ey16_0_1 y16_0_2 ey16_0_2 w16_2 ew16_2 pz16_0 pz16_1 pz16_2 pz16_3 => ⟨rfl, ?_⟩))
      replace pm16_2 := HIDm pm16_2
      replace em16_2 := HIDm em16_2
      replace ey16_0_1 := HIDm ey16_0_1
      replace ey16_0_2 := HIDm ey16_0_2
      refine v_backM (c := c) (s := s) H (show vsub V31 V158_Row [2, 10, 3, 11] = true by decide +kernel) H' O' hD16 (show vmov V31 [2, 10, 3, 11] [2] = true by decide +kernel) (fun D16 N16 F16 A16 H O' eD16 eN16 eF16 eA16 => ?_)
      have O := OUT_trans O O'
      -- Row.become
      have pe16_1_0 : HID (A16 1 0 = (D16 2 : Int)) := (congrFun ((show A16 1 = A 1 from (eA16 1))) 0).trans ((pf2).trans (congrArg (fun q : Nat => (q : Int)) ((show D16 2 = D 2 from (eD16 2).trans (hD16 0 rfl))).symm))
      have pe16_1_1 : HID (A16 1 1 = (D16 4 : Int)) := (congrFun ((show A16 1 = A 1 from (eA16 1))) 1).trans ((pf4).trans (congrArg (fun q : Nat => (q : Int)) ((show D16 4 = D 4 from (eD16 4))).symm))
      have pe16_1_2 : HID (A16 1 2 = (D16 6 : Int)) := (congrFun ((show A16 1 = A 1 from (eA16 1))) 2).trans ((pf6).trans (congrArg (fun q : Nat => (q : Int)) ((show D16 6 = D 6 from (eD16 6))).symm))
      have pe16_1_3 : HID (A16 1 3 = (D16 8 : Int)) := (congrFun ((show A16 1 = A 1 from (eA16 1))) 3).trans ((pf8).trans (congrArg (fun q : Nat => (q : Int)) ((show D16 8 = D 8 from (eD16 8))).symm))
      have pf16_0_0 : HID (F16 0 0 = (D16 1 : Int)) := ((show F16 0 0 = (updF F 0 18 (F 0 17)) 0 0 from (eF16 0 0))).trans ((pf1).trans (congrArg (fun q : Nat => (q : Int)) ((show D16 1 = D 1 from (eD16 1))).symm))
      have pf16_0_6 : HID (F16 0 6 = (D16 10 : Int)) := ((show F16 0 6 = (updF F 0 18 (F 0 17)) 0 6 from (eF16 0 6))).trans ((pf10).trans (congrArg (fun q : Nat => (q : Int)) ((show D16 10 = D 10 from (eD16 10).trans (hD16 1 rfl))).symm))
      have pf16_10_0 : HID (F16 10 0 = (D16 11 : Int)) := ((show F16 10 0 = (updF F 0 18 (F 0 17)) 10 0 from (eF16 10 0).trans (hS16 1 0 rfl))).trans ((pf11).trans (congrArg (fun q : Nat => (q : Int)) ((show D16 11 = D 11 from (eD16 11).trans (hD16 3 rfl))).symm))
      have pf16_2_0 : HID (F16 2 0 = (D16 3 : Int)) := (eF16 2 0).trans (pm16_2.trans (congrArg (fun q : Nat => (q : Int)) (eD16 3).symm))
      have pf16_4_0 : HID (F16 4 0 = (D16 5 : Int)) := ((show F16 4 0 = (updF F 0 18 (F 0 17)) 4 0 from (eF16 4 0))).trans ((pf5).trans (congrArg (fun q : Nat => (q : Int)) ((show D16 5 = D 5 from (eD16 5))).symm))
      have pf16_6_0 : HID (F16 6 0 = (D16 7 : Int)) := ((show F16 6 0 = (updF F 0 18 (F 0 17)) 6 0 from (eF16 6 0))).trans ((pf7).trans (congrArg (fun q : Nat => (q : Int)) ((show D16 7 = D 7 from (eD16 7))).symm))
      have pf16_8_0 : HID (F16 8 0 = (D16 9 : Int)) := ((show F16 8 0 = (updF F 0 18 (F 0 17)) 8 0 from (eF16 8 0))).trans ((pf9).trans (congrArg (fun q : Nat => (q : Int)) ((show D16 9 = D 9 from (eD16 9))).symm))
      have r17 : HID ((0 : Int) ≤ m16_2 ∧ m16_2 ≤ 1000000) := nrng (H.nle 3 (by decide)) (show (N16 3 : Int) = m16_2 from (congrArg (fun q : Nat => (q : Int)) (eN16 3)).trans em16_2)
      have r18 : HID ((-2147483648 : Int) ≤ y16_0_1 ∧ y16_0_1 ≤ 2147483647) := krg_e (show (-2147483648 : Int) ≤ F16 2 1 ∧ F16 2 1 ≤ 2147483647 from H.krg 2 1 (by decide)) (show F16 2 1 = y16_0_1 from ((eF16 2 1).trans ey16_0_1))
      have r19 : HID ((0 : Int) ≤ y16_0_2 ∧ y16_0_2 ≤ 1) := krg_e (show (0 : Int) ≤ F16 2 2 ∧ F16 2 2 ≤ 1 from H.krg 2 2 (by decide)) (show F16 2 2 = y16_0_2 from ((eF16 2 2).trans ey16_0_2))
      refine Ew_of (pc' := 26) (fun _ => x_iload_n rfl rfl) ?_
      exact w_ireturn rfl (k (a2) _ _ _ _ _ _ _ H O (SD_trans (SD_refl) (SD_glu (ι := [2, 10, 3, 11]) hD16 eD16 (by decide +kernel)) (any_subA (l' := [3]) rfl)) (SD_trans (SD_refl) (SD_glu (ι := [2, 10, 3, 11]) hN16 eN16 (by decide +kernel)) (any_subA (l' := [3]) rfl)) (SF_trans (SF_upd (SF_refl) rfl) (SF_glu (ι := [2, 10, 3, 11]) hS16 eF16 (by decide +kernel)) (any_sub (l' := [(2, 0), (2, 1), (2, 2), (2, 3), (2, 4)]) rfl)) (SA_trans (SA_refl) (SA_glu (ι := [2, 10, 3, 11]) hA16 eA16 (by decide +kernel)) (any_subA (l' := [3]) rfl)) (pf16_2_0) (pf16_4_0) (pf16_6_0) (pf16_8_0) (m16_2) ((congrArg (fun q : Nat => (q : Int)) (eN16 3)).trans em16_2) (n5) ((congrArg (fun q : Nat => (q : Int)) (show N16 5 = N 5 from (eN16 5))).trans (en5)) (n7) ((congrArg (fun q : Nat => (q : Int)) (show N16 7 = N 7 from (eN16 7))).trans (en7)) (n9) ((congrArg (fun q : Nat => (q : Int)) (show N16 9 = N 9 from (eN16 9))).trans (en9)) (y16_0_1) (((eF16 2 1).trans ey16_0_1)) (u4_1) ((((show F16 4 1 = (updF F 0 18 (F 0 17)) 4 1 from (eF16 4 1))).trans (eu4_1))) (u6_1) ((((show F16 6 1 = (updF F 0 18 (F 0 17)) 6 1 from (eF16 6 1))).trans (eu6_1))) (u8_1) ((((show F16 8 1 = (updF F 0 18 (F 0 17)) 8 1 from (eF16 8 1))).trans (eu8_1))) (show inr (a2) by omega) (show 0 ≤ (y16_0_1) ∧ (y16_0_1) ≤ (m16_2) ∧ (m16_2) ≤ 65536 by have qh0 := HIDe r17; have qh1 := HIDe r18; omega) (show 0 ≤ (u4_1) ∧ (u4_1) ≤ (n5) ∧ (n5) ≤ 65536 by have qh0 := HIDe r2; have qh1 := HIDe r8; omega) (show 0 ≤ (u6_1) ∧ (u6_1) ≤ (n7) ∧ (n7) ≤ 65536 by have qh0 := HIDe r3; have qh1 := HIDe r9; omega) (show 0 ≤ (u8_1) ∧ (u8_1) ≤ (n9) ∧ (n9) ≤ 65536 by have qh0 := HIDe r10; have qh1 := HIDe r4; omega) (show 0 ≤ (u10_1) ∧ (u10_1) ≤ (n11) ∧ (n11) ≤ 65536 by have qh0 := HIDe r11; have qh1 := HIDe r5; omega))
    · refine v_lR H (o := 1) rfl rfl rfl rfl rfl (n := n1) (en1) (show 0 ≤ a1 ∧ a1 < n1 by have qh0 := HIDe r6; omega) (z := ((D 4 : Nat) : Int)) (v := .ref (D 4)) ((congrArg (A 1) b14).trans (pf4)) (vrf rfl) ?_
      refine Ew_of (pc' := 19) (fun _ => x_aload_n rfl rfl) ?_
      refine v_g H (o := 0) (v := .ref (D 10)) rfl rfl rfl rfl rfl (vrf (pf10)) ?_
      have r20 : HID ((0 : Int) ≤ F 4 2 ∧ F 4 2 ≤ 1) := krg_e (show (0 : Int) ≤ (updF F 0 18 (F 0 17)) 4 2 ∧ (updF F 0 18 (F 0 17)) 4 2 ≤ 1 from H.krg 4 2 (by decide)) (show (updF F 0 18 (F 0 17)) 4 2 = F 4 2 from rfl)
      refine v_inv H (o := 4) rfl rfl rfl rfl rfl rfl (by rfl) (C158_Row (D := pul [4, 10, 5, 11] D) (N := pul [4, 10, 5, 11] N) (HW_sub H (VS_of (show vsub V31 V158_Row [4, 10, 5, 11] = true by decide +kernel))) (pf5) (pf11) (n5) (en5) (n11) (en11) (u4_1) ((eu4_1)) (F 4 2) (rfl) (u10_1) ((eu10_1)) (A 5) (rfl) (A 11) (rfl) (show 0 ≤ (u4_1) ∧ (u4_1) ≤ (n5) ∧ (n5) ≤ 65536 by have qh0 := HIDe r2; have qh1 := HIDe r8; omega) (show 0 ≤ (u10_1) ∧ (u10_1) ≤ (n11) ∧ (n11) ≤ 65536 by have qh0 := HIDe r11; have qh1 := HIDe r5; omega) (fun σ21 D21' N21' F21' A21' c21 s21 H' O' hD21 hN21 hS21 hA21 pm21_2 m21_2 em21_2 y21_0_1 ey21_0_1 y21_0_2 ey21_0_2 w21_2 ew21_2 pz21_0 pz21_1 pz21_2 pz21_3 => ⟨rfl, ?_⟩))
      replace pm21_2 := HIDm pm21_2
      replace em21_2 := HIDm em21_2
      replace ey21_0_1 := HIDm ey21_0_1
      replace ey21_0_2 := HIDm ey21_0_2
      refine v_backM (c := c) (s := s) H (show vsub V31 V158_Row [4, 10, 5, 11] = true by decide +kernel) H' O' hD21 (show vmov V31 [4, 10, 5, 11] [2] = true by decide +kernel) (fun D21 N21 F21 A21 H O' eD21 eN21 eF21 eA21 => ?_)
      have O := OUT_trans O O'
      -- Row.become
      have pe21_1_0 : HID (A21 1 0 = (D21 2 : Int)) := (congrFun ((show A21 1 = A 1 from (eA21 1))) 0).trans ((pf2).trans (congrArg (fun q : Nat => (q : Int)) ((show D21 2 = D 2 from (eD21 2))).symm))
      have pe21_1_1 : HID (A21 1 1 = (D21 4 : Int)) := (congrFun ((show A21 1 = A 1 from (eA21 1))) 1).trans ((pf4).trans (congrArg (fun q : Nat => (q : Int)) ((show D21 4 = D 4 from (eD21 4).trans (hD21 0 rfl))).symm))
      have pe21_1_2 : HID (A21 1 2 = (D21 6 : Int)) := (congrFun ((show A21 1 = A 1 from (eA21 1))) 2).trans ((pf6).trans (congrArg (fun q : Nat => (q : Int)) ((show D21 6 = D 6 from (eD21 6))).symm))
      have pe21_1_3 : HID (A21 1 3 = (D21 8 : Int)) := (congrFun ((show A21 1 = A 1 from (eA21 1))) 3).trans ((pf8).trans (congrArg (fun q : Nat => (q : Int)) ((show D21 8 = D 8 from (eD21 8))).symm))
      have pf21_0_0 : HID (F21 0 0 = (D21 1 : Int)) := ((show F21 0 0 = (updF F 0 18 (F 0 17)) 0 0 from (eF21 0 0))).trans ((pf1).trans (congrArg (fun q : Nat => (q : Int)) ((show D21 1 = D 1 from (eD21 1))).symm))
      have pf21_0_6 : HID (F21 0 6 = (D21 10 : Int)) := ((show F21 0 6 = (updF F 0 18 (F 0 17)) 0 6 from (eF21 0 6))).trans ((pf10).trans (congrArg (fun q : Nat => (q : Int)) ((show D21 10 = D 10 from (eD21 10).trans (hD21 1 rfl))).symm))
      have pf21_10_0 : HID (F21 10 0 = (D21 11 : Int)) := ((show F21 10 0 = (updF F 0 18 (F 0 17)) 10 0 from (eF21 10 0).trans (hS21 1 0 rfl))).trans ((pf11).trans (congrArg (fun q : Nat => (q : Int)) ((show D21 11 = D 11 from (eD21 11).trans (hD21 3 rfl))).symm))
      have pf21_2_0 : HID (F21 2 0 = (D21 3 : Int)) := ((show F21 2 0 = (updF F 0 18 (F 0 17)) 2 0 from (eF21 2 0))).trans ((pf3).trans (congrArg (fun q : Nat => (q : Int)) ((show D21 3 = D 3 from (eD21 3))).symm))
      have pf21_4_0 : HID (F21 4 0 = (D21 5 : Int)) := (eF21 4 0).trans (pm21_2.trans (congrArg (fun q : Nat => (q : Int)) (eD21 5).symm))
      have pf21_6_0 : HID (F21 6 0 = (D21 7 : Int)) := ((show F21 6 0 = (updF F 0 18 (F 0 17)) 6 0 from (eF21 6 0))).trans ((pf7).trans (congrArg (fun q : Nat => (q : Int)) ((show D21 7 = D 7 from (eD21 7))).symm))
      have pf21_8_0 : HID (F21 8 0 = (D21 9 : Int)) := ((show F21 8 0 = (updF F 0 18 (F 0 17)) 8 0 from (eF21 8 0))).trans ((pf9).trans (congrArg (fun q : Nat => (q : Int)) ((show D21 9 = D 9 from (eD21 9))).symm))
      have r22 : HID ((0 : Int) ≤ m21_2 ∧ m21_2 ≤ 1000000) := nrng (H.nle 5 (by decide)) (show (N21 5 : Int) = m21_2 from (congrArg (fun q : Nat => (q : Int)) (eN21 5)).trans em21_2)
      have r23 : HID ((-2147483648 : Int) ≤ y21_0_1 ∧ y21_0_1 ≤ 2147483647) := krg_e (show (-2147483648 : Int) ≤ F21 4 1 ∧ F21 4 1 ≤ 2147483647 from H.krg 4 1 (by decide)) (show F21 4 1 = y21_0_1 from ((eF21 4 1).trans ey21_0_1))
      have r24 : HID ((0 : Int) ≤ y21_0_2 ∧ y21_0_2 ≤ 1) := krg_e (show (0 : Int) ≤ F21 4 2 ∧ F21 4 2 ≤ 1 from H.krg 4 2 (by decide)) (show F21 4 2 = y21_0_2 from ((eF21 4 2).trans ey21_0_2))
      refine Ew_of (pc' := 26) (fun _ => x_iload_n rfl rfl) ?_
      exact w_ireturn rfl (k (a2) _ _ _ _ _ _ _ H O (SD_trans (SD_refl) (SD_glu (ι := [4, 10, 5, 11]) hD21 eD21 (by decide +kernel)) (any_subA (l' := [5]) rfl)) (SD_trans (SD_refl) (SD_glu (ι := [4, 10, 5, 11]) hN21 eN21 (by decide +kernel)) (any_subA (l' := [5]) rfl)) (SF_trans (SF_upd (SF_refl) rfl) (SF_glu (ι := [4, 10, 5, 11]) hS21 eF21 (by decide +kernel)) (any_sub (l' := [(4, 0), (4, 1), (4, 2), (4, 3), (4, 4)]) rfl)) (SA_trans (SA_refl) (SA_glu (ι := [4, 10, 5, 11]) hA21 eA21 (by decide +kernel)) (any_subA (l' := [5]) rfl)) (pf21_2_0) (pf21_4_0) (pf21_6_0) (pf21_8_0) (n3) ((congrArg (fun q : Nat => (q : Int)) (show N21 3 = N 3 from (eN21 3))).trans (en3)) (m21_2) ((congrArg (fun q : Nat => (q : Int)) (eN21 5)).trans em21_2) (n7) ((congrArg (fun q : Nat => (q : Int)) (show N21 7 = N 7 from (eN21 7))).trans (en7)) (n9) ((congrArg (fun q : Nat => (q : Int)) (show N21 9 = N 9 from (eN21 9))).trans (en9)) (u2_1) ((((show F21 2 1 = (updF F 0 18 (F 0 17)) 2 1 from (eF21 2 1))).trans (eu2_1))) (y21_0_1) (((eF21 4 1).trans ey21_0_1)) (u6_1) ((((show F21 6 1 = (updF F 0 18 (F 0 17)) 6 1 from (eF21 6 1))).trans (eu6_1))) (u8_1) ((((show F21 8 1 = (updF F 0 18 (F 0 17)) 8 1 from (eF21 8 1))).trans (eu8_1))) (show inr (a2) by omega) (show 0 ≤ (u2_1) ∧ (u2_1) ≤ (n3) ∧ (n3) ≤ 65536 by have qh0 := HIDe r1; have qh1 := HIDe r7; omega) (show 0 ≤ (y21_0_1) ∧ (y21_0_1) ≤ (m21_2) ∧ (m21_2) ≤ 65536 by have qh0 := HIDe r22; have qh1 := HIDe r23; omega) (show 0 ≤ (u6_1) ∧ (u6_1) ≤ (n7) ∧ (n7) ≤ 65536 by have qh0 := HIDe r3; have qh1 := HIDe r9; omega) (show 0 ≤ (u8_1) ∧ (u8_1) ≤ (n9) ∧ (n9) ≤ 65536 by have qh0 := HIDe r10; have qh1 := HIDe r4; omega) (show 0 ≤ (u10_1) ∧ (u10_1) ≤ (n11) ∧ (n11) ≤ 65536 by have qh0 := HIDe r11; have qh1 := HIDe r5; omega))
    · refine v_lR H (o := 1) rfl rfl rfl rfl rfl (n := n1) (en1) (show 0 ≤ a1 ∧ a1 < n1 by have qh0 := HIDe r6; omega) (z := ((D 6 : Nat) : Int)) (v := .ref (D 6)) ((congrArg (A 1) b14).trans (pf6)) (vrf rfl) ?_
      refine Ew_of (pc' := 19) (fun _ => x_aload_n rfl rfl) ?_
      refine v_g H (o := 0) (v := .ref (D 10)) rfl rfl rfl rfl rfl (vrf (pf10)) ?_
      have r25 : HID ((0 : Int) ≤ F 6 2 ∧ F 6 2 ≤ 1) := krg_e (show (0 : Int) ≤ (updF F 0 18 (F 0 17)) 6 2 ∧ (updF F 0 18 (F 0 17)) 6 2 ≤ 1 from H.krg 6 2 (by decide)) (show (updF F 0 18 (F 0 17)) 6 2 = F 6 2 from rfl)
      refine v_inv H (o := 6) rfl rfl rfl rfl rfl rfl (by rfl) (C158_Row (D := pul [6, 10, 7, 11] D) (N := pul [6, 10, 7, 11] N) (HW_sub H (VS_of (show vsub V31 V158_Row [6, 10, 7, 11] = true by decide +kernel))) (pf7) (pf11) (n7) (en7) (n11) (en11) (u6_1) ((eu6_1)) (F 6 2) (rfl) (u10_1) ((eu10_1)) (A 7) (rfl) (A 11) (rfl) (show 0 ≤ (u6_1) ∧ (u6_1) ≤ (n7) ∧ (n7) ≤ 65536 by have qh0 := HIDe r3; have qh1 := HIDe r9; omega) (show 0 ≤ (u10_1) ∧ (u10_1) ≤ (n11) ∧ (n11) ≤ 65536 by have qh0 := HIDe r11; have qh1 := HIDe r5; omega) (fun σ26 D26' N26' F26' A26' c26 s26 H' O' hD26 hN26 hS26 hA26 pm26_2 m26_2 em26_2 y26_0_1 ey26_0_1 y26_0_2 ey26_0_2 w26_2 ew26_2 pz26_0 pz26_1 pz26_2 pz26_3 => ⟨rfl, ?_⟩))
      replace pm26_2 := HIDm pm26_2
      replace em26_2 := HIDm em26_2
      replace ey26_0_1 := HIDm ey26_0_1
      replace ey26_0_2 := HIDm ey26_0_2
      refine v_backM (c := c) (s := s) H (show vsub V31 V158_Row [6, 10, 7, 11] = true by decide +kernel) H' O' hD26 (show vmov V31 [6, 10, 7, 11] [2] = true by decide +kernel) (fun D26 N26 F26 A26 H O' eD26 eN26 eF26 eA26 => ?_)
      have O := OUT_trans O O'
      -- Row.become
      have pe26_1_0 : HID (A26 1 0 = (D26 2 : Int)) := (congrFun ((show A26 1 = A 1 from (eA26 1))) 0).trans ((pf2).trans (congrArg (fun q : Nat => (q : Int)) ((show D26 2 = D 2 from (eD26 2))).symm))
      have pe26_1_1 : HID (A26 1 1 = (D26 4 : Int)) := (congrFun ((show A26 1 = A 1 from (eA26 1))) 1).trans ((pf4).trans (congrArg (fun q : Nat => (q : Int)) ((show D26 4 = D 4 from (eD26 4))).symm))
      have pe26_1_2 : HID (A26 1 2 = (D26 6 : Int)) := (congrFun ((show A26 1 = A 1 from (eA26 1))) 2).trans ((pf6).trans (congrArg (fun q : Nat => (q : Int)) ((show D26 6 = D 6 from (eD26 6).trans (hD26 0 rfl))).symm))
      have pe26_1_3 : HID (A26 1 3 = (D26 8 : Int)) := (congrFun ((show A26 1 = A 1 from (eA26 1))) 3).trans ((pf8).trans (congrArg (fun q : Nat => (q : Int)) ((show D26 8 = D 8 from (eD26 8))).symm))
      have pf26_0_0 : HID (F26 0 0 = (D26 1 : Int)) := ((show F26 0 0 = (updF F 0 18 (F 0 17)) 0 0 from (eF26 0 0))).trans ((pf1).trans (congrArg (fun q : Nat => (q : Int)) ((show D26 1 = D 1 from (eD26 1))).symm))
      have pf26_0_6 : HID (F26 0 6 = (D26 10 : Int)) := ((show F26 0 6 = (updF F 0 18 (F 0 17)) 0 6 from (eF26 0 6))).trans ((pf10).trans (congrArg (fun q : Nat => (q : Int)) ((show D26 10 = D 10 from (eD26 10).trans (hD26 1 rfl))).symm))
      have pf26_10_0 : HID (F26 10 0 = (D26 11 : Int)) := ((show F26 10 0 = (updF F 0 18 (F 0 17)) 10 0 from (eF26 10 0).trans (hS26 1 0 rfl))).trans ((pf11).trans (congrArg (fun q : Nat => (q : Int)) ((show D26 11 = D 11 from (eD26 11).trans (hD26 3 rfl))).symm))
      have pf26_2_0 : HID (F26 2 0 = (D26 3 : Int)) := ((show F26 2 0 = (updF F 0 18 (F 0 17)) 2 0 from (eF26 2 0))).trans ((pf3).trans (congrArg (fun q : Nat => (q : Int)) ((show D26 3 = D 3 from (eD26 3))).symm))
      have pf26_4_0 : HID (F26 4 0 = (D26 5 : Int)) := ((show F26 4 0 = (updF F 0 18 (F 0 17)) 4 0 from (eF26 4 0))).trans ((pf5).trans (congrArg (fun q : Nat => (q : Int)) ((show D26 5 = D 5 from (eD26 5))).symm))
      have pf26_6_0 : HID (F26 6 0 = (D26 7 : Int)) := (eF26 6 0).trans (pm26_2.trans (congrArg (fun q : Nat => (q : Int)) (eD26 7).symm))
      have pf26_8_0 : HID (F26 8 0 = (D26 9 : Int)) := ((show F26 8 0 = (updF F 0 18 (F 0 17)) 8 0 from (eF26 8 0))).trans ((pf9).trans (congrArg (fun q : Nat => (q : Int)) ((show D26 9 = D 9 from (eD26 9))).symm))
      have r27 : HID ((0 : Int) ≤ m26_2 ∧ m26_2 ≤ 1000000) := nrng (H.nle 7 (by decide)) (show (N26 7 : Int) = m26_2 from (congrArg (fun q : Nat => (q : Int)) (eN26 7)).trans em26_2)
      have r28 : HID ((-2147483648 : Int) ≤ y26_0_1 ∧ y26_0_1 ≤ 2147483647) := krg_e (show (-2147483648 : Int) ≤ F26 6 1 ∧ F26 6 1 ≤ 2147483647 from H.krg 6 1 (by decide)) (show F26 6 1 = y26_0_1 from ((eF26 6 1).trans ey26_0_1))
      have r29 : HID ((0 : Int) ≤ y26_0_2 ∧ y26_0_2 ≤ 1) := krg_e (show (0 : Int) ≤ F26 6 2 ∧ F26 6 2 ≤ 1 from H.krg 6 2 (by decide)) (show F26 6 2 = y26_0_2 from ((eF26 6 2).trans ey26_0_2))
      refine Ew_of (pc' := 26) (fun _ => x_iload_n rfl rfl) ?_
      exact w_ireturn rfl (k (a2) _ _ _ _ _ _ _ H O (SD_trans (SD_refl) (SD_glu (ι := [6, 10, 7, 11]) hD26 eD26 (by decide +kernel)) (any_subA (l' := [7]) rfl)) (SD_trans (SD_refl) (SD_glu (ι := [6, 10, 7, 11]) hN26 eN26 (by decide +kernel)) (any_subA (l' := [7]) rfl)) (SF_trans (SF_upd (SF_refl) rfl) (SF_glu (ι := [6, 10, 7, 11]) hS26 eF26 (by decide +kernel)) (any_sub (l' := [(6, 0), (6, 1), (6, 2), (6, 3), (6, 4)]) rfl)) (SA_trans (SA_refl) (SA_glu (ι := [6, 10, 7, 11]) hA26 eA26 (by decide +kernel)) (any_subA (l' := [7]) rfl)) (pf26_2_0) (pf26_4_0) (pf26_6_0) (pf26_8_0) (n3) ((congrArg (fun q : Nat => (q : Int)) (show N26 3 = N 3 from (eN26 3))).trans (en3)) (n5) ((congrArg (fun q : Nat => (q : Int)) (show N26 5 = N 5 from (eN26 5))).trans (en5)) (m26_2) ((congrArg (fun q : Nat => (q : Int)) (eN26 7)).trans em26_2) (n9) ((congrArg (fun q : Nat => (q : Int)) (show N26 9 = N 9 from (eN26 9))).trans (en9)) (u2_1) ((((show F26 2 1 = (updF F 0 18 (F 0 17)) 2 1 from (eF26 2 1))).trans (eu2_1))) (u4_1) ((((show F26 4 1 = (updF F 0 18 (F 0 17)) 4 1 from (eF26 4 1))).trans (eu4_1))) (y26_0_1) (((eF26 6 1).trans ey26_0_1)) (u8_1) ((((show F26 8 1 = (updF F 0 18 (F 0 17)) 8 1 from (eF26 8 1))).trans (eu8_1))) (show inr (a2) by omega) (show 0 ≤ (u2_1) ∧ (u2_1) ≤ (n3) ∧ (n3) ≤ 65536 by have qh0 := HIDe r1; have qh1 := HIDe r7; omega) (show 0 ≤ (u4_1) ∧ (u4_1) ≤ (n5) ∧ (n5) ≤ 65536 by have qh0 := HIDe r2; have qh1 := HIDe r8; omega) (show 0 ≤ (y26_0_1) ∧ (y26_0_1) ≤ (m26_2) ∧ (m26_2) ≤ 65536 by have qh0 := HIDe r27; have qh1 := HIDe r28; omega) (show 0 ≤ (u8_1) ∧ (u8_1) ≤ (n9) ∧ (n9) ≤ 65536 by have qh0 := HIDe r10; have qh1 := HIDe r4; omega) (show 0 ≤ (u10_1) ∧ (u10_1) ≤ (n11) ∧ (n11) ≤ 65536 by have qh0 := HIDe r11; have qh1 := HIDe r5; omega))
    · refine v_lR H (o := 1) rfl rfl rfl rfl rfl (n := n1) (en1) (show 0 ≤ a1 ∧ a1 < n1 by have qh0 := HIDe r6; omega) (z := ((D 8 : Nat) : Int)) (v := .ref (D 8)) ((congrArg (A 1) b14).trans (pf8)) (vrf rfl) ?_
      refine Ew_of (pc' := 19) (fun _ => x_aload_n rfl rfl) ?_
      refine v_g H (o := 0) (v := .ref (D 10)) rfl rfl rfl rfl rfl (vrf (pf10)) ?_
      have r30 : HID ((0 : Int) ≤ F 8 2 ∧ F 8 2 ≤ 1) := krg_e (show (0 : Int) ≤ (updF F 0 18 (F 0 17)) 8 2 ∧ (updF F 0 18 (F 0 17)) 8 2 ≤ 1 from H.krg 8 2 (by decide)) (show (updF F 0 18 (F 0 17)) 8 2 = F 8 2 from rfl)
      refine v_inv H (o := 8) rfl rfl rfl rfl rfl rfl (by rfl) (C158_Row (D := pul [8, 10, 9, 11] D) (N := pul [8, 10, 9, 11] N) (HW_sub H (VS_of (show vsub V31 V158_Row [8, 10, 9, 11] = true by decide +kernel))) (pf9) (pf11) (n9) (en9) (n11) (en11) (u8_1) ((eu8_1)) (F 8 2) (rfl) (u10_1) ((eu10_1)) (A 9) (rfl) (A 11) (rfl) (show 0 ≤ (u8_1) ∧ (u8_1) ≤ (n9) ∧ (n9) ≤ 65536 by have qh0 := HIDe r10; have qh1 := HIDe r4; omega) (show 0 ≤ (u10_1) ∧ (u10_1) ≤ (n11) ∧ (n11) ≤ 65536 by have qh0 := HIDe r11; have qh1 := HIDe r5; omega) (fun σ31 D31' N31' F31' A31' c31 s31 H' O' hD31 hN31 hS31 hA31 pm31_2 m31_2 em31_2 y31_0_1 ey31_0_1 y31_0_2 ey31_0_2 w31_2 ew31_2 pz31_0 pz31_1 pz31_2 pz31_3 => ⟨rfl, ?_⟩))
      replace pm31_2 := HIDm pm31_2
      replace em31_2 := HIDm em31_2
      replace ey31_0_1 := HIDm ey31_0_1
      replace ey31_0_2 := HIDm ey31_0_2
      refine v_backM (c := c) (s := s) H (show vsub V31 V158_Row [8, 10, 9, 11] = true by decide +kernel) H' O' hD31 (show vmov V31 [8, 10, 9, 11] [2] = true by decide +kernel) (fun D31 N31 F31 A31 H O' eD31 eN31 eF31 eA31 => ?_)
      have O := OUT_trans O O'
      -- Row.become
      have pe31_1_0 : HID (A31 1 0 = (D31 2 : Int)) := (congrFun ((show A31 1 = A 1 from (eA31 1))) 0).trans ((pf2).trans (congrArg (fun q : Nat => (q : Int)) ((show D31 2 = D 2 from (eD31 2))).symm))
      have pe31_1_1 : HID (A31 1 1 = (D31 4 : Int)) := (congrFun ((show A31 1 = A 1 from (eA31 1))) 1).trans ((pf4).trans (congrArg (fun q : Nat => (q : Int)) ((show D31 4 = D 4 from (eD31 4))).symm))
      have pe31_1_2 : HID (A31 1 2 = (D31 6 : Int)) := (congrFun ((show A31 1 = A 1 from (eA31 1))) 2).trans ((pf6).trans (congrArg (fun q : Nat => (q : Int)) ((show D31 6 = D 6 from (eD31 6))).symm))
      have pe31_1_3 : HID (A31 1 3 = (D31 8 : Int)) := (congrFun ((show A31 1 = A 1 from (eA31 1))) 3).trans ((pf8).trans (congrArg (fun q : Nat => (q : Int)) ((show D31 8 = D 8 from (eD31 8).trans (hD31 0 rfl))).symm))
      have pf31_0_0 : HID (F31 0 0 = (D31 1 : Int)) := ((show F31 0 0 = (updF F 0 18 (F 0 17)) 0 0 from (eF31 0 0))).trans ((pf1).trans (congrArg (fun q : Nat => (q : Int)) ((show D31 1 = D 1 from (eD31 1))).symm))
      have pf31_0_6 : HID (F31 0 6 = (D31 10 : Int)) := ((show F31 0 6 = (updF F 0 18 (F 0 17)) 0 6 from (eF31 0 6))).trans ((pf10).trans (congrArg (fun q : Nat => (q : Int)) ((show D31 10 = D 10 from (eD31 10).trans (hD31 1 rfl))).symm))
      have pf31_10_0 : HID (F31 10 0 = (D31 11 : Int)) := ((show F31 10 0 = (updF F 0 18 (F 0 17)) 10 0 from (eF31 10 0).trans (hS31 1 0 rfl))).trans ((pf11).trans (congrArg (fun q : Nat => (q : Int)) ((show D31 11 = D 11 from (eD31 11).trans (hD31 3 rfl))).symm))
      have pf31_2_0 : HID (F31 2 0 = (D31 3 : Int)) := ((show F31 2 0 = (updF F 0 18 (F 0 17)) 2 0 from (eF31 2 0))).trans ((pf3).trans (congrArg (fun q : Nat => (q : Int)) ((show D31 3 = D 3 from (eD31 3))).symm))
      have pf31_4_0 : HID (F31 4 0 = (D31 5 : Int)) := ((show F31 4 0 = (updF F 0 18 (F 0 17)) 4 0 from (eF31 4 0))).trans ((pf5).trans (congrArg (fun q : Nat => (q : Int)) ((show D31 5 = D 5 from (eD31 5))).symm))
      have pf31_6_0 : HID (F31 6 0 = (D31 7 : Int)) := ((show F31 6 0 = (updF F 0 18 (F 0 17)) 6 0 from (eF31 6 0))).trans ((pf7).trans (congrArg (fun q : Nat => (q : Int)) ((show D31 7 = D 7 from (eD31 7))).symm))
      have pf31_8_0 : HID (F31 8 0 = (D31 9 : Int)) := (eF31 8 0).trans (pm31_2.trans (congrArg (fun q : Nat => (q : Int)) (eD31 9).symm))
      have r32 : HID ((0 : Int) ≤ m31_2 ∧ m31_2 ≤ 1000000) := nrng (H.nle 9 (by decide)) (show (N31 9 : Int) = m31_2 from (congrArg (fun q : Nat => (q : Int)) (eN31 9)).trans em31_2)
      have r33 : HID ((-2147483648 : Int) ≤ y31_0_1 ∧ y31_0_1 ≤ 2147483647) := krg_e (show (-2147483648 : Int) ≤ F31 8 1 ∧ F31 8 1 ≤ 2147483647 from H.krg 8 1 (by decide)) (show F31 8 1 = y31_0_1 from ((eF31 8 1).trans ey31_0_1))
      have r34 : HID ((0 : Int) ≤ y31_0_2 ∧ y31_0_2 ≤ 1) := krg_e (show (0 : Int) ≤ F31 8 2 ∧ F31 8 2 ≤ 1 from H.krg 8 2 (by decide)) (show F31 8 2 = y31_0_2 from ((eF31 8 2).trans ey31_0_2))
      refine Ew_of (pc' := 26) (fun _ => x_iload_n rfl rfl) ?_
      exact w_ireturn rfl (k (a2) _ _ _ _ _ _ _ H O (SD_trans (SD_refl) (SD_glu (ι := [8, 10, 9, 11]) hD31 eD31 (by decide +kernel)) (any_subA (l' := [9]) rfl)) (SD_trans (SD_refl) (SD_glu (ι := [8, 10, 9, 11]) hN31 eN31 (by decide +kernel)) (any_subA (l' := [9]) rfl)) (SF_trans (SF_upd (SF_refl) rfl) (SF_glu (ι := [8, 10, 9, 11]) hS31 eF31 (by decide +kernel)) (any_sub (l' := [(8, 0), (8, 1), (8, 2), (8, 3), (8, 4)]) rfl)) (SA_trans (SA_refl) (SA_glu (ι := [8, 10, 9, 11]) hA31 eA31 (by decide +kernel)) (any_subA (l' := [9]) rfl)) (pf31_2_0) (pf31_4_0) (pf31_6_0) (pf31_8_0) (n3) ((congrArg (fun q : Nat => (q : Int)) (show N31 3 = N 3 from (eN31 3))).trans (en3)) (n5) ((congrArg (fun q : Nat => (q : Int)) (show N31 5 = N 5 from (eN31 5))).trans (en5)) (n7) ((congrArg (fun q : Nat => (q : Int)) (show N31 7 = N 7 from (eN31 7))).trans (en7)) (m31_2) ((congrArg (fun q : Nat => (q : Int)) (eN31 9)).trans em31_2) (u2_1) ((((show F31 2 1 = (updF F 0 18 (F 0 17)) 2 1 from (eF31 2 1))).trans (eu2_1))) (u4_1) ((((show F31 4 1 = (updF F 0 18 (F 0 17)) 4 1 from (eF31 4 1))).trans (eu4_1))) (u6_1) ((((show F31 6 1 = (updF F 0 18 (F 0 17)) 6 1 from (eF31 6 1))).trans (eu6_1))) (y31_0_1) (((eF31 8 1).trans ey31_0_1)) (show inr (a2) by omega) (show 0 ≤ (u2_1) ∧ (u2_1) ≤ (n3) ∧ (n3) ≤ 65536 by have qh0 := HIDe r1; have qh1 := HIDe r7; omega) (show 0 ≤ (u4_1) ∧ (u4_1) ≤ (n5) ∧ (n5) ≤ 65536 by have qh0 := HIDe r2; have qh1 := HIDe r8; omega) (show 0 ≤ (u6_1) ∧ (u6_1) ≤ (n7) ∧ (n7) ≤ 65536 by have qh0 := HIDe r3; have qh1 := HIDe r9; omega) (show 0 ≤ (y31_0_1) ∧ (y31_0_1) ≤ (m31_2) ∧ (m31_2) ≤ 65536 by have qh0 := HIDe r32; have qh1 := HIDe r33; omega) (show 0 ≤ (u10_1) ∧ (u10_1) ≤ (n11) ∧ (n11) ≤ 65536 by have qh0 := HIDe r11; have qh1 := HIDe r5; omega))
