abbrev V14 : vV := [(0, 0, [(4, 0), (4, 0), (4, 0), (4, 0), (4, 0), (4, 0), (4, 0), (4, 0), (4, 0), (4, 0), (4, 0), (4, 0), (4, 0), (4, 0), (4, 0), (4, 0), (4, 0), (0, 0), (0, 0)]), (1, 4, []), (0, 7, [(4, 0), (0, 0), (1, 0), (0, 0), (0, 0)]), (1, 0, []), (0, 7, [(4, 0), (0, 0), (1, 0), (0, 0), (0, 0)]), (1, 0, []), (0, 7, [(4, 0), (0, 0), (1, 0), (0, 0), (0, 0)]), (1, 0, []), (0, 7, [(4, 0), (0, 0), (1, 0), (0, 0), (0, 0)]), (1, 0, []), (0, 7, [(4, 0), (0, 0), (1, 0), (0, 0), (0, 0)]), (1, 0, [])]
theorem len_V14_oz_R4cls : (V14).length = 12 := by decide +kernel
theorem oz_R4cls_1 : vsub V14 V24 [] = true := by decide +kernel
theorem oz_R4cls_2 : vsub V14 V158_Row [10, 2, 11, 3] = true := by decide +kernel
theorem oz_R4cls_3 : vmov V14 [10, 2, 11, 3] [2] = true := by decide +kernel
theorem oz_R4cls_4 : vsub V14 V158_Row [10, 4, 11, 5] = true := by decide +kernel
theorem oz_R4cls_5 : vmov V14 [10, 4, 11, 5] [2] = true := by decide +kernel
theorem oz_R4cls_6 : vsub V14 V158_Row [10, 6, 11, 7] = true := by decide +kernel
theorem oz_R4cls_7 : vmov V14 [10, 6, 11, 7] [2] = true := by decide +kernel
theorem oz_R4cls_8 : vsub V14 V158_Row [10, 8, 11, 9] = true := by decide +kernel
theorem oz_R4cls_9 : vmov V14 [10, 8, 11, 9] [2] = true := by decide +kernel
def oz_R4clsl_0 : List (Nat × Nat) := [(10, 0), (10, 1), (10, 2), (10, 3), (10, 4)]
theorem oz_R4cls_10 : (oz_R4clsl_0).all (fun p => !tbz 66215598113548212554245672891256115552683840193056235868358289842488811499199857050711824695033856 (Nat.add (Nat.mul 32 p.1) p.2)) = true := by decide +kernel
def oz_R4clsl_1 : List Nat := [11]
theorem oz_R4cls_11 : (oz_R4clsl_1).all (fun p => !tbz 2048 p) = true := by decide +kernel
def oz_R4clsl_2 : List Nat := []
theorem oz_R4cls_12 : okc oz_R4clsl_2 0 = true := by decide +kernel
def oz_R4clsl_3 : List Nat := [10, 2, 11, 3]
theorem oz_R4cls_13 : okc oz_R4clsl_3 405537802 = true := by decide +kernel
def oz_R4clsl_4 : List Nat := [10, 4, 11, 5]
theorem oz_R4cls_14 : okc oz_R4clsl_4 673974282 = true := by decide +kernel
def oz_R4clsl_5 : List Nat := [10, 6, 11, 7]
theorem oz_R4cls_15 : okc oz_R4clsl_5 942410762 = true := by decide +kernel
def oz_R4clsl_6 : List Nat := [10, 8, 11, 9]
theorem oz_R4cls_16 : okc oz_R4clsl_6 1210847242 = true := by decide +kernel
/-- PackHouse.history: this, this.rows, this.rows.0, this.rows.0.bytes, this.rows.1, this.rows.1.bytes, this.rows.2, this.rows.2.bytes, this.rows.3, this.rows.3.bytes, this.past, this.past.bytes -/
theorem C14 {σE : rS} {D N : Nat → Nat} {F : hF} {A : hA} {d c s : Nat} {Q : wQ} (H : HW V14 σE D N F A) {a1 : Int} (pf1 : HID (F 0 0 = (D 1 : Int))) (pf2 : HID (A 1 0 = (D 2 : Int))) (pf3 : HID (F 2 0 = (D 3 : Int))) (pf4 : HID (A 1 1 = (D 4 : Int))) (pf5 : HID (F 4 0 = (D 5 : Int))) (pf6 : HID (A 1 2 = (D 6 : Int))) (pf7 : HID (F 6 0 = (D 7 : Int))) (pf8 : HID (A 1 3 = (D 8 : Int))) (pf9 : HID (F 8 0 = (D 9 : Int))) (pf10 : HID (F 0 2 = (D 10 : Int))) (pf11 : HID (F 10 0 = (D 11 : Int))) (n1 : Int) (en1 : HID ((N 1 : Int) = n1)) (n3 : Int) (en3 : HID ((N 3 : Int) = n3)) (n5 : Int) (en5 : HID ((N 5 : Int) = n5)) (n7 : Int) (en7 : HID ((N 7 : Int) = n7)) (n9 : Int) (en9 : HID ((N 9 : Int) = n9)) (n11 : Int) (en11 : HID ((N 11 : Int) = n11)) (u2_1 : Int) (eu2_1 : HID (F 2 1 = u2_1)) (u4_1 : Int) (eu4_1 : HID (F 4 1 = u4_1)) (u6_1 : Int) (eu6_1 : HID (F 6 1 = u6_1)) (u8_1 : Int) (eu8_1 : HID (F 8 1 = u8_1)) (u10_1 : Int) (eu10_1 : HID (F 10 1 = u10_1)) (h0 : inr (a1)) (h1 : (n1) = 4) (h2 : 0 ≤ (u2_1) ∧ (u2_1) ≤ (n3) ∧ (n3) ≤ 65536) (h3 : 0 ≤ (u4_1) ∧ (u4_1) ≤ (n5) ∧ (n5) ≤ 65536) (h4 : 0 ≤ (u6_1) ∧ (u6_1) ≤ (n7) ∧ (n7) ≤ 65536) (h5 : 0 ≤ (u8_1) ∧ (u8_1) ≤ (n9) ∧ (n9) ≤ 65536) (h6 : 0 ≤ (u10_1) ∧ (u10_1) ≤ (n11) ∧ (n11) ≤ 65536) (k : ∀ (z : Int) (σ : rS) (Dₚ Nₚ : Nat → Nat) (Fₚ : hF) (Aₚ : hA) (cₚ sₚ : Nat), HW V14 σ Dₚ Nₚ Fₚ Aₚ → OUT (V14).length D N σE c s Dₚ Nₚ σ cₚ sₚ → SD [11] D Dₚ → SD [11] N Nₚ → SF [(10, 0), (10, 1), (10, 2), (10, 3), (10, 4)] F Fₚ → SA [11] A Aₚ → Fₚ 10 0 = (Dₚ 11 : Int) → ∀ m11 : Int, (Nₚ 11 : Int) = m11 → ∀ y10_1 : Int, Fₚ 10 1 = y10_1 → ((z) = 0 ∨ (z) = 1) → (0 ≤ (u2_1) ∧ (u2_1) ≤ (n3) ∧ (n3) ≤ 65536) → (0 ≤ (u4_1) ∧ (u4_1) ≤ (n5) ∧ (n5) ≤ 65536) → (0 ≤ (u6_1) ∧ (u6_1) ≤ (n7) ∧ (n7) ≤ 65536) → (0 ≤ (u8_1) ∧ (u8_1) ≤ (n9) ∧ (n9) ≤ 65536) → (0 ≤ (y10_1) ∧ (y10_1) ≤ (m11) ∧ (m11) ≤ 65536) → Q (some (I z)) σ cₚ sₚ) : Ew 14 (d + 4) 0 (rargs 0 [.ref (D 0), I a1]) [] σE c s Q := by
  have O := OUT_refl (n := (V14).length) (D := D) (N := N) (σ := σE) (c := c) (s := s)
  have HE := H
  have r6 : HID ((0 : Int) ≤ n1 ∧ n1 ≤ 1000000) := nrng (H.nle 1 (ltn len_V14_oz_R4cls rfl)) (show (N 1 : Int) = n1 from en1)
  refine Ew_of (pcₚ := 1) (fun _ => x_iload_n rfl rfl) ?_
  refine w_stat24 rfl rfl (by rfl) (C24 (D := puc 0 D) (N := puc 0 N) (HW_subc H oz_R4cls_1 oz_R4cls_12) (show inr (a1) from h0) (fun z12 σ12 F12ₚ A12ₚ Hₚ Oₚ hS12 hA12 pz12_0 pz12_1 => ⟨rretB rfl pz12_0, ?_⟩))
  refine v_backc (c := c) (s := s) H oz_R4cls_1 oz_R4cls_12 Hₚ Oₚ (fun F12 A12 H Oₚ eF12 eA12 => ?_)
  have O := OUT_trans O Oₚ
  -- PackHouse.isRow
  have cF12 : SF oz_R4clsl_0 F F12 := SF_trans (SF_refl) (SF_gluc (ι := oz_R4clsl_2) oz_R4cls_12 hS12 eF12 (by decide +kernel)) (any_sub (lₚ := []) (by decide +kernel))
  have mF12 := SFm_of cF12 oz_R4cls_10
  have cA12 : SA oz_R4clsl_1 A A12 := SA_trans (SA_refl) (SA_gluc (ι := oz_R4clsl_2) oz_R4cls_12 hA12 eA12 (by decide +kernel)) (any_subA (lₚ := []) (by decide +kernel))
  have mA12 := SAm_of cA12 oz_R4cls_11
  refine w_ifne (t := 9) rfl rfl (show inr (z12) from q_15 pz12_0) (fun b13 => ?_) (fun b13 => ?_)
  · refine Ew_of (pcₚ := 10) (fun _ => x_aload_n rfl rfl) ?_
    refine v_g H (o := 0) (v := .ref (D 10)) rfl rfl rfl rfl rfl (vrf ((mF12 0 2 rfl).trans (pf10))) ?_
    refine Ew_of (pcₚ := 14) (fun _ => x_aload_n rfl rfl) ?_
    refine v_g H (o := 0) (v := .ref (D 1)) rfl rfl rfl rfl rfl (vrf ((mF12 0 0 rfl).trans (pf1))) ?_
    refine Ew_of (pcₚ := 18) (fun _ => x_iload_n rfl rfl) ?_
    rcases (show a1 = 0 ∨ a1 = 1 ∨ a1 = 2 ∨ a1 = 3 by omega) with b14 | b14 | b14 | b14
    · refine v_lR H (o := 1) rfl rfl rfl rfl rfl (n := n1) (en1) (show 0 ≤ a1 ∧ a1 < n1 from q_4225 (HIDe r6) b14 h1) (z := ((D 2 : Nat) : Int)) (v := .ref (D 2)) ((congrArg (A12 1) b14).trans ((mA12 1 rfl 0).trans (pf2))) (vrf rfl) ?_
      refine v_inv H (o := 10) rfl rfl rfl rfl rfl rfl (by rfl) (C158_Row (D := puc 405537802 D) (N := puc 405537802 N) (HW_subc H oz_R4cls_2 oz_R4cls_13) ((((show F12 10 0 = F 10 0 from (eF12 10 0)))).trans (pf11)) ((mF12 2 0 rfl).trans (pf3)) (n11) (en11) (n3) (en3) (u10_1) ((((show F12 10 1 = F 10 1 from (eF12 10 1))).trans (eu10_1))) (u2_1) (((mF12 2 1 rfl).trans (eu2_1))) (show 0 ≤ (u10_1) ∧ (u10_1) ≤ (n11) ∧ (n11) ≤ 65536 from h6) (show 0 ≤ (u2_1) ∧ (u2_1) ≤ (n3) ∧ (n3) ≤ 65536 from h2) (fun σ15 D15ₚ N15ₚ F15ₚ A15ₚ c15 s15 Hₚ Oₚ hD15 hN15 hS15 hA15 (pm15_2 : HID _) m15_2 (em15_2 : HID _) y15_0_1 (ey15_0_1 : HID _) pz15_0 pz15_1 => ⟨rfl, ?_⟩))
      refine v_backMc (c := c) (s := s) H oz_R4cls_2 oz_R4cls_13 Hₚ Oₚ hD15 oz_R4cls_3 (fun D15 N15 F15 A15 H Oₚ eD15 eN15 eF15 eA15 => ?_)
      have O := OUT_trans O Oₚ
      -- Row.become
      have cF15 : SF oz_R4clsl_0 F F15 := SF_trans (cF12) (SF_gluc (ι := oz_R4clsl_3) oz_R4cls_13 hS15 eF15 (by decide +kernel)) (any_sub (lₚ := [(10, 0), (10, 1), (10, 2), (10, 3), (10, 4)]) (by decide +kernel))
      have mF15 := SFm_of cF15 oz_R4cls_10
      have cA15 : SA oz_R4clsl_1 A A15 := SA_trans (cA12) (SA_gluc (ι := oz_R4clsl_3) oz_R4cls_13 hA15 eA15 (by decide +kernel)) (any_subA (lₚ := [11]) (by decide +kernel))
      have mA15 := SAm_of cA15 oz_R4cls_11
      have cD15 : SD oz_R4clsl_1 D D15 := SD_trans (SD_refl) (SD_gluc (ι := oz_R4clsl_3) oz_R4cls_13 hD15 eD15 (by decide +kernel)) (any_subA (lₚ := [11]) (by decide +kernel))
      have mD15 := SDm_of cD15 oz_R4cls_11
      have cN15 : SD oz_R4clsl_1 N N15 := SD_trans (SD_refl) (SD_gluc (ι := oz_R4clsl_3) oz_R4cls_13 hN15 eN15 (by decide +kernel)) (any_subA (lₚ := [11]) (by decide +kernel))
      have mN15 := SDm_of cN15 oz_R4cls_11
      have pf15_10_0 : HID (F15 10 0 = (D15 11 : Int)) := (eF15 10 0).trans (pm15_2.trans (congrArg (fun q : Nat => (q : Int)) (eD15 11).symm))
      refine Ew_of (pcₚ := 23) (fun _ => x_iconst rfl) ?_
      exact w_ireturn rfl (k (1) _ _ _ _ _ _ _ H O (cD15) (cN15) (cF15) (cA15) (pf15_10_0) (m15_2) ((congrArg (fun q : Nat => (q : Int)) (eN15 11)).trans em15_2) (y15_0_1) (((eF15 10 1).trans ey15_0_1)) (show (1) = 0 ∨ (1) = 1 by first | exact q_5 | omega) (show 0 ≤ (u2_1) ∧ (u2_1) ≤ (n3) ∧ (n3) ≤ 65536 from h2) (show 0 ≤ (u4_1) ∧ (u4_1) ≤ (n5) ∧ (n5) ≤ 65536 from h3) (show 0 ≤ (u6_1) ∧ (u6_1) ≤ (n7) ∧ (n7) ≤ 65536 from h4) (show 0 ≤ (u8_1) ∧ (u8_1) ≤ (n9) ∧ (n9) ≤ 65536 from h5) (show 0 ≤ (y15_0_1) ∧ (y15_0_1) ≤ (m15_2) ∧ (m15_2) ≤ 65536 from pz15_0))
    · refine v_lR H (o := 1) rfl rfl rfl rfl rfl (n := n1) (en1) (show 0 ≤ a1 ∧ a1 < n1 from q_4226 (HIDe r6) b14 h1) (z := ((D 4 : Nat) : Int)) (v := .ref (D 4)) ((congrArg (A12 1) b14).trans ((mA12 1 rfl 1).trans (pf4))) (vrf rfl) ?_
      refine v_inv H (o := 10) rfl rfl rfl rfl rfl rfl (by rfl) (C158_Row (D := puc 673974282 D) (N := puc 673974282 N) (HW_subc H oz_R4cls_4 oz_R4cls_14) ((((show F12 10 0 = F 10 0 from (eF12 10 0)))).trans (pf11)) ((mF12 4 0 rfl).trans (pf5)) (n11) (en11) (n5) (en5) (u10_1) ((((show F12 10 1 = F 10 1 from (eF12 10 1))).trans (eu10_1))) (u4_1) (((mF12 4 1 rfl).trans (eu4_1))) (show 0 ≤ (u10_1) ∧ (u10_1) ≤ (n11) ∧ (n11) ≤ 65536 from h6) (show 0 ≤ (u4_1) ∧ (u4_1) ≤ (n5) ∧ (n5) ≤ 65536 from h3) (fun σ18 D18ₚ N18ₚ F18ₚ A18ₚ c18 s18 Hₚ Oₚ hD18 hN18 hS18 hA18 (pm18_2 : HID _) m18_2 (em18_2 : HID _) y18_0_1 (ey18_0_1 : HID _) pz18_0 pz18_1 => ⟨rfl, ?_⟩))
      refine v_backMc (c := c) (s := s) H oz_R4cls_4 oz_R4cls_14 Hₚ Oₚ hD18 oz_R4cls_5 (fun D18 N18 F18 A18 H Oₚ eD18 eN18 eF18 eA18 => ?_)
      have O := OUT_trans O Oₚ
      -- Row.become
      have cF18 : SF oz_R4clsl_0 F F18 := SF_trans (cF12) (SF_gluc (ι := oz_R4clsl_4) oz_R4cls_14 hS18 eF18 (by decide +kernel)) (any_sub (lₚ := [(10, 0), (10, 1), (10, 2), (10, 3), (10, 4)]) (by decide +kernel))
      have mF18 := SFm_of cF18 oz_R4cls_10
      have cA18 : SA oz_R4clsl_1 A A18 := SA_trans (cA12) (SA_gluc (ι := oz_R4clsl_4) oz_R4cls_14 hA18 eA18 (by decide +kernel)) (any_subA (lₚ := [11]) (by decide +kernel))
      have mA18 := SAm_of cA18 oz_R4cls_11
      have cD18 : SD oz_R4clsl_1 D D18 := SD_trans (SD_refl) (SD_gluc (ι := oz_R4clsl_4) oz_R4cls_14 hD18 eD18 (by decide +kernel)) (any_subA (lₚ := [11]) (by decide +kernel))
      have mD18 := SDm_of cD18 oz_R4cls_11
      have cN18 : SD oz_R4clsl_1 N N18 := SD_trans (SD_refl) (SD_gluc (ι := oz_R4clsl_4) oz_R4cls_14 hN18 eN18 (by decide +kernel)) (any_subA (lₚ := [11]) (by decide +kernel))
      have mN18 := SDm_of cN18 oz_R4cls_11
      have pf18_10_0 : HID (F18 10 0 = (D18 11 : Int)) := (eF18 10 0).trans (pm18_2.trans (congrArg (fun q : Nat => (q : Int)) (eD18 11).symm))
      refine Ew_of (pcₚ := 23) (fun _ => x_iconst rfl) ?_
      exact w_ireturn rfl (k (1) _ _ _ _ _ _ _ H O (cD18) (cN18) (cF18) (cA18) (pf18_10_0) (m18_2) ((congrArg (fun q : Nat => (q : Int)) (eN18 11)).trans em18_2) (y18_0_1) (((eF18 10 1).trans ey18_0_1)) (show (1) = 0 ∨ (1) = 1 by first | exact q_5 | omega) (show 0 ≤ (u2_1) ∧ (u2_1) ≤ (n3) ∧ (n3) ≤ 65536 from h2) (show 0 ≤ (u4_1) ∧ (u4_1) ≤ (n5) ∧ (n5) ≤ 65536 from h3) (show 0 ≤ (u6_1) ∧ (u6_1) ≤ (n7) ∧ (n7) ≤ 65536 from h4) (show 0 ≤ (u8_1) ∧ (u8_1) ≤ (n9) ∧ (n9) ≤ 65536 from h5) (show 0 ≤ (y18_0_1) ∧ (y18_0_1) ≤ (m18_2) ∧ (m18_2) ≤ 65536 from pz18_0))
    · refine v_lR H (o := 1) rfl rfl rfl rfl rfl (n := n1) (en1) (show 0 ≤ a1 ∧ a1 < n1 from q_4227 (HIDe r6) b14 h1) (z := ((D 6 : Nat) : Int)) (v := .ref (D 6)) ((congrArg (A12 1) b14).trans ((mA12 1 rfl 2).trans (pf6))) (vrf rfl) ?_
      refine v_inv H (o := 10) rfl rfl rfl rfl rfl rfl (by rfl) (C158_Row (D := puc 942410762 D) (N := puc 942410762 N) (HW_subc H oz_R4cls_6 oz_R4cls_15) ((((show F12 10 0 = F 10 0 from (eF12 10 0)))).trans (pf11)) ((mF12 6 0 rfl).trans (pf7)) (n11) (en11) (n7) (en7) (u10_1) ((((show F12 10 1 = F 10 1 from (eF12 10 1))).trans (eu10_1))) (u6_1) (((mF12 6 1 rfl).trans (eu6_1))) (show 0 ≤ (u10_1) ∧ (u10_1) ≤ (n11) ∧ (n11) ≤ 65536 from h6) (show 0 ≤ (u6_1) ∧ (u6_1) ≤ (n7) ∧ (n7) ≤ 65536 from h4) (fun σ21 D21ₚ N21ₚ F21ₚ A21ₚ c21 s21 Hₚ Oₚ hD21 hN21 hS21 hA21 (pm21_2 : HID _) m21_2 (em21_2 : HID _) y21_0_1 (ey21_0_1 : HID _) pz21_0 pz21_1 => ⟨rfl, ?_⟩))
      refine v_backMc (c := c) (s := s) H oz_R4cls_6 oz_R4cls_15 Hₚ Oₚ hD21 oz_R4cls_7 (fun D21 N21 F21 A21 H Oₚ eD21 eN21 eF21 eA21 => ?_)
      have O := OUT_trans O Oₚ
      -- Row.become
      have cF21 : SF oz_R4clsl_0 F F21 := SF_trans (cF12) (SF_gluc (ι := oz_R4clsl_5) oz_R4cls_15 hS21 eF21 (by decide +kernel)) (any_sub (lₚ := [(10, 0), (10, 1), (10, 2), (10, 3), (10, 4)]) (by decide +kernel))
      have mF21 := SFm_of cF21 oz_R4cls_10
      have cA21 : SA oz_R4clsl_1 A A21 := SA_trans (cA12) (SA_gluc (ι := oz_R4clsl_5) oz_R4cls_15 hA21 eA21 (by decide +kernel)) (any_subA (lₚ := [11]) (by decide +kernel))
      have mA21 := SAm_of cA21 oz_R4cls_11
      have cD21 : SD oz_R4clsl_1 D D21 := SD_trans (SD_refl) (SD_gluc (ι := oz_R4clsl_5) oz_R4cls_15 hD21 eD21 (by decide +kernel)) (any_subA (lₚ := [11]) (by decide +kernel))
      have mD21 := SDm_of cD21 oz_R4cls_11
      have cN21 : SD oz_R4clsl_1 N N21 := SD_trans (SD_refl) (SD_gluc (ι := oz_R4clsl_5) oz_R4cls_15 hN21 eN21 (by decide +kernel)) (any_subA (lₚ := [11]) (by decide +kernel))
      have mN21 := SDm_of cN21 oz_R4cls_11
      have pf21_10_0 : HID (F21 10 0 = (D21 11 : Int)) := (eF21 10 0).trans (pm21_2.trans (congrArg (fun q : Nat => (q : Int)) (eD21 11).symm))
      refine Ew_of (pcₚ := 23) (fun _ => x_iconst rfl) ?_
      exact w_ireturn rfl (k (1) _ _ _ _ _ _ _ H O (cD21) (cN21) (cF21) (cA21) (pf21_10_0) (m21_2) ((congrArg (fun q : Nat => (q : Int)) (eN21 11)).trans em21_2) (y21_0_1) (((eF21 10 1).trans ey21_0_1)) (show (1) = 0 ∨ (1) = 1 by first | exact q_5 | omega) (show 0 ≤ (u2_1) ∧ (u2_1) ≤ (n3) ∧ (n3) ≤ 65536 from h2) (show 0 ≤ (u4_1) ∧ (u4_1) ≤ (n5) ∧ (n5) ≤ 65536 from h3) (show 0 ≤ (u6_1) ∧ (u6_1) ≤ (n7) ∧ (n7) ≤ 65536 from h4) (show 0 ≤ (u8_1) ∧ (u8_1) ≤ (n9) ∧ (n9) ≤ 65536 from h5) (show 0 ≤ (y21_0_1) ∧ (y21_0_1) ≤ (m21_2) ∧ (m21_2) ≤ 65536 from pz21_0))
    · refine v_lR H (o := 1) rfl rfl rfl rfl rfl (n := n1) (en1) (show 0 ≤ a1 ∧ a1 < n1 from q_4228 b14 h1) (z := ((D 8 : Nat) : Int)) (v := .ref (D 8)) ((congrArg (A12 1) b14).trans ((mA12 1 rfl 3).trans (pf8))) (vrf rfl) ?_
      refine v_inv H (o := 10) rfl rfl rfl rfl rfl rfl (by rfl) (C158_Row (D := puc 1210847242 D) (N := puc 1210847242 N) (HW_subc H oz_R4cls_8 oz_R4cls_16) ((((show F12 10 0 = F 10 0 from (eF12 10 0)))).trans (pf11)) ((mF12 8 0 rfl).trans (pf9)) (n11) (en11) (n9) (en9) (u10_1) ((((show F12 10 1 = F 10 1 from (eF12 10 1))).trans (eu10_1))) (u8_1) (((mF12 8 1 rfl).trans (eu8_1))) (show 0 ≤ (u10_1) ∧ (u10_1) ≤ (n11) ∧ (n11) ≤ 65536 from h6) (show 0 ≤ (u8_1) ∧ (u8_1) ≤ (n9) ∧ (n9) ≤ 65536 from h5) (fun σ24 D24ₚ N24ₚ F24ₚ A24ₚ c24 s24 Hₚ Oₚ hD24 hN24 hS24 hA24 (pm24_2 : HID _) m24_2 (em24_2 : HID _) y24_0_1 (ey24_0_1 : HID _) pz24_0 pz24_1 => ⟨rfl, ?_⟩))
      refine v_backMc (c := c) (s := s) H oz_R4cls_8 oz_R4cls_16 Hₚ Oₚ hD24 oz_R4cls_9 (fun D24 N24 F24 A24 H Oₚ eD24 eN24 eF24 eA24 => ?_)
      have O := OUT_trans O Oₚ
      -- Row.become
      have cF24 : SF oz_R4clsl_0 F F24 := SF_trans (cF12) (SF_gluc (ι := oz_R4clsl_6) oz_R4cls_16 hS24 eF24 (by decide +kernel)) (any_sub (lₚ := [(10, 0), (10, 1), (10, 2), (10, 3), (10, 4)]) (by decide +kernel))
      have mF24 := SFm_of cF24 oz_R4cls_10
      have cA24 : SA oz_R4clsl_1 A A24 := SA_trans (cA12) (SA_gluc (ι := oz_R4clsl_6) oz_R4cls_16 hA24 eA24 (by decide +kernel)) (any_subA (lₚ := [11]) (by decide +kernel))
      have mA24 := SAm_of cA24 oz_R4cls_11
      have cD24 : SD oz_R4clsl_1 D D24 := SD_trans (SD_refl) (SD_gluc (ι := oz_R4clsl_6) oz_R4cls_16 hD24 eD24 (by decide +kernel)) (any_subA (lₚ := [11]) (by decide +kernel))
      have mD24 := SDm_of cD24 oz_R4cls_11
      have cN24 : SD oz_R4clsl_1 N N24 := SD_trans (SD_refl) (SD_gluc (ι := oz_R4clsl_6) oz_R4cls_16 hN24 eN24 (by decide +kernel)) (any_subA (lₚ := [11]) (by decide +kernel))
      have mN24 := SDm_of cN24 oz_R4cls_11
      have pf24_10_0 : HID (F24 10 0 = (D24 11 : Int)) := (eF24 10 0).trans (pm24_2.trans (congrArg (fun q : Nat => (q : Int)) (eD24 11).symm))
      refine Ew_of (pcₚ := 23) (fun _ => x_iconst rfl) ?_
      exact w_ireturn rfl (k (1) _ _ _ _ _ _ _ H O (cD24) (cN24) (cF24) (cA24) (pf24_10_0) (m24_2) ((congrArg (fun q : Nat => (q : Int)) (eN24 11)).trans em24_2) (y24_0_1) (((eF24 10 1).trans ey24_0_1)) (show (1) = 0 ∨ (1) = 1 by first | exact q_5 | omega) (show 0 ≤ (u2_1) ∧ (u2_1) ≤ (n3) ∧ (n3) ≤ 65536 from h2) (show 0 ≤ (u4_1) ∧ (u4_1) ≤ (n5) ∧ (n5) ≤ 65536 from h3) (show 0 ≤ (u6_1) ∧ (u6_1) ≤ (n7) ∧ (n7) ≤ 65536 from h4) (show 0 ≤ (u8_1) ∧ (u8_1) ≤ (n9) ∧ (n9) ≤ 65536 from h5) (show 0 ≤ (y24_0_1) ∧ (y24_0_1) ≤ (m24_2) ∧ (m24_2) ≤ 65536 from pz24_0))
  · refine Ew_of (pcₚ := 8) (fun _ => x_iconst rfl) ?_
    exact w_ireturn rfl (k (0) _ _ _ _ _ _ _ H O (SD_refl) (SD_refl) (cF12) (cA12) ((((show F12 10 0 = F 10 0 from (eF12 10 0)))).trans (pf11)) (n11) (en11) (u10_1) ((((show F12 10 1 = F 10 1 from (eF12 10 1))).trans (eu10_1))) (show (0) = 0 ∨ (0) = 1 by first | exact q_1 | omega) (show 0 ≤ (u2_1) ∧ (u2_1) ≤ (n3) ∧ (n3) ≤ 65536 from h2) (show 0 ≤ (u4_1) ∧ (u4_1) ≤ (n5) ∧ (n5) ≤ 65536 from h3) (show 0 ≤ (u6_1) ∧ (u6_1) ≤ (n7) ∧ (n7) ≤ 65536 from h4) (show 0 ≤ (u8_1) ∧ (u8_1) ≤ (n9) ∧ (n9) ≤ 65536 from h5) (show 0 ≤ (u10_1) ∧ (u10_1) ≤ (n11) ∧ (n11) ≤ 65536 from h6))
abbrev V19 : vV := [(0, 0, [(4, 0), (4, 0), (4, 0), (4, 0), (4, 0), (4, 0), (4, 0), (4, 0), (4, 0), (4, 0), (4, 0), (4, 0), (4, 0), (4, 0), (4, 0), (4, 0), (4, 0), (0, 0), (0, 0)]), (1, 4, []), (0, 7, [(4, 0), (0, 0), (1, 0), (0, 0), (0, 0)]), (1, 0, []), (0, 7, [(4, 0), (0, 0), (1, 0), (0, 0), (0, 0)]), (1, 0, []), (0, 7, [(4, 0), (0, 0), (1, 0), (0, 0), (0, 0)]), (1, 0, []), (0, 7, [(4, 0), (0, 0), (1, 0), (0, 0), (0, 0)]), (1, 0, [])]
theorem len_V19_oz_R4cls : (V19).length = 10 := by decide +kernel
theorem oz_R4cls_18 : vsub V19 V24 [] = true := by decide +kernel
theorem oz_R4cls_19 : vsub V19 V33_Row [2, 3] = true := by decide +kernel
theorem oz_R4cls_20 : vsub V19 V33_Row [4, 5] = true := by decide +kernel
theorem oz_R4cls_21 : vsub V19 V33_Row [6, 7] = true := by decide +kernel
theorem oz_R4cls_22 : vsub V19 V33_Row [8, 9] = true := by decide +kernel
def oz_R4clsl_7 : List (Nat × Nat) := []
theorem oz_R4cls_23 : (oz_R4clsl_7).all (fun p => !tbz 0 (Nat.add (Nat.mul 32 p.1) p.2)) = true := by decide +kernel
theorem oz_R4cls_24 : (oz_R4clsl_2).all (fun p => !tbz 0 p) = true := by decide +kernel
def oz_R4clsl_8 : List Nat := [2, 3]
theorem oz_R4cls_25 : okc oz_R4clsl_8 1538 = true := by decide +kernel
def oz_R4clsl_9 : List Nat := [4, 5]
theorem oz_R4cls_26 : okc oz_R4clsl_9 2564 = true := by decide +kernel
def oz_R4clsl_10 : List Nat := [6, 7]
theorem oz_R4cls_27 : okc oz_R4clsl_10 3590 = true := by decide +kernel
def oz_R4clsl_11 : List Nat := [8, 9]
theorem oz_R4cls_28 : okc oz_R4clsl_11 4616 = true := by decide +kernel
/-- PackHouse.kind: this, this.rows, this.rows.0, this.rows.0.bytes, this.rows.1, this.rows.1.bytes, this.rows.2, this.rows.2.bytes, this.rows.3, this.rows.3.bytes -/
theorem C19 {σE : rS} {D N : Nat → Nat} {F : hF} {A : hA} {d c s : Nat} {Q : wQ} (H : HW V19 σE D N F A) (HT : STC σE) {a1 : Int} (pf1 : HID (F 0 0 = (D 1 : Int))) (pf2 : HID (A 1 0 = (D 2 : Int))) (pf3 : HID (F 2 0 = (D 3 : Int))) (pf4 : HID (A 1 1 = (D 4 : Int))) (pf5 : HID (F 4 0 = (D 5 : Int))) (pf6 : HID (A 1 2 = (D 6 : Int))) (pf7 : HID (F 6 0 = (D 7 : Int))) (pf8 : HID (A 1 3 = (D 8 : Int))) (pf9 : HID (F 8 0 = (D 9 : Int))) (n1 : Int) (en1 : HID ((N 1 : Int) = n1)) (n3 : Int) (en3 : HID ((N 3 : Int) = n3)) (n5 : Int) (en5 : HID ((N 5 : Int) = n5)) (n7 : Int) (en7 : HID ((N 7 : Int) = n7)) (n9 : Int) (en9 : HID ((N 9 : Int) = n9)) (u2_1 : Int) (eu2_1 : HID (F 2 1 = u2_1)) (u4_1 : Int) (eu4_1 : HID (F 4 1 = u4_1)) (u6_1 : Int) (eu6_1 : HID (F 6 1 = u6_1)) (u8_1 : Int) (eu8_1 : HID (F 8 1 = u8_1)) (h0 : inr (a1)) (h1 : (n1) = 4) (h2 : 0 ≤ (u2_1) ∧ (u2_1) ≤ (n3) ∧ (n3) ≤ 65536) (h3 : 0 ≤ (u4_1) ∧ (u4_1) ≤ (n5) ∧ (n5) ≤ 65536) (h4 : 0 ≤ (u6_1) ∧ (u6_1) ≤ (n7) ∧ (n7) ≤ 65536) (h5 : 0 ≤ (u8_1) ∧ (u8_1) ≤ (n9) ∧ (n9) ≤ 65536) (k : ∀ (z : Int) (σ : rS) (Fₚ : hF) (Aₚ : hA), HW V19 σ D N Fₚ Aₚ → OUT (V19).length D N σE c s D N σ c s → SF [] F Fₚ → SA [] A Aₚ → (inr (z)) → Q (some (I z)) σ c s) : Ew 19 (d + 3) 0 (rargs 0 [.ref (D 0), I a1]) [] σE c s Q := by
  have O := OUT_refl (n := (V19).length) (D := D) (N := N) (σ := σE) (c := c) (s := s)
  have HE := H
  have r5 : HID ((0 : Int) ≤ n1 ∧ n1 ≤ 1000000) := nrng (H.nle 1 (ltn len_V19_oz_R4cls rfl)) (show (N 1 : Int) = n1 from en1)
  refine Ew_of (pcₚ := 1) (fun _ => x_iload_n rfl rfl) ?_
  refine w_stat24 rfl rfl (by rfl) (C24 (D := puc 0 D) (N := puc 0 N) (HW_subc H oz_R4cls_18 oz_R4cls_12) (show inr (a1) from h0) (fun z10 σ10 F10ₚ A10ₚ Hₚ Oₚ hS10 hA10 pz10_0 pz10_1 => ⟨rretB rfl pz10_0, ?_⟩))
  refine v_backc (c := c) (s := s) H oz_R4cls_18 oz_R4cls_12 Hₚ Oₚ (fun F10 A10 H Oₚ eF10 eA10 => ?_)
  have O := OUT_trans O Oₚ
  -- PackHouse.isRow
  have cF10 : SF oz_R4clsl_7 F F10 := SF_trans (SF_refl) (SF_gluc (ι := oz_R4clsl_2) oz_R4cls_12 hS10 eF10 (by decide +kernel)) (any_sub (lₚ := []) (by decide +kernel))
  have mF10 := SFm_of cF10 oz_R4cls_23
  have cA10 : SA oz_R4clsl_2 A A10 := SA_trans (SA_refl) (SA_gluc (ι := oz_R4clsl_2) oz_R4cls_12 hA10 eA10 (by decide +kernel)) (any_subA (lₚ := []) (by decide +kernel))
  have mA10 := SAm_of cA10 oz_R4cls_24
  refine w_ifeq (t := 19) rfl rfl (show inr (z10) from q_15 pz10_0) (fun b11 => ?_) (fun b11 => ?_)
  · refine Ew_of (pcₚ := 20) (fun _ => x_iconst rfl) ?_
    exact w_ireturn rfl (k ((-1)) _ _ _ H O (cF10) (cA10) (show inr ((-1)) from q_16))
  · refine Ew_of (pcₚ := 8) (fun _ => x_aload_n rfl rfl) ?_
    refine v_g H (o := 0) (v := .ref (D 1)) rfl rfl rfl rfl rfl (vrf ((mF10 0 0 rfl).trans (pf1))) ?_
    refine Ew_of (pcₚ := 12) (fun _ => x_iload_n rfl rfl) ?_
    rcases (show a1 = 0 ∨ a1 = 1 ∨ a1 = 2 ∨ a1 = 3 by omega) with b12 | b12 | b12 | b12
    · refine v_lR H (o := 1) rfl rfl rfl rfl rfl (n := n1) (en1) (show 0 ≤ a1 ∧ a1 < n1 from q_4225 (HIDe r5) b12 h1) (z := ((D 2 : Nat) : Int)) (v := .ref (D 2)) ((congrArg (A10 1) b12).trans ((mA10 1 rfl 0).trans (pf2))) (vrf rfl) ?_
      refine w_stat24 rfl rfl (by rfl) (C33_Row (D := puc 1538 D) (N := puc 1538 N) (HW_subc H oz_R4cls_19 oz_R4cls_25) (STC_out HT HE O) ((mF10 2 0 rfl).trans (pf3)) (n3) (en3) (u2_1) (((mF10 2 1 rfl).trans (eu2_1))) (show 0 ≤ (u2_1) ∧ (u2_1) ≤ (n3) ∧ (n3) ≤ 65536 from h2) (fun z13 σ13 F13ₚ A13ₚ Hₚ Oₚ hS13 hA13 pz13_0 pz13_1 => ⟨rfl, ?_⟩))
      refine v_backc (c := c) (s := s) H oz_R4cls_19 oz_R4cls_25 Hₚ Oₚ (fun F13 A13 H Oₚ eF13 eA13 => ?_)
      have O := OUT_trans O Oₚ
      -- PackHouse.formatOf
      have cF13 : SF oz_R4clsl_7 F F13 := SF_trans (cF10) (SF_gluc (ι := oz_R4clsl_8) oz_R4cls_25 hS13 eF13 (by decide +kernel)) (any_sub (lₚ := []) (by decide +kernel))
      have mF13 := SFm_of cF13 oz_R4cls_23
      have cA13 : SA oz_R4clsl_2 A A13 := SA_trans (cA10) (SA_gluc (ι := oz_R4clsl_8) oz_R4cls_25 hA13 eA13 (by decide +kernel)) (any_subA (lₚ := []) (by decide +kernel))
      have mA13 := SAm_of cA13 oz_R4cls_24
      refine Ew_of (pcₚ := 20) (fun _ => x_goto rfl rfl) ?_
      exact w_ireturn rfl (k (z13) _ _ _ H O (cF13) (cA13) (show inr (z13) from pz13_0))
    · refine v_lR H (o := 1) rfl rfl rfl rfl rfl (n := n1) (en1) (show 0 ≤ a1 ∧ a1 < n1 from q_4226 (HIDe r5) b12 h1) (z := ((D 4 : Nat) : Int)) (v := .ref (D 4)) ((congrArg (A10 1) b12).trans ((mA10 1 rfl 1).trans (pf4))) (vrf rfl) ?_
      refine w_stat24 rfl rfl (by rfl) (C33_Row (D := puc 2564 D) (N := puc 2564 N) (HW_subc H oz_R4cls_20 oz_R4cls_26) (STC_out HT HE O) ((mF10 4 0 rfl).trans (pf5)) (n5) (en5) (u4_1) (((mF10 4 1 rfl).trans (eu4_1))) (show 0 ≤ (u4_1) ∧ (u4_1) ≤ (n5) ∧ (n5) ≤ 65536 from h3) (fun z14 σ14 F14ₚ A14ₚ Hₚ Oₚ hS14 hA14 pz14_0 pz14_1 => ⟨rfl, ?_⟩))
      refine v_backc (c := c) (s := s) H oz_R4cls_20 oz_R4cls_26 Hₚ Oₚ (fun F14 A14 H Oₚ eF14 eA14 => ?_)
      have O := OUT_trans O Oₚ
      -- PackHouse.formatOf
      have cF14 : SF oz_R4clsl_7 F F14 := SF_trans (cF10) (SF_gluc (ι := oz_R4clsl_9) oz_R4cls_26 hS14 eF14 (by decide +kernel)) (any_sub (lₚ := []) (by decide +kernel))
      have mF14 := SFm_of cF14 oz_R4cls_23
      have cA14 : SA oz_R4clsl_2 A A14 := SA_trans (cA10) (SA_gluc (ι := oz_R4clsl_9) oz_R4cls_26 hA14 eA14 (by decide +kernel)) (any_subA (lₚ := []) (by decide +kernel))
      have mA14 := SAm_of cA14 oz_R4cls_24
      refine Ew_of (pcₚ := 20) (fun _ => x_goto rfl rfl) ?_
      exact w_ireturn rfl (k (z14) _ _ _ H O (cF14) (cA14) (show inr (z14) from pz14_0))
    · refine v_lR H (o := 1) rfl rfl rfl rfl rfl (n := n1) (en1) (show 0 ≤ a1 ∧ a1 < n1 from q_4227 (HIDe r5) b12 h1) (z := ((D 6 : Nat) : Int)) (v := .ref (D 6)) ((congrArg (A10 1) b12).trans ((mA10 1 rfl 2).trans (pf6))) (vrf rfl) ?_
      refine w_stat24 rfl rfl (by rfl) (C33_Row (D := puc 3590 D) (N := puc 3590 N) (HW_subc H oz_R4cls_21 oz_R4cls_27) (STC_out HT HE O) ((mF10 6 0 rfl).trans (pf7)) (n7) (en7) (u6_1) (((mF10 6 1 rfl).trans (eu6_1))) (show 0 ≤ (u6_1) ∧ (u6_1) ≤ (n7) ∧ (n7) ≤ 65536 from h4) (fun z15 σ15 F15ₚ A15ₚ Hₚ Oₚ hS15 hA15 pz15_0 pz15_1 => ⟨rfl, ?_⟩))
      refine v_backc (c := c) (s := s) H oz_R4cls_21 oz_R4cls_27 Hₚ Oₚ (fun F15 A15 H Oₚ eF15 eA15 => ?_)
      have O := OUT_trans O Oₚ
      -- PackHouse.formatOf
      have cF15 : SF oz_R4clsl_7 F F15 := SF_trans (cF10) (SF_gluc (ι := oz_R4clsl_10) oz_R4cls_27 hS15 eF15 (by decide +kernel)) (any_sub (lₚ := []) (by decide +kernel))
      have mF15 := SFm_of cF15 oz_R4cls_23
      have cA15 : SA oz_R4clsl_2 A A15 := SA_trans (cA10) (SA_gluc (ι := oz_R4clsl_10) oz_R4cls_27 hA15 eA15 (by decide +kernel)) (any_subA (lₚ := []) (by decide +kernel))
      have mA15 := SAm_of cA15 oz_R4cls_24
      refine Ew_of (pcₚ := 20) (fun _ => x_goto rfl rfl) ?_
      exact w_ireturn rfl (k (z15) _ _ _ H O (cF15) (cA15) (show inr (z15) from pz15_0))
    · refine v_lR H (o := 1) rfl rfl rfl rfl rfl (n := n1) (en1) (show 0 ≤ a1 ∧ a1 < n1 from q_4228 b12 h1) (z := ((D 8 : Nat) : Int)) (v := .ref (D 8)) ((congrArg (A10 1) b12).trans ((mA10 1 rfl 3).trans (pf8))) (vrf rfl) ?_
      refine w_stat24 rfl rfl (by rfl) (C33_Row (D := puc 4616 D) (N := puc 4616 N) (HW_subc H oz_R4cls_22 oz_R4cls_28) (STC_out HT HE O) ((mF10 8 0 rfl).trans (pf9)) (n9) (en9) (u8_1) (((mF10 8 1 rfl).trans (eu8_1))) (show 0 ≤ (u8_1) ∧ (u8_1) ≤ (n9) ∧ (n9) ≤ 65536 from h5) (fun z16 σ16 F16ₚ A16ₚ Hₚ Oₚ hS16 hA16 pz16_0 pz16_1 => ⟨rfl, ?_⟩))
      refine v_backc (c := c) (s := s) H oz_R4cls_22 oz_R4cls_28 Hₚ Oₚ (fun F16 A16 H Oₚ eF16 eA16 => ?_)
      have O := OUT_trans O Oₚ
      -- PackHouse.formatOf
      have cF16 : SF oz_R4clsl_7 F F16 := SF_trans (cF10) (SF_gluc (ι := oz_R4clsl_11) oz_R4cls_28 hS16 eF16 (by decide +kernel)) (any_sub (lₚ := []) (by decide +kernel))
      have mF16 := SFm_of cF16 oz_R4cls_23
      have cA16 : SA oz_R4clsl_2 A A16 := SA_trans (cA10) (SA_gluc (ι := oz_R4clsl_11) oz_R4cls_28 hA16 eA16 (by decide +kernel)) (any_subA (lₚ := []) (by decide +kernel))
      have mA16 := SAm_of cA16 oz_R4cls_24
      refine Ew_of (pcₚ := 20) (fun _ => x_goto rfl rfl) ?_
      exact w_ireturn rfl (k (z16) _ _ _ H O (cF16) (cA16) (show inr (z16) from pz16_0))
abbrev V10 : vV := [(0, 0, [(4, 0), (4, 0), (4, 0), (4, 0), (4, 0), (4, 0), (4, 0), (4, 0), (4, 0), (4, 0), (4, 0), (4, 0), (4, 0), (4, 0), (4, 0), (4, 0), (4, 0), (0, 0), (0, 0)]), (1, 1, [])]
theorem len_V10_oz_R4cls : (V10).length = 2 := by decide +kernel
theorem oz_R4cls_30 : vsub V10 V25 [] = true := by decide +kernel
/-- PackHouse.get: this, this.settings -/
theorem C10 {σE : rS} {D N : Nat → Nat} {F : hF} {A : hA} {d c s : Nat} {Q : wQ} (H : HW V10 σE D N F A) {a1 : Int} (pf1 : HID (F 0 1 = (D 1 : Int))) (n1 : Int) (en1 : HID ((N 1 : Int) = n1)) (h0 : inr (a1)) (h1 : (n1) = 10) (k : ∀ (z : Int) (σ : rS) (Fₚ : hF) (Aₚ : hA), HW V10 σ D N Fₚ Aₚ → OUT (V10).length D N σE c s D N σ c s → SF [] F Fₚ → SA [] A Aₚ → (inr (z)) → Q (some (I z)) σ c s) : Ew 10 (d + 1) 0 (rargs 0 [.ref (D 0), I a1]) [] σE c s Q := by
  have O := OUT_refl (n := (V10).length) (D := D) (N := N) (σ := σE) (c := c) (s := s)
  have HE := H
  have r1 : HID ((0 : Int) ≤ n1 ∧ n1 ≤ 1000000) := nrng (H.nle 1 (ltn len_V10_oz_R4cls rfl)) (show (N 1 : Int) = n1 from en1)
  refine Ew_of (pcₚ := 1) (fun _ => x_iload_n rfl rfl) ?_
  refine w_stat24 rfl rfl (by rfl) (C25 (D := puc 0 D) (N := puc 0 N) (HW_subc H oz_R4cls_30 oz_R4cls_12) (show inr (a1) from h0) (fun z2 σ2 F2ₚ A2ₚ Hₚ Oₚ hS2 hA2 pz2_0 pz2_1 => ⟨rretB rfl pz2_0, ?_⟩))
  refine v_backc (c := c) (s := s) H oz_R4cls_30 oz_R4cls_12 Hₚ Oₚ (fun F2 A2 H Oₚ eF2 eA2 => ?_)
  have O := OUT_trans O Oₚ
  -- PackHouse.isSetting
  have cF2 : SF oz_R4clsl_7 F F2 := SF_trans (SF_refl) (SF_gluc (ι := oz_R4clsl_2) oz_R4cls_12 hS2 eF2 (by decide +kernel)) (any_sub (lₚ := []) (by decide +kernel))
  have mF2 := SFm_of cF2 oz_R4cls_23
  have cA2 : SA oz_R4clsl_2 A A2 := SA_trans (SA_refl) (SA_gluc (ι := oz_R4clsl_2) oz_R4cls_12 hA2 eA2 (by decide +kernel)) (any_subA (lₚ := []) (by decide +kernel))
  have mA2 := SAm_of cA2 oz_R4cls_24
  refine w_ifeq (t := 16) rfl rfl (show inr (z2) from q_15 pz2_0) (fun b3 => ?_) (fun b3 => ?_)
  · refine Ew_of (pcₚ := 17) (fun _ => x_iconst rfl) ?_
    exact w_ireturn rfl (k ((-1)) _ _ _ H O (cF2) (cA2) (show inr ((-1)) from q_16))
  · refine Ew_of (pcₚ := 8) (fun _ => x_aload_n rfl rfl) ?_
    refine v_g H (o := 0) (v := .ref (D 1)) rfl rfl rfl rfl rfl (vrf ((mF2 0 1 rfl).trans (pf1))) ?_
    refine Ew_of (pcₚ := 12) (fun _ => x_iload_n rfl rfl) ?_
    refine v_lI H (o := 1) rfl rfl rfl rfl (n := n1) (en1) (show 0 ≤ a1 ∧ a1 < n1 by have qh0 := HIDe r1; omega) (fun v4 ev4 (qv4 : HID _) => ?_)
    have ev4 : (A 1) (a1) = v4 := (congrFun (funext (mA2 1 rfl)) (a1)).symm.trans ev4
    refine Ew_of (pcₚ := 17) (fun _ => x_goto rfl rfl) ?_
    exact w_ireturn rfl (k (v4) _ _ _ H O (cF2) (cA2) (show inr (v4) from (HIDe qv4)))
abbrev V23 : vV := [(0, 0, [(4, 0), (4, 0), (4, 0), (4, 0), (4, 0), (4, 0), (4, 0), (4, 0), (4, 0), (4, 0), (4, 0), (4, 0), (4, 0), (4, 0), (4, 0), (4, 0), (4, 0), (0, 0), (0, 0)]), (1, 1, [])]
theorem len_V23_oz_R4cls : (V23).length = 2 := by decide +kernel
/-- PackHouse.strayed: this, this.strays -/
theorem C23 {σE : rS} {D N : Nat → Nat} {F : hF} {A : hA} {d c s : Nat} {Q : wQ} (H : HW V23 σE D N F A) {a1 : Int} (pf1 : HID (F 0 16 = (D 1 : Int))) (n1 : Int) (en1 : HID ((N 1 : Int) = n1)) (h0 : inr (a1)) (h1 : (n1) = 2) (k : ∀ (z : Int) (σ : rS) (Fₚ : hF) (Aₚ : hA), HW V23 σ D N Fₚ Aₚ → OUT (V23).length D N σE c s D N σ c s → SF [] F Fₚ → SA [] A Aₚ → (inr (z)) → Q (some (I z)) σ c s) : Ew 23 (d + 0) 0 (rargs 0 [.ref (D 0), I a1]) [] σE c s Q := by
  have O := OUT_refl (n := (V23).length) (D := D) (N := N) (σ := σE) (c := c) (s := s)
  have HE := H
  have r1 : HID ((0 : Int) ≤ n1 ∧ n1 ≤ 1000000) := nrng (H.nle 1 (ltn len_V23_oz_R4cls rfl)) (show (N 1 : Int) = n1 from en1)
  refine Ew_of (pcₚ := 1) (fun _ => x_iload_n rfl rfl) ?_
  have hc9 : ∀ (ls : rO) (σ : rS) (F_c9 : hF) (A_c9 : hA) , rlook ls 0 = some (.ref (D 0)) → rlook ls 1 = some (I (a1)) → HW V23 σ D N F_c9 A_c9 → OUT (V23).length D N σE c s D N σ c s → SF [] F F_c9 → SA [] A A_c9 → (((a1) = (0)) ∨ ((a1) ≠ (0) ∧ (a1) = (1))) → Ew 23 (d + 0) 9 ls [] σ c s Q := by
   as_aux_lemma =>
    intro  ls σ F_c9 A_c9  lc9_0 lc9_1 H O hS_c9 hA_c9     jc9_0
    have cF_c9 : SF oz_R4clsl_7 F F_c9 := SF_trans (SF_refl) hS_c9 (any_sub (by decide +kernel))
    have mF_c9 := SFm_of cF_c9 oz_R4cls_23
    have cA_c9 : SA oz_R4clsl_2 A A_c9 := SA_trans (SA_refl) hA_c9 (any_subA (by decide +kernel))
    have mA_c9 := SAm_of cA_c9 oz_R4cls_24
    refine Ew_of (pcₚ := 10) (fun _ => x_aload_n rfl lc9_0) ?_
    refine v_g H (o := 0) (v := .ref (D 1)) rfl rfl rfl rfl rfl (vrf ((mF_c9 0 16 rfl).trans (pf1))) ?_
    refine Ew_of (pcₚ := 14) (fun _ => x_iload_n rfl lc9_1) ?_
    refine v_lI H (o := 1) rfl rfl rfl rfl (n := n1) (en1) (show 0 ≤ a1 ∧ a1 < n1 from q_4234 (HIDe r1) h1 jc9_0) (fun v2 ev2 (qv2 : HID _) => ?_)
    have ev2 : (A 1) (a1) = v2 := (congrFun (funext (mA_c9 1 rfl)) (a1)).symm.trans ev2
    refine Ew_of (pcₚ := 19) (fun _ => x_goto rfl rfl) ?_
    exact w_ireturn rfl (k (v2) _ _ _ H O (cF_c9) (cA_c9) (show inr (v2) from (HIDe qv2)))
  refine w_ifeq (t := 9) rfl rfl (show inr (a1) from h0) (fun b3 => ?_) (fun b3 => ?_)
  · exact hc9  _ _ _ _  (rfl) (rfl) H O (SF_refl) (SA_refl)     (show ((a1) = (0)) ∨ ((a1) ≠ (0) ∧ (a1) = (1)) from q_4235 b3)
  · refine Ew_of (pcₚ := 5) (fun _ => x_iload_n rfl rfl) ?_
    refine Ew_of (pcₚ := 6) (fun _ => x_iconst rfl) ?_
    refine w_icmpne (t := 18) rfl rfl (show inr (a1) from h0) (show inr (1) from q_23) (fun b4 => ?_) (fun b4 => ?_)
    · refine Ew_of (pcₚ := 19) (fun _ => x_iconst rfl) ?_
      exact w_ireturn rfl (k ((-1)) _ _ _ H O (SF_refl) (SA_refl) (show inr ((-1)) from q_16))
    · exact hc9  _ _ _ _  (rfl) (rfl) H O (SF_refl) (SA_refl)     (show ((a1) = (0)) ∨ ((a1) ≠ (0) ∧ (a1) = (1)) from q_4236 b3 b4)
abbrev V22 : vV := [(0, 0, [(4, 0), (4, 0), (4, 0), (4, 0), (4, 0), (4, 0), (4, 0), (4, 0), (4, 0), (4, 0), (4, 0), (4, 0), (4, 0), (4, 0), (4, 0), (4, 0), (4, 0), (0, 0), (0, 0)]), (1, 1, []), (1, 1, []), (0, 4, [(4, 0), (4, 0), (0, 0), (4, 0), (4, 0)]), (0, 7, [(4, 0), (0, 0), (1, 0), (0, 0), (0, 0)]), (0, 7, [(4, 0), (0, 0), (1, 0), (0, 0), (0, 0)])]
theorem len_V22_oz_R4cls : (V22).length = 6 := by decide +kernel
/-- PackHouse.about: this, this.packCounts, this.readCounts, this.dictionary, this.dictionary.content, this.past -/
theorem C22 {σE : rS} {D N : Nat → Nat} {F : hF} {A : hA} {d c s : Nat} {Q : wQ} (H : HW V22 σE D N F A) {a1 : Int} (pf1 : HID (F 0 13 = (D 1 : Int))) (pf2 : HID (F 0 14 = (D 2 : Int))) (pf3 : HID (F 0 3 = (D 3 : Int))) (pf4 : HID (F 3 0 = (D 4 : Int))) (pf5 : HID (F 0 2 = (D 5 : Int))) (n1 : Int) (en1 : HID ((N 1 : Int) = n1)) (n2 : Int) (en2 : HID ((N 2 : Int) = n2)) (h0 : inr (a1)) (h1 : (n1) = 13) (h2 : (n2) = 5) (k : ∀ (z : Int) (σ : rS) (Fₚ : hF) (Aₚ : hA), HW V22 σ D N Fₚ Aₚ → OUT (V22).length D N σE c s D N σ c s → SF [] F Fₚ → SA [] A Aₚ → (inr (z)) → Q (some (I z)) σ c s) : Ew 22 (d + 0) 0 (rargs 0 [.ref (D 0), I a1]) [] σE c s Q := by
  have O := OUT_refl (n := (V22).length) (D := D) (N := N) (σ := σE) (c := c) (s := s)
  have HE := H
  refine Ew_of (pcₚ := 1) (fun _ => x_iload_n rfl rfl) ?_
  refine w_ifne (t := 9) rfl rfl (show inr (a1) from h0) (fun b3 => ?_) (fun b3 => ?_)
  · refine Ew_of (pcₚ := 10) (fun _ => x_iload_n rfl rfl) ?_
    refine Ew_of (pcₚ := 11) (fun _ => x_iconst rfl) ?_
    have hc27 : ∀ (ls : rO) (σ : rS) (F_c27 : hF) (A_c27 : hA) , rlook ls 0 = some (.ref (D 0)) → rlook ls 1 = some (I (a1)) → HW V22 σ D N F_c27 A_c27 → OUT (V22).length D N σE c s D N σ c s → SF [] F F_c27 → SA [] A A_c27 → (((a1) < (1)) ∨ ((a1) ≥ (1) ∧ (a1) > (12))) → Ew 22 (d + 0) 27 ls [] σ c s Q := by
     as_aux_lemma =>
      intro  ls σ F_c27 A_c27  lc27_0 lc27_1 H O hS_c27 hA_c27     jc27_0
      have cF_c27 : SF oz_R4clsl_7 F F_c27 := SF_trans (SF_refl) hS_c27 (any_sub (by decide +kernel))
      have mF_c27 := SFm_of cF_c27 oz_R4cls_23
      have cA_c27 : SA oz_R4clsl_2 A A_c27 := SA_trans (SA_refl) hA_c27 (any_subA (by decide +kernel))
      have mA_c27 := SAm_of cA_c27 oz_R4cls_24
      refine Ew_of (pcₚ := 28) (fun _ => x_iload_n rfl lc27_1) ?_
      refine Ew_of (pcₚ := 30) (fun _ => x_bipush (z := 13) rfl (by decide)) ?_
      have hc49 : ∀ (ls : rO) (σ : rS) (F_c49 : hF) (A_c49 : hA) , rlook ls 0 = some (.ref (D 0)) → rlook ls 1 = some (I (a1)) → HW V22 σ D N F_c49 A_c49 → OUT (V22).length D N σE c s D N σ c s → SF [] F_c27 F_c49 → SA [] A_c27 A_c49 → (((a1) < (13)) ∨ ((a1) ≥ (13) ∧ (a1) > (17))) → Ew 22 (d + 0) 49 ls [] σ c s Q := by
       as_aux_lemma =>
        intro  ls σ F_c49 A_c49  lc49_0 lc49_1 H O hS_c49 hA_c49     jc49_0
        have cF_c49 : SF oz_R4clsl_7 F F_c49 := SF_trans (cF_c27) hS_c49 (any_sub (by decide +kernel))
        have mF_c49 := SFm_of cF_c49 oz_R4cls_23
        have cA_c49 : SA oz_R4clsl_2 A A_c49 := SA_trans (cA_c27) hA_c49 (any_subA (by decide +kernel))
        have mA_c49 := SAm_of cA_c49 oz_R4cls_24
        refine Ew_of (pcₚ := 50) (fun _ => x_iload_n rfl lc49_1) ?_
        by_cases b4 : a1 = 18
        · refine w_tsk 0 76 rfl (show inr (a1) from h0) (by omega) (by decide) rfl rfl ?_
          refine Ew_of (pcₚ := 77) (fun _ => x_aload_n rfl lc49_0) ?_
          refine v_g H (o := 0) (v := .ref (D 5)) rfl rfl rfl rfl rfl (vrf ((mF_c49 0 2 rfl).trans (pf5))) ?_
          have r5 : HID ((-2147483648 : Int) ≤ F 5 1 ∧ F 5 1 ≤ 2147483647) := krg_e (show (-2147483648 : Int) ≤ F_c49 5 1 ∧ F_c49 5 1 ≤ 2147483647 from H.krg 5 1 (ltn len_V22_oz_R4cls rfl)) (show F_c49 5 1 = F 5 1 from (mF_c49 5 1 rfl))
          refine v_g H (o := 5) (v := I (F 5 1)) rfl rfl rfl rfl rfl (congrArg (fun z : Int => I z) ((mF_c49 5 1 rfl) : F_c49 5 1 = F 5 1)) ?_
          exact w_ireturn rfl (k (F 5 1) _ _ _ H O (cF_c49) (cA_c49) (show inr (F 5 1) from q_22 (HIDe r5)))
        ·
          by_cases b6 : a1 = 19
          · refine w_tsk 1 84 rfl (show inr (a1) from h0) (by omega) (by decide) rfl rfl ?_
            refine Ew_of (pcₚ := 85) (fun _ => x_aload_n rfl lc49_0) ?_
            refine v_g H (o := 0) (v := .ref (D 3)) rfl rfl rfl rfl rfl (vrf ((mF_c49 0 3 rfl).trans (pf3))) ?_
            refine v_g H (o := 3) (v := .ref (D 4)) rfl rfl rfl rfl rfl (vrf ((mF_c49 3 0 rfl).trans (pf4))) ?_
            have r7 : HID ((-2147483648 : Int) ≤ F 4 1 ∧ F 4 1 ≤ 2147483647) := krg_e (show (-2147483648 : Int) ≤ F_c49 4 1 ∧ F_c49 4 1 ≤ 2147483647 from H.krg 4 1 (ltn len_V22_oz_R4cls rfl)) (show F_c49 4 1 = F 4 1 from (mF_c49 4 1 rfl))
            refine v_g H (o := 4) (v := I (F 4 1)) rfl rfl rfl rfl rfl (congrArg (fun z : Int => I z) ((mF_c49 4 1 rfl) : F_c49 4 1 = F 4 1)) ?_
            exact w_ireturn rfl (k (F 4 1) _ _ _ H O (cF_c49) (cA_c49) (show inr (F 4 1) from q_22 (HIDe r7)))
          ·
            by_cases b8 : a1 = 20
            · refine w_tsk 2 95 rfl (show inr (a1) from h0) (by omega) (by decide) rfl rfl ?_
              refine Ew_of (pcₚ := 96) (fun _ => x_aload_n rfl lc49_0) ?_
              refine v_g H (o := 0) (v := .ref (D 3)) rfl rfl rfl rfl rfl (vrf ((mF_c49 0 3 rfl).trans (pf3))) ?_
              have r9 : HID ((-2147483648 : Int) ≤ F 3 2 ∧ F 3 2 ≤ 2147483647) := krg_e (show (-2147483648 : Int) ≤ F_c49 3 2 ∧ F_c49 3 2 ≤ 2147483647 from H.krg 3 2 (ltn len_V22_oz_R4cls rfl)) (show F_c49 3 2 = F 3 2 from (mF_c49 3 2 rfl))
              refine v_g H (o := 3) (v := I (F 3 2)) rfl rfl rfl rfl rfl (congrArg (fun z : Int => I z) ((mF_c49 3 2 rfl) : F_c49 3 2 = F 3 2)) ?_
              exact w_ireturn rfl (k (F 3 2) _ _ _ H O (cF_c49) (cA_c49) (show inr (F 3 2) from q_22 (HIDe r9)))
            ·
              refine w_tsd 103 rfl (show inr (a1) from h0) (by omega) rfl ?_
              refine Ew_of (pcₚ := 104) (fun _ => x_iconst rfl) ?_
              exact w_ireturn rfl (k ((-1)) _ _ _ H O (cF_c49) (cA_c49) (show inr ((-1)) from q_16))
      refine w_icmplt (t := 49) rfl rfl (show inr (a1) from h0) (show inr (13) from q_90) (fun b10 => ?_) (fun b10 => ?_)
      · exact hc49  _ _ _ _  (lc27_0) (lc27_1) H O (SF_refl) (SA_refl)     (show ((a1) < (13)) ∨ ((a1) ≥ (13) ∧ (a1) > (17)) from q_4237 b10)
      · refine Ew_of (pcₚ := 34) (fun _ => x_iload_n rfl lc27_1) ?_
        refine Ew_of (pcₚ := 36) (fun _ => x_bipush (z := 17) rfl (by decide)) ?_
        refine w_icmpgt (t := 49) rfl rfl (show inr (a1) from h0) (show inr (17) from q_342) (fun b11 => ?_) (fun b11 => ?_)
        · exact hc49  _ _ _ _  (lc27_0) (lc27_1) H O (SF_refl) (SA_refl)     (show ((a1) < (13)) ∨ ((a1) ≥ (13) ∧ (a1) > (17)) from q_4238 b11)
        · refine Ew_of (pcₚ := 40) (fun _ => x_aload_n rfl lc27_0) ?_
          refine v_g H (o := 0) (v := .ref (D 2)) rfl rfl rfl rfl rfl (vrf ((mF_c27 0 14 rfl).trans (pf2))) ?_
          refine Ew_of (pcₚ := 44) (fun _ => x_iload_n rfl lc27_1) ?_
          refine Ew_of (pcₚ := 46) (fun _ => x_bipush (z := 13) rfl (by decide)) ?_
          refine w_isub rfl ?_
          refine v_lI H (o := 2) rfl rfl rfl rfl (n := n2) (en2) (show 0 ≤ (a1 - 13) ∧ (a1 - 13) < n2 from q_4239 b10 b11 h2) (fun v12 ev12 (qv12 : HID _) => ?_)
          have ev12 : (A 2) ((a1 - 13)) = v12 := (congrFun (funext (mA_c27 2 rfl)) ((a1 - 13))).symm.trans ev12
          exact w_ireturn rfl (k (v12) _ _ _ H O (cF_c27) (cA_c27) (show inr (v12) from (HIDe qv12)))
    refine w_icmplt (t := 27) rfl rfl (show inr (a1) from h0) (show inr (1) from q_23) (fun b13 => ?_) (fun b13 => ?_)
    · exact hc27  _ _ _ _  (rfl) (rfl) H O (SF_refl) (SA_refl)     (show ((a1) < (1)) ∨ ((a1) ≥ (1) ∧ (a1) > (12)) from q_4240 b13)
    · refine Ew_of (pcₚ := 15) (fun _ => x_iload_n rfl rfl) ?_
      refine Ew_of (pcₚ := 17) (fun _ => x_bipush (z := 12) rfl (by decide)) ?_
      refine w_icmpgt (t := 27) rfl rfl (show inr (a1) from h0) (show inr (12) from q_356) (fun b14 => ?_) (fun b14 => ?_)
      · exact hc27  _ _ _ _  (rfl) (rfl) H O (SF_refl) (SA_refl)     (show ((a1) < (1)) ∨ ((a1) ≥ (1) ∧ (a1) > (12)) from q_4241 b14)
      · refine Ew_of (pcₚ := 21) (fun _ => x_aload_n rfl rfl) ?_
        refine v_g H (o := 0) (v := .ref (D 1)) rfl rfl rfl rfl rfl (vrf (pf1)) ?_
        refine Ew_of (pcₚ := 25) (fun _ => x_iload_n rfl rfl) ?_
        refine v_lI H (o := 1) rfl rfl rfl rfl (n := n1) (en1) (show 0 ≤ a1 ∧ a1 < n1 from q_4242 b13 b14 h1) (fun v15 ev15 (qv15 : HID _) => ?_)
        have ev15 : (A 1) (a1) = v15 := (congrFun (rfl : A 1 = A 1) (a1)).symm.trans ev15
        exact w_ireturn rfl (k (v15) _ _ _ H O (SF_refl) (SA_refl) (show inr (v15) from (HIDe qv15)))
  · refine Ew_of (pcₚ := 5) (fun _ => x_aload_n rfl rfl) ?_
    have r16 : HID ((-2147483648 : Int) ≤ F 0 18 ∧ F 0 18 ≤ 2147483647) := krg_e (show (-2147483648 : Int) ≤ F 0 18 ∧ F 0 18 ≤ 2147483647 from H.krg 0 18 (ltn len_V22_oz_R4cls rfl)) (show F 0 18 = F 0 18 from rfl)
    refine v_g H (o := 0) (v := I (F 0 18)) rfl rfl rfl rfl rfl (congrArg (fun z : Int => I z) (rfl : F 0 18 = F 0 18)) ?_
    exact w_ireturn rfl (k (F 0 18) _ _ _ H O (SF_refl) (SA_refl) (show inr (F 0 18) from q_22 (HIDe r16)))
abbrev V30 : vV := [(0, 0, [(4, 0), (4, 0), (4, 0), (4, 0), (4, 0), (4, 0), (4, 0), (4, 0), (4, 0), (4, 0), (4, 0), (4, 0), (4, 0), (4, 0), (4, 0), (4, 0), (4, 0), (0, 0), (0, 0)]), (0, 7, [(4, 0), (0, 0), (1, 0), (0, 0), (0, 0)]), (0, 4, [(4, 0), (4, 0), (0, 0), (4, 0), (4, 0)]), (0, 7, [(4, 0), (0, 0), (1, 0), (0, 0), (0, 0)])]
theorem len_V30_oz_R4cls : (V30).length = 4 := by decide +kernel
/-- PackHouse.bytesAhead: this, this.past, this.dictionary, this.dictionary.content -/
theorem C30 {σE : rS} {D N : Nat → Nat} {F : hF} {A : hA} {d c s : Nat} {Q : wQ} (H : HW V30 σE D N F A) {a1 : Int} (pf1 : HID (F 0 2 = (D 1 : Int))) (pf2 : HID (F 0 3 = (D 2 : Int))) (pf3 : HID (F 2 0 = (D 3 : Int))) (u1_1 : Int) (eu1_1 : HID (F 1 1 = u1_1)) (u3_1 : Int) (eu3_1 : HID (F 3 1 = u3_1)) (h0 : inr (a1)) (k : ∀ (z : Int) (σ : rS) (Fₚ : hF) (Aₚ : hA), HW V30 σ D N Fₚ Aₚ → OUT (V30).length D N σE c s D N σ c s → SF [] F Fₚ → SA [] A Aₚ → (inr (z)) → (0 ≤ (a1) ∧ (a1) ≤ 1 ∧ (z) = (u1_1) ∨ (a1) = 4 ∧ (z) = (u3_1) ∨ ((a1) < 0 ∨ (a1) = 2 ∨ (a1) = 3 ∨ 5 ≤ (a1)) ∧ (z) = 0) → Q (some (I z)) σ c s) : Ew 30 (d + 0) 0 (rargs 0 [.ref (D 0), I a1]) [] σE c s Q := by
  have O := OUT_refl (n := (V30).length) (D := D) (N := N) (σ := σE) (c := c) (s := s)
  have HE := H
  have r1 : HID ((-2147483648 : Int) ≤ u1_1 ∧ u1_1 ≤ 2147483647) := krg_e (show (-2147483648 : Int) ≤ F 1 1 ∧ F 1 1 ≤ 2147483647 from H.krg 1 1 (ltn len_V30_oz_R4cls rfl)) (show F 1 1 = u1_1 from (eu1_1))
  have r2 : HID ((-2147483648 : Int) ≤ u3_1 ∧ u3_1 ≤ 2147483647) := krg_e (show (-2147483648 : Int) ≤ F 3 1 ∧ F 3 1 ≤ 2147483647 from H.krg 3 1 (ltn len_V30_oz_R4cls rfl)) (show F 3 1 = u3_1 from (eu3_1))
  refine Ew_of (pcₚ := 1) (fun _ => x_iload_n rfl rfl) ?_
  refine w_ifeq (t := 9) rfl rfl (show inr (a1) from h0) (fun b3 => ?_) (fun b3 => ?_)
  · refine Ew_of (pcₚ := 10) (fun _ => x_aload_n rfl rfl) ?_
    refine v_g H (o := 0) (v := .ref (D 1)) rfl rfl rfl rfl rfl (vrf (pf1)) ?_
    refine v_g H (o := 1) (v := I (u1_1)) rfl rfl rfl rfl rfl (congrArg (fun z : Int => I z) ((eu1_1) : F 1 1 = u1_1)) ?_
    exact w_ireturn rfl (k (u1_1) _ _ _ H O (SF_refl) (SA_refl) (show inr (u1_1) from q_22 (HIDe r1)) (show 0 ≤ a1 ∧ a1 ≤ 1 ∧ (u1_1) = (u1_1) ∨ a1 = 4 ∧ (u1_1) = (u3_1) ∨ (a1 < 0 ∨ a1 = 2 ∨ a1 = 3 ∨ 5 ≤ a1) ∧ (u1_1) = 0 from q_4243 b3))
  · refine Ew_of (pcₚ := 5) (fun _ => x_iload_n rfl rfl) ?_
    refine Ew_of (pcₚ := 6) (fun _ => x_iconst rfl) ?_
    refine w_icmpne (t := 17) rfl rfl (show inr (a1) from h0) (show inr (1) from q_23) (fun b4 => ?_) (fun b4 => ?_)
    · refine Ew_of (pcₚ := 18) (fun _ => x_iload_n rfl rfl) ?_
      refine Ew_of (pcₚ := 19) (fun _ => x_iconst rfl) ?_
      refine w_icmpne (t := 35) rfl rfl (show inr (a1) from h0) (show inr (4) from q_2) (fun b5 => ?_) (fun b5 => ?_)
      · refine Ew_of (pcₚ := 36) (fun _ => x_iconst rfl) ?_
        exact w_ireturn rfl (k (0) _ _ _ H O (SF_refl) (SA_refl) (show inr (0) from q_20) (show 0 ≤ a1 ∧ a1 ≤ 1 ∧ (0) = (u1_1) ∨ a1 = 4 ∧ (0) = (u3_1) ∨ (a1 < 0 ∨ a1 = 2 ∨ a1 = 3 ∨ 5 ≤ a1) ∧ (0) = 0 by have qh0 := HIDe r1; have qh1 := HIDe r2; omega))
      · refine Ew_of (pcₚ := 23) (fun _ => x_aload_n rfl rfl) ?_
        refine v_g H (o := 0) (v := .ref (D 2)) rfl rfl rfl rfl rfl (vrf (pf2)) ?_
        refine v_g H (o := 2) (v := .ref (D 3)) rfl rfl rfl rfl rfl (vrf (pf3)) ?_
        refine v_g H (o := 3) (v := I (u3_1)) rfl rfl rfl rfl rfl (congrArg (fun z : Int => I z) ((eu3_1) : F 3 1 = u3_1)) ?_
        refine Ew_of (pcₚ := 36) (fun _ => x_goto rfl rfl) ?_
        exact w_ireturn rfl (k (u3_1) _ _ _ H O (SF_refl) (SA_refl) (show inr (u3_1) from q_22 (HIDe r2)) (show 0 ≤ a1 ∧ a1 ≤ 1 ∧ (u3_1) = (u1_1) ∨ a1 = 4 ∧ (u3_1) = (u3_1) ∨ (a1 < 0 ∨ a1 = 2 ∨ a1 = 3 ∨ 5 ≤ a1) ∧ (u3_1) = 0 from q_4244 b5))
    · refine Ew_of (pcₚ := 10) (fun _ => x_aload_n rfl rfl) ?_
      refine v_g H (o := 0) (v := .ref (D 1)) rfl rfl rfl rfl rfl (vrf (pf1)) ?_
      refine v_g H (o := 1) (v := I (u1_1)) rfl rfl rfl rfl rfl (congrArg (fun z : Int => I z) ((eu1_1) : F 1 1 = u1_1)) ?_
      exact w_ireturn rfl (k (u1_1) _ _ _ H O (SF_refl) (SA_refl) (show inr (u1_1) from q_22 (HIDe r1)) (show 0 ≤ a1 ∧ a1 ≤ 1 ∧ (u1_1) = (u1_1) ∨ a1 = 4 ∧ (u1_1) = (u3_1) ∨ (a1 < 0 ∨ a1 = 2 ∨ a1 = 3 ∨ 5 ≤ a1) ∧ (u1_1) = 0 from q_4245 b4))
abbrev V31 : vV := [(0, 0, [(4, 0), (4, 0), (4, 0), (4, 0), (4, 0), (4, 0), (4, 0), (4, 0), (4, 0), (4, 0), (4, 0), (4, 0), (4, 0), (4, 0), (4, 0), (4, 0), (4, 0), (0, 0), (0, 0)]), (1, 4, []), (0, 7, [(4, 0), (0, 0), (1, 0), (0, 0), (0, 0)]), (1, 0, []), (0, 7, [(4, 0), (0, 0), (1, 0), (0, 0), (0, 0)]), (1, 0, []), (0, 7, [(4, 0), (0, 0), (1, 0), (0, 0), (0, 0)]), (1, 0, []), (0, 7, [(4, 0), (0, 0), (1, 0), (0, 0), (0, 0)]), (1, 0, []), (0, 7, [(4, 0), (0, 0), (1, 0), (0, 0), (0, 0)]), (1, 0, [])]
theorem len_V31_oz_R4cls : (V31).length = 12 := by decide +kernel
theorem oz_R4cls_35 : vsub V31 V158_Row [2, 10, 3, 11] = true := by decide +kernel
theorem oz_R4cls_36 : vmov V31 [2, 10, 3, 11] [2] = true := by decide +kernel
theorem oz_R4cls_37 : vsub V31 V158_Row [4, 10, 5, 11] = true := by decide +kernel
theorem oz_R4cls_38 : vmov V31 [4, 10, 5, 11] [2] = true := by decide +kernel
theorem oz_R4cls_39 : vsub V31 V158_Row [6, 10, 7, 11] = true := by decide +kernel
theorem oz_R4cls_40 : vmov V31 [6, 10, 7, 11] [2] = true := by decide +kernel
theorem oz_R4cls_41 : vsub V31 V158_Row [8, 10, 9, 11] = true := by decide +kernel
theorem oz_R4cls_42 : vmov V31 [8, 10, 9, 11] [2] = true := by decide +kernel
def oz_R4clsl_12 : List (Nat × Nat) := [(0, 18), (2, 0), (2, 1), (2, 2), (2, 3), (2, 4), (4, 0), (4, 1), (4, 2), (4, 3), (4, 4), (6, 0), (6, 1), (6, 2), (6, 3), (6, 4), (8, 0), (8, 1), (8, 2), (8, 3), (8, 4)]
theorem oz_R4cls_43 : (oz_R4clsl_12).all (fun p => !tbz 3589554766356802058325290689066312247140827750128844236490294584920361899655168 (Nat.add (Nat.mul 32 p.1) p.2)) = true := by decide +kernel
def oz_R4clsl_13 : List Nat := [3, 5, 7, 9]
theorem oz_R4cls_44 : (oz_R4clsl_13).all (fun p => !tbz 680 p) = true := by decide +kernel
def oz_R4clsl_14 : List Nat := [2, 10, 3, 11]
theorem oz_R4cls_45 : okc oz_R4clsl_14 1477186562 = true := by decide +kernel
def oz_R4clsl_15 : List Nat := [4, 10, 5, 11]
theorem oz_R4cls_46 : okc oz_R4clsl_15 1477710852 = true := by decide +kernel
def oz_R4clsl_16 : List Nat := [6, 10, 7, 11]
theorem oz_R4cls_47 : okc oz_R4clsl_16 1478235142 = true := by decide +kernel
def oz_R4clsl_17 : List Nat := [8, 10, 9, 11]
theorem oz_R4cls_48 : okc oz_R4clsl_17 1478759432 = true := by decide +kernel
/-- PackHouse.settle: this, this.rows, this.rows.0, this.rows.0.bytes, this.rows.1, this.rows.1.bytes, this.rows.2, this.rows.2.bytes, this.rows.3, this.rows.3.bytes, this.content, this.content.bytes -/
theorem C31 {σE : rS} {D N : Nat → Nat} {F : hF} {A : hA} {d c s : Nat} {Q : wQ} (H : HW V31 σE D N F A) {a1 a2 : Int} (pf1 : HID (F 0 0 = (D 1 : Int))) (pf2 : HID (A 1 0 = (D 2 : Int))) (pf3 : HID (F 2 0 = (D 3 : Int))) (pf4 : HID (A 1 1 = (D 4 : Int))) (pf5 : HID (F 4 0 = (D 5 : Int))) (pf6 : HID (A 1 2 = (D 6 : Int))) (pf7 : HID (F 6 0 = (D 7 : Int))) (pf8 : HID (A 1 3 = (D 8 : Int))) (pf9 : HID (F 8 0 = (D 9 : Int))) (pf10 : HID (F 0 6 = (D 10 : Int))) (pf11 : HID (F 10 0 = (D 11 : Int))) (n1 : Int) (en1 : HID ((N 1 : Int) = n1)) (n3 : Int) (en3 : HID ((N 3 : Int) = n3)) (n5 : Int) (en5 : HID ((N 5 : Int) = n5)) (n7 : Int) (en7 : HID ((N 7 : Int) = n7)) (n9 : Int) (en9 : HID ((N 9 : Int) = n9)) (n11 : Int) (en11 : HID ((N 11 : Int) = n11)) (u2_1 : Int) (eu2_1 : HID (F 2 1 = u2_1)) (u4_1 : Int) (eu4_1 : HID (F 4 1 = u4_1)) (u6_1 : Int) (eu6_1 : HID (F 6 1 = u6_1)) (u8_1 : Int) (eu8_1 : HID (F 8 1 = u8_1)) (u10_1 : Int) (eu10_1 : HID (F 10 1 = u10_1)) (h0 : inr (a1)) (h1 : inr (a2)) (h2 : (n1) = 4) (h3 : 0 ≤ (u2_1) ∧ (u2_1) ≤ (n3) ∧ (n3) ≤ 65536) (h4 : 0 ≤ (u4_1) ∧ (u4_1) ≤ (n5) ∧ (n5) ≤ 65536) (h5 : 0 ≤ (u6_1) ∧ (u6_1) ≤ (n7) ∧ (n7) ≤ 65536) (h6 : 0 ≤ (u8_1) ∧ (u8_1) ≤ (n9) ∧ (n9) ≤ 65536) (h7 : 0 ≤ (u10_1) ∧ (u10_1) ≤ (n11) ∧ (n11) ≤ 65536) (h8 : 0 ≤ (a1) ∧ (a1) ≤ 3) (k : ∀ (z : Int) (σ : rS) (Dₚ Nₚ : Nat → Nat) (Fₚ : hF) (Aₚ : hA) (cₚ sₚ : Nat), HW V31 σ Dₚ Nₚ Fₚ Aₚ → OUT (V31).length D N σE c s Dₚ Nₚ σ cₚ sₚ → SD [3, 5, 7, 9] D Dₚ → SD [3, 5, 7, 9] N Nₚ → SF [(0, 18), (2, 0), (2, 1), (2, 2), (2, 3), (2, 4), (4, 0), (4, 1), (4, 2), (4, 3), (4, 4), (6, 0), (6, 1), (6, 2), (6, 3), (6, 4), (8, 0), (8, 1), (8, 2), (8, 3), (8, 4)] F Fₚ → SA [3, 5, 7, 9] A Aₚ → Fₚ 2 0 = (Dₚ 3 : Int) → Fₚ 4 0 = (Dₚ 5 : Int) → Fₚ 6 0 = (Dₚ 7 : Int) → Fₚ 8 0 = (Dₚ 9 : Int) → ∀ m3 : Int, (Nₚ 3 : Int) = m3 → ∀ m5 : Int, (Nₚ 5 : Int) = m5 → ∀ m7 : Int, (Nₚ 7 : Int) = m7 → ∀ m9 : Int, (Nₚ 9 : Int) = m9 → ∀ y2_1 : Int, Fₚ 2 1 = y2_1 → ∀ y4_1 : Int, Fₚ 4 1 = y4_1 → ∀ y6_1 : Int, Fₚ 6 1 = y6_1 → ∀ y8_1 : Int, Fₚ 8 1 = y8_1 → (inr (z)) → (0 ≤ (y2_1) ∧ (y2_1) ≤ (m3) ∧ (m3) ≤ 65536) → (0 ≤ (y4_1) ∧ (y4_1) ≤ (m5) ∧ (m5) ≤ 65536) → (0 ≤ (y6_1) ∧ (y6_1) ≤ (m7) ∧ (m7) ≤ 65536) → (0 ≤ (y8_1) ∧ (y8_1) ≤ (m9) ∧ (m9) ≤ 65536) → (0 ≤ (u10_1) ∧ (u10_1) ≤ (n11) ∧ (n11) ≤ 65536) → Q (some (I z)) σ cₚ sₚ) : Ew 31 (d + 4) 0 (rargs 0 [.ref (D 0), I a1, I a2]) [] σE c s Q := by
  have O := OUT_refl (n := (V31).length) (D := D) (N := N) (σ := σE) (c := c) (s := s)
  have HE := H
  have r6 : HID ((0 : Int) ≤ n1 ∧ n1 ≤ 1000000) := nrng (H.nle 1 (ltn len_V31_oz_R4cls rfl)) (show (N 1 : Int) = n1 from en1)
  refine Ew_of (pcₚ := 1) (fun _ => x_aload_n rfl rfl) ?_
  refine Ew_of (pcₚ := 2) (fun _ => x_aload_n rfl rfl) ?_
  have r12 : HID ((-2147483648 : Int) ≤ F 0 17 ∧ F 0 17 ≤ 2147483647) := krg_e (show (-2147483648 : Int) ≤ F 0 17 ∧ F 0 17 ≤ 2147483647 from H.krg 0 17 (ltn len_V31_oz_R4cls rfl)) (show F 0 17 = F 0 17 from rfl)
  refine v_g H (o := 0) (v := I (F 0 17)) rfl rfl rfl rfl rfl (congrArg (fun z : Int => I z) (rfl : F 0 17 = F 0 17)) ?_
  refine v_p H (o := 0) (z := F 0 17) (v := I (F 0 17)) rfl rfl rfl rfl rfl rfl rfl rfl (show (-2147483648 : Int) ≤ F 0 17 ∧ F 0 17 ≤ 2147483647 from (HIDe r12)) (fun σ H Oₚ => ?_)
  have O := OUT_trans O Oₚ
  have cFu13 : SF oz_R4clsl_12 F (updF F 0 18 (F 0 17)) := SF_upd (SF_refl) rfl
  have mFu13 := SFm_of cFu13 oz_R4cls_43
  refine Ew_of (pcₚ := 9) (fun _ => x_iload_n rfl rfl) ?_
  refine w_iflt (t := 25) rfl rfl (show inr (a2) from h1) (fun b14 => ?_) (fun b14 => ?_)
  · refine Ew_of (pcₚ := 26) (fun _ => x_iload_n rfl rfl) ?_
    exact w_ireturn rfl (k (a2) _ _ _ _ _ _ _ H O (SD_refl) (SD_refl) (cFu13) (SA_refl) (pf3) (pf5) (pf7) (pf9) (n3) (en3) (n5) (en5) (n7) (en7) (n9) (en9) (u2_1) ((eu2_1)) (u4_1) ((eu4_1)) (u6_1) ((eu6_1)) (u8_1) ((eu8_1)) (show inr (a2) from h1) (show 0 ≤ (u2_1) ∧ (u2_1) ≤ (n3) ∧ (n3) ≤ 65536 from h3) (show 0 ≤ (u4_1) ∧ (u4_1) ≤ (n5) ∧ (n5) ≤ 65536 from h4) (show 0 ≤ (u6_1) ∧ (u6_1) ≤ (n7) ∧ (n7) ≤ 65536 from h5) (show 0 ≤ (u8_1) ∧ (u8_1) ≤ (n9) ∧ (n9) ≤ 65536 from h6) (show 0 ≤ (u10_1) ∧ (u10_1) ≤ (n11) ∧ (n11) ≤ 65536 from h7))
  · refine Ew_of (pcₚ := 13) (fun _ => x_aload_n rfl rfl) ?_
    refine v_g H (o := 0) (v := .ref (D 1)) rfl rfl rfl rfl rfl (vrf ((mFu13 0 0 rfl).trans (pf1))) ?_
    refine Ew_of (pcₚ := 17) (fun _ => x_iload_n rfl rfl) ?_
    rcases (show a1 = 0 ∨ a1 = 1 ∨ a1 = 2 ∨ a1 = 3 by omega) with b15 | b15 | b15 | b15
    · refine v_lR H (o := 1) rfl rfl rfl rfl rfl (n := n1) (en1) (show 0 ≤ a1 ∧ a1 < n1 from q_4246 (HIDe r6) b15 h2 h8) (z := ((D 2 : Nat) : Int)) (v := .ref (D 2)) ((congrArg (A 1) b15).trans (pf2)) (vrf rfl) ?_
      refine Ew_of (pcₚ := 19) (fun _ => x_aload_n rfl rfl) ?_
      refine v_g H (o := 0) (v := .ref (D 10)) rfl rfl rfl rfl rfl (vrf ((mFu13 0 6 rfl).trans (pf10))) ?_
      refine v_inv H (o := 2) rfl rfl rfl rfl rfl rfl (by rfl) (C158_Row (D := puc 1477186562 D) (N := puc 1477186562 N) (HW_subc H oz_R4cls_35 oz_R4cls_45) (pf3) ((mFu13 10 0 rfl).trans (pf11)) (n3) (en3) (n11) (en11) (u2_1) ((eu2_1)) (u10_1) (((mFu13 10 1 rfl).trans (eu10_1))) (show 0 ≤ (u2_1) ∧ (u2_1) ≤ (n3) ∧ (n3) ≤ 65536 from h3) (show 0 ≤ (u10_1) ∧ (u10_1) ≤ (n11) ∧ (n11) ≤ 65536 from h7) (fun σ16 D16ₚ N16ₚ F16ₚ A16ₚ c16 s16 Hₚ Oₚ hD16 hN16 hS16 hA16 (pm16_2 : HID _) m16_2 (em16_2 : HID _) y16_0_1 (ey16_0_1 : HID _) pz16_0 pz16_1 => ⟨rfl, ?_⟩))
      refine v_backMc (c := c) (s := s) H oz_R4cls_35 oz_R4cls_45 Hₚ Oₚ hD16 oz_R4cls_36 (fun D16 N16 F16 A16 H Oₚ eD16 eN16 eF16 eA16 => ?_)
      have O := OUT_trans O Oₚ
      -- Row.become
      have cF16 : SF oz_R4clsl_12 F F16 := SF_trans (cFu13) (SF_gluc (ι := oz_R4clsl_14) oz_R4cls_45 hS16 eF16 (by decide +kernel)) (any_sub (lₚ := [(2, 0), (2, 1), (2, 2), (2, 3), (2, 4)]) (by decide +kernel))
      have mF16 := SFm_of cF16 oz_R4cls_43
      have cA16 : SA oz_R4clsl_13 A A16 := SA_trans (SA_refl) (SA_gluc (ι := oz_R4clsl_14) oz_R4cls_45 hA16 eA16 (by decide +kernel)) (any_subA (lₚ := [3]) (by decide +kernel))
      have mA16 := SAm_of cA16 oz_R4cls_44
      have cD16 : SD oz_R4clsl_13 D D16 := SD_trans (SD_refl) (SD_gluc (ι := oz_R4clsl_14) oz_R4cls_45 hD16 eD16 (by decide +kernel)) (any_subA (lₚ := [3]) (by decide +kernel))
      have mD16 := SDm_of cD16 oz_R4cls_44
      have cN16 : SD oz_R4clsl_13 N N16 := SD_trans (SD_refl) (SD_gluc (ι := oz_R4clsl_14) oz_R4cls_45 hN16 eN16 (by decide +kernel)) (any_subA (lₚ := [3]) (by decide +kernel))
      have mN16 := SDm_of cN16 oz_R4cls_44
      have pf16_2_0 : HID (F16 2 0 = (D16 3 : Int)) := (eF16 2 0).trans (pm16_2.trans (congrArg (fun q : Nat => (q : Int)) (eD16 3).symm))
      have pf16_4_0 : HID (F16 4 0 = (D16 5 : Int)) := ((show F16 4 0 = (updF F 0 18 (F 0 17)) 4 0 from (eF16 4 0))).trans ((pf5).trans (congrArg (fun q : Nat => (q : Int)) ((show D16 5 = D 5 from (eD16 5))).symm))
      have pf16_6_0 : HID (F16 6 0 = (D16 7 : Int)) := ((show F16 6 0 = (updF F 0 18 (F 0 17)) 6 0 from (eF16 6 0))).trans ((pf7).trans (congrArg (fun q : Nat => (q : Int)) ((show D16 7 = D 7 from (eD16 7))).symm))
      have pf16_8_0 : HID (F16 8 0 = (D16 9 : Int)) := ((show F16 8 0 = (updF F 0 18 (F 0 17)) 8 0 from (eF16 8 0))).trans ((pf9).trans (congrArg (fun q : Nat => (q : Int)) ((show D16 9 = D 9 from (eD16 9))).symm))
      refine Ew_of (pcₚ := 26) (fun _ => x_iload_n rfl rfl) ?_
      exact w_ireturn rfl (k (a2) _ _ _ _ _ _ _ H O (cD16) (cN16) (cF16) (cA16) (pf16_2_0) (pf16_4_0) (pf16_6_0) (pf16_8_0) (m16_2) ((congrArg (fun q : Nat => (q : Int)) (eN16 3)).trans em16_2) (n5) ((congrArg (fun q : Nat => (q : Int)) (show N16 5 = N 5 from (eN16 5))).trans (en5)) (n7) ((congrArg (fun q : Nat => (q : Int)) (show N16 7 = N 7 from (eN16 7))).trans (en7)) (n9) ((congrArg (fun q : Nat => (q : Int)) (show N16 9 = N 9 from (eN16 9))).trans (en9)) (y16_0_1) (((eF16 2 1).trans ey16_0_1)) (u4_1) ((((show F16 4 1 = (updF F 0 18 (F 0 17)) 4 1 from (eF16 4 1))).trans (eu4_1))) (u6_1) ((((show F16 6 1 = (updF F 0 18 (F 0 17)) 6 1 from (eF16 6 1))).trans (eu6_1))) (u8_1) ((((show F16 8 1 = (updF F 0 18 (F 0 17)) 8 1 from (eF16 8 1))).trans (eu8_1))) (show inr (a2) from h1) (show 0 ≤ (y16_0_1) ∧ (y16_0_1) ≤ (m16_2) ∧ (m16_2) ≤ 65536 from pz16_0) (show 0 ≤ (u4_1) ∧ (u4_1) ≤ (n5) ∧ (n5) ≤ 65536 from h4) (show 0 ≤ (u6_1) ∧ (u6_1) ≤ (n7) ∧ (n7) ≤ 65536 from h5) (show 0 ≤ (u8_1) ∧ (u8_1) ≤ (n9) ∧ (n9) ≤ 65536 from h6) (show 0 ≤ (u10_1) ∧ (u10_1) ≤ (n11) ∧ (n11) ≤ 65536 from h7))
    · refine v_lR H (o := 1) rfl rfl rfl rfl rfl (n := n1) (en1) (show 0 ≤ a1 ∧ a1 < n1 from q_4247 (HIDe r6) b15 h2 h8) (z := ((D 4 : Nat) : Int)) (v := .ref (D 4)) ((congrArg (A 1) b15).trans (pf4)) (vrf rfl) ?_
      refine Ew_of (pcₚ := 19) (fun _ => x_aload_n rfl rfl) ?_
      refine v_g H (o := 0) (v := .ref (D 10)) rfl rfl rfl rfl rfl (vrf ((mFu13 0 6 rfl).trans (pf10))) ?_
      refine v_inv H (o := 4) rfl rfl rfl rfl rfl rfl (by rfl) (C158_Row (D := puc 1477710852 D) (N := puc 1477710852 N) (HW_subc H oz_R4cls_37 oz_R4cls_46) (pf5) ((mFu13 10 0 rfl).trans (pf11)) (n5) (en5) (n11) (en11) (u4_1) ((eu4_1)) (u10_1) (((mFu13 10 1 rfl).trans (eu10_1))) (show 0 ≤ (u4_1) ∧ (u4_1) ≤ (n5) ∧ (n5) ≤ 65536 from h4) (show 0 ≤ (u10_1) ∧ (u10_1) ≤ (n11) ∧ (n11) ≤ 65536 from h7) (fun σ19 D19ₚ N19ₚ F19ₚ A19ₚ c19 s19 Hₚ Oₚ hD19 hN19 hS19 hA19 (pm19_2 : HID _) m19_2 (em19_2 : HID _) y19_0_1 (ey19_0_1 : HID _) pz19_0 pz19_1 => ⟨rfl, ?_⟩))
      refine v_backMc (c := c) (s := s) H oz_R4cls_37 oz_R4cls_46 Hₚ Oₚ hD19 oz_R4cls_38 (fun D19 N19 F19 A19 H Oₚ eD19 eN19 eF19 eA19 => ?_)
      have O := OUT_trans O Oₚ
      -- Row.become
      have cF19 : SF oz_R4clsl_12 F F19 := SF_trans (cFu13) (SF_gluc (ι := oz_R4clsl_15) oz_R4cls_46 hS19 eF19 (by decide +kernel)) (any_sub (lₚ := [(4, 0), (4, 1), (4, 2), (4, 3), (4, 4)]) (by decide +kernel))
      have mF19 := SFm_of cF19 oz_R4cls_43
      have cA19 : SA oz_R4clsl_13 A A19 := SA_trans (SA_refl) (SA_gluc (ι := oz_R4clsl_15) oz_R4cls_46 hA19 eA19 (by decide +kernel)) (any_subA (lₚ := [5]) (by decide +kernel))
      have mA19 := SAm_of cA19 oz_R4cls_44
      have cD19 : SD oz_R4clsl_13 D D19 := SD_trans (SD_refl) (SD_gluc (ι := oz_R4clsl_15) oz_R4cls_46 hD19 eD19 (by decide +kernel)) (any_subA (lₚ := [5]) (by decide +kernel))
      have mD19 := SDm_of cD19 oz_R4cls_44
      have cN19 : SD oz_R4clsl_13 N N19 := SD_trans (SD_refl) (SD_gluc (ι := oz_R4clsl_15) oz_R4cls_46 hN19 eN19 (by decide +kernel)) (any_subA (lₚ := [5]) (by decide +kernel))
      have mN19 := SDm_of cN19 oz_R4cls_44
      have pf19_2_0 : HID (F19 2 0 = (D19 3 : Int)) := ((show F19 2 0 = (updF F 0 18 (F 0 17)) 2 0 from (eF19 2 0))).trans ((pf3).trans (congrArg (fun q : Nat => (q : Int)) ((show D19 3 = D 3 from (eD19 3))).symm))
      have pf19_4_0 : HID (F19 4 0 = (D19 5 : Int)) := (eF19 4 0).trans (pm19_2.trans (congrArg (fun q : Nat => (q : Int)) (eD19 5).symm))
      have pf19_6_0 : HID (F19 6 0 = (D19 7 : Int)) := ((show F19 6 0 = (updF F 0 18 (F 0 17)) 6 0 from (eF19 6 0))).trans ((pf7).trans (congrArg (fun q : Nat => (q : Int)) ((show D19 7 = D 7 from (eD19 7))).symm))
      have pf19_8_0 : HID (F19 8 0 = (D19 9 : Int)) := ((show F19 8 0 = (updF F 0 18 (F 0 17)) 8 0 from (eF19 8 0))).trans ((pf9).trans (congrArg (fun q : Nat => (q : Int)) ((show D19 9 = D 9 from (eD19 9))).symm))
      refine Ew_of (pcₚ := 26) (fun _ => x_iload_n rfl rfl) ?_
      exact w_ireturn rfl (k (a2) _ _ _ _ _ _ _ H O (cD19) (cN19) (cF19) (cA19) (pf19_2_0) (pf19_4_0) (pf19_6_0) (pf19_8_0) (n3) ((congrArg (fun q : Nat => (q : Int)) (show N19 3 = N 3 from (eN19 3))).trans (en3)) (m19_2) ((congrArg (fun q : Nat => (q : Int)) (eN19 5)).trans em19_2) (n7) ((congrArg (fun q : Nat => (q : Int)) (show N19 7 = N 7 from (eN19 7))).trans (en7)) (n9) ((congrArg (fun q : Nat => (q : Int)) (show N19 9 = N 9 from (eN19 9))).trans (en9)) (u2_1) ((((show F19 2 1 = (updF F 0 18 (F 0 17)) 2 1 from (eF19 2 1))).trans (eu2_1))) (y19_0_1) (((eF19 4 1).trans ey19_0_1)) (u6_1) ((((show F19 6 1 = (updF F 0 18 (F 0 17)) 6 1 from (eF19 6 1))).trans (eu6_1))) (u8_1) ((((show F19 8 1 = (updF F 0 18 (F 0 17)) 8 1 from (eF19 8 1))).trans (eu8_1))) (show inr (a2) from h1) (show 0 ≤ (u2_1) ∧ (u2_1) ≤ (n3) ∧ (n3) ≤ 65536 from h3) (show 0 ≤ (y19_0_1) ∧ (y19_0_1) ≤ (m19_2) ∧ (m19_2) ≤ 65536 from pz19_0) (show 0 ≤ (u6_1) ∧ (u6_1) ≤ (n7) ∧ (n7) ≤ 65536 from h5) (show 0 ≤ (u8_1) ∧ (u8_1) ≤ (n9) ∧ (n9) ≤ 65536 from h6) (show 0 ≤ (u10_1) ∧ (u10_1) ≤ (n11) ∧ (n11) ≤ 65536 from h7))
    · refine v_lR H (o := 1) rfl rfl rfl rfl rfl (n := n1) (en1) (show 0 ≤ a1 ∧ a1 < n1 from q_4248 (HIDe r6) b15 h2 h8) (z := ((D 6 : Nat) : Int)) (v := .ref (D 6)) ((congrArg (A 1) b15).trans (pf6)) (vrf rfl) ?_
      refine Ew_of (pcₚ := 19) (fun _ => x_aload_n rfl rfl) ?_
      refine v_g H (o := 0) (v := .ref (D 10)) rfl rfl rfl rfl rfl (vrf ((mFu13 0 6 rfl).trans (pf10))) ?_
      refine v_inv H (o := 6) rfl rfl rfl rfl rfl rfl (by rfl) (C158_Row (D := puc 1478235142 D) (N := puc 1478235142 N) (HW_subc H oz_R4cls_39 oz_R4cls_47) (pf7) ((mFu13 10 0 rfl).trans (pf11)) (n7) (en7) (n11) (en11) (u6_1) ((eu6_1)) (u10_1) (((mFu13 10 1 rfl).trans (eu10_1))) (show 0 ≤ (u6_1) ∧ (u6_1) ≤ (n7) ∧ (n7) ≤ 65536 from h5) (show 0 ≤ (u10_1) ∧ (u10_1) ≤ (n11) ∧ (n11) ≤ 65536 from h7) (fun σ22 D22ₚ N22ₚ F22ₚ A22ₚ c22 s22 Hₚ Oₚ hD22 hN22 hS22 hA22 (pm22_2 : HID _) m22_2 (em22_2 : HID _) y22_0_1 (ey22_0_1 : HID _) pz22_0 pz22_1 => ⟨rfl, ?_⟩))
      refine v_backMc (c := c) (s := s) H oz_R4cls_39 oz_R4cls_47 Hₚ Oₚ hD22 oz_R4cls_40 (fun D22 N22 F22 A22 H Oₚ eD22 eN22 eF22 eA22 => ?_)
      have O := OUT_trans O Oₚ
      -- Row.become
      have cF22 : SF oz_R4clsl_12 F F22 := SF_trans (cFu13) (SF_gluc (ι := oz_R4clsl_16) oz_R4cls_47 hS22 eF22 (by decide +kernel)) (any_sub (lₚ := [(6, 0), (6, 1), (6, 2), (6, 3), (6, 4)]) (by decide +kernel))
      have mF22 := SFm_of cF22 oz_R4cls_43
      have cA22 : SA oz_R4clsl_13 A A22 := SA_trans (SA_refl) (SA_gluc (ι := oz_R4clsl_16) oz_R4cls_47 hA22 eA22 (by decide +kernel)) (any_subA (lₚ := [7]) (by decide +kernel))
      have mA22 := SAm_of cA22 oz_R4cls_44
      have cD22 : SD oz_R4clsl_13 D D22 := SD_trans (SD_refl) (SD_gluc (ι := oz_R4clsl_16) oz_R4cls_47 hD22 eD22 (by decide +kernel)) (any_subA (lₚ := [7]) (by decide +kernel))
      have mD22 := SDm_of cD22 oz_R4cls_44
      have cN22 : SD oz_R4clsl_13 N N22 := SD_trans (SD_refl) (SD_gluc (ι := oz_R4clsl_16) oz_R4cls_47 hN22 eN22 (by decide +kernel)) (any_subA (lₚ := [7]) (by decide +kernel))
      have mN22 := SDm_of cN22 oz_R4cls_44
      have pf22_2_0 : HID (F22 2 0 = (D22 3 : Int)) := ((show F22 2 0 = (updF F 0 18 (F 0 17)) 2 0 from (eF22 2 0))).trans ((pf3).trans (congrArg (fun q : Nat => (q : Int)) ((show D22 3 = D 3 from (eD22 3))).symm))
      have pf22_4_0 : HID (F22 4 0 = (D22 5 : Int)) := ((show F22 4 0 = (updF F 0 18 (F 0 17)) 4 0 from (eF22 4 0))).trans ((pf5).trans (congrArg (fun q : Nat => (q : Int)) ((show D22 5 = D 5 from (eD22 5))).symm))
      have pf22_6_0 : HID (F22 6 0 = (D22 7 : Int)) := (eF22 6 0).trans (pm22_2.trans (congrArg (fun q : Nat => (q : Int)) (eD22 7).symm))
      have pf22_8_0 : HID (F22 8 0 = (D22 9 : Int)) := ((show F22 8 0 = (updF F 0 18 (F 0 17)) 8 0 from (eF22 8 0))).trans ((pf9).trans (congrArg (fun q : Nat => (q : Int)) ((show D22 9 = D 9 from (eD22 9))).symm))
      refine Ew_of (pcₚ := 26) (fun _ => x_iload_n rfl rfl) ?_
      exact w_ireturn rfl (k (a2) _ _ _ _ _ _ _ H O (cD22) (cN22) (cF22) (cA22) (pf22_2_0) (pf22_4_0) (pf22_6_0) (pf22_8_0) (n3) ((congrArg (fun q : Nat => (q : Int)) (show N22 3 = N 3 from (eN22 3))).trans (en3)) (n5) ((congrArg (fun q : Nat => (q : Int)) (show N22 5 = N 5 from (eN22 5))).trans (en5)) (m22_2) ((congrArg (fun q : Nat => (q : Int)) (eN22 7)).trans em22_2) (n9) ((congrArg (fun q : Nat => (q : Int)) (show N22 9 = N 9 from (eN22 9))).trans (en9)) (u2_1) ((((show F22 2 1 = (updF F 0 18 (F 0 17)) 2 1 from (eF22 2 1))).trans (eu2_1))) (u4_1) ((((show F22 4 1 = (updF F 0 18 (F 0 17)) 4 1 from (eF22 4 1))).trans (eu4_1))) (y22_0_1) (((eF22 6 1).trans ey22_0_1)) (u8_1) ((((show F22 8 1 = (updF F 0 18 (F 0 17)) 8 1 from (eF22 8 1))).trans (eu8_1))) (show inr (a2) from h1) (show 0 ≤ (u2_1) ∧ (u2_1) ≤ (n3) ∧ (n3) ≤ 65536 from h3) (show 0 ≤ (u4_1) ∧ (u4_1) ≤ (n5) ∧ (n5) ≤ 65536 from h4) (show 0 ≤ (y22_0_1) ∧ (y22_0_1) ≤ (m22_2) ∧ (m22_2) ≤ 65536 from pz22_0) (show 0 ≤ (u8_1) ∧ (u8_1) ≤ (n9) ∧ (n9) ≤ 65536 from h6) (show 0 ≤ (u10_1) ∧ (u10_1) ≤ (n11) ∧ (n11) ≤ 65536 from h7))
    · refine v_lR H (o := 1) rfl rfl rfl rfl rfl (n := n1) (en1) (show 0 ≤ a1 ∧ a1 < n1 from q_4249 b15 h2 h8) (z := ((D 8 : Nat) : Int)) (v := .ref (D 8)) ((congrArg (A 1) b15).trans (pf8)) (vrf rfl) ?_
      refine Ew_of (pcₚ := 19) (fun _ => x_aload_n rfl rfl) ?_
      refine v_g H (o := 0) (v := .ref (D 10)) rfl rfl rfl rfl rfl (vrf ((mFu13 0 6 rfl).trans (pf10))) ?_
      refine v_inv H (o := 8) rfl rfl rfl rfl rfl rfl (by rfl) (C158_Row (D := puc 1478759432 D) (N := puc 1478759432 N) (HW_subc H oz_R4cls_41 oz_R4cls_48) (pf9) ((mFu13 10 0 rfl).trans (pf11)) (n9) (en9) (n11) (en11) (u8_1) ((eu8_1)) (u10_1) (((mFu13 10 1 rfl).trans (eu10_1))) (show 0 ≤ (u8_1) ∧ (u8_1) ≤ (n9) ∧ (n9) ≤ 65536 from h6) (show 0 ≤ (u10_1) ∧ (u10_1) ≤ (n11) ∧ (n11) ≤ 65536 from h7) (fun σ25 D25ₚ N25ₚ F25ₚ A25ₚ c25 s25 Hₚ Oₚ hD25 hN25 hS25 hA25 (pm25_2 : HID _) m25_2 (em25_2 : HID _) y25_0_1 (ey25_0_1 : HID _) pz25_0 pz25_1 => ⟨rfl, ?_⟩))
      refine v_backMc (c := c) (s := s) H oz_R4cls_41 oz_R4cls_48 Hₚ Oₚ hD25 oz_R4cls_42 (fun D25 N25 F25 A25 H Oₚ eD25 eN25 eF25 eA25 => ?_)
      have O := OUT_trans O Oₚ
      -- Row.become
      have cF25 : SF oz_R4clsl_12 F F25 := SF_trans (cFu13) (SF_gluc (ι := oz_R4clsl_17) oz_R4cls_48 hS25 eF25 (by decide +kernel)) (any_sub (lₚ := [(8, 0), (8, 1), (8, 2), (8, 3), (8, 4)]) (by decide +kernel))
      have mF25 := SFm_of cF25 oz_R4cls_43
      have cA25 : SA oz_R4clsl_13 A A25 := SA_trans (SA_refl) (SA_gluc (ι := oz_R4clsl_17) oz_R4cls_48 hA25 eA25 (by decide +kernel)) (any_subA (lₚ := [9]) (by decide +kernel))
      have mA25 := SAm_of cA25 oz_R4cls_44
      have cD25 : SD oz_R4clsl_13 D D25 := SD_trans (SD_refl) (SD_gluc (ι := oz_R4clsl_17) oz_R4cls_48 hD25 eD25 (by decide +kernel)) (any_subA (lₚ := [9]) (by decide +kernel))
      have mD25 := SDm_of cD25 oz_R4cls_44
      have cN25 : SD oz_R4clsl_13 N N25 := SD_trans (SD_refl) (SD_gluc (ι := oz_R4clsl_17) oz_R4cls_48 hN25 eN25 (by decide +kernel)) (any_subA (lₚ := [9]) (by decide +kernel))
      have mN25 := SDm_of cN25 oz_R4cls_44
      have pf25_2_0 : HID (F25 2 0 = (D25 3 : Int)) := ((show F25 2 0 = (updF F 0 18 (F 0 17)) 2 0 from (eF25 2 0))).trans ((pf3).trans (congrArg (fun q : Nat => (q : Int)) ((show D25 3 = D 3 from (eD25 3))).symm))
      have pf25_4_0 : HID (F25 4 0 = (D25 5 : Int)) := ((show F25 4 0 = (updF F 0 18 (F 0 17)) 4 0 from (eF25 4 0))).trans ((pf5).trans (congrArg (fun q : Nat => (q : Int)) ((show D25 5 = D 5 from (eD25 5))).symm))
      have pf25_6_0 : HID (F25 6 0 = (D25 7 : Int)) := ((show F25 6 0 = (updF F 0 18 (F 0 17)) 6 0 from (eF25 6 0))).trans ((pf7).trans (congrArg (fun q : Nat => (q : Int)) ((show D25 7 = D 7 from (eD25 7))).symm))
      have pf25_8_0 : HID (F25 8 0 = (D25 9 : Int)) := (eF25 8 0).trans (pm25_2.trans (congrArg (fun q : Nat => (q : Int)) (eD25 9).symm))
      refine Ew_of (pcₚ := 26) (fun _ => x_iload_n rfl rfl) ?_
      exact w_ireturn rfl (k (a2) _ _ _ _ _ _ _ H O (cD25) (cN25) (cF25) (cA25) (pf25_2_0) (pf25_4_0) (pf25_6_0) (pf25_8_0) (n3) ((congrArg (fun q : Nat => (q : Int)) (show N25 3 = N 3 from (eN25 3))).trans (en3)) (n5) ((congrArg (fun q : Nat => (q : Int)) (show N25 5 = N 5 from (eN25 5))).trans (en5)) (n7) ((congrArg (fun q : Nat => (q : Int)) (show N25 7 = N 7 from (eN25 7))).trans (en7)) (m25_2) ((congrArg (fun q : Nat => (q : Int)) (eN25 9)).trans em25_2) (u2_1) ((((show F25 2 1 = (updF F 0 18 (F 0 17)) 2 1 from (eF25 2 1))).trans (eu2_1))) (u4_1) ((((show F25 4 1 = (updF F 0 18 (F 0 17)) 4 1 from (eF25 4 1))).trans (eu4_1))) (u6_1) ((((show F25 6 1 = (updF F 0 18 (F 0 17)) 6 1 from (eF25 6 1))).trans (eu6_1))) (y25_0_1) (((eF25 8 1).trans ey25_0_1)) (show inr (a2) from h1) (show 0 ≤ (u2_1) ∧ (u2_1) ≤ (n3) ∧ (n3) ≤ 65536 from h3) (show 0 ≤ (u4_1) ∧ (u4_1) ≤ (n5) ∧ (n5) ≤ 65536 from h4) (show 0 ≤ (u6_1) ∧ (u6_1) ≤ (n7) ∧ (n7) ≤ 65536 from h5) (show 0 ≤ (y25_0_1) ∧ (y25_0_1) ≤ (m25_2) ∧ (m25_2) ≤ 65536 from pz25_0) (show 0 ≤ (u10_1) ∧ (u10_1) ≤ (n11) ∧ (n11) ≤ 65536 from h7))
