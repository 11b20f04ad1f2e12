abbrev V1 : vV := [(0, 0, [(4, 0), (4, 0), (4, 0), (4, 0), (4, 0), (4, 0), (4, 0), (4, 0), (4, 0), (4, 0), (4, 0), (4, 0), (4, 0), (4, 0), (4, 0), (4, 0), (4, 0), (0, 0), (0, 0)]), (1, 4, []), (0, 7, [(4, 0), (0, 0), (1, 0), (0, 0), (0, 0)]), (1, 0, []), (0, 7, [(4, 0), (0, 0), (1, 0), (0, 0), (0, 0)]), (1, 0, []), (0, 7, [(4, 0), (0, 0), (1, 0), (0, 0), (0, 0)]), (1, 0, []), (0, 7, [(4, 0), (0, 0), (1, 0), (0, 0), (0, 0)]), (1, 0, [])]
theorem len_V1_oz_R2cls : (V1).length = 10 := by decide +kernel
theorem oz_R2cls_1 : vsub V1 V24 [] = true := by decide +kernel
theorem oz_R2cls_2 : vsub V1 V157 [2, 3] = true := by decide +kernel
theorem oz_R2cls_3 : vmov V1 [2, 3] [1] = true := by decide +kernel
theorem oz_R2cls_4 : vsub V1 V28_Row [2, 3] = true := by decide +kernel
theorem oz_R2cls_5 : vsub V1 V157 [4, 5] = true := by decide +kernel
theorem oz_R2cls_6 : vmov V1 [4, 5] [1] = true := by decide +kernel
theorem oz_R2cls_7 : vsub V1 V28_Row [4, 5] = true := by decide +kernel
theorem oz_R2cls_8 : vsub V1 V157 [6, 7] = true := by decide +kernel
theorem oz_R2cls_9 : vmov V1 [6, 7] [1] = true := by decide +kernel
theorem oz_R2cls_10 : vsub V1 V28_Row [6, 7] = true := by decide +kernel
theorem oz_R2cls_11 : vsub V1 V157 [8, 9] = true := by decide +kernel
theorem oz_R2cls_12 : vmov V1 [8, 9] [1] = true := by decide +kernel
theorem oz_R2cls_13 : vsub V1 V28_Row [8, 9] = true := by decide +kernel
def oz_R2clsl_0 : List (Nat × Nat) := [(2, 0), (2, 1), (2, 2), (4, 0), (4, 1), (4, 2), (6, 0), (6, 1), (6, 2), (8, 0), (8, 1), (8, 2)]
theorem oz_R2cls_14 : (oz_R2clsl_0).all (fun p => !tbz 810544624661213368008936607208522120322122395190384182433292325627178493411328 (Nat.add (Nat.mul 32 p.1) p.2)) = true := by decide +kernel
def oz_R2clsl_1 : List Nat := [3, 5, 7, 9]
theorem oz_R2cls_15 : (oz_R2clsl_1).all (fun p => !tbz 680 p) = true := by decide +kernel
def oz_R2clsl_2 : List Nat := []
theorem oz_R2cls_16 : okc oz_R2clsl_2 0 = true := by decide +kernel
def oz_R2clsl_3 : List Nat := [2, 3]
theorem oz_R2cls_17 : okc oz_R2clsl_3 1538 = true := by decide +kernel
def oz_R2clsl_4 : List Nat := [4, 5]
theorem oz_R2cls_18 : okc oz_R2clsl_4 2564 = true := by decide +kernel
def oz_R2clsl_5 : List Nat := [6, 7]
theorem oz_R2cls_19 : okc oz_R2clsl_5 3590 = true := by decide +kernel
def oz_R2clsl_6 : List Nat := [8, 9]
theorem oz_R2cls_20 : okc oz_R2clsl_6 4616 = true := by decide +kernel

theorem C1 {σE : rS} {D N : Nat → Nat} {F : hF} {A : hA} {d c s : Nat} {Q : wQ} (H : HW V1 σE D N F A) {a1 a2 a3 a4 a5 : Int} (pf1 : HID (F 0 0 = (D 1 : Int))) (pf2 : HID (A 1 0 = (D 2 : Int))) (pf3 : HID (F 2 0 = (D 3 : Int))) (pf4 : HID (A 1 1 = (D 4 : Int))) (pf5 : HID (F 4 0 = (D 5 : Int))) (pf6 : HID (A 1 2 = (D 6 : Int))) (pf7 : HID (F 6 0 = (D 7 : Int))) (pf8 : HID (A 1 3 = (D 8 : Int))) (pf9 : HID (F 8 0 = (D 9 : Int))) (n1 : Int) (en1 : HID ((N 1 : Int) = n1)) (n3 : Int) (en3 : HID ((N 3 : Int) = n3)) (n5 : Int) (en5 : HID ((N 5 : Int) = n5)) (n7 : Int) (en7 : HID ((N 7 : Int) = n7)) (n9 : Int) (en9 : HID ((N 9 : Int) = n9)) (u2_1 : Int) (eu2_1 : HID (F 2 1 = u2_1)) (u4_1 : Int) (eu4_1 : HID (F 4 1 = u4_1)) (u6_1 : Int) (eu6_1 : HID (F 6 1 = u6_1)) (u8_1 : Int) (eu8_1 : HID (F 8 1 = u8_1)) (h0 : inr (a1)) (h1 : inr (a2)) (h2 : inr (a3)) (h3 : inr (a4)) (h4 : inr (a5)) (h5 : (n1) = 4) (h6 : 0 ≤ (u2_1) ∧ (u2_1) ≤ (n3) ∧ (n3) ≤ 65536) (h7 : 0 ≤ (u4_1) ∧ (u4_1) ≤ (n5) ∧ (n5) ≤ 65536) (h8 : 0 ≤ (u6_1) ∧ (u6_1) ≤ (n7) ∧ (n7) ≤ 65536) (h9 : 0 ≤ (u8_1) ∧ (u8_1) ≤ (n9) ∧ (n9) ≤ 65536) (k : ∀ (z : Int) (σ : rS) (Dₚ Nₚ : Nat → Nat) (Fₚ : hF) (Aₚ : hA) (cₚ sₚ : Nat), HW V1 σ Dₚ Nₚ Fₚ Aₚ → OUT (V1).length D N σE c s Dₚ Nₚ σ cₚ sₚ → SD [3, 5, 7, 9] D Dₚ → SD [3, 5, 7, 9] N Nₚ → SF [(2, 0), (2, 1), (2, 2), (4, 0), (4, 1), (4, 2), (6, 0), (6, 1), (6, 2), (8, 0), (8, 1), (8, 2)] F Fₚ → SA [3, 5, 7, 9] A Aₚ → Fₚ 2 0 = (Dₚ 3 : Int) → Fₚ 4 0 = (Dₚ 5 : Int) → Fₚ 6 0 = (Dₚ 7 : Int) → Fₚ 8 0 = (Dₚ 9 : Int) → ∀ m3 : Int, (Nₚ 3 : Int) = m3 → ∀ m5 : Int, (Nₚ 5 : Int) = m5 → ∀ m7 : Int, (Nₚ 7 : Int) = m7 → ∀ m9 : Int, (Nₚ 9 : Int) = m9 → ∀ y2_1 : Int, Fₚ 2 1 = y2_1 → ∀ y4_1 : Int, Fₚ 4 1 = y4_1 → ∀ y6_1 : Int, Fₚ 6 1 = y6_1 → ∀ y8_1 : Int, Fₚ 8 1 = y8_1 → ((z) = 0 ∨ (z) = 1) → (0 ≤ (y2_1) ∧ (y2_1) ≤ (m3) ∧ (m3) ≤ 65536) → (0 ≤ (y4_1) ∧ (y4_1) ≤ (m5) ∧ (m5) ≤ 65536) → (0 ≤ (y6_1) ∧ (y6_1) ≤ (m7) ∧ (m7) ≤ 65536) → (0 ≤ (y8_1) ∧ (y8_1) ≤ (m9) ∧ (m9) ≤ 65536) → Q (some (I z)) σ cₚ sₚ) : Ew 1 (d + 4) 0 (rargs 0 [.ref (D 0), I a1, I a2, I a3, I a4, I a5]) [] σE c s Q := by
  have O := OUT_refl (n := (V1).length) (D := D) (N := N) (σ := σE) (c := c) (s := s)
  have HE := H
  have r5 : HID ((0 : Int) ≤ n1 ∧ n1 ≤ 1000000) := nrng (H.nle 1 (ltn len_V1_oz_R2cls rfl)) (show (N 1 : Int) = n1 from en1)
  refine Ew_of (pcₚ := 1) (fun _ => x_iload_n rfl rfl) ?_
  refine w_stat24 rfl rfl (by rfl) (C24 (D := puc 0 D) (N := puc 0 N) (HW_subc H oz_R2cls_1 oz_R2cls_16) (show inr (a1) from h0) (fun z10 σ10 F10ₚ A10ₚ Hₚ Oₚ hS10 hA10 pz10_0 pz10_1 => ⟨rretB rfl pz10_0, ?_⟩))
  refine v_backc (c := c) (s := s) H oz_R2cls_1 oz_R2cls_16 Hₚ Oₚ (fun F10 A10 H Oₚ eF10 eA10 => ?_)
  have O := OUT_trans O Oₚ
  -- PackHouse.isRow
  have cF10 : SF oz_R2clsl_0 F F10 := SF_trans (SF_refl) (SF_gluc (ι := oz_R2clsl_2) oz_R2cls_16 hS10 eF10 (by decide +kernel)) (any_sub (lₚ := []) (by decide +kernel))
  have mF10 := SFm_of cF10 oz_R2cls_14
  have cA10 : SA oz_R2clsl_1 A A10 := SA_trans (SA_refl) (SA_gluc (ι := oz_R2clsl_2) oz_R2cls_16 hA10 eA10 (by decide +kernel)) (any_subA (lₚ := []) (by decide +kernel))
  have mA10 := SAm_of cA10 oz_R2cls_15
  refine w_ifeq (t := 21) rfl rfl (show inr (z10) from q_138 pz10_0) (fun b11 => ?_) (fun b11 => ?_)
  · refine Ew_of (pcₚ := 22) (fun _ => x_iconst rfl) ?_
    exact w_ireturn rfl (k (0) _ _ _ _ _ _ _ H O (SD_refl) (SD_refl) (cF10) (cA10) ((((show F10 2 0 = F 2 0 from (eF10 2 0)))).trans (pf3)) ((((show F10 4 0 = F 4 0 from (eF10 4 0)))).trans (pf5)) ((((show F10 6 0 = F 6 0 from (eF10 6 0)))).trans (pf7)) ((((show F10 8 0 = F 8 0 from (eF10 8 0)))).trans (pf9)) (n3) (en3) (n5) (en5) (n7) (en7) (n9) (en9) (u2_1) ((((show F10 2 1 = F 2 1 from (eF10 2 1))).trans (eu2_1))) (u4_1) ((((show F10 4 1 = F 4 1 from (eF10 4 1))).trans (eu4_1))) (u6_1) ((((show F10 6 1 = F 6 1 from (eF10 6 1))).trans (eu6_1))) (u8_1) ((((show F10 8 1 = F 8 1 from (eF10 8 1))).trans (eu8_1))) (show (0) = 0 ∨ (0) = 1 by first | exact q_45 | omega) (show 0 ≤ (u2_1) ∧ (u2_1) ≤ (n3) ∧ (n3) ≤ 65536 from h6) (show 0 ≤ (u4_1) ∧ (u4_1) ≤ (n5) ∧ (n5) ≤ 65536 from h7) (show 0 ≤ (u6_1) ∧ (u6_1) ≤ (n7) ∧ (n7) ≤ 65536 from h8) (show 0 ≤ (u8_1) ∧ (u8_1) ≤ (n9) ∧ (n9) ≤ 65536 from h9))
  · refine Ew_of (pcₚ := 8) (fun _ => x_aload_n rfl rfl) ?_
    refine v_g H (o := 0) (v := .ref (D 1)) rfl rfl rfl rfl rfl (vrf ((mF10 0 0 rfl).trans (pf1))) ?_
    refine Ew_of (pcₚ := 12) (fun _ => x_iload_n rfl rfl) ?_
    rcases (show a1 = 0 ∨ a1 = 1 ∨ a1 = 2 ∨ a1 = 3 by omega) with b12 | b12 | b12 | b12
    · refine v_lR H (o := 1) rfl rfl rfl rfl rfl (n := n1) (en1) (show 0 ≤ a1 ∧ a1 < n1 from q_4724 (HIDe r5) b12 h5) (z := ((D 2 : Nat) : Int)) (v := .ref (D 2)) ((congrArg (A10 1) b12).trans ((mA10 1 rfl 0).trans (pf2))) (vrf rfl) ?_
      refine Ew_of (pcₚ := 15) (fun _ => x_bipush (z := 16) rfl (by decide)) ?_
      refine v_inv H (o := 2) rfl rfl rfl rfl rfl rfl (by rfl) (C157 (D := puc 1538 D) (N := puc 1538 N) (HW_subc H oz_R2cls_2 oz_R2cls_17) ((((show F10 2 0 = F 2 0 from (eF10 2 0)))).trans (pf3)) (n3) (en3) (u2_1) ((((show F10 2 1 = F 2 1 from (eF10 2 1))).trans (eu2_1))) (A 3) ((show A10 3 = A 3 from (eA10 3))) (show inr (16) from q_345) (show 0 ≤ (u2_1) ∧ (u2_1) ≤ (n3) ∧ (n3) ≤ 65536 from h6) (fun z13 σ13 D13ₚ N13ₚ F13ₚ A13ₚ c13 s13 Hₚ Oₚ hD13 hN13 hS13 hA13 (pm13_1 : HID _) m13_1 (em13_1 : HID _) w13_1 ew13_1 pz13_0 pz13_1 pz13_2 pz13_3 pz13_4 => ⟨rretB rfl pz13_0, ?_⟩))
      refine v_backMc (c := c) (s := s) H oz_R2cls_2 oz_R2cls_17 Hₚ Oₚ hD13 oz_R2cls_3 (fun D13 N13 F13 A13 H Oₚ eD13 eN13 eF13 eA13 => ?_)
      have O := OUT_trans O Oₚ
      -- Row.reserve
      have cF13 : SF oz_R2clsl_0 F F13 := SF_trans (cF10) (SF_gluc (ι := oz_R2clsl_3) oz_R2cls_17 hS13 eF13 (by decide +kernel)) (any_sub (lₚ := [(2, 0)]) (by decide +kernel))
      have mF13 := SFm_of cF13 oz_R2cls_14
      have cA13 : SA oz_R2clsl_1 A A13 := SA_trans (cA10) (SA_gluc (ι := oz_R2clsl_3) oz_R2cls_17 hA13 eA13 (by decide +kernel)) (any_subA (lₚ := [3]) (by decide +kernel))
      have mA13 := SAm_of cA13 oz_R2cls_15
      have cD13 : SD oz_R2clsl_1 D D13 := SD_trans (SD_refl) (SD_gluc (ι := oz_R2clsl_3) oz_R2cls_17 hD13 eD13 (by decide +kernel)) (any_subA (lₚ := [3]) (by decide +kernel))
      have mD13 := SDm_of cD13 oz_R2cls_15
      have cN13 : SD oz_R2clsl_1 N N13 := SD_trans (SD_refl) (SD_gluc (ι := oz_R2clsl_3) oz_R2cls_17 hN13 eN13 (by decide +kernel)) (any_subA (lₚ := [3]) (by decide +kernel))
      have mN13 := SDm_of cN13 oz_R2cls_15
      have pf13_2_0 : HID (F13 2 0 = (D13 3 : Int)) := (eF13 2 0).trans (pm13_1.trans (congrArg (fun q : Nat => (q : Int)) (eD13 3).symm))
      have pf13_4_0 : HID (F13 4 0 = (D13 5 : Int)) := ((show F13 4 0 = F10 4 0 from (eF13 4 0))).trans (((((show F10 4 0 = F 4 0 from (eF10 4 0)))).trans (pf5)).trans (congrArg (fun q : Nat => (q : Int)) ((show D13 5 = D 5 from (eD13 5))).symm))
      have pf13_6_0 : HID (F13 6 0 = (D13 7 : Int)) := ((show F13 6 0 = F10 6 0 from (eF13 6 0))).trans (((((show F10 6 0 = F 6 0 from (eF10 6 0)))).trans (pf7)).trans (congrArg (fun q : Nat => (q : Int)) ((show D13 7 = D 7 from (eD13 7))).symm))
      have pf13_8_0 : HID (F13 8 0 = (D13 9 : Int)) := ((show F13 8 0 = F10 8 0 from (eF13 8 0))).trans (((((show F10 8 0 = F 8 0 from (eF10 8 0)))).trans (pf9)).trans (congrArg (fun q : Nat => (q : Int)) ((show D13 9 = D 9 from (eD13 9))).symm))
      refine w_ifne (t := 23) rfl rfl (show inr (z13) from q_138 pz13_0) (fun b15 => ?_) (fun b15 => ?_)
      · refine Ew_of (pcₚ := 24) (fun _ => x_aload_n rfl rfl) ?_
        refine Ew_stk (congrArg (fun qz : Nat => ([.ref qz] : List Value)) (show D13 0 = D 0 from mD13 0 rfl).symm) ?_
        refine v_g H (o := 0) (v := .ref (D13 1)) rfl rfl rfl rfl rfl (vrf ((mF13 0 0 rfl).trans ((pf1).trans (congrArg (fun q : Nat => (q : Int)) (mD13 1 rfl).symm)))) ?_
        refine Ew_of (pcₚ := 28) (fun _ => x_iload_n rfl rfl) ?_
        refine v_lR H (o := 1) rfl rfl rfl rfl rfl (n := n1) ((congrArg (fun q : Nat => (q : Int)) (mN13 1 rfl)).trans (en1)) (show 0 ≤ a1 ∧ a1 < n1 from q_4724 (HIDe r5) b12 h5) (z := ((D13 2 : Nat) : Int)) (v := .ref (D13 2)) ((congrArg (A13 1) b12).trans ((mA13 1 rfl 0).trans ((pf2).trans (congrArg (fun q : Nat => (q : Int)) (mD13 2 rfl).symm)))) (vrf rfl) ?_
        refine Ew_of (pcₚ := 30) (fun _ => x_iload_n rfl rfl) ?_
        refine w_i2l rfl (show inr (a2) from h1) ?_
        refine Ew_of (pcₚ := 33) (fun _ => x_bipush (z := 32) rfl (by decide)) ?_
        refine w_lshlA rfl (fun z16 gz16 => ?_)
        refine Ew_of (pcₚ := 35) (fun _ => x_iload_n rfl rfl) ?_
        refine w_i2l rfl (show inr (a3) from h2) ?_
        refine Ew_of (pcₚ := 39) (fun _ => x_ldc2 (z := 4294967295) rfl (by decide)) ?_
        refine w_land rfl (show inrJ (a3) from q_2579 h2) (show inrJ (4294967295) from q_4725) (fun z17 gz17 gaz17 gbz17 => ?_)
        refine w_lorA rfl (fun z18 gz18 => ?_)
        refine Ew_of (pcₚ := 43) (fun _ => x_bipush (z := 8) rfl (by decide)) ?_
        refine w_stat24 rfl rfl (by rfl) (C28_Row (D := puc 1538 D13) (N := puc 1538 N13) (HW_subc H oz_R2cls_4 oz_R2cls_17) (pf13_2_0) (m13_1) ((congrArg (fun q : Nat => (q : Int)) (eN13 3)).trans em13_1) (u2_1) (((((show F13 2 1 = F10 2 1 from (eF13 2 1).trans (hS13 0 1 rfl))).trans ((show F10 2 1 = F 2 1 from (eF10 2 1)))).trans (eu2_1))) (show inrJ (z18) from gz18) (show inr (8) from q_141) (show 0 ≤ (u2_1) ∧ (u2_1) ≤ (m13_1) ∧ (m13_1) ≤ 65536 from pz13_1) (show (8) ≤ 8 from q_2765) (fun σ19 D19ₚ N19ₚ F19ₚ A19ₚ c19 s19 Hₚ Oₚ hD19 hN19 hS19 hA19 (pm19_1 : HID _) m19_1 (em19_1 : HID _) y19_0_1 (ey19_0_1 : HID _) pz19_0 => ⟨rfl, ?_⟩))
        refine v_backMc (c := (c + c13)) (s := (s + s13)) H oz_R2cls_4 oz_R2cls_17 Hₚ Oₚ hD19 oz_R2cls_3 (fun D19 N19 F19 A19 H Oₚ eD19 eN19 eF19 eA19 => ?_)
        have O := OUT_trans O Oₚ
        -- PackHouse.addHighestFirst
        have cF19 : SF oz_R2clsl_0 F F19 := SF_trans (cF13) (SF_gluc (ι := oz_R2clsl_3) oz_R2cls_17 hS19 eF19 (by decide +kernel)) (any_sub (lₚ := [(2, 0), (2, 1), (2, 2)]) (by decide +kernel))
        have mF19 := SFm_of cF19 oz_R2cls_14
        have cA19 : SA oz_R2clsl_1 A A19 := SA_trans (cA13) (SA_gluc (ι := oz_R2clsl_3) oz_R2cls_17 hA19 eA19 (by decide +kernel)) (any_subA (lₚ := [3]) (by decide +kernel))
        have mA19 := SAm_of cA19 oz_R2cls_15
        have cD19 : SD oz_R2clsl_1 D D19 := SD_trans (cD13) (SD_gluc (ι := oz_R2clsl_3) oz_R2cls_17 hD19 eD19 (by decide +kernel)) (any_subA (lₚ := [3]) (by decide +kernel))
        have mD19 := SDm_of cD19 oz_R2cls_15
        have cN19 : SD oz_R2clsl_1 N N19 := SD_trans (cN13) (SD_gluc (ι := oz_R2clsl_3) oz_R2cls_17 hN19 eN19 (by decide +kernel)) (any_subA (lₚ := [3]) (by decide +kernel))
        have mN19 := SDm_of cN19 oz_R2cls_15
        have pf19_2_0 : HID (F19 2 0 = (D19 3 : Int)) := (eF19 2 0).trans (pm19_1.trans (congrArg (fun q : Nat => (q : Int)) (eD19 3).symm))
        have pf19_4_0 : HID (F19 4 0 = (D19 5 : Int)) := ((show F19 4 0 = F13 4 0 from (eF19 4 0))).trans ((pf13_4_0).trans (congrArg (fun q : Nat => (q : Int)) ((show D19 5 = D13 5 from (eD19 5))).symm))
        have pf19_6_0 : HID (F19 6 0 = (D19 7 : Int)) := ((show F19 6 0 = F13 6 0 from (eF19 6 0))).trans ((pf13_6_0).trans (congrArg (fun q : Nat => (q : Int)) ((show D19 7 = D13 7 from (eD19 7))).symm))
        have pf19_8_0 : HID (F19 8 0 = (D19 9 : Int)) := ((show F19 8 0 = F13 8 0 from (eF19 8 0))).trans ((pf13_8_0).trans (congrArg (fun q : Nat => (q : Int)) ((show D19 9 = D13 9 from (eD19 9))).symm))
        refine Ew_of (pcₚ := 47) (fun _ => x_aload_n rfl rfl) ?_
        refine Ew_stk (congrArg (fun qz : Nat => ([.ref qz] : List Value)) (show D19 0 = D 0 from mD19 0 rfl).symm) ?_
        refine v_g H (o := 0) (v := .ref (D19 1)) rfl rfl rfl rfl rfl (vrf ((mF19 0 0 rfl).trans ((pf1).trans (congrArg (fun q : Nat => (q : Int)) (mD19 1 rfl).symm)))) ?_
        refine Ew_of (pcₚ := 51) (fun _ => x_iload_n rfl rfl) ?_
        refine v_lR H (o := 1) rfl rfl rfl rfl rfl (n := n1) ((congrArg (fun q : Nat => (q : Int)) (mN19 1 rfl)).trans (en1)) (show 0 ≤ a1 ∧ a1 < n1 from q_4724 (HIDe r5) b12 h5) (z := ((D19 2 : Nat) : Int)) (v := .ref (D19 2)) ((congrArg (A19 1) b12).trans ((mA19 1 rfl 0).trans ((pf2).trans (congrArg (fun q : Nat => (q : Int)) (mD19 2 rfl).symm)))) (vrf rfl) ?_
        refine Ew_of (pcₚ := 54) (fun _ => x_iload rfl rfl) ?_
        refine w_i2l rfl (show inr (a4) from h3) ?_
        refine Ew_of (pcₚ := 57) (fun _ => x_bipush (z := 32) rfl (by decide)) ?_
        refine w_lshlA rfl (fun z22 gz22 => ?_)
        refine Ew_of (pcₚ := 60) (fun _ => x_iload rfl rfl) ?_
        refine w_i2l rfl (show inr (a5) from h4) ?_
        refine Ew_of (pcₚ := 64) (fun _ => x_ldc2 (z := 4294967295) rfl (by decide)) ?_
        refine w_land rfl (show inrJ (a5) from q_2579 h4) (show inrJ (4294967295) from q_4725) (fun z23 gz23 gaz23 gbz23 => ?_)
        refine w_lorA rfl (fun z24 gz24 => ?_)
        refine Ew_of (pcₚ := 68) (fun _ => x_bipush (z := 8) rfl (by decide)) ?_
        refine w_stat24 rfl rfl (by rfl) (C28_Row (D := puc 1538 D19) (N := puc 1538 N19) (HW_subc H oz_R2cls_4 oz_R2cls_17) (pf19_2_0) (m19_1) ((congrArg (fun q : Nat => (q : Int)) (eN19 3)).trans em19_1) (y19_0_1) (((eF19 2 1).trans ey19_0_1)) (show inrJ (z24) from gz24) (show inr (8) from q_141) (show 0 ≤ (y19_0_1) ∧ (y19_0_1) ≤ (m19_1) ∧ (m19_1) ≤ 65536 from pz19_0) (show (8) ≤ 8 from q_2765) (fun σ25 D25ₚ N25ₚ F25ₚ A25ₚ c25 s25 Hₚ Oₚ hD25 hN25 hS25 hA25 (pm25_1 : HID _) m25_1 (em25_1 : HID _) y25_0_1 (ey25_0_1 : HID _) pz25_0 => ⟨rfl, ?_⟩))
        refine v_backMc (c := ((c + c13) + c19)) (s := ((s + s13) + s19)) H oz_R2cls_4 oz_R2cls_17 Hₚ Oₚ hD25 oz_R2cls_3 (fun D25 N25 F25 A25 H Oₚ eD25 eN25 eF25 eA25 => ?_)
        have O := OUT_trans O Oₚ
        -- PackHouse.addHighestFirst
        have cF25 : SF oz_R2clsl_0 F F25 := SF_trans (cF19) (SF_gluc (ι := oz_R2clsl_3) oz_R2cls_17 hS25 eF25 (by decide +kernel)) (any_sub (lₚ := [(2, 0), (2, 1), (2, 2)]) (by decide +kernel))
        have mF25 := SFm_of cF25 oz_R2cls_14
        have cA25 : SA oz_R2clsl_1 A A25 := SA_trans (cA19) (SA_gluc (ι := oz_R2clsl_3) oz_R2cls_17 hA25 eA25 (by decide +kernel)) (any_subA (lₚ := [3]) (by decide +kernel))
        have mA25 := SAm_of cA25 oz_R2cls_15
        have cD25 : SD oz_R2clsl_1 D D25 := SD_trans (cD19) (SD_gluc (ι := oz_R2clsl_3) oz_R2cls_17 hD25 eD25 (by decide +kernel)) (any_subA (lₚ := [3]) (by decide +kernel))
        have mD25 := SDm_of cD25 oz_R2cls_15
        have cN25 : SD oz_R2clsl_1 N N25 := SD_trans (cN19) (SD_gluc (ι := oz_R2clsl_3) oz_R2cls_17 hN25 eN25 (by decide +kernel)) (any_subA (lₚ := [3]) (by decide +kernel))
        have mN25 := SDm_of cN25 oz_R2cls_15
        have pf25_2_0 : HID (F25 2 0 = (D25 3 : Int)) := (eF25 2 0).trans (pm25_1.trans (congrArg (fun q : Nat => (q : Int)) (eD25 3).symm))
        have pf25_4_0 : HID (F25 4 0 = (D25 5 : Int)) := ((show F25 4 0 = F19 4 0 from (eF25 4 0))).trans ((pf19_4_0).trans (congrArg (fun q : Nat => (q : Int)) ((show D25 5 = D19 5 from (eD25 5))).symm))
        have pf25_6_0 : HID (F25 6 0 = (D25 7 : Int)) := ((show F25 6 0 = F19 6 0 from (eF25 6 0))).trans ((pf19_6_0).trans (congrArg (fun q : Nat => (q : Int)) ((show D25 7 = D19 7 from (eD25 7))).symm))
        have pf25_8_0 : HID (F25 8 0 = (D25 9 : Int)) := ((show F25 8 0 = F19 8 0 from (eF25 8 0))).trans ((pf19_8_0).trans (congrArg (fun q : Nat => (q : Int)) ((show D25 9 = D19 9 from (eD25 9))).symm))
        refine Ew_of (pcₚ := 72) (fun _ => x_iconst rfl) ?_
        exact w_ireturn rfl (k (1) _ _ _ _ _ _ _ H O (cD25) (cN25) (cF25) (cA25) (pf25_2_0) (pf25_4_0) (pf25_6_0) (pf25_8_0) (m25_1) ((congrArg (fun q : Nat => (q : Int)) (eN25 3)).trans em25_1) (n5) ((congrArg (fun q : Nat => (q : Int)) (show N25 5 = N19 5 from (eN25 5))).trans ((congrArg (fun q : Nat => (q : Int)) (show N19 5 = N13 5 from (eN19 5))).trans ((congrArg (fun q : Nat => (q : Int)) (show N13 5 = N 5 from (eN13 5))).trans (en5)))) (n7) ((congrArg (fun q : Nat => (q : Int)) (show N25 7 = N19 7 from (eN25 7))).trans ((congrArg (fun q : Nat => (q : Int)) (show N19 7 = N13 7 from (eN19 7))).trans ((congrArg (fun q : Nat => (q : Int)) (show N13 7 = N 7 from (eN13 7))).trans (en7)))) (n9) ((congrArg (fun q : Nat => (q : Int)) (show N25 9 = N19 9 from (eN25 9))).trans ((congrArg (fun q : Nat => (q : Int)) (show N19 9 = N13 9 from (eN19 9))).trans ((congrArg (fun q : Nat => (q : Int)) (show N13 9 = N 9 from (eN13 9))).trans (en9)))) (y25_0_1) (((eF25 2 1).trans ey25_0_1)) (u4_1) (((((((show F25 4 1 = F19 4 1 from (eF25 4 1))).trans ((show F19 4 1 = F13 4 1 from (eF19 4 1)))).trans ((show F13 4 1 = F10 4 1 from (eF13 4 1)))).trans ((show F10 4 1 = F 4 1 from (eF10 4 1)))).trans (eu4_1))) (u6_1) (((((((show F25 6 1 = F19 6 1 from (eF25 6 1))).trans ((show F19 6 1 = F13 6 1 from (eF19 6 1)))).trans ((show F13 6 1 = F10 6 1 from (eF13 6 1)))).trans ((show F10 6 1 = F 6 1 from (eF10 6 1)))).trans (eu6_1))) (u8_1) (((((((show F25 8 1 = F19 8 1 from (eF25 8 1))).trans ((show F19 8 1 = F13 8 1 from (eF19 8 1)))).trans ((show F13 8 1 = F10 8 1 from (eF13 8 1)))).trans ((show F10 8 1 = F 8 1 from (eF10 8 1)))).trans (eu8_1))) (show (1) = 0 ∨ (1) = 1 by first | exact q_49 | omega) (show 0 ≤ (y25_0_1) ∧ (y25_0_1) ≤ (m25_1) ∧ (m25_1) ≤ 65536 from pz25_0) (show 0 ≤ (u4_1) ∧ (u4_1) ≤ (n5) ∧ (n5) ≤ 65536 from h7) (show 0 ≤ (u6_1) ∧ (u6_1) ≤ (n7) ∧ (n7) ≤ 65536 from h8) (show 0 ≤ (u8_1) ∧ (u8_1) ≤ (n9) ∧ (n9) ≤ 65536 from h9))
      · refine Ew_of (pcₚ := 22) (fun _ => x_iconst rfl) ?_
        exact w_ireturn rfl (k (0) _ _ _ _ _ _ _ H O (cD13) (cN13) (cF13) (cA13) (pf13_2_0) (pf13_4_0) (pf13_6_0) (pf13_8_0) (m13_1) ((congrArg (fun q : Nat => (q : Int)) (eN13 3)).trans em13_1) (n5) ((congrArg (fun q : Nat => (q : Int)) (show N13 5 = N 5 from (eN13 5))).trans (en5)) (n7) ((congrArg (fun q : Nat => (q : Int)) (show N13 7 = N 7 from (eN13 7))).trans (en7)) (n9) ((congrArg (fun q : Nat => (q : Int)) (show N13 9 = N 9 from (eN13 9))).trans (en9)) (u2_1) (((((show F13 2 1 = F10 2 1 from (eF13 2 1).trans (hS13 0 1 rfl))).trans ((show F10 2 1 = F 2 1 from (eF10 2 1)))).trans (eu2_1))) (u4_1) (((((show F13 4 1 = F10 4 1 from (eF13 4 1))).trans ((show F10 4 1 = F 4 1 from (eF10 4 1)))).trans (eu4_1))) (u6_1) (((((show F13 6 1 = F10 6 1 from (eF13 6 1))).trans ((show F10 6 1 = F 6 1 from (eF10 6 1)))).trans (eu6_1))) (u8_1) (((((show F13 8 1 = F10 8 1 from (eF13 8 1))).trans ((show F10 8 1 = F 8 1 from (eF10 8 1)))).trans (eu8_1))) (show (0) = 0 ∨ (0) = 1 by first | exact q_45 | omega) (show 0 ≤ (u2_1) ∧ (u2_1) ≤ (m13_1) ∧ (m13_1) ≤ 65536 from pz13_1) (show 0 ≤ (u4_1) ∧ (u4_1) ≤ (n5) ∧ (n5) ≤ 65536 from h7) (show 0 ≤ (u6_1) ∧ (u6_1) ≤ (n7) ∧ (n7) ≤ 65536 from h8) (show 0 ≤ (u8_1) ∧ (u8_1) ≤ (n9) ∧ (n9) ≤ 65536 from h9))
    · refine v_lR H (o := 1) rfl rfl rfl rfl rfl (n := n1) (en1) (show 0 ≤ a1 ∧ a1 < n1 from q_4726 (HIDe r5) b12 h5) (z := ((D 4 : Nat) : Int)) (v := .ref (D 4)) ((congrArg (A10 1) b12).trans ((mA10 1 rfl 1).trans (pf4))) (vrf rfl) ?_
      refine Ew_of (pcₚ := 15) (fun _ => x_bipush (z := 16) rfl (by decide)) ?_
      refine v_inv H (o := 4) rfl rfl rfl rfl rfl rfl (by rfl) (C157 (D := puc 2564 D) (N := puc 2564 N) (HW_subc H oz_R2cls_5 oz_R2cls_18) ((((show F10 4 0 = F 4 0 from (eF10 4 0)))).trans (pf5)) (n5) (en5) (u4_1) ((((show F10 4 1 = F 4 1 from (eF10 4 1))).trans (eu4_1))) (A 5) ((show A10 5 = A 5 from (eA10 5))) (show inr (16) from q_345) (show 0 ≤ (u4_1) ∧ (u4_1) ≤ (n5) ∧ (n5) ≤ 65536 from h7) (fun z28 σ28 D28ₚ N28ₚ F28ₚ A28ₚ c28 s28 Hₚ Oₚ hD28 hN28 hS28 hA28 (pm28_1 : HID _) m28_1 (em28_1 : HID _) w28_1 ew28_1 pz28_0 pz28_1 pz28_2 pz28_3 pz28_4 => ⟨rretB rfl pz28_0, ?_⟩))
      refine v_backMc (c := c) (s := s) H oz_R2cls_5 oz_R2cls_18 Hₚ Oₚ hD28 oz_R2cls_6 (fun D28 N28 F28 A28 H Oₚ eD28 eN28 eF28 eA28 => ?_)
      have O := OUT_trans O Oₚ
      -- Row.reserve
      have cF28 : SF oz_R2clsl_0 F F28 := SF_trans (cF10) (SF_gluc (ι := oz_R2clsl_4) oz_R2cls_18 hS28 eF28 (by decide +kernel)) (any_sub (lₚ := [(4, 0)]) (by decide +kernel))
      have mF28 := SFm_of cF28 oz_R2cls_14
      have cA28 : SA oz_R2clsl_1 A A28 := SA_trans (cA10) (SA_gluc (ι := oz_R2clsl_4) oz_R2cls_18 hA28 eA28 (by decide +kernel)) (any_subA (lₚ := [5]) (by decide +kernel))
      have mA28 := SAm_of cA28 oz_R2cls_15
      have cD28 : SD oz_R2clsl_1 D D28 := SD_trans (SD_refl) (SD_gluc (ι := oz_R2clsl_4) oz_R2cls_18 hD28 eD28 (by decide +kernel)) (any_subA (lₚ := [5]) (by decide +kernel))
      have mD28 := SDm_of cD28 oz_R2cls_15
      have cN28 : SD oz_R2clsl_1 N N28 := SD_trans (SD_refl) (SD_gluc (ι := oz_R2clsl_4) oz_R2cls_18 hN28 eN28 (by decide +kernel)) (any_subA (lₚ := [5]) (by decide +kernel))
      have mN28 := SDm_of cN28 oz_R2cls_15
      have pf28_2_0 : HID (F28 2 0 = (D28 3 : Int)) := ((show F28 2 0 = F10 2 0 from (eF28 2 0))).trans (((((show F10 2 0 = F 2 0 from (eF10 2 0)))).trans (pf3)).trans (congrArg (fun q : Nat => (q : Int)) ((show D28 3 = D 3 from (eD28 3))).symm))
      have pf28_4_0 : HID (F28 4 0 = (D28 5 : Int)) := (eF28 4 0).trans (pm28_1.trans (congrArg (fun q : Nat => (q : Int)) (eD28 5).symm))
      have pf28_6_0 : HID (F28 6 0 = (D28 7 : Int)) := ((show F28 6 0 = F10 6 0 from (eF28 6 0))).trans (((((show F10 6 0 = F 6 0 from (eF10 6 0)))).trans (pf7)).trans (congrArg (fun q : Nat => (q : Int)) ((show D28 7 = D 7 from (eD28 7))).symm))
      have pf28_8_0 : HID (F28 8 0 = (D28 9 : Int)) := ((show F28 8 0 = F10 8 0 from (eF28 8 0))).trans (((((show F10 8 0 = F 8 0 from (eF10 8 0)))).trans (pf9)).trans (congrArg (fun q : Nat => (q : Int)) ((show D28 9 = D 9 from (eD28 9))).symm))
      refine w_ifne (t := 23) rfl rfl (show inr (z28) from q_138 pz28_0) (fun b30 => ?_) (fun b30 => ?_)
      · refine Ew_of (pcₚ := 24) (fun _ => x_aload_n rfl rfl) ?_
        refine Ew_stk (congrArg (fun qz : Nat => ([.ref qz] : List Value)) (show D28 0 = D 0 from mD28 0 rfl).symm) ?_
        refine v_g H (o := 0) (v := .ref (D28 1)) rfl rfl rfl rfl rfl (vrf ((mF28 0 0 rfl).trans ((pf1).trans (congrArg (fun q : Nat => (q : Int)) (mD28 1 rfl).symm)))) ?_
        refine Ew_of (pcₚ := 28) (fun _ => x_iload_n rfl rfl) ?_
        refine v_lR H (o := 1) rfl rfl rfl rfl rfl (n := n1) ((congrArg (fun q : Nat => (q : Int)) (mN28 1 rfl)).trans (en1)) (show 0 ≤ a1 ∧ a1 < n1 from q_4726 (HIDe r5) b12 h5) (z := ((D28 4 : Nat) : Int)) (v := .ref (D28 4)) ((congrArg (A28 1) b12).trans ((mA28 1 rfl 1).trans ((pf4).trans (congrArg (fun q : Nat => (q : Int)) (mD28 4 rfl).symm)))) (vrf rfl) ?_
        refine Ew_of (pcₚ := 30) (fun _ => x_iload_n rfl rfl) ?_
        refine w_i2l rfl (show inr (a2) from h1) ?_
        refine Ew_of (pcₚ := 33) (fun _ => x_bipush (z := 32) rfl (by decide)) ?_
        refine w_lshlA rfl (fun z31 gz31 => ?_)
        refine Ew_of (pcₚ := 35) (fun _ => x_iload_n rfl rfl) ?_
        refine w_i2l rfl (show inr (a3) from h2) ?_
        refine Ew_of (pcₚ := 39) (fun _ => x_ldc2 (z := 4294967295) rfl (by decide)) ?_
        refine w_land rfl (show inrJ (a3) from q_2579 h2) (show inrJ (4294967295) from q_4725) (fun z32 gz32 gaz32 gbz32 => ?_)
        refine w_lorA rfl (fun z33 gz33 => ?_)
        refine Ew_of (pcₚ := 43) (fun _ => x_bipush (z := 8) rfl (by decide)) ?_
        refine w_stat24 rfl rfl (by rfl) (C28_Row (D := puc 2564 D28) (N := puc 2564 N28) (HW_subc H oz_R2cls_7 oz_R2cls_18) (pf28_4_0) (m28_1) ((congrArg (fun q : Nat => (q : Int)) (eN28 5)).trans em28_1) (u4_1) (((((show F28 4 1 = F10 4 1 from (eF28 4 1).trans (hS28 0 1 rfl))).trans ((show F10 4 1 = F 4 1 from (eF10 4 1)))).trans (eu4_1))) (show inrJ (z33) from gz33) (show inr (8) from q_141) (show 0 ≤ (u4_1) ∧ (u4_1) ≤ (m28_1) ∧ (m28_1) ≤ 65536 from pz28_1) (show (8) ≤ 8 from q_2765) (fun σ34 D34ₚ N34ₚ F34ₚ A34ₚ c34 s34 Hₚ Oₚ hD34 hN34 hS34 hA34 (pm34_1 : HID _) m34_1 (em34_1 : HID _) y34_0_1 (ey34_0_1 : HID _) pz34_0 => ⟨rfl, ?_⟩))
        refine v_backMc (c := (c + c28)) (s := (s + s28)) H oz_R2cls_7 oz_R2cls_18 Hₚ Oₚ hD34 oz_R2cls_6 (fun D34 N34 F34 A34 H Oₚ eD34 eN34 eF34 eA34 => ?_)
        have O := OUT_trans O Oₚ
        -- PackHouse.addHighestFirst
        have cF34 : SF oz_R2clsl_0 F F34 := SF_trans (cF28) (SF_gluc (ι := oz_R2clsl_4) oz_R2cls_18 hS34 eF34 (by decide +kernel)) (any_sub (lₚ := [(4, 0), (4, 1), (4, 2)]) (by decide +kernel))
        have mF34 := SFm_of cF34 oz_R2cls_14
        have cA34 : SA oz_R2clsl_1 A A34 := SA_trans (cA28) (SA_gluc (ι := oz_R2clsl_4) oz_R2cls_18 hA34 eA34 (by decide +kernel)) (any_subA (lₚ := [5]) (by decide +kernel))
        have mA34 := SAm_of cA34 oz_R2cls_15
        have cD34 : SD oz_R2clsl_1 D D34 := SD_trans (cD28) (SD_gluc (ι := oz_R2clsl_4) oz_R2cls_18 hD34 eD34 (by decide +kernel)) (any_subA (lₚ := [5]) (by decide +kernel))
        have mD34 := SDm_of cD34 oz_R2cls_15
        have cN34 : SD oz_R2clsl_1 N N34 := SD_trans (cN28) (SD_gluc (ι := oz_R2clsl_4) oz_R2cls_18 hN34 eN34 (by decide +kernel)) (any_subA (lₚ := [5]) (by decide +kernel))
        have mN34 := SDm_of cN34 oz_R2cls_15
        have pf34_2_0 : HID (F34 2 0 = (D34 3 : Int)) := ((show F34 2 0 = F28 2 0 from (eF34 2 0))).trans ((pf28_2_0).trans (congrArg (fun q : Nat => (q : Int)) ((show D34 3 = D28 3 from (eD34 3))).symm))
        have pf34_4_0 : HID (F34 4 0 = (D34 5 : Int)) := (eF34 4 0).trans (pm34_1.trans (congrArg (fun q : Nat => (q : Int)) (eD34 5).symm))
        have pf34_6_0 : HID (F34 6 0 = (D34 7 : Int)) := ((show F34 6 0 = F28 6 0 from (eF34 6 0))).trans ((pf28_6_0).trans (congrArg (fun q : Nat => (q : Int)) ((show D34 7 = D28 7 from (eD34 7))).symm))
        have pf34_8_0 : HID (F34 8 0 = (D34 9 : Int)) := ((show F34 8 0 = F28 8 0 from (eF34 8 0))).trans ((pf28_8_0).trans (congrArg (fun q : Nat => (q : Int)) ((show D34 9 = D28 9 from (eD34 9))).symm))
        refine Ew_of (pcₚ := 47) (fun _ => x_aload_n rfl rfl) ?_
        refine Ew_stk (congrArg (fun qz : Nat => ([.ref qz] : List Value)) (show D34 0 = D 0 from mD34 0 rfl).symm) ?_
        refine v_g H (o := 0) (v := .ref (D34 1)) rfl rfl rfl rfl rfl (vrf ((mF34 0 0 rfl).trans ((pf1).trans (congrArg (fun q : Nat => (q : Int)) (mD34 1 rfl).symm)))) ?_
        refine Ew_of (pcₚ := 51) (fun _ => x_iload_n rfl rfl) ?_
        refine v_lR H (o := 1) rfl rfl rfl rfl rfl (n := n1) ((congrArg (fun q : Nat => (q : Int)) (mN34 1 rfl)).trans (en1)) (show 0 ≤ a1 ∧ a1 < n1 from q_4726 (HIDe r5) b12 h5) (z := ((D34 4 : Nat) : Int)) (v := .ref (D34 4)) ((congrArg (A34 1) b12).trans ((mA34 1 rfl 1).trans ((pf4).trans (congrArg (fun q : Nat => (q : Int)) (mD34 4 rfl).symm)))) (vrf rfl) ?_
        refine Ew_of (pcₚ := 54) (fun _ => x_iload rfl rfl) ?_
        refine w_i2l rfl (show inr (a4) from h3) ?_
        refine Ew_of (pcₚ := 57) (fun _ => x_bipush (z := 32) rfl (by decide)) ?_
        refine w_lshlA rfl (fun z37 gz37 => ?_)
        refine Ew_of (pcₚ := 60) (fun _ => x_iload rfl rfl) ?_
        refine w_i2l rfl (show inr (a5) from h4) ?_
        refine Ew_of (pcₚ := 64) (fun _ => x_ldc2 (z := 4294967295) rfl (by decide)) ?_
        refine w_land rfl (show inrJ (a5) from q_2579 h4) (show inrJ (4294967295) from q_4725) (fun z38 gz38 gaz38 gbz38 => ?_)
        refine w_lorA rfl (fun z39 gz39 => ?_)
        refine Ew_of (pcₚ := 68) (fun _ => x_bipush (z := 8) rfl (by decide)) ?_
        refine w_stat24 rfl rfl (by rfl) (C28_Row (D := puc 2564 D34) (N := puc 2564 N34) (HW_subc H oz_R2cls_7 oz_R2cls_18) (pf34_4_0) (m34_1) ((congrArg (fun q : Nat => (q : Int)) (eN34 5)).trans em34_1) (y34_0_1) (((eF34 4 1).trans ey34_0_1)) (show inrJ (z39) from gz39) (show inr (8) from q_141) (show 0 ≤ (y34_0_1) ∧ (y34_0_1) ≤ (m34_1) ∧ (m34_1) ≤ 65536 from pz34_0) (show (8) ≤ 8 from q_2765) (fun σ40 D40ₚ N40ₚ F40ₚ A40ₚ c40 s40 Hₚ Oₚ hD40 hN40 hS40 hA40 (pm40_1 : HID _) m40_1 (em40_1 : HID _) y40_0_1 (ey40_0_1 : HID _) pz40_0 => ⟨rfl, ?_⟩))
        refine v_backMc (c := ((c + c28) + c34)) (s := ((s + s28) + s34)) H oz_R2cls_7 oz_R2cls_18 Hₚ Oₚ hD40 oz_R2cls_6 (fun D40 N40 F40 A40 H Oₚ eD40 eN40 eF40 eA40 => ?_)
        have O := OUT_trans O Oₚ
        -- PackHouse.addHighestFirst
        have cF40 : SF oz_R2clsl_0 F F40 := SF_trans (cF34) (SF_gluc (ι := oz_R2clsl_4) oz_R2cls_18 hS40 eF40 (by decide +kernel)) (any_sub (lₚ := [(4, 0), (4, 1), (4, 2)]) (by decide +kernel))
        have mF40 := SFm_of cF40 oz_R2cls_14
        have cA40 : SA oz_R2clsl_1 A A40 := SA_trans (cA34) (SA_gluc (ι := oz_R2clsl_4) oz_R2cls_18 hA40 eA40 (by decide +kernel)) (any_subA (lₚ := [5]) (by decide +kernel))
        have mA40 := SAm_of cA40 oz_R2cls_15
        have cD40 : SD oz_R2clsl_1 D D40 := SD_trans (cD34) (SD_gluc (ι := oz_R2clsl_4) oz_R2cls_18 hD40 eD40 (by decide +kernel)) (any_subA (lₚ := [5]) (by decide +kernel))
        have mD40 := SDm_of cD40 oz_R2cls_15
        have cN40 : SD oz_R2clsl_1 N N40 := SD_trans (cN34) (SD_gluc (ι := oz_R2clsl_4) oz_R2cls_18 hN40 eN40 (by decide +kernel)) (any_subA (lₚ := [5]) (by decide +kernel))
        have mN40 := SDm_of cN40 oz_R2cls_15
        have pf40_2_0 : HID (F40 2 0 = (D40 3 : Int)) := ((show F40 2 0 = F34 2 0 from (eF40 2 0))).trans ((pf34_2_0).trans (congrArg (fun q : Nat => (q : Int)) ((show D40 3 = D34 3 from (eD40 3))).symm))
        have pf40_4_0 : HID (F40 4 0 = (D40 5 : Int)) := (eF40 4 0).trans (pm40_1.trans (congrArg (fun q : Nat => (q : Int)) (eD40 5).symm))
        have pf40_6_0 : HID (F40 6 0 = (D40 7 : Int)) := ((show F40 6 0 = F34 6 0 from (eF40 6 0))).trans ((pf34_6_0).trans (congrArg (fun q : Nat => (q : Int)) ((show D40 7 = D34 7 from (eD40 7))).symm))
        have pf40_8_0 : HID (F40 8 0 = (D40 9 : Int)) := ((show F40 8 0 = F34 8 0 from (eF40 8 0))).trans ((pf34_8_0).trans (congrArg (fun q : Nat => (q : Int)) ((show D40 9 = D34 9 from (eD40 9))).symm))
        refine Ew_of (pcₚ := 72) (fun _ => x_iconst rfl) ?_
        exact w_ireturn rfl (k (1) _ _ _ _ _ _ _ H O (cD40) (cN40) (cF40) (cA40) (pf40_2_0) (pf40_4_0) (pf40_6_0) (pf40_8_0) (n3) ((congrArg (fun q : Nat => (q : Int)) (show N40 3 = N34 3 from (eN40 3))).trans ((congrArg (fun q : Nat => (q : Int)) (show N34 3 = N28 3 from (eN34 3))).trans ((congrArg (fun q : Nat => (q : Int)) (show N28 3 = N 3 from (eN28 3))).trans (en3)))) (m40_1) ((congrArg (fun q : Nat => (q : Int)) (eN40 5)).trans em40_1) (n7) ((congrArg (fun q : Nat => (q : Int)) (show N40 7 = N34 7 from (eN40 7))).trans ((congrArg (fun q : Nat => (q : Int)) (show N34 7 = N28 7 from (eN34 7))).trans ((congrArg (fun q : Nat => (q : Int)) (show N28 7 = N 7 from (eN28 7))).trans (en7)))) (n9) ((congrArg (fun q : Nat => (q : Int)) (show N40 9 = N34 9 from (eN40 9))).trans ((congrArg (fun q : Nat => (q : Int)) (show N34 9 = N28 9 from (eN34 9))).trans ((congrArg (fun q : Nat => (q : Int)) (show N28 9 = N 9 from (eN28 9))).trans (en9)))) (u2_1) (((((((show F40 2 1 = F34 2 1 from (eF40 2 1))).trans ((show F34 2 1 = F28 2 1 from (eF34 2 1)))).trans ((show F28 2 1 = F10 2 1 from (eF28 2 1)))).trans ((show F10 2 1 = F 2 1 from (eF10 2 1)))).trans (eu2_1))) (y40_0_1) (((eF40 4 1).trans ey40_0_1)) (u6_1) (((((((show F40 6 1 = F34 6 1 from (eF40 6 1))).trans ((show F34 6 1 = F28 6 1 from (eF34 6 1)))).trans ((show F28 6 1 = F10 6 1 from (eF28 6 1)))).trans ((show F10 6 1 = F 6 1 from (eF10 6 1)))).trans (eu6_1))) (u8_1) (((((((show F40 8 1 = F34 8 1 from (eF40 8 1))).trans ((show F34 8 1 = F28 8 1 from (eF34 8 1)))).trans ((show F28 8 1 = F10 8 1 from (eF28 8 1)))).trans ((show F10 8 1 = F 8 1 from (eF10 8 1)))).trans (eu8_1))) (show (1) = 0 ∨ (1) = 1 by first | exact q_49 | omega) (show 0 ≤ (u2_1) ∧ (u2_1) ≤ (n3) ∧ (n3) ≤ 65536 from h6) (show 0 ≤ (y40_0_1) ∧ (y40_0_1) ≤ (m40_1) ∧ (m40_1) ≤ 65536 from pz40_0) (show 0 ≤ (u6_1) ∧ (u6_1) ≤ (n7) ∧ (n7) ≤ 65536 from h8) (show 0 ≤ (u8_1) ∧ (u8_1) ≤ (n9) ∧ (n9) ≤ 65536 from h9))
      · refine Ew_of (pcₚ := 22) (fun _ => x_iconst rfl) ?_
        exact w_ireturn rfl (k (0) _ _ _ _ _ _ _ H O (cD28) (cN28) (cF28) (cA28) (pf28_2_0) (pf28_4_0) (pf28_6_0) (pf28_8_0) (n3) ((congrArg (fun q : Nat => (q : Int)) (show N28 3 = N 3 from (eN28 3))).trans (en3)) (m28_1) ((congrArg (fun q : Nat => (q : Int)) (eN28 5)).trans em28_1) (n7) ((congrArg (fun q : Nat => (q : Int)) (show N28 7 = N 7 from (eN28 7))).trans (en7)) (n9) ((congrArg (fun q : Nat => (q : Int)) (show N28 9 = N 9 from (eN28 9))).trans (en9)) (u2_1) (((((show F28 2 1 = F10 2 1 from (eF28 2 1))).trans ((show F10 2 1 = F 2 1 from (eF10 2 1)))).trans (eu2_1))) (u4_1) (((((show F28 4 1 = F10 4 1 from (eF28 4 1).trans (hS28 0 1 rfl))).trans ((show F10 4 1 = F 4 1 from (eF10 4 1)))).trans (eu4_1))) (u6_1) (((((show F28 6 1 = F10 6 1 from (eF28 6 1))).trans ((show F10 6 1 = F 6 1 from (eF10 6 1)))).trans (eu6_1))) (u8_1) (((((show F28 8 1 = F10 8 1 from (eF28 8 1))).trans ((show F10 8 1 = F 8 1 from (eF10 8 1)))).trans (eu8_1))) (show (0) = 0 ∨ (0) = 1 by first | exact q_45 | omega) (show 0 ≤ (u2_1) ∧ (u2_1) ≤ (n3) ∧ (n3) ≤ 65536 from h6) (show 0 ≤ (u4_1) ∧ (u4_1) ≤ (m28_1) ∧ (m28_1) ≤ 65536 from pz28_1) (show 0 ≤ (u6_1) ∧ (u6_1) ≤ (n7) ∧ (n7) ≤ 65536 from h8) (show 0 ≤ (u8_1) ∧ (u8_1) ≤ (n9) ∧ (n9) ≤ 65536 from h9))
    · refine v_lR H (o := 1) rfl rfl rfl rfl rfl (n := n1) (en1) (show 0 ≤ a1 ∧ a1 < n1 from q_4727 (HIDe r5) b12 h5) (z := ((D 6 : Nat) : Int)) (v := .ref (D 6)) ((congrArg (A10 1) b12).trans ((mA10 1 rfl 2).trans (pf6))) (vrf rfl) ?_
      refine Ew_of (pcₚ := 15) (fun _ => x_bipush (z := 16) rfl (by decide)) ?_
      refine v_inv H (o := 6) rfl rfl rfl rfl rfl rfl (by rfl) (C157 (D := puc 3590 D) (N := puc 3590 N) (HW_subc H oz_R2cls_8 oz_R2cls_19) ((((show F10 6 0 = F 6 0 from (eF10 6 0)))).trans (pf7)) (n7) (en7) (u6_1) ((((show F10 6 1 = F 6 1 from (eF10 6 1))).trans (eu6_1))) (A 7) ((show A10 7 = A 7 from (eA10 7))) (show inr (16) from q_345) (show 0 ≤ (u6_1) ∧ (u6_1) ≤ (n7) ∧ (n7) ≤ 65536 from h8) (fun z43 σ43 D43ₚ N43ₚ F43ₚ A43ₚ c43 s43 Hₚ Oₚ hD43 hN43 hS43 hA43 (pm43_1 : HID _) m43_1 (em43_1 : HID _) w43_1 ew43_1 pz43_0 pz43_1 pz43_2 pz43_3 pz43_4 => ⟨rretB rfl pz43_0, ?_⟩))
      refine v_backMc (c := c) (s := s) H oz_R2cls_8 oz_R2cls_19 Hₚ Oₚ hD43 oz_R2cls_9 (fun D43 N43 F43 A43 H Oₚ eD43 eN43 eF43 eA43 => ?_)
      have O := OUT_trans O Oₚ
      -- Row.reserve
      have cF43 : SF oz_R2clsl_0 F F43 := SF_trans (cF10) (SF_gluc (ι := oz_R2clsl_5) oz_R2cls_19 hS43 eF43 (by decide +kernel)) (any_sub (lₚ := [(6, 0)]) (by decide +kernel))
      have mF43 := SFm_of cF43 oz_R2cls_14
      have cA43 : SA oz_R2clsl_1 A A43 := SA_trans (cA10) (SA_gluc (ι := oz_R2clsl_5) oz_R2cls_19 hA43 eA43 (by decide +kernel)) (any_subA (lₚ := [7]) (by decide +kernel))
      have mA43 := SAm_of cA43 oz_R2cls_15
      have cD43 : SD oz_R2clsl_1 D D43 := SD_trans (SD_refl) (SD_gluc (ι := oz_R2clsl_5) oz_R2cls_19 hD43 eD43 (by decide +kernel)) (any_subA (lₚ := [7]) (by decide +kernel))
      have mD43 := SDm_of cD43 oz_R2cls_15
      have cN43 : SD oz_R2clsl_1 N N43 := SD_trans (SD_refl) (SD_gluc (ι := oz_R2clsl_5) oz_R2cls_19 hN43 eN43 (by decide +kernel)) (any_subA (lₚ := [7]) (by decide +kernel))
      have mN43 := SDm_of cN43 oz_R2cls_15
      have pf43_2_0 : HID (F43 2 0 = (D43 3 : Int)) := ((show F43 2 0 = F10 2 0 from (eF43 2 0))).trans (((((show F10 2 0 = F 2 0 from (eF10 2 0)))).trans (pf3)).trans (congrArg (fun q : Nat => (q : Int)) ((show D43 3 = D 3 from (eD43 3))).symm))
      have pf43_4_0 : HID (F43 4 0 = (D43 5 : Int)) := ((show F43 4 0 = F10 4 0 from (eF43 4 0))).trans (((((show F10 4 0 = F 4 0 from (eF10 4 0)))).trans (pf5)).trans (congrArg (fun q : Nat => (q : Int)) ((show D43 5 = D 5 from (eD43 5))).symm))
      have pf43_6_0 : HID (F43 6 0 = (D43 7 : Int)) := (eF43 6 0).trans (pm43_1.trans (congrArg (fun q : Nat => (q : Int)) (eD43 7).symm))
      have pf43_8_0 : HID (F43 8 0 = (D43 9 : Int)) := ((show F43 8 0 = F10 8 0 from (eF43 8 0))).trans (((((show F10 8 0 = F 8 0 from (eF10 8 0)))).trans (pf9)).trans (congrArg (fun q : Nat => (q : Int)) ((show D43 9 = D 9 from (eD43 9))).symm))
      refine w_ifne (t := 23) rfl rfl (show inr (z43) from q_138 pz43_0) (fun b45 => ?_) (fun b45 => ?_)
      · refine Ew_of (pcₚ := 24) (fun _ => x_aload_n rfl rfl) ?_
        refine Ew_stk (congrArg (fun qz : Nat => ([.ref qz] : List Value)) (show D43 0 = D 0 from mD43 0 rfl).symm) ?_
        refine v_g H (o := 0) (v := .ref (D43 1)) rfl rfl rfl rfl rfl (vrf ((mF43 0 0 rfl).trans ((pf1).trans (congrArg (fun q : Nat => (q : Int)) (mD43 1 rfl).symm)))) ?_
        refine Ew_of (pcₚ := 28) (fun _ => x_iload_n rfl rfl) ?_
        refine v_lR H (o := 1) rfl rfl rfl rfl rfl (n := n1) ((congrArg (fun q : Nat => (q : Int)) (mN43 1 rfl)).trans (en1)) (show 0 ≤ a1 ∧ a1 < n1 from q_4727 (HIDe r5) b12 h5) (z := ((D43 6 : Nat) : Int)) (v := .ref (D43 6)) ((congrArg (A43 1) b12).trans ((mA43 1 rfl 2).trans ((pf6).trans (congrArg (fun q : Nat => (q : Int)) (mD43 6 rfl).symm)))) (vrf rfl) ?_
        refine Ew_of (pcₚ := 30) (fun _ => x_iload_n rfl rfl) ?_
        refine w_i2l rfl (show inr (a2) from h1) ?_
        refine Ew_of (pcₚ := 33) (fun _ => x_bipush (z := 32) rfl (by decide)) ?_
        refine w_lshlA rfl (fun z46 gz46 => ?_)
        refine Ew_of (pcₚ := 35) (fun _ => x_iload_n rfl rfl) ?_
        refine w_i2l rfl (show inr (a3) from h2) ?_
        refine Ew_of (pcₚ := 39) (fun _ => x_ldc2 (z := 4294967295) rfl (by decide)) ?_
        refine w_land rfl (show inrJ (a3) from q_2579 h2) (show inrJ (4294967295) from q_4725) (fun z47 gz47 gaz47 gbz47 => ?_)
        refine w_lorA rfl (fun z48 gz48 => ?_)
        refine Ew_of (pcₚ := 43) (fun _ => x_bipush (z := 8) rfl (by decide)) ?_
        refine w_stat24 rfl rfl (by rfl) (C28_Row (D := puc 3590 D43) (N := puc 3590 N43) (HW_subc H oz_R2cls_10 oz_R2cls_19) (pf43_6_0) (m43_1) ((congrArg (fun q : Nat => (q : Int)) (eN43 7)).trans em43_1) (u6_1) (((((show F43 6 1 = F10 6 1 from (eF43 6 1).trans (hS43 0 1 rfl))).trans ((show F10 6 1 = F 6 1 from (eF10 6 1)))).trans (eu6_1))) (show inrJ (z48) from gz48) (show inr (8) from q_141) (show 0 ≤ (u6_1) ∧ (u6_1) ≤ (m43_1) ∧ (m43_1) ≤ 65536 from pz43_1) (show (8) ≤ 8 from q_2765) (fun σ49 D49ₚ N49ₚ F49ₚ A49ₚ c49 s49 Hₚ Oₚ hD49 hN49 hS49 hA49 (pm49_1 : HID _) m49_1 (em49_1 : HID _) y49_0_1 (ey49_0_1 : HID _) pz49_0 => ⟨rfl, ?_⟩))
        refine v_backMc (c := (c + c43)) (s := (s + s43)) H oz_R2cls_10 oz_R2cls_19 Hₚ Oₚ hD49 oz_R2cls_9 (fun D49 N49 F49 A49 H Oₚ eD49 eN49 eF49 eA49 => ?_)
        have O := OUT_trans O Oₚ
        -- PackHouse.addHighestFirst
        have cF49 : SF oz_R2clsl_0 F F49 := SF_trans (cF43) (SF_gluc (ι := oz_R2clsl_5) oz_R2cls_19 hS49 eF49 (by decide +kernel)) (any_sub (lₚ := [(6, 0), (6, 1), (6, 2)]) (by decide +kernel))
        have mF49 := SFm_of cF49 oz_R2cls_14
        have cA49 : SA oz_R2clsl_1 A A49 := SA_trans (cA43) (SA_gluc (ι := oz_R2clsl_5) oz_R2cls_19 hA49 eA49 (by decide +kernel)) (any_subA (lₚ := [7]) (by decide +kernel))
        have mA49 := SAm_of cA49 oz_R2cls_15
        have cD49 : SD oz_R2clsl_1 D D49 := SD_trans (cD43) (SD_gluc (ι := oz_R2clsl_5) oz_R2cls_19 hD49 eD49 (by decide +kernel)) (any_subA (lₚ := [7]) (by decide +kernel))
        have mD49 := SDm_of cD49 oz_R2cls_15
        have cN49 : SD oz_R2clsl_1 N N49 := SD_trans (cN43) (SD_gluc (ι := oz_R2clsl_5) oz_R2cls_19 hN49 eN49 (by decide +kernel)) (any_subA (lₚ := [7]) (by decide +kernel))
        have mN49 := SDm_of cN49 oz_R2cls_15
        have pf49_2_0 : HID (F49 2 0 = (D49 3 : Int)) := ((show F49 2 0 = F43 2 0 from (eF49 2 0))).trans ((pf43_2_0).trans (congrArg (fun q : Nat => (q : Int)) ((show D49 3 = D43 3 from (eD49 3))).symm))
        have pf49_4_0 : HID (F49 4 0 = (D49 5 : Int)) := ((show F49 4 0 = F43 4 0 from (eF49 4 0))).trans ((pf43_4_0).trans (congrArg (fun q : Nat => (q : Int)) ((show D49 5 = D43 5 from (eD49 5))).symm))
        have pf49_6_0 : HID (F49 6 0 = (D49 7 : Int)) := (eF49 6 0).trans (pm49_1.trans (congrArg (fun q : Nat => (q : Int)) (eD49 7).symm))
        have pf49_8_0 : HID (F49 8 0 = (D49 9 : Int)) := ((show F49 8 0 = F43 8 0 from (eF49 8 0))).trans ((pf43_8_0).trans (congrArg (fun q : Nat => (q : Int)) ((show D49 9 = D43 9 from (eD49 9))).symm))
        refine Ew_of (pcₚ := 47) (fun _ => x_aload_n rfl rfl) ?_
        refine Ew_stk (congrArg (fun qz : Nat => ([.ref qz] : List Value)) (show D49 0 = D 0 from mD49 0 rfl).symm) ?_
        refine v_g H (o := 0) (v := .ref (D49 1)) rfl rfl rfl rfl rfl (vrf ((mF49 0 0 rfl).trans ((pf1).trans (congrArg (fun q : Nat => (q : Int)) (mD49 1 rfl).symm)))) ?_
        refine Ew_of (pcₚ := 51) (fun _ => x_iload_n rfl rfl) ?_
        refine v_lR H (o := 1) rfl rfl rfl rfl rfl (n := n1) ((congrArg (fun q : Nat => (q : Int)) (mN49 1 rfl)).trans (en1)) (show 0 ≤ a1 ∧ a1 < n1 from q_4727 (HIDe r5) b12 h5) (z := ((D49 6 : Nat) : Int)) (v := .ref (D49 6)) ((congrArg (A49 1) b12).trans ((mA49 1 rfl 2).trans ((pf6).trans (congrArg (fun q : Nat => (q : Int)) (mD49 6 rfl).symm)))) (vrf rfl) ?_
        refine Ew_of (pcₚ := 54) (fun _ => x_iload rfl rfl) ?_
        refine w_i2l rfl (show inr (a4) from h3) ?_
        refine Ew_of (pcₚ := 57) (fun _ => x_bipush (z := 32) rfl (by decide)) ?_
        refine w_lshlA rfl (fun z52 gz52 => ?_)
        refine Ew_of (pcₚ := 60) (fun _ => x_iload rfl rfl) ?_
        refine w_i2l rfl (show inr (a5) from h4) ?_
        refine Ew_of (pcₚ := 64) (fun _ => x_ldc2 (z := 4294967295) rfl (by decide)) ?_
        refine w_land rfl (show inrJ (a5) from q_2579 h4) (show inrJ (4294967295) from q_4725) (fun z53 gz53 gaz53 gbz53 => ?_)
        refine w_lorA rfl (fun z54 gz54 => ?_)
        refine Ew_of (pcₚ := 68) (fun _ => x_bipush (z := 8) rfl (by decide)) ?_
        refine w_stat24 rfl rfl (by rfl) (C28_Row (D := puc 3590 D49) (N := puc 3590 N49) (HW_subc H oz_R2cls_10 oz_R2cls_19) (pf49_6_0) (m49_1) ((congrArg (fun q : Nat => (q : Int)) (eN49 7)).trans em49_1) (y49_0_1) (((eF49 6 1).trans ey49_0_1)) (show inrJ (z54) from gz54) (show inr (8) from q_141) (show 0 ≤ (y49_0_1) ∧ (y49_0_1) ≤ (m49_1) ∧ (m49_1) ≤ 65536 from pz49_0) (show (8) ≤ 8 from q_2765) (fun σ55 D55ₚ N55ₚ F55ₚ A55ₚ c55 s55 Hₚ Oₚ hD55 hN55 hS55 hA55 (pm55_1 : HID _) m55_1 (em55_1 : HID _) y55_0_1 (ey55_0_1 : HID _) pz55_0 => ⟨rfl, ?_⟩))
        refine v_backMc (c := ((c + c43) + c49)) (s := ((s + s43) + s49)) H oz_R2cls_10 oz_R2cls_19 Hₚ Oₚ hD55 oz_R2cls_9 (fun D55 N55 F55 A55 H Oₚ eD55 eN55 eF55 eA55 => ?_)
        have O := OUT_trans O Oₚ
        -- PackHouse.addHighestFirst
        have cF55 : SF oz_R2clsl_0 F F55 := SF_trans (cF49) (SF_gluc (ι := oz_R2clsl_5) oz_R2cls_19 hS55 eF55 (by decide +kernel)) (any_sub (lₚ := [(6, 0), (6, 1), (6, 2)]) (by decide +kernel))
        have mF55 := SFm_of cF55 oz_R2cls_14
        have cA55 : SA oz_R2clsl_1 A A55 := SA_trans (cA49) (SA_gluc (ι := oz_R2clsl_5) oz_R2cls_19 hA55 eA55 (by decide +kernel)) (any_subA (lₚ := [7]) (by decide +kernel))
        have mA55 := SAm_of cA55 oz_R2cls_15
        have cD55 : SD oz_R2clsl_1 D D55 := SD_trans (cD49) (SD_gluc (ι := oz_R2clsl_5) oz_R2cls_19 hD55 eD55 (by decide +kernel)) (any_subA (lₚ := [7]) (by decide +kernel))
        have mD55 := SDm_of cD55 oz_R2cls_15
        have cN55 : SD oz_R2clsl_1 N N55 := SD_trans (cN49) (SD_gluc (ι := oz_R2clsl_5) oz_R2cls_19 hN55 eN55 (by decide +kernel)) (any_subA (lₚ := [7]) (by decide +kernel))
        have mN55 := SDm_of cN55 oz_R2cls_15
        have pf55_2_0 : HID (F55 2 0 = (D55 3 : Int)) := ((show F55 2 0 = F49 2 0 from (eF55 2 0))).trans ((pf49_2_0).trans (congrArg (fun q : Nat => (q : Int)) ((show D55 3 = D49 3 from (eD55 3))).symm))
        have pf55_4_0 : HID (F55 4 0 = (D55 5 : Int)) := ((show F55 4 0 = F49 4 0 from (eF55 4 0))).trans ((pf49_4_0).trans (congrArg (fun q : Nat => (q : Int)) ((show D55 5 = D49 5 from (eD55 5))).symm))
        have pf55_6_0 : HID (F55 6 0 = (D55 7 : Int)) := (eF55 6 0).trans (pm55_1.trans (congrArg (fun q : Nat => (q : Int)) (eD55 7).symm))
        have pf55_8_0 : HID (F55 8 0 = (D55 9 : Int)) := ((show F55 8 0 = F49 8 0 from (eF55 8 0))).trans ((pf49_8_0).trans (congrArg (fun q : Nat => (q : Int)) ((show D55 9 = D49 9 from (eD55 9))).symm))
        refine Ew_of (pcₚ := 72) (fun _ => x_iconst rfl) ?_
        exact w_ireturn rfl (k (1) _ _ _ _ _ _ _ H O (cD55) (cN55) (cF55) (cA55) (pf55_2_0) (pf55_4_0) (pf55_6_0) (pf55_8_0) (n3) ((congrArg (fun q : Nat => (q : Int)) (show N55 3 = N49 3 from (eN55 3))).trans ((congrArg (fun q : Nat => (q : Int)) (show N49 3 = N43 3 from (eN49 3))).trans ((congrArg (fun q : Nat => (q : Int)) (show N43 3 = N 3 from (eN43 3))).trans (en3)))) (n5) ((congrArg (fun q : Nat => (q : Int)) (show N55 5 = N49 5 from (eN55 5))).trans ((congrArg (fun q : Nat => (q : Int)) (show N49 5 = N43 5 from (eN49 5))).trans ((congrArg (fun q : Nat => (q : Int)) (show N43 5 = N 5 from (eN43 5))).trans (en5)))) (m55_1) ((congrArg (fun q : Nat => (q : Int)) (eN55 7)).trans em55_1) (n9) ((congrArg (fun q : Nat => (q : Int)) (show N55 9 = N49 9 from (eN55 9))).trans ((congrArg (fun q : Nat => (q : Int)) (show N49 9 = N43 9 from (eN49 9))).trans ((congrArg (fun q : Nat => (q : Int)) (show N43 9 = N 9 from (eN43 9))).trans (en9)))) (u2_1) (((((((show F55 2 1 = F49 2 1 from (eF55 2 1))).trans ((show F49 2 1 = F43 2 1 from (eF49 2 1)))).trans ((show F43 2 1 = F10 2 1 from (eF43 2 1)))).trans ((show F10 2 1 = F 2 1 from (eF10 2 1)))).trans (eu2_1))) (u4_1) (((((((show F55 4 1 = F49 4 1 from (eF55 4 1))).trans ((show F49 4 1 = F43 4 1 from (eF49 4 1)))).trans ((show F43 4 1 = F10 4 1 from (eF43 4 1)))).trans ((show F10 4 1 = F 4 1 from (eF10 4 1)))).trans (eu4_1))) (y55_0_1) (((eF55 6 1).trans ey55_0_1)) (u8_1) (((((((show F55 8 1 = F49 8 1 from (eF55 8 1))).trans ((show F49 8 1 = F43 8 1 from (eF49 8 1)))).trans ((show F43 8 1 = F10 8 1 from (eF43 8 1)))).trans ((show F10 8 1 = F 8 1 from (eF10 8 1)))).trans (eu8_1))) (show (1) = 0 ∨ (1) = 1 by first | exact q_49 | omega) (show 0 ≤ (u2_1) ∧ (u2_1) ≤ (n3) ∧ (n3) ≤ 65536 from h6) (show 0 ≤ (u4_1) ∧ (u4_1) ≤ (n5) ∧ (n5) ≤ 65536 from h7) (show 0 ≤ (y55_0_1) ∧ (y55_0_1) ≤ (m55_1) ∧ (m55_1) ≤ 65536 from pz55_0) (show 0 ≤ (u8_1) ∧ (u8_1) ≤ (n9) ∧ (n9) ≤ 65536 from h9))
      · refine Ew_of (pcₚ := 22) (fun _ => x_iconst rfl) ?_
        exact w_ireturn rfl (k (0) _ _ _ _ _ _ _ H O (cD43) (cN43) (cF43) (cA43) (pf43_2_0) (pf43_4_0) (pf43_6_0) (pf43_8_0) (n3) ((congrArg (fun q : Nat => (q : Int)) (show N43 3 = N 3 from (eN43 3))).trans (en3)) (n5) ((congrArg (fun q : Nat => (q : Int)) (show N43 5 = N 5 from (eN43 5))).trans (en5)) (m43_1) ((congrArg (fun q : Nat => (q : Int)) (eN43 7)).trans em43_1) (n9) ((congrArg (fun q : Nat => (q : Int)) (show N43 9 = N 9 from (eN43 9))).trans (en9)) (u2_1) (((((show F43 2 1 = F10 2 1 from (eF43 2 1))).trans ((show F10 2 1 = F 2 1 from (eF10 2 1)))).trans (eu2_1))) (u4_1) (((((show F43 4 1 = F10 4 1 from (eF43 4 1))).trans ((show F10 4 1 = F 4 1 from (eF10 4 1)))).trans (eu4_1))) (u6_1) (((((show F43 6 1 = F10 6 1 from (eF43 6 1).trans (hS43 0 1 rfl))).trans ((show F10 6 1 = F 6 1 from (eF10 6 1)))).trans (eu6_1))) (u8_1) (((((show F43 8 1 = F10 8 1 from (eF43 8 1))).trans ((show F10 8 1 = F 8 1 from (eF10 8 1)))).trans (eu8_1))) (show (0) = 0 ∨ (0) = 1 by first | exact q_45 | omega) (show 0 ≤ (u2_1) ∧ (u2_1) ≤ (n3) ∧ (n3) ≤ 65536 from h6) (show 0 ≤ (u4_1) ∧ (u4_1) ≤ (n5) ∧ (n5) ≤ 65536 from h7) (show 0 ≤ (u6_1) ∧ (u6_1) ≤ (m43_1) ∧ (m43_1) ≤ 65536 from pz43_1) (show 0 ≤ (u8_1) ∧ (u8_1) ≤ (n9) ∧ (n9) ≤ 65536 from h9))
    · refine v_lR H (o := 1) rfl rfl rfl rfl rfl (n := n1) (en1) (show 0 ≤ a1 ∧ a1 < n1 from q_4728 b12 h5) (z := ((D 8 : Nat) : Int)) (v := .ref (D 8)) ((congrArg (A10 1) b12).trans ((mA10 1 rfl 3).trans (pf8))) (vrf rfl) ?_
      refine Ew_of (pcₚ := 15) (fun _ => x_bipush (z := 16) rfl (by decide)) ?_
      refine v_inv H (o := 8) rfl rfl rfl rfl rfl rfl (by rfl) (C157 (D := puc 4616 D) (N := puc 4616 N) (HW_subc H oz_R2cls_11 oz_R2cls_20) ((((show F10 8 0 = F 8 0 from (eF10 8 0)))).trans (pf9)) (n9) (en9) (u8_1) ((((show F10 8 1 = F 8 1 from (eF10 8 1))).trans (eu8_1))) (A 9) ((show A10 9 = A 9 from (eA10 9))) (show inr (16) from q_345) (show 0 ≤ (u8_1) ∧ (u8_1) ≤ (n9) ∧ (n9) ≤ 65536 from h9) (fun z58 σ58 D58ₚ N58ₚ F58ₚ A58ₚ c58 s58 Hₚ Oₚ hD58 hN58 hS58 hA58 (pm58_1 : HID _) m58_1 (em58_1 : HID _) w58_1 ew58_1 pz58_0 pz58_1 pz58_2 pz58_3 pz58_4 => ⟨rretB rfl pz58_0, ?_⟩))
      refine v_backMc (c := c) (s := s) H oz_R2cls_11 oz_R2cls_20 Hₚ Oₚ hD58 oz_R2cls_12 (fun D58 N58 F58 A58 H Oₚ eD58 eN58 eF58 eA58 => ?_)
      have O := OUT_trans O Oₚ
      -- Row.reserve
      have cF58 : SF oz_R2clsl_0 F F58 := SF_trans (cF10) (SF_gluc (ι := oz_R2clsl_6) oz_R2cls_20 hS58 eF58 (by decide +kernel)) (any_sub (lₚ := [(8, 0)]) (by decide +kernel))
      have mF58 := SFm_of cF58 oz_R2cls_14
      have cA58 : SA oz_R2clsl_1 A A58 := SA_trans (cA10) (SA_gluc (ι := oz_R2clsl_6) oz_R2cls_20 hA58 eA58 (by decide +kernel)) (any_subA (lₚ := [9]) (by decide +kernel))
      have mA58 := SAm_of cA58 oz_R2cls_15
      have cD58 : SD oz_R2clsl_1 D D58 := SD_trans (SD_refl) (SD_gluc (ι := oz_R2clsl_6) oz_R2cls_20 hD58 eD58 (by decide +kernel)) (any_subA (lₚ := [9]) (by decide +kernel))
      have mD58 := SDm_of cD58 oz_R2cls_15
      have cN58 : SD oz_R2clsl_1 N N58 := SD_trans (SD_refl) (SD_gluc (ι := oz_R2clsl_6) oz_R2cls_20 hN58 eN58 (by decide +kernel)) (any_subA (lₚ := [9]) (by decide +kernel))
      have mN58 := SDm_of cN58 oz_R2cls_15
      have pf58_2_0 : HID (F58 2 0 = (D58 3 : Int)) := ((show F58 2 0 = F10 2 0 from (eF58 2 0))).trans (((((show F10 2 0 = F 2 0 from (eF10 2 0)))).trans (pf3)).trans (congrArg (fun q : Nat => (q : Int)) ((show D58 3 = D 3 from (eD58 3))).symm))
      have pf58_4_0 : HID (F58 4 0 = (D58 5 : Int)) := ((show F58 4 0 = F10 4 0 from (eF58 4 0))).trans (((((show F10 4 0 = F 4 0 from (eF10 4 0)))).trans (pf5)).trans (congrArg (fun q : Nat => (q : Int)) ((show D58 5 = D 5 from (eD58 5))).symm))
      have pf58_6_0 : HID (F58 6 0 = (D58 7 : Int)) := ((show F58 6 0 = F10 6 0 from (eF58 6 0))).trans (((((show F10 6 0 = F 6 0 from (eF10 6 0)))).trans (pf7)).trans (congrArg (fun q : Nat => (q : Int)) ((show D58 7 = D 7 from (eD58 7))).symm))
      have pf58_8_0 : HID (F58 8 0 = (D58 9 : Int)) := (eF58 8 0).trans (pm58_1.trans (congrArg (fun q : Nat => (q : Int)) (eD58 9).symm))
      refine w_ifne (t := 23) rfl rfl (show inr (z58) from q_138 pz58_0) (fun b60 => ?_) (fun b60 => ?_)
      · refine Ew_of (pcₚ := 24) (fun _ => x_aload_n rfl rfl) ?_
        refine Ew_stk (congrArg (fun qz : Nat => ([.ref qz] : List Value)) (show D58 0 = D 0 from mD58 0 rfl).symm) ?_
        refine v_g H (o := 0) (v := .ref (D58 1)) rfl rfl rfl rfl rfl (vrf ((mF58 0 0 rfl).trans ((pf1).trans (congrArg (fun q : Nat => (q : Int)) (mD58 1 rfl).symm)))) ?_
        refine Ew_of (pcₚ := 28) (fun _ => x_iload_n rfl rfl) ?_
        refine v_lR H (o := 1) rfl rfl rfl rfl rfl (n := n1) ((congrArg (fun q : Nat => (q : Int)) (mN58 1 rfl)).trans (en1)) (show 0 ≤ a1 ∧ a1 < n1 from q_4728 b12 h5) (z := ((D58 8 : Nat) : Int)) (v := .ref (D58 8)) ((congrArg (A58 1) b12).trans ((mA58 1 rfl 3).trans ((pf8).trans (congrArg (fun q : Nat => (q : Int)) (mD58 8 rfl).symm)))) (vrf rfl) ?_
        refine Ew_of (pcₚ := 30) (fun _ => x_iload_n rfl rfl) ?_
        refine w_i2l rfl (show inr (a2) from h1) ?_
        refine Ew_of (pcₚ := 33) (fun _ => x_bipush (z := 32) rfl (by decide)) ?_
        refine w_lshlA rfl (fun z61 gz61 => ?_)
        refine Ew_of (pcₚ := 35) (fun _ => x_iload_n rfl rfl) ?_
        refine w_i2l rfl (show inr (a3) from h2) ?_
        refine Ew_of (pcₚ := 39) (fun _ => x_ldc2 (z := 4294967295) rfl (by decide)) ?_
        refine w_land rfl (show inrJ (a3) from q_2579 h2) (show inrJ (4294967295) from q_4725) (fun z62 gz62 gaz62 gbz62 => ?_)
        refine w_lorA rfl (fun z63 gz63 => ?_)
        refine Ew_of (pcₚ := 43) (fun _ => x_bipush (z := 8) rfl (by decide)) ?_
        refine w_stat24 rfl rfl (by rfl) (C28_Row (D := puc 4616 D58) (N := puc 4616 N58) (HW_subc H oz_R2cls_13 oz_R2cls_20) (pf58_8_0) (m58_1) ((congrArg (fun q : Nat => (q : Int)) (eN58 9)).trans em58_1) (u8_1) (((((show F58 8 1 = F10 8 1 from (eF58 8 1).trans (hS58 0 1 rfl))).trans ((show F10 8 1 = F 8 1 from (eF10 8 1)))).trans (eu8_1))) (show inrJ (z63) from gz63) (show inr (8) from q_141) (show 0 ≤ (u8_1) ∧ (u8_1) ≤ (m58_1) ∧ (m58_1) ≤ 65536 from pz58_1) (show (8) ≤ 8 from q_2765) (fun σ64 D64ₚ N64ₚ F64ₚ A64ₚ c64 s64 Hₚ Oₚ hD64 hN64 hS64 hA64 (pm64_1 : HID _) m64_1 (em64_1 : HID _) y64_0_1 (ey64_0_1 : HID _) pz64_0 => ⟨rfl, ?_⟩))
        refine v_backMc (c := (c + c58)) (s := (s + s58)) H oz_R2cls_13 oz_R2cls_20 Hₚ Oₚ hD64 oz_R2cls_12 (fun D64 N64 F64 A64 H Oₚ eD64 eN64 eF64 eA64 => ?_)
        have O := OUT_trans O Oₚ
        -- PackHouse.addHighestFirst
        have cF64 : SF oz_R2clsl_0 F F64 := SF_trans (cF58) (SF_gluc (ι := oz_R2clsl_6) oz_R2cls_20 hS64 eF64 (by decide +kernel)) (any_sub (lₚ := [(8, 0), (8, 1), (8, 2)]) (by decide +kernel))
        have mF64 := SFm_of cF64 oz_R2cls_14
        have cA64 : SA oz_R2clsl_1 A A64 := SA_trans (cA58) (SA_gluc (ι := oz_R2clsl_6) oz_R2cls_20 hA64 eA64 (by decide +kernel)) (any_subA (lₚ := [9]) (by decide +kernel))
        have mA64 := SAm_of cA64 oz_R2cls_15
        have cD64 : SD oz_R2clsl_1 D D64 := SD_trans (cD58) (SD_gluc (ι := oz_R2clsl_6) oz_R2cls_20 hD64 eD64 (by decide +kernel)) (any_subA (lₚ := [9]) (by decide +kernel))
        have mD64 := SDm_of cD64 oz_R2cls_15
        have cN64 : SD oz_R2clsl_1 N N64 := SD_trans (cN58) (SD_gluc (ι := oz_R2clsl_6) oz_R2cls_20 hN64 eN64 (by decide +kernel)) (any_subA (lₚ := [9]) (by decide +kernel))
        have mN64 := SDm_of cN64 oz_R2cls_15
        have pf64_2_0 : HID (F64 2 0 = (D64 3 : Int)) := ((show F64 2 0 = F58 2 0 from (eF64 2 0))).trans ((pf58_2_0).trans (congrArg (fun q : Nat => (q : Int)) ((show D64 3 = D58 3 from (eD64 3))).symm))
        have pf64_4_0 : HID (F64 4 0 = (D64 5 : Int)) := ((show F64 4 0 = F58 4 0 from (eF64 4 0))).trans ((pf58_4_0).trans (congrArg (fun q : Nat => (q : Int)) ((show D64 5 = D58 5 from (eD64 5))).symm))
        have pf64_6_0 : HID (F64 6 0 = (D64 7 : Int)) := ((show F64 6 0 = F58 6 0 from (eF64 6 0))).trans ((pf58_6_0).trans (congrArg (fun q : Nat => (q : Int)) ((show D64 7 = D58 7 from (eD64 7))).symm))
        have pf64_8_0 : HID (F64 8 0 = (D64 9 : Int)) := (eF64 8 0).trans (pm64_1.trans (congrArg (fun q : Nat => (q : Int)) (eD64 9).symm))
        refine Ew_of (pcₚ := 47) (fun _ => x_aload_n rfl rfl) ?_
        refine Ew_stk (congrArg (fun qz : Nat => ([.ref qz] : List Value)) (show D64 0 = D 0 from mD64 0 rfl).symm) ?_
        refine v_g H (o := 0) (v := .ref (D64 1)) rfl rfl rfl rfl rfl (vrf ((mF64 0 0 rfl).trans ((pf1).trans (congrArg (fun q : Nat => (q : Int)) (mD64 1 rfl).symm)))) ?_
        refine Ew_of (pcₚ := 51) (fun _ => x_iload_n rfl rfl) ?_
        refine v_lR H (o := 1) rfl rfl rfl rfl rfl (n := n1) ((congrArg (fun q : Nat => (q : Int)) (mN64 1 rfl)).trans (en1)) (show 0 ≤ a1 ∧ a1 < n1 from q_4728 b12 h5) (z := ((D64 8 : Nat) : Int)) (v := .ref (D64 8)) ((congrArg (A64 1) b12).trans ((mA64 1 rfl 3).trans ((pf8).trans (congrArg (fun q : Nat => (q : Int)) (mD64 8 rfl).symm)))) (vrf rfl) ?_
        refine Ew_of (pcₚ := 54) (fun _ => x_iload rfl rfl) ?_
        refine w_i2l rfl (show inr (a4) from h3) ?_
        refine Ew_of (pcₚ := 57) (fun _ => x_bipush (z := 32) rfl (by decide)) ?_
        refine w_lshlA rfl (fun z67 gz67 => ?_)
        refine Ew_of (pcₚ := 60) (fun _ => x_iload rfl rfl) ?_
        refine w_i2l rfl (show inr (a5) from h4) ?_
        refine Ew_of (pcₚ := 64) (fun _ => x_ldc2 (z := 4294967295) rfl (by decide)) ?_
        refine w_land rfl (show inrJ (a5) from q_2579 h4) (show inrJ (4294967295) from q_4725) (fun z68 gz68 gaz68 gbz68 => ?_)
        refine w_lorA rfl (fun z69 gz69 => ?_)
        refine Ew_of (pcₚ := 68) (fun _ => x_bipush (z := 8) rfl (by decide)) ?_
        refine w_stat24 rfl rfl (by rfl) (C28_Row (D := puc 4616 D64) (N := puc 4616 N64) (HW_subc H oz_R2cls_13 oz_R2cls_20) (pf64_8_0) (m64_1) ((congrArg (fun q : Nat => (q : Int)) (eN64 9)).trans em64_1) (y64_0_1) (((eF64 8 1).trans ey64_0_1)) (show inrJ (z69) from gz69) (show inr (8) from q_141) (show 0 ≤ (y64_0_1) ∧ (y64_0_1) ≤ (m64_1) ∧ (m64_1) ≤ 65536 from pz64_0) (show (8) ≤ 8 from q_2765) (fun σ70 D70ₚ N70ₚ F70ₚ A70ₚ c70 s70 Hₚ Oₚ hD70 hN70 hS70 hA70 (pm70_1 : HID _) m70_1 (em70_1 : HID _) y70_0_1 (ey70_0_1 : HID _) pz70_0 => ⟨rfl, ?_⟩))
        refine v_backMc (c := ((c + c58) + c64)) (s := ((s + s58) + s64)) H oz_R2cls_13 oz_R2cls_20 Hₚ Oₚ hD70 oz_R2cls_12 (fun D70 N70 F70 A70 H Oₚ eD70 eN70 eF70 eA70 => ?_)
        have O := OUT_trans O Oₚ
        -- PackHouse.addHighestFirst
        have cF70 : SF oz_R2clsl_0 F F70 := SF_trans (cF64) (SF_gluc (ι := oz_R2clsl_6) oz_R2cls_20 hS70 eF70 (by decide +kernel)) (any_sub (lₚ := [(8, 0), (8, 1), (8, 2)]) (by decide +kernel))
        have mF70 := SFm_of cF70 oz_R2cls_14
        have cA70 : SA oz_R2clsl_1 A A70 := SA_trans (cA64) (SA_gluc (ι := oz_R2clsl_6) oz_R2cls_20 hA70 eA70 (by decide +kernel)) (any_subA (lₚ := [9]) (by decide +kernel))
        have mA70 := SAm_of cA70 oz_R2cls_15
        have cD70 : SD oz_R2clsl_1 D D70 := SD_trans (cD64) (SD_gluc (ι := oz_R2clsl_6) oz_R2cls_20 hD70 eD70 (by decide +kernel)) (any_subA (lₚ := [9]) (by decide +kernel))
        have mD70 := SDm_of cD70 oz_R2cls_15
        have cN70 : SD oz_R2clsl_1 N N70 := SD_trans (cN64) (SD_gluc (ι := oz_R2clsl_6) oz_R2cls_20 hN70 eN70 (by decide +kernel)) (any_subA (lₚ := [9]) (by decide +kernel))
        have mN70 := SDm_of cN70 oz_R2cls_15
        have pf70_2_0 : HID (F70 2 0 = (D70 3 : Int)) := ((show F70 2 0 = F64 2 0 from (eF70 2 0))).trans ((pf64_2_0).trans (congrArg (fun q : Nat => (q : Int)) ((show D70 3 = D64 3 from (eD70 3))).symm))
        have pf70_4_0 : HID (F70 4 0 = (D70 5 : Int)) := ((show F70 4 0 = F64 4 0 from (eF70 4 0))).trans ((pf64_4_0).trans (congrArg (fun q : Nat => (q : Int)) ((show D70 5 = D64 5 from (eD70 5))).symm))
        have pf70_6_0 : HID (F70 6 0 = (D70 7 : Int)) := ((show F70 6 0 = F64 6 0 from (eF70 6 0))).trans ((pf64_6_0).trans (congrArg (fun q : Nat => (q : Int)) ((show D70 7 = D64 7 from (eD70 7))).symm))
        have pf70_8_0 : HID (F70 8 0 = (D70 9 : Int)) := (eF70 8 0).trans (pm70_1.trans (congrArg (fun q : Nat => (q : Int)) (eD70 9).symm))
        refine Ew_of (pcₚ := 72) (fun _ => x_iconst rfl) ?_
        exact w_ireturn rfl (k (1) _ _ _ _ _ _ _ H O (cD70) (cN70) (cF70) (cA70) (pf70_2_0) (pf70_4_0) (pf70_6_0) (pf70_8_0) (n3) ((congrArg (fun q : Nat => (q : Int)) (show N70 3 = N64 3 from (eN70 3))).trans ((congrArg (fun q : Nat => (q : Int)) (show N64 3 = N58 3 from (eN64 3))).trans ((congrArg (fun q : Nat => (q : Int)) (show N58 3 = N 3 from (eN58 3))).trans (en3)))) (n5) ((congrArg (fun q : Nat => (q : Int)) (show N70 5 = N64 5 from (eN70 5))).trans ((congrArg (fun q : Nat => (q : Int)) (show N64 5 = N58 5 from (eN64 5))).trans ((congrArg (fun q : Nat => (q : Int)) (show N58 5 = N 5 from (eN58 5))).trans (en5)))) (n7) ((congrArg (fun q : Nat => (q : Int)) (show N70 7 = N64 7 from (eN70 7))).trans ((congrArg (fun q : Nat => (q : Int)) (show N64 7 = N58 7 from (eN64 7))).trans ((congrArg (fun q : Nat => (q : Int)) (show N58 7 = N 7 from (eN58 7))).trans (en7)))) (m70_1) ((congrArg (fun q : Nat => (q : Int)) (eN70 9)).trans em70_1) (u2_1) (((((((show F70 2 1 = F64 2 1 from (eF70 2 1))).trans ((show F64 2 1 = F58 2 1 from (eF64 2 1)))).trans ((show F58 2 1 = F10 2 1 from (eF58 2 1)))).trans ((show F10 2 1 = F 2 1 from (eF10 2 1)))).trans (eu2_1))) (u4_1) (((((((show F70 4 1 = F64 4 1 from (eF70 4 1))).trans ((show F64 4 1 = F58 4 1 from (eF64 4 1)))).trans ((show F58 4 1 = F10 4 1 from (eF58 4 1)))).trans ((show F10 4 1 = F 4 1 from (eF10 4 1)))).trans (eu4_1))) (u6_1) (((((((show F70 6 1 = F64 6 1 from (eF70 6 1))).trans ((show F64 6 1 = F58 6 1 from (eF64 6 1)))).trans ((show F58 6 1 = F10 6 1 from (eF58 6 1)))).trans ((show F10 6 1 = F 6 1 from (eF10 6 1)))).trans (eu6_1))) (y70_0_1) (((eF70 8 1).trans ey70_0_1)) (show (1) = 0 ∨ (1) = 1 by first | exact q_49 | omega) (show 0 ≤ (u2_1) ∧ (u2_1) ≤ (n3) ∧ (n3) ≤ 65536 from h6) (show 0 ≤ (u4_1) ∧ (u4_1) ≤ (n5) ∧ (n5) ≤ 65536 from h7) (show 0 ≤ (u6_1) ∧ (u6_1) ≤ (n7) ∧ (n7) ≤ 65536 from h8) (show 0 ≤ (y70_0_1) ∧ (y70_0_1) ≤ (m70_1) ∧ (m70_1) ≤ 65536 from pz70_0))
      · refine Ew_of (pcₚ := 22) (fun _ => x_iconst rfl) ?_
        exact w_ireturn rfl (k (0) _ _ _ _ _ _ _ H O (cD58) (cN58) (cF58) (cA58) (pf58_2_0) (pf58_4_0) (pf58_6_0) (pf58_8_0) (n3) ((congrArg (fun q : Nat => (q : Int)) (show N58 3 = N 3 from (eN58 3))).trans (en3)) (n5) ((congrArg (fun q : Nat => (q : Int)) (show N58 5 = N 5 from (eN58 5))).trans (en5)) (n7) ((congrArg (fun q : Nat => (q : Int)) (show N58 7 = N 7 from (eN58 7))).trans (en7)) (m58_1) ((congrArg (fun q : Nat => (q : Int)) (eN58 9)).trans em58_1) (u2_1) (((((show F58 2 1 = F10 2 1 from (eF58 2 1))).trans ((show F10 2 1 = F 2 1 from (eF10 2 1)))).trans (eu2_1))) (u4_1) (((((show F58 4 1 = F10 4 1 from (eF58 4 1))).trans ((show F10 4 1 = F 4 1 from (eF10 4 1)))).trans (eu4_1))) (u6_1) (((((show F58 6 1 = F10 6 1 from (eF58 6 1))).trans ((show F10 6 1 = F 6 1 from (eF10 6 1)))).trans (eu6_1))) (u8_1) (((((show F58 8 1 = F10 8 1 from (eF58 8 1).trans (hS58 0 1 rfl))).trans ((show F10 8 1 = F 8 1 from (eF10 8 1)))).trans (eu8_1))) (show (0) = 0 ∨ (0) = 1 by first | exact q_45 | omega) (show 0 ≤ (u2_1) ∧ (u2_1) ≤ (n3) ∧ (n3) ≤ 65536 from h6) (show 0 ≤ (u4_1) ∧ (u4_1) ≤ (n5) ∧ (n5) ≤ 65536 from h7) (show 0 ≤ (u6_1) ∧ (u6_1) ≤ (n7) ∧ (n7) ≤ 65536 from h8) (show 0 ≤ (u8_1) ∧ (u8_1) ≤ (m58_1) ∧ (m58_1) ≤ 65536 from pz58_1))
abbrev V2 : vV := [(0, 0, [(4, 0), (4, 0), (4, 0), (4, 0), (4, 0), (4, 0), (4, 0), (4, 0), (4, 0), (4, 0), (4, 0), (4, 0), (4, 0), (4, 0), (4, 0), (4, 0), (4, 0), (0, 0), (0, 0)]), (1, 4, []), (0, 7, [(4, 0), (0, 0), (1, 0), (0, 0), (0, 0)]), (1, 0, []), (0, 7, [(4, 0), (0, 0), (1, 0), (0, 0), (0, 0)]), (1, 0, []), (0, 7, [(4, 0), (0, 0), (1, 0), (0, 0), (0, 0)]), (1, 0, []), (0, 7, [(4, 0), (0, 0), (1, 0), (0, 0), (0, 0)]), (1, 0, [])]
theorem len_V2_oz_R2cls : (V2).length = 10 := by decide +kernel
theorem oz_R2cls_22 : vsub V2 V24 [] = true := by decide +kernel
theorem oz_R2cls_23 : vsub V2 V157 [2, 3] = true := by decide +kernel
theorem oz_R2cls_24 : vmov V2 [2, 3] [1] = true := by decide +kernel
theorem oz_R2cls_25 : vsub V2 V28_Row [2, 3] = true := by decide +kernel
theorem oz_R2cls_26 : vsub V2 V157 [4, 5] = true := by decide +kernel
theorem oz_R2cls_27 : vmov V2 [4, 5] [1] = true := by decide +kernel
theorem oz_R2cls_28 : vsub V2 V28_Row [4, 5] = true := by decide +kernel
theorem oz_R2cls_29 : vsub V2 V157 [6, 7] = true := by decide +kernel
theorem oz_R2cls_30 : vmov V2 [6, 7] [1] = true := by decide +kernel
theorem oz_R2cls_31 : vsub V2 V28_Row [6, 7] = true := by decide +kernel
theorem oz_R2cls_32 : vsub V2 V157 [8, 9] = true := by decide +kernel
theorem oz_R2cls_33 : vmov V2 [8, 9] [1] = true := by decide +kernel
theorem oz_R2cls_34 : vsub V2 V28_Row [8, 9] = true := by decide +kernel

theorem C2 {σE : rS} {D N : Nat → Nat} {F : hF} {A : hA} {d c s : Nat} {Q : wQ} (H : HW V2 σE D N F A) {a1 a2 a3 : Int} (pf1 : HID (F 0 0 = (D 1 : Int))) (pf2 : HID (A 1 0 = (D 2 : Int))) (pf3 : HID (F 2 0 = (D 3 : Int))) (pf4 : HID (A 1 1 = (D 4 : Int))) (pf5 : HID (F 4 0 = (D 5 : Int))) (pf6 : HID (A 1 2 = (D 6 : Int))) (pf7 : HID (F 6 0 = (D 7 : Int))) (pf8 : HID (A 1 3 = (D 8 : Int))) (pf9 : HID (F 8 0 = (D 9 : Int))) (n1 : Int) (en1 : HID ((N 1 : Int) = n1)) (n3 : Int) (en3 : HID ((N 3 : Int) = n3)) (n5 : Int) (en5 : HID ((N 5 : Int) = n5)) (n7 : Int) (en7 : HID ((N 7 : Int) = n7)) (n9 : Int) (en9 : HID ((N 9 : Int) = n9)) (u2_1 : Int) (eu2_1 : HID (F 2 1 = u2_1)) (u4_1 : Int) (eu4_1 : HID (F 4 1 = u4_1)) (u6_1 : Int) (eu6_1 : HID (F 6 1 = u6_1)) (u8_1 : Int) (eu8_1 : HID (F 8 1 = u8_1)) (h0 : inr (a1)) (h1 : inr (a2)) (h2 : inrJ (a3)) (h3 : (n1) = 4) (h4 : 0 ≤ (u2_1) ∧ (u2_1) ≤ (n3) ∧ (n3) ≤ 65536) (h5 : 0 ≤ (u4_1) ∧ (u4_1) ≤ (n5) ∧ (n5) ≤ 65536) (h6 : 0 ≤ (u6_1) ∧ (u6_1) ≤ (n7) ∧ (n7) ≤ 65536) (h7 : 0 ≤ (u8_1) ∧ (u8_1) ≤ (n9) ∧ (n9) ≤ 65536) (k : ∀ (z : Int) (σ : rS) (Dₚ Nₚ : Nat → Nat) (Fₚ : hF) (Aₚ : hA) (cₚ sₚ : Nat), HW V2 σ Dₚ Nₚ Fₚ Aₚ → OUT (V2).length D N σE c s Dₚ Nₚ σ cₚ sₚ → SD [3, 5, 7, 9] D Dₚ → SD [3, 5, 7, 9] N Nₚ → SF [(2, 0), (2, 1), (2, 2), (4, 0), (4, 1), (4, 2), (6, 0), (6, 1), (6, 2), (8, 0), (8, 1), (8, 2)] F Fₚ → SA [3, 5, 7, 9] A Aₚ → Fₚ 2 0 = (Dₚ 3 : Int) → Fₚ 4 0 = (Dₚ 5 : Int) → Fₚ 6 0 = (Dₚ 7 : Int) → Fₚ 8 0 = (Dₚ 9 : Int) → ∀ m3 : Int, (Nₚ 3 : Int) = m3 → ∀ m5 : Int, (Nₚ 5 : Int) = m5 → ∀ m7 : Int, (Nₚ 7 : Int) = m7 → ∀ m9 : Int, (Nₚ 9 : Int) = m9 → ∀ y2_1 : Int, Fₚ 2 1 = y2_1 → ∀ y4_1 : Int, Fₚ 4 1 = y4_1 → ∀ y6_1 : Int, Fₚ 6 1 = y6_1 → ∀ y8_1 : Int, Fₚ 8 1 = y8_1 → ((z) = 0 ∨ (z) = 1) → (0 ≤ (y2_1) ∧ (y2_1) ≤ (m3) ∧ (m3) ≤ 65536) → (0 ≤ (y4_1) ∧ (y4_1) ≤ (m5) ∧ (m5) ≤ 65536) → (0 ≤ (y6_1) ∧ (y6_1) ≤ (m7) ∧ (m7) ≤ 65536) → (0 ≤ (y8_1) ∧ (y8_1) ≤ (m9) ∧ (m9) ≤ 65536) → Q (some (I z)) σ cₚ sₚ) : Ew 2 (d + 4) 0 (rargs 0 [.ref (D 0), I a1, I a2, J a3]) [] σE c s Q := by
  have O := OUT_refl (n := (V2).length) (D := D) (N := N) (σ := σE) (c := c) (s := s)
  have HE := H
  have r5 : HID ((0 : Int) ≤ n1 ∧ n1 ≤ 1000000) := nrng (H.nle 1 (ltn len_V2_oz_R2cls rfl)) (show (N 1 : Int) = n1 from en1)
  refine Ew_of (pcₚ := 1) (fun _ => x_iload_n rfl rfl) ?_
  refine w_stat24 rfl rfl (by rfl) (C24 (D := puc 0 D) (N := puc 0 N) (HW_subc H oz_R2cls_22 oz_R2cls_16) (show inr (a1) from h0) (fun z10 σ10 F10ₚ A10ₚ Hₚ Oₚ hS10 hA10 pz10_0 pz10_1 => ⟨rretB rfl pz10_0, ?_⟩))
  refine v_backc (c := c) (s := s) H oz_R2cls_22 oz_R2cls_16 Hₚ Oₚ (fun F10 A10 H Oₚ eF10 eA10 => ?_)
  have O := OUT_trans O Oₚ
  -- PackHouse.isRow
  have cF10 : SF oz_R2clsl_0 F F10 := SF_trans (SF_refl) (SF_gluc (ι := oz_R2clsl_2) oz_R2cls_16 hS10 eF10 (by decide +kernel)) (any_sub (lₚ := []) (by decide +kernel))
  have mF10 := SFm_of cF10 oz_R2cls_14
  have cA10 : SA oz_R2clsl_1 A A10 := SA_trans (SA_refl) (SA_gluc (ι := oz_R2clsl_2) oz_R2cls_16 hA10 eA10 (by decide +kernel)) (any_subA (lₚ := []) (by decide +kernel))
  have mA10 := SAm_of cA10 oz_R2cls_15
  refine w_ifeq (t := 31) rfl rfl (show inr (z10) from q_138 pz10_0) (fun b11 => ?_) (fun b11 => ?_)
  · refine Ew_of (pcₚ := 32) (fun _ => x_iconst rfl) ?_
    exact w_ireturn rfl (k (0) _ _ _ _ _ _ _ H O (SD_refl) (SD_refl) (cF10) (cA10) ((((show F10 2 0 = F 2 0 from (eF10 2 0)))).trans (pf3)) ((((show F10 4 0 = F 4 0 from (eF10 4 0)))).trans (pf5)) ((((show F10 6 0 = F 6 0 from (eF10 6 0)))).trans (pf7)) ((((show F10 8 0 = F 8 0 from (eF10 8 0)))).trans (pf9)) (n3) (en3) (n5) (en5) (n7) (en7) (n9) (en9) (u2_1) ((((show F10 2 1 = F 2 1 from (eF10 2 1))).trans (eu2_1))) (u4_1) ((((show F10 4 1 = F 4 1 from (eF10 4 1))).trans (eu4_1))) (u6_1) ((((show F10 6 1 = F 6 1 from (eF10 6 1))).trans (eu6_1))) (u8_1) ((((show F10 8 1 = F 8 1 from (eF10 8 1))).trans (eu8_1))) (show (0) = 0 ∨ (0) = 1 by first | exact q_45 | omega) (show 0 ≤ (u2_1) ∧ (u2_1) ≤ (n3) ∧ (n3) ≤ 65536 from h4) (show 0 ≤ (u4_1) ∧ (u4_1) ≤ (n5) ∧ (n5) ≤ 65536 from h5) (show 0 ≤ (u6_1) ∧ (u6_1) ≤ (n7) ∧ (n7) ≤ 65536 from h6) (show 0 ≤ (u8_1) ∧ (u8_1) ≤ (n9) ∧ (n9) ≤ 65536 from h7))
  · refine Ew_of (pcₚ := 8) (fun _ => x_iload_n rfl rfl) ?_
    refine Ew_of (pcₚ := 9) (fun _ => x_iconst rfl) ?_
    refine w_icmplt (t := 31) rfl rfl (show inr (a2) from h1) (show inr (1) from q_135) (fun b12 => ?_) (fun b12 => ?_)
    · refine Ew_of (pcₚ := 32) (fun _ => x_iconst rfl) ?_
      exact w_ireturn rfl (k (0) _ _ _ _ _ _ _ H O (SD_refl) (SD_refl) (cF10) (cA10) ((((show F10 2 0 = F 2 0 from (eF10 2 0)))).trans (pf3)) ((((show F10 4 0 = F 4 0 from (eF10 4 0)))).trans (pf5)) ((((show F10 6 0 = F 6 0 from (eF10 6 0)))).trans (pf7)) ((((show F10 8 0 = F 8 0 from (eF10 8 0)))).trans (pf9)) (n3) (en3) (n5) (en5) (n7) (en7) (n9) (en9) (u2_1) ((((show F10 2 1 = F 2 1 from (eF10 2 1))).trans (eu2_1))) (u4_1) ((((show F10 4 1 = F 4 1 from (eF10 4 1))).trans (eu4_1))) (u6_1) ((((show F10 6 1 = F 6 1 from (eF10 6 1))).trans (eu6_1))) (u8_1) ((((show F10 8 1 = F 8 1 from (eF10 8 1))).trans (eu8_1))) (show (0) = 0 ∨ (0) = 1 by first | exact q_45 | omega) (show 0 ≤ (u2_1) ∧ (u2_1) ≤ (n3) ∧ (n3) ≤ 65536 from h4) (show 0 ≤ (u4_1) ∧ (u4_1) ≤ (n5) ∧ (n5) ≤ 65536 from h5) (show 0 ≤ (u6_1) ∧ (u6_1) ≤ (n7) ∧ (n7) ≤ 65536 from h6) (show 0 ≤ (u8_1) ∧ (u8_1) ≤ (n9) ∧ (n9) ≤ 65536 from h7))
    · refine Ew_of (pcₚ := 13) (fun _ => x_iload_n rfl rfl) ?_
      refine Ew_of (pcₚ := 15) (fun _ => x_bipush (z := 8) rfl (by decide)) ?_
      refine w_icmpgt (t := 31) rfl rfl (show inr (a2) from h1) (show inr (8) from q_141) (fun b13 => ?_) (fun b13 => ?_)
      · refine Ew_of (pcₚ := 32) (fun _ => x_iconst rfl) ?_
        exact w_ireturn rfl (k (0) _ _ _ _ _ _ _ H O (SD_refl) (SD_refl) (cF10) (cA10) ((((show F10 2 0 = F 2 0 from (eF10 2 0)))).trans (pf3)) ((((show F10 4 0 = F 4 0 from (eF10 4 0)))).trans (pf5)) ((((show F10 6 0 = F 6 0 from (eF10 6 0)))).trans (pf7)) ((((show F10 8 0 = F 8 0 from (eF10 8 0)))).trans (pf9)) (n3) (en3) (n5) (en5) (n7) (en7) (n9) (en9) (u2_1) ((((show F10 2 1 = F 2 1 from (eF10 2 1))).trans (eu2_1))) (u4_1) ((((show F10 4 1 = F 4 1 from (eF10 4 1))).trans (eu4_1))) (u6_1) ((((show F10 6 1 = F 6 1 from (eF10 6 1))).trans (eu6_1))) (u8_1) ((((show F10 8 1 = F 8 1 from (eF10 8 1))).trans (eu8_1))) (show (0) = 0 ∨ (0) = 1 by first | exact q_45 | omega) (show 0 ≤ (u2_1) ∧ (u2_1) ≤ (n3) ∧ (n3) ≤ 65536 from h4) (show 0 ≤ (u4_1) ∧ (u4_1) ≤ (n5) ∧ (n5) ≤ 65536 from h5) (show 0 ≤ (u6_1) ∧ (u6_1) ≤ (n7) ∧ (n7) ≤ 65536 from h6) (show 0 ≤ (u8_1) ∧ (u8_1) ≤ (n9) ∧ (n9) ≤ 65536 from h7))
      · refine Ew_of (pcₚ := 19) (fun _ => x_aload_n rfl rfl) ?_
        refine v_g H (o := 0) (v := .ref (D 1)) rfl rfl rfl rfl rfl (vrf ((mF10 0 0 rfl).trans (pf1))) ?_
        refine Ew_of (pcₚ := 23) (fun _ => x_iload_n rfl rfl) ?_
        rcases (show a1 = 0 ∨ a1 = 1 ∨ a1 = 2 ∨ a1 = 3 by omega) with b14 | b14 | b14 | b14
        · refine v_lR H (o := 1) rfl rfl rfl rfl rfl (n := n1) (en1) (show 0 ≤ a1 ∧ a1 < n1 from q_4724 (HIDe r5) b14 h3) (z := ((D 2 : Nat) : Int)) (v := .ref (D 2)) ((congrArg (A10 1) b14).trans ((mA10 1 rfl 0).trans (pf2))) (vrf rfl) ?_
          refine Ew_of (pcₚ := 25) (fun _ => x_iload_n rfl rfl) ?_
          refine v_inv H (o := 2) rfl rfl rfl rfl rfl rfl (by rfl) (C157 (D := puc 1538 D) (N := puc 1538 N) (HW_subc H oz_R2cls_23 oz_R2cls_17) ((((show F10 2 0 = F 2 0 from (eF10 2 0)))).trans (pf3)) (n3) (en3) (u2_1) ((((show F10 2 1 = F 2 1 from (eF10 2 1))).trans (eu2_1))) (A 3) ((show A10 3 = A 3 from (eA10 3))) (show inr (a2) from h1) (show 0 ≤ (u2_1) ∧ (u2_1) ≤ (n3) ∧ (n3) ≤ 65536 from h4) (fun z15 σ15 D15ₚ N15ₚ F15ₚ A15ₚ c15 s15 Hₚ Oₚ hD15 hN15 hS15 hA15 (pm15_1 : HID _) m15_1 (em15_1 : HID _) w15_1 ew15_1 pz15_0 pz15_1 pz15_2 pz15_3 pz15_4 => ⟨rretB rfl pz15_0, ?_⟩))
          refine v_backMc (c := c) (s := s) H oz_R2cls_23 oz_R2cls_17 Hₚ Oₚ hD15 oz_R2cls_24 (fun D15 N15 F15 A15 H Oₚ eD15 eN15 eF15 eA15 => ?_)
          have O := OUT_trans O Oₚ
          -- Row.reserve
          have cF15 : SF oz_R2clsl_0 F F15 := SF_trans (cF10) (SF_gluc (ι := oz_R2clsl_3) oz_R2cls_17 hS15 eF15 (by decide +kernel)) (any_sub (lₚ := [(2, 0)]) (by decide +kernel))
          have mF15 := SFm_of cF15 oz_R2cls_14
          have cA15 : SA oz_R2clsl_1 A A15 := SA_trans (cA10) (SA_gluc (ι := oz_R2clsl_3) oz_R2cls_17 hA15 eA15 (by decide +kernel)) (any_subA (lₚ := [3]) (by decide +kernel))
          have mA15 := SAm_of cA15 oz_R2cls_15
          have cD15 : SD oz_R2clsl_1 D D15 := SD_trans (SD_refl) (SD_gluc (ι := oz_R2clsl_3) oz_R2cls_17 hD15 eD15 (by decide +kernel)) (any_subA (lₚ := [3]) (by decide +kernel))
          have mD15 := SDm_of cD15 oz_R2cls_15
          have cN15 : SD oz_R2clsl_1 N N15 := SD_trans (SD_refl) (SD_gluc (ι := oz_R2clsl_3) oz_R2cls_17 hN15 eN15 (by decide +kernel)) (any_subA (lₚ := [3]) (by decide +kernel))
          have mN15 := SDm_of cN15 oz_R2cls_15
          have pf15_2_0 : HID (F15 2 0 = (D15 3 : Int)) := (eF15 2 0).trans (pm15_1.trans (congrArg (fun q : Nat => (q : Int)) (eD15 3).symm))
          have pf15_4_0 : HID (F15 4 0 = (D15 5 : Int)) := ((show F15 4 0 = F10 4 0 from (eF15 4 0))).trans (((((show F10 4 0 = F 4 0 from (eF10 4 0)))).trans (pf5)).trans (congrArg (fun q : Nat => (q : Int)) ((show D15 5 = D 5 from (eD15 5))).symm))
          have pf15_6_0 : HID (F15 6 0 = (D15 7 : Int)) := ((show F15 6 0 = F10 6 0 from (eF15 6 0))).trans (((((show F10 6 0 = F 6 0 from (eF10 6 0)))).trans (pf7)).trans (congrArg (fun q : Nat => (q : Int)) ((show D15 7 = D 7 from (eD15 7))).symm))
          have pf15_8_0 : HID (F15 8 0 = (D15 9 : Int)) := ((show F15 8 0 = F10 8 0 from (eF15 8 0))).trans (((((show F10 8 0 = F 8 0 from (eF10 8 0)))).trans (pf9)).trans (congrArg (fun q : Nat => (q : Int)) ((show D15 9 = D 9 from (eD15 9))).symm))
          refine w_ifne (t := 33) rfl rfl (show inr (z15) from q_138 pz15_0) (fun b17 => ?_) (fun b17 => ?_)
          · refine Ew_of (pcₚ := 34) (fun _ => x_aload_n rfl rfl) ?_
            refine Ew_stk (congrArg (fun qz : Nat => ([.ref qz] : List Value)) (show D15 0 = D 0 from mD15 0 rfl).symm) ?_
            refine v_g H (o := 0) (v := .ref (D15 1)) rfl rfl rfl rfl rfl (vrf ((mF15 0 0 rfl).trans ((pf1).trans (congrArg (fun q : Nat => (q : Int)) (mD15 1 rfl).symm)))) ?_
            refine Ew_of (pcₚ := 38) (fun _ => x_iload_n rfl rfl) ?_
            refine v_lR H (o := 1) rfl rfl rfl rfl rfl (n := n1) ((congrArg (fun q : Nat => (q : Int)) (mN15 1 rfl)).trans (en1)) (show 0 ≤ a1 ∧ a1 < n1 from q_4724 (HIDe r5) b14 h3) (z := ((D15 2 : Nat) : Int)) (v := .ref (D15 2)) ((congrArg (A15 1) b14).trans ((mA15 1 rfl 0).trans ((pf2).trans (congrArg (fun q : Nat => (q : Int)) (mD15 2 rfl).symm)))) (vrf rfl) ?_
            refine Ew_of (pcₚ := 40) (fun _ => x_lload_n rfl rfl) ?_
            refine Ew_of (pcₚ := 41) (fun _ => x_iload_n rfl rfl) ?_
            refine w_stat24 rfl rfl (by rfl) (C28_Row (D := puc 1538 D15) (N := puc 1538 N15) (HW_subc H oz_R2cls_25 oz_R2cls_17) (pf15_2_0) (m15_1) ((congrArg (fun q : Nat => (q : Int)) (eN15 3)).trans em15_1) (u2_1) (((((show F15 2 1 = F10 2 1 from (eF15 2 1).trans (hS15 0 1 rfl))).trans ((show F10 2 1 = F 2 1 from (eF10 2 1)))).trans (eu2_1))) (show inrJ (a3) from h2) (show inr (a2) from h1) (show 0 ≤ (u2_1) ∧ (u2_1) ≤ (m15_1) ∧ (m15_1) ≤ 65536 from pz15_1) (show (a2) ≤ 8 from b13) (fun σ18 D18ₚ N18ₚ F18ₚ A18ₚ c18 s18 Hₚ Oₚ hD18 hN18 hS18 hA18 (pm18_1 : HID _) m18_1 (em18_1 : HID _) y18_0_1 (ey18_0_1 : HID _) pz18_0 => ⟨rfl, ?_⟩))
            refine v_backMc (c := (c + c15)) (s := (s + s15)) H oz_R2cls_25 oz_R2cls_17 Hₚ Oₚ hD18 oz_R2cls_24 (fun D18 N18 F18 A18 H Oₚ eD18 eN18 eF18 eA18 => ?_)
            have O := OUT_trans O Oₚ
            -- PackHouse.addHighestFirst
            have cF18 : SF oz_R2clsl_0 F F18 := SF_trans (cF15) (SF_gluc (ι := oz_R2clsl_3) oz_R2cls_17 hS18 eF18 (by decide +kernel)) (any_sub (lₚ := [(2, 0), (2, 1), (2, 2)]) (by decide +kernel))
            have mF18 := SFm_of cF18 oz_R2cls_14
            have cA18 : SA oz_R2clsl_1 A A18 := SA_trans (cA15) (SA_gluc (ι := oz_R2clsl_3) oz_R2cls_17 hA18 eA18 (by decide +kernel)) (any_subA (lₚ := [3]) (by decide +kernel))
            have mA18 := SAm_of cA18 oz_R2cls_15
            have cD18 : SD oz_R2clsl_1 D D18 := SD_trans (cD15) (SD_gluc (ι := oz_R2clsl_3) oz_R2cls_17 hD18 eD18 (by decide +kernel)) (any_subA (lₚ := [3]) (by decide +kernel))
            have mD18 := SDm_of cD18 oz_R2cls_15
            have cN18 : SD oz_R2clsl_1 N N18 := SD_trans (cN15) (SD_gluc (ι := oz_R2clsl_3) oz_R2cls_17 hN18 eN18 (by decide +kernel)) (any_subA (lₚ := [3]) (by decide +kernel))
            have mN18 := SDm_of cN18 oz_R2cls_15
            have pf18_2_0 : HID (F18 2 0 = (D18 3 : Int)) := (eF18 2 0).trans (pm18_1.trans (congrArg (fun q : Nat => (q : Int)) (eD18 3).symm))
            have pf18_4_0 : HID (F18 4 0 = (D18 5 : Int)) := ((show F18 4 0 = F15 4 0 from (eF18 4 0))).trans ((pf15_4_0).trans (congrArg (fun q : Nat => (q : Int)) ((show D18 5 = D15 5 from (eD18 5))).symm))
            have pf18_6_0 : HID (F18 6 0 = (D18 7 : Int)) := ((show F18 6 0 = F15 6 0 from (eF18 6 0))).trans ((pf15_6_0).trans (congrArg (fun q : Nat => (q : Int)) ((show D18 7 = D15 7 from (eD18 7))).symm))
            have pf18_8_0 : HID (F18 8 0 = (D18 9 : Int)) := ((show F18 8 0 = F15 8 0 from (eF18 8 0))).trans ((pf15_8_0).trans (congrArg (fun q : Nat => (q : Int)) ((show D18 9 = D15 9 from (eD18 9))).symm))
            refine Ew_of (pcₚ := 45) (fun _ => x_iconst rfl) ?_
            exact w_ireturn rfl (k (1) _ _ _ _ _ _ _ H O (cD18) (cN18) (cF18) (cA18) (pf18_2_0) (pf18_4_0) (pf18_6_0) (pf18_8_0) (m18_1) ((congrArg (fun q : Nat => (q : Int)) (eN18 3)).trans em18_1) (n5) ((congrArg (fun q : Nat => (q : Int)) (show N18 5 = N15 5 from (eN18 5))).trans ((congrArg (fun q : Nat => (q : Int)) (show N15 5 = N 5 from (eN15 5))).trans (en5))) (n7) ((congrArg (fun q : Nat => (q : Int)) (show N18 7 = N15 7 from (eN18 7))).trans ((congrArg (fun q : Nat => (q : Int)) (show N15 7 = N 7 from (eN15 7))).trans (en7))) (n9) ((congrArg (fun q : Nat => (q : Int)) (show N18 9 = N15 9 from (eN18 9))).trans ((congrArg (fun q : Nat => (q : Int)) (show N15 9 = N 9 from (eN15 9))).trans (en9))) (y18_0_1) (((eF18 2 1).trans ey18_0_1)) (u4_1) ((((((show F18 4 1 = F15 4 1 from (eF18 4 1))).trans ((show F15 4 1 = F10 4 1 from (eF15 4 1)))).trans ((show F10 4 1 = F 4 1 from (eF10 4 1)))).trans (eu4_1))) (u6_1) ((((((show F18 6 1 = F15 6 1 from (eF18 6 1))).trans ((show F15 6 1 = F10 6 1 from (eF15 6 1)))).trans ((show F10 6 1 = F 6 1 from (eF10 6 1)))).trans (eu6_1))) (u8_1) ((((((show F18 8 1 = F15 8 1 from (eF18 8 1))).trans ((show F15 8 1 = F10 8 1 from (eF15 8 1)))).trans ((show F10 8 1 = F 8 1 from (eF10 8 1)))).trans (eu8_1))) (show (1) = 0 ∨ (1) = 1 by first | exact q_49 | omega) (show 0 ≤ (y18_0_1) ∧ (y18_0_1) ≤ (m18_1) ∧ (m18_1) ≤ 65536 from pz18_0) (show 0 ≤ (u4_1) ∧ (u4_1) ≤ (n5) ∧ (n5) ≤ 65536 from h5) (show 0 ≤ (u6_1) ∧ (u6_1) ≤ (n7) ∧ (n7) ≤ 65536 from h6) (show 0 ≤ (u8_1) ∧ (u8_1) ≤ (n9) ∧ (n9) ≤ 65536 from h7))
          · refine Ew_of (pcₚ := 32) (fun _ => x_iconst rfl) ?_
            exact w_ireturn rfl (k (0) _ _ _ _ _ _ _ H O (cD15) (cN15) (cF15) (cA15) (pf15_2_0) (pf15_4_0) (pf15_6_0) (pf15_8_0) (m15_1) ((congrArg (fun q : Nat => (q : Int)) (eN15 3)).trans em15_1) (n5) ((congrArg (fun q : Nat => (q : Int)) (show N15 5 = N 5 from (eN15 5))).trans (en5)) (n7) ((congrArg (fun q : Nat => (q : Int)) (show N15 7 = N 7 from (eN15 7))).trans (en7)) (n9) ((congrArg (fun q : Nat => (q : Int)) (show N15 9 = N 9 from (eN15 9))).trans (en9)) (u2_1) (((((show F15 2 1 = F10 2 1 from (eF15 2 1).trans (hS15 0 1 rfl))).trans ((show F10 2 1 = F 2 1 from (eF10 2 1)))).trans (eu2_1))) (u4_1) (((((show F15 4 1 = F10 4 1 from (eF15 4 1))).trans ((show F10 4 1 = F 4 1 from (eF10 4 1)))).trans (eu4_1))) (u6_1) (((((show F15 6 1 = F10 6 1 from (eF15 6 1))).trans ((show F10 6 1 = F 6 1 from (eF10 6 1)))).trans (eu6_1))) (u8_1) (((((show F15 8 1 = F10 8 1 from (eF15 8 1))).trans ((show F10 8 1 = F 8 1 from (eF10 8 1)))).trans (eu8_1))) (show (0) = 0 ∨ (0) = 1 by first | exact q_45 | omega) (show 0 ≤ (u2_1) ∧ (u2_1) ≤ (m15_1) ∧ (m15_1) ≤ 65536 from pz15_1) (show 0 ≤ (u4_1) ∧ (u4_1) ≤ (n5) ∧ (n5) ≤ 65536 from h5) (show 0 ≤ (u6_1) ∧ (u6_1) ≤ (n7) ∧ (n7) ≤ 65536 from h6) (show 0 ≤ (u8_1) ∧ (u8_1) ≤ (n9) ∧ (n9) ≤ 65536 from h7))
        · refine v_lR H (o := 1) rfl rfl rfl rfl rfl (n := n1) (en1) (show 0 ≤ a1 ∧ a1 < n1 from q_4726 (HIDe r5) b14 h3) (z := ((D 4 : Nat) : Int)) (v := .ref (D 4)) ((congrArg (A10 1) b14).trans ((mA10 1 rfl 1).trans (pf4))) (vrf rfl) ?_
          refine Ew_of (pcₚ := 25) (fun _ => x_iload_n rfl rfl) ?_
          refine v_inv H (o := 4) rfl rfl rfl rfl rfl rfl (by rfl) (C157 (D := puc 2564 D) (N := puc 2564 N) (HW_subc H oz_R2cls_26 oz_R2cls_18) ((((show F10 4 0 = F 4 0 from (eF10 4 0)))).trans (pf5)) (n5) (en5) (u4_1) ((((show F10 4 1 = F 4 1 from (eF10 4 1))).trans (eu4_1))) (A 5) ((show A10 5 = A 5 from (eA10 5))) (show inr (a2) from h1) (show 0 ≤ (u4_1) ∧ (u4_1) ≤ (n5) ∧ (n5) ≤ 65536 from h5) (fun z21 σ21 D21ₚ N21ₚ F21ₚ A21ₚ c21 s21 Hₚ Oₚ hD21 hN21 hS21 hA21 (pm21_1 : HID _) m21_1 (em21_1 : HID _) w21_1 ew21_1 pz21_0 pz21_1 pz21_2 pz21_3 pz21_4 => ⟨rretB rfl pz21_0, ?_⟩))
          refine v_backMc (c := c) (s := s) H oz_R2cls_26 oz_R2cls_18 Hₚ Oₚ hD21 oz_R2cls_27 (fun D21 N21 F21 A21 H Oₚ eD21 eN21 eF21 eA21 => ?_)
          have O := OUT_trans O Oₚ
          -- Row.reserve
          have cF21 : SF oz_R2clsl_0 F F21 := SF_trans (cF10) (SF_gluc (ι := oz_R2clsl_4) oz_R2cls_18 hS21 eF21 (by decide +kernel)) (any_sub (lₚ := [(4, 0)]) (by decide +kernel))
          have mF21 := SFm_of cF21 oz_R2cls_14
          have cA21 : SA oz_R2clsl_1 A A21 := SA_trans (cA10) (SA_gluc (ι := oz_R2clsl_4) oz_R2cls_18 hA21 eA21 (by decide +kernel)) (any_subA (lₚ := [5]) (by decide +kernel))
          have mA21 := SAm_of cA21 oz_R2cls_15
          have cD21 : SD oz_R2clsl_1 D D21 := SD_trans (SD_refl) (SD_gluc (ι := oz_R2clsl_4) oz_R2cls_18 hD21 eD21 (by decide +kernel)) (any_subA (lₚ := [5]) (by decide +kernel))
          have mD21 := SDm_of cD21 oz_R2cls_15
          have cN21 : SD oz_R2clsl_1 N N21 := SD_trans (SD_refl) (SD_gluc (ι := oz_R2clsl_4) oz_R2cls_18 hN21 eN21 (by decide +kernel)) (any_subA (lₚ := [5]) (by decide +kernel))
          have mN21 := SDm_of cN21 oz_R2cls_15
          have pf21_2_0 : HID (F21 2 0 = (D21 3 : Int)) := ((show F21 2 0 = F10 2 0 from (eF21 2 0))).trans (((((show F10 2 0 = F 2 0 from (eF10 2 0)))).trans (pf3)).trans (congrArg (fun q : Nat => (q : Int)) ((show D21 3 = D 3 from (eD21 3))).symm))
          have pf21_4_0 : HID (F21 4 0 = (D21 5 : Int)) := (eF21 4 0).trans (pm21_1.trans (congrArg (fun q : Nat => (q : Int)) (eD21 5).symm))
          have pf21_6_0 : HID (F21 6 0 = (D21 7 : Int)) := ((show F21 6 0 = F10 6 0 from (eF21 6 0))).trans (((((show F10 6 0 = F 6 0 from (eF10 6 0)))).trans (pf7)).trans (congrArg (fun q : Nat => (q : Int)) ((show D21 7 = D 7 from (eD21 7))).symm))
          have pf21_8_0 : HID (F21 8 0 = (D21 9 : Int)) := ((show F21 8 0 = F10 8 0 from (eF21 8 0))).trans (((((show F10 8 0 = F 8 0 from (eF10 8 0)))).trans (pf9)).trans (congrArg (fun q : Nat => (q : Int)) ((show D21 9 = D 9 from (eD21 9))).symm))
          refine w_ifne (t := 33) rfl rfl (show inr (z21) from q_138 pz21_0) (fun b23 => ?_) (fun b23 => ?_)
          · refine Ew_of (pcₚ := 34) (fun _ => x_aload_n rfl rfl) ?_
            refine Ew_stk (congrArg (fun qz : Nat => ([.ref qz] : List Value)) (show D21 0 = D 0 from mD21 0 rfl).symm) ?_
            refine v_g H (o := 0) (v := .ref (D21 1)) rfl rfl rfl rfl rfl (vrf ((mF21 0 0 rfl).trans ((pf1).trans (congrArg (fun q : Nat => (q : Int)) (mD21 1 rfl).symm)))) ?_
            refine Ew_of (pcₚ := 38) (fun _ => x_iload_n rfl rfl) ?_
            refine v_lR H (o := 1) rfl rfl rfl rfl rfl (n := n1) ((congrArg (fun q : Nat => (q : Int)) (mN21 1 rfl)).trans (en1)) (show 0 ≤ a1 ∧ a1 < n1 from q_4726 (HIDe r5) b14 h3) (z := ((D21 4 : Nat) : Int)) (v := .ref (D21 4)) ((congrArg (A21 1) b14).trans ((mA21 1 rfl 1).trans ((pf4).trans (congrArg (fun q : Nat => (q : Int)) (mD21 4 rfl).symm)))) (vrf rfl) ?_
            refine Ew_of (pcₚ := 40) (fun _ => x_lload_n rfl rfl) ?_
            refine Ew_of (pcₚ := 41) (fun _ => x_iload_n rfl rfl) ?_
            refine w_stat24 rfl rfl (by rfl) (C28_Row (D := puc 2564 D21) (N := puc 2564 N21) (HW_subc H oz_R2cls_28 oz_R2cls_18) (pf21_4_0) (m21_1) ((congrArg (fun q : Nat => (q : Int)) (eN21 5)).trans em21_1) (u4_1) (((((show F21 4 1 = F10 4 1 from (eF21 4 1).trans (hS21 0 1 rfl))).trans ((show F10 4 1 = F 4 1 from (eF10 4 1)))).trans (eu4_1))) (show inrJ (a3) from h2) (show inr (a2) from h1) (show 0 ≤ (u4_1) ∧ (u4_1) ≤ (m21_1) ∧ (m21_1) ≤ 65536 from pz21_1) (show (a2) ≤ 8 from b13) (fun σ24 D24ₚ N24ₚ F24ₚ A24ₚ c24 s24 Hₚ Oₚ hD24 hN24 hS24 hA24 (pm24_1 : HID _) m24_1 (em24_1 : HID _) y24_0_1 (ey24_0_1 : HID _) pz24_0 => ⟨rfl, ?_⟩))
            refine v_backMc (c := (c + c21)) (s := (s + s21)) H oz_R2cls_28 oz_R2cls_18 Hₚ Oₚ hD24 oz_R2cls_27 (fun D24 N24 F24 A24 H Oₚ eD24 eN24 eF24 eA24 => ?_)
            have O := OUT_trans O Oₚ
            -- PackHouse.addHighestFirst
            have cF24 : SF oz_R2clsl_0 F F24 := SF_trans (cF21) (SF_gluc (ι := oz_R2clsl_4) oz_R2cls_18 hS24 eF24 (by decide +kernel)) (any_sub (lₚ := [(4, 0), (4, 1), (4, 2)]) (by decide +kernel))
            have mF24 := SFm_of cF24 oz_R2cls_14
            have cA24 : SA oz_R2clsl_1 A A24 := SA_trans (cA21) (SA_gluc (ι := oz_R2clsl_4) oz_R2cls_18 hA24 eA24 (by decide +kernel)) (any_subA (lₚ := [5]) (by decide +kernel))
            have mA24 := SAm_of cA24 oz_R2cls_15
            have cD24 : SD oz_R2clsl_1 D D24 := SD_trans (cD21) (SD_gluc (ι := oz_R2clsl_4) oz_R2cls_18 hD24 eD24 (by decide +kernel)) (any_subA (lₚ := [5]) (by decide +kernel))
            have mD24 := SDm_of cD24 oz_R2cls_15
            have cN24 : SD oz_R2clsl_1 N N24 := SD_trans (cN21) (SD_gluc (ι := oz_R2clsl_4) oz_R2cls_18 hN24 eN24 (by decide +kernel)) (any_subA (lₚ := [5]) (by decide +kernel))
            have mN24 := SDm_of cN24 oz_R2cls_15
            have pf24_2_0 : HID (F24 2 0 = (D24 3 : Int)) := ((show F24 2 0 = F21 2 0 from (eF24 2 0))).trans ((pf21_2_0).trans (congrArg (fun q : Nat => (q : Int)) ((show D24 3 = D21 3 from (eD24 3))).symm))
            have pf24_4_0 : HID (F24 4 0 = (D24 5 : Int)) := (eF24 4 0).trans (pm24_1.trans (congrArg (fun q : Nat => (q : Int)) (eD24 5).symm))
            have pf24_6_0 : HID (F24 6 0 = (D24 7 : Int)) := ((show F24 6 0 = F21 6 0 from (eF24 6 0))).trans ((pf21_6_0).trans (congrArg (fun q : Nat => (q : Int)) ((show D24 7 = D21 7 from (eD24 7))).symm))
            have pf24_8_0 : HID (F24 8 0 = (D24 9 : Int)) := ((show F24 8 0 = F21 8 0 from (eF24 8 0))).trans ((pf21_8_0).trans (congrArg (fun q : Nat => (q : Int)) ((show D24 9 = D21 9 from (eD24 9))).symm))
            refine Ew_of (pcₚ := 45) (fun _ => x_iconst rfl) ?_
            exact w_ireturn rfl (k (1) _ _ _ _ _ _ _ H O (cD24) (cN24) (cF24) (cA24) (pf24_2_0) (pf24_4_0) (pf24_6_0) (pf24_8_0) (n3) ((congrArg (fun q : Nat => (q : Int)) (show N24 3 = N21 3 from (eN24 3))).trans ((congrArg (fun q : Nat => (q : Int)) (show N21 3 = N 3 from (eN21 3))).trans (en3))) (m24_1) ((congrArg (fun q : Nat => (q : Int)) (eN24 5)).trans em24_1) (n7) ((congrArg (fun q : Nat => (q : Int)) (show N24 7 = N21 7 from (eN24 7))).trans ((congrArg (fun q : Nat => (q : Int)) (show N21 7 = N 7 from (eN21 7))).trans (en7))) (n9) ((congrArg (fun q : Nat => (q : Int)) (show N24 9 = N21 9 from (eN24 9))).trans ((congrArg (fun q : Nat => (q : Int)) (show N21 9 = N 9 from (eN21 9))).trans (en9))) (u2_1) ((((((show F24 2 1 = F21 2 1 from (eF24 2 1))).trans ((show F21 2 1 = F10 2 1 from (eF21 2 1)))).trans ((show F10 2 1 = F 2 1 from (eF10 2 1)))).trans (eu2_1))) (y24_0_1) (((eF24 4 1).trans ey24_0_1)) (u6_1) ((((((show F24 6 1 = F21 6 1 from (eF24 6 1))).trans ((show F21 6 1 = F10 6 1 from (eF21 6 1)))).trans ((show F10 6 1 = F 6 1 from (eF10 6 1)))).trans (eu6_1))) (u8_1) ((((((show F24 8 1 = F21 8 1 from (eF24 8 1))).trans ((show F21 8 1 = F10 8 1 from (eF21 8 1)))).trans ((show F10 8 1 = F 8 1 from (eF10 8 1)))).trans (eu8_1))) (show (1) = 0 ∨ (1) = 1 by first | exact q_49 | omega) (show 0 ≤ (u2_1) ∧ (u2_1) ≤ (n3) ∧ (n3) ≤ 65536 from h4) (show 0 ≤ (y24_0_1) ∧ (y24_0_1) ≤ (m24_1) ∧ (m24_1) ≤ 65536 from pz24_0) (show 0 ≤ (u6_1) ∧ (u6_1) ≤ (n7) ∧ (n7) ≤ 65536 from h6) (show 0 ≤ (u8_1) ∧ (u8_1) ≤ (n9) ∧ (n9) ≤ 65536 from h7))
          · refine Ew_of (pcₚ := 32) (fun _ => x_iconst rfl) ?_
            exact w_ireturn rfl (k (0) _ _ _ _ _ _ _ H O (cD21) (cN21) (cF21) (cA21) (pf21_2_0) (pf21_4_0) (pf21_6_0) (pf21_8_0) (n3) ((congrArg (fun q : Nat => (q : Int)) (show N21 3 = N 3 from (eN21 3))).trans (en3)) (m21_1) ((congrArg (fun q : Nat => (q : Int)) (eN21 5)).trans em21_1) (n7) ((congrArg (fun q : Nat => (q : Int)) (show N21 7 = N 7 from (eN21 7))).trans (en7)) (n9) ((congrArg (fun q : Nat => (q : Int)) (show N21 9 = N 9 from (eN21 9))).trans (en9)) (u2_1) (((((show F21 2 1 = F10 2 1 from (eF21 2 1))).trans ((show F10 2 1 = F 2 1 from (eF10 2 1)))).trans (eu2_1))) (u4_1) (((((show F21 4 1 = F10 4 1 from (eF21 4 1).trans (hS21 0 1 rfl))).trans ((show F10 4 1 = F 4 1 from (eF10 4 1)))).trans (eu4_1))) (u6_1) (((((show F21 6 1 = F10 6 1 from (eF21 6 1))).trans ((show F10 6 1 = F 6 1 from (eF10 6 1)))).trans (eu6_1))) (u8_1) (((((show F21 8 1 = F10 8 1 from (eF21 8 1))).trans ((show F10 8 1 = F 8 1 from (eF10 8 1)))).trans (eu8_1))) (show (0) = 0 ∨ (0) = 1 by first | exact q_45 | omega) (show 0 ≤ (u2_1) ∧ (u2_1) ≤ (n3) ∧ (n3) ≤ 65536 from h4) (show 0 ≤ (u4_1) ∧ (u4_1) ≤ (m21_1) ∧ (m21_1) ≤ 65536 from pz21_1) (show 0 ≤ (u6_1) ∧ (u6_1) ≤ (n7) ∧ (n7) ≤ 65536 from h6) (show 0 ≤ (u8_1) ∧ (u8_1) ≤ (n9) ∧ (n9) ≤ 65536 from h7))
        · refine v_lR H (o := 1) rfl rfl rfl rfl rfl (n := n1) (en1) (show 0 ≤ a1 ∧ a1 < n1 from q_4727 (HIDe r5) b14 h3) (z := ((D 6 : Nat) : Int)) (v := .ref (D 6)) ((congrArg (A10 1) b14).trans ((mA10 1 rfl 2).trans (pf6))) (vrf rfl) ?_
          refine Ew_of (pcₚ := 25) (fun _ => x_iload_n rfl rfl) ?_
          refine v_inv H (o := 6) rfl rfl rfl rfl rfl rfl (by rfl) (C157 (D := puc 3590 D) (N := puc 3590 N) (HW_subc H oz_R2cls_29 oz_R2cls_19) ((((show F10 6 0 = F 6 0 from (eF10 6 0)))).trans (pf7)) (n7) (en7) (u6_1) ((((show F10 6 1 = F 6 1 from (eF10 6 1))).trans (eu6_1))) (A 7) ((show A10 7 = A 7 from (eA10 7))) (show inr (a2) from h1) (show 0 ≤ (u6_1) ∧ (u6_1) ≤ (n7) ∧ (n7) ≤ 65536 from h6) (fun z27 σ27 D27ₚ N27ₚ F27ₚ A27ₚ c27 s27 Hₚ Oₚ hD27 hN27 hS27 hA27 (pm27_1 : HID _) m27_1 (em27_1 : HID _) w27_1 ew27_1 pz27_0 pz27_1 pz27_2 pz27_3 pz27_4 => ⟨rretB rfl pz27_0, ?_⟩))
          refine v_backMc (c := c) (s := s) H oz_R2cls_29 oz_R2cls_19 Hₚ Oₚ hD27 oz_R2cls_30 (fun D27 N27 F27 A27 H Oₚ eD27 eN27 eF27 eA27 => ?_)
          have O := OUT_trans O Oₚ
          -- Row.reserve
          have cF27 : SF oz_R2clsl_0 F F27 := SF_trans (cF10) (SF_gluc (ι := oz_R2clsl_5) oz_R2cls_19 hS27 eF27 (by decide +kernel)) (any_sub (lₚ := [(6, 0)]) (by decide +kernel))
          have mF27 := SFm_of cF27 oz_R2cls_14
          have cA27 : SA oz_R2clsl_1 A A27 := SA_trans (cA10) (SA_gluc (ι := oz_R2clsl_5) oz_R2cls_19 hA27 eA27 (by decide +kernel)) (any_subA (lₚ := [7]) (by decide +kernel))
          have mA27 := SAm_of cA27 oz_R2cls_15
          have cD27 : SD oz_R2clsl_1 D D27 := SD_trans (SD_refl) (SD_gluc (ι := oz_R2clsl_5) oz_R2cls_19 hD27 eD27 (by decide +kernel)) (any_subA (lₚ := [7]) (by decide +kernel))
          have mD27 := SDm_of cD27 oz_R2cls_15
          have cN27 : SD oz_R2clsl_1 N N27 := SD_trans (SD_refl) (SD_gluc (ι := oz_R2clsl_5) oz_R2cls_19 hN27 eN27 (by decide +kernel)) (any_subA (lₚ := [7]) (by decide +kernel))
          have mN27 := SDm_of cN27 oz_R2cls_15
          have pf27_2_0 : HID (F27 2 0 = (D27 3 : Int)) := ((show F27 2 0 = F10 2 0 from (eF27 2 0))).trans (((((show F10 2 0 = F 2 0 from (eF10 2 0)))).trans (pf3)).trans (congrArg (fun q : Nat => (q : Int)) ((show D27 3 = D 3 from (eD27 3))).symm))
          have pf27_4_0 : HID (F27 4 0 = (D27 5 : Int)) := ((show F27 4 0 = F10 4 0 from (eF27 4 0))).trans (((((show F10 4 0 = F 4 0 from (eF10 4 0)))).trans (pf5)).trans (congrArg (fun q : Nat => (q : Int)) ((show D27 5 = D 5 from (eD27 5))).symm))
          have pf27_6_0 : HID (F27 6 0 = (D27 7 : Int)) := (eF27 6 0).trans (pm27_1.trans (congrArg (fun q : Nat => (q : Int)) (eD27 7).symm))
          have pf27_8_0 : HID (F27 8 0 = (D27 9 : Int)) := ((show F27 8 0 = F10 8 0 from (eF27 8 0))).trans (((((show F10 8 0 = F 8 0 from (eF10 8 0)))).trans (pf9)).trans (congrArg (fun q : Nat => (q : Int)) ((show D27 9 = D 9 from (eD27 9))).symm))
          refine w_ifne (t := 33) rfl rfl (show inr (z27) from q_138 pz27_0) (fun b29 => ?_) (fun b29 => ?_)
          · refine Ew_of (pcₚ := 34) (fun _ => x_aload_n rfl rfl) ?_
            refine Ew_stk (congrArg (fun qz : Nat => ([.ref qz] : List Value)) (show D27 0 = D 0 from mD27 0 rfl).symm) ?_
            refine v_g H (o := 0) (v := .ref (D27 1)) rfl rfl rfl rfl rfl (vrf ((mF27 0 0 rfl).trans ((pf1).trans (congrArg (fun q : Nat => (q : Int)) (mD27 1 rfl).symm)))) ?_
            refine Ew_of (pcₚ := 38) (fun _ => x_iload_n rfl rfl) ?_
            refine v_lR H (o := 1) rfl rfl rfl rfl rfl (n := n1) ((congrArg (fun q : Nat => (q : Int)) (mN27 1 rfl)).trans (en1)) (show 0 ≤ a1 ∧ a1 < n1 from q_4727 (HIDe r5) b14 h3) (z := ((D27 6 : Nat) : Int)) (v := .ref (D27 6)) ((congrArg (A27 1) b14).trans ((mA27 1 rfl 2).trans ((pf6).trans (congrArg (fun q : Nat => (q : Int)) (mD27 6 rfl).symm)))) (vrf rfl) ?_
            refine Ew_of (pcₚ := 40) (fun _ => x_lload_n rfl rfl) ?_
            refine Ew_of (pcₚ := 41) (fun _ => x_iload_n rfl rfl) ?_
            refine w_stat24 rfl rfl (by rfl) (C28_Row (D := puc 3590 D27) (N := puc 3590 N27) (HW_subc H oz_R2cls_31 oz_R2cls_19) (pf27_6_0) (m27_1) ((congrArg (fun q : Nat => (q : Int)) (eN27 7)).trans em27_1) (u6_1) (((((show F27 6 1 = F10 6 1 from (eF27 6 1).trans (hS27 0 1 rfl))).trans ((show F10 6 1 = F 6 1 from (eF10 6 1)))).trans (eu6_1))) (show inrJ (a3) from h2) (show inr (a2) from h1) (show 0 ≤ (u6_1) ∧ (u6_1) ≤ (m27_1) ∧ (m27_1) ≤ 65536 from pz27_1) (show (a2) ≤ 8 from b13) (fun σ30 D30ₚ N30ₚ F30ₚ A30ₚ c30 s30 Hₚ Oₚ hD30 hN30 hS30 hA30 (pm30_1 : HID _) m30_1 (em30_1 : HID _) y30_0_1 (ey30_0_1 : HID _) pz30_0 => ⟨rfl, ?_⟩))
            refine v_backMc (c := (c + c27)) (s := (s + s27)) H oz_R2cls_31 oz_R2cls_19 Hₚ Oₚ hD30 oz_R2cls_30 (fun D30 N30 F30 A30 H Oₚ eD30 eN30 eF30 eA30 => ?_)
            have O := OUT_trans O Oₚ
            -- PackHouse.addHighestFirst
            have cF30 : SF oz_R2clsl_0 F F30 := SF_trans (cF27) (SF_gluc (ι := oz_R2clsl_5) oz_R2cls_19 hS30 eF30 (by decide +kernel)) (any_sub (lₚ := [(6, 0), (6, 1), (6, 2)]) (by decide +kernel))
            have mF30 := SFm_of cF30 oz_R2cls_14
            have cA30 : SA oz_R2clsl_1 A A30 := SA_trans (cA27) (SA_gluc (ι := oz_R2clsl_5) oz_R2cls_19 hA30 eA30 (by decide +kernel)) (any_subA (lₚ := [7]) (by decide +kernel))
            have mA30 := SAm_of cA30 oz_R2cls_15
            have cD30 : SD oz_R2clsl_1 D D30 := SD_trans (cD27) (SD_gluc (ι := oz_R2clsl_5) oz_R2cls_19 hD30 eD30 (by decide +kernel)) (any_subA (lₚ := [7]) (by decide +kernel))
            have mD30 := SDm_of cD30 oz_R2cls_15
            have cN30 : SD oz_R2clsl_1 N N30 := SD_trans (cN27) (SD_gluc (ι := oz_R2clsl_5) oz_R2cls_19 hN30 eN30 (by decide +kernel)) (any_subA (lₚ := [7]) (by decide +kernel))
            have mN30 := SDm_of cN30 oz_R2cls_15
            have pf30_2_0 : HID (F30 2 0 = (D30 3 : Int)) := ((show F30 2 0 = F27 2 0 from (eF30 2 0))).trans ((pf27_2_0).trans (congrArg (fun q : Nat => (q : Int)) ((show D30 3 = D27 3 from (eD30 3))).symm))
            have pf30_4_0 : HID (F30 4 0 = (D30 5 : Int)) := ((show F30 4 0 = F27 4 0 from (eF30 4 0))).trans ((pf27_4_0).trans (congrArg (fun q : Nat => (q : Int)) ((show D30 5 = D27 5 from (eD30 5))).symm))
            have pf30_6_0 : HID (F30 6 0 = (D30 7 : Int)) := (eF30 6 0).trans (pm30_1.trans (congrArg (fun q : Nat => (q : Int)) (eD30 7).symm))
            have pf30_8_0 : HID (F30 8 0 = (D30 9 : Int)) := ((show F30 8 0 = F27 8 0 from (eF30 8 0))).trans ((pf27_8_0).trans (congrArg (fun q : Nat => (q : Int)) ((show D30 9 = D27 9 from (eD30 9))).symm))
            refine Ew_of (pcₚ := 45) (fun _ => x_iconst rfl) ?_
            exact w_ireturn rfl (k (1) _ _ _ _ _ _ _ H O (cD30) (cN30) (cF30) (cA30) (pf30_2_0) (pf30_4_0) (pf30_6_0) (pf30_8_0) (n3) ((congrArg (fun q : Nat => (q : Int)) (show N30 3 = N27 3 from (eN30 3))).trans ((congrArg (fun q : Nat => (q : Int)) (show N27 3 = N 3 from (eN27 3))).trans (en3))) (n5) ((congrArg (fun q : Nat => (q : Int)) (show N30 5 = N27 5 from (eN30 5))).trans ((congrArg (fun q : Nat => (q : Int)) (show N27 5 = N 5 from (eN27 5))).trans (en5))) (m30_1) ((congrArg (fun q : Nat => (q : Int)) (eN30 7)).trans em30_1) (n9) ((congrArg (fun q : Nat => (q : Int)) (show N30 9 = N27 9 from (eN30 9))).trans ((congrArg (fun q : Nat => (q : Int)) (show N27 9 = N 9 from (eN27 9))).trans (en9))) (u2_1) ((((((show F30 2 1 = F27 2 1 from (eF30 2 1))).trans ((show F27 2 1 = F10 2 1 from (eF27 2 1)))).trans ((show F10 2 1 = F 2 1 from (eF10 2 1)))).trans (eu2_1))) (u4_1) ((((((show F30 4 1 = F27 4 1 from (eF30 4 1))).trans ((show F27 4 1 = F10 4 1 from (eF27 4 1)))).trans ((show F10 4 1 = F 4 1 from (eF10 4 1)))).trans (eu4_1))) (y30_0_1) (((eF30 6 1).trans ey30_0_1)) (u8_1) ((((((show F30 8 1 = F27 8 1 from (eF30 8 1))).trans ((show F27 8 1 = F10 8 1 from (eF27 8 1)))).trans ((show F10 8 1 = F 8 1 from (eF10 8 1)))).trans (eu8_1))) (show (1) = 0 ∨ (1) = 1 by first | exact q_49 | omega) (show 0 ≤ (u2_1) ∧ (u2_1) ≤ (n3) ∧ (n3) ≤ 65536 from h4) (show 0 ≤ (u4_1) ∧ (u4_1) ≤ (n5) ∧ (n5) ≤ 65536 from h5) (show 0 ≤ (y30_0_1) ∧ (y30_0_1) ≤ (m30_1) ∧ (m30_1) ≤ 65536 from pz30_0) (show 0 ≤ (u8_1) ∧ (u8_1) ≤ (n9) ∧ (n9) ≤ 65536 from h7))
          · refine Ew_of (pcₚ := 32) (fun _ => x_iconst rfl) ?_
            exact w_ireturn rfl (k (0) _ _ _ _ _ _ _ H O (cD27) (cN27) (cF27) (cA27) (pf27_2_0) (pf27_4_0) (pf27_6_0) (pf27_8_0) (n3) ((congrArg (fun q : Nat => (q : Int)) (show N27 3 = N 3 from (eN27 3))).trans (en3)) (n5) ((congrArg (fun q : Nat => (q : Int)) (show N27 5 = N 5 from (eN27 5))).trans (en5)) (m27_1) ((congrArg (fun q : Nat => (q : Int)) (eN27 7)).trans em27_1) (n9) ((congrArg (fun q : Nat => (q : Int)) (show N27 9 = N 9 from (eN27 9))).trans (en9)) (u2_1) (((((show F27 2 1 = F10 2 1 from (eF27 2 1))).trans ((show F10 2 1 = F 2 1 from (eF10 2 1)))).trans (eu2_1))) (u4_1) (((((show F27 4 1 = F10 4 1 from (eF27 4 1))).trans ((show F10 4 1 = F 4 1 from (eF10 4 1)))).trans (eu4_1))) (u6_1) (((((show F27 6 1 = F10 6 1 from (eF27 6 1).trans (hS27 0 1 rfl))).trans ((show F10 6 1 = F 6 1 from (eF10 6 1)))).trans (eu6_1))) (u8_1) (((((show F27 8 1 = F10 8 1 from (eF27 8 1))).trans ((show F10 8 1 = F 8 1 from (eF10 8 1)))).trans (eu8_1))) (show (0) = 0 ∨ (0) = 1 by first | exact q_45 | omega) (show 0 ≤ (u2_1) ∧ (u2_1) ≤ (n3) ∧ (n3) ≤ 65536 from h4) (show 0 ≤ (u4_1) ∧ (u4_1) ≤ (n5) ∧ (n5) ≤ 65536 from h5) (show 0 ≤ (u6_1) ∧ (u6_1) ≤ (m27_1) ∧ (m27_1) ≤ 65536 from pz27_1) (show 0 ≤ (u8_1) ∧ (u8_1) ≤ (n9) ∧ (n9) ≤ 65536 from h7))
        · refine v_lR H (o := 1) rfl rfl rfl rfl rfl (n := n1) (en1) (show 0 ≤ a1 ∧ a1 < n1 from q_4728 b14 h3) (z := ((D 8 : Nat) : Int)) (v := .ref (D 8)) ((congrArg (A10 1) b14).trans ((mA10 1 rfl 3).trans (pf8))) (vrf rfl) ?_
          refine Ew_of (pcₚ := 25) (fun _ => x_iload_n rfl rfl) ?_
          refine v_inv H (o := 8) rfl rfl rfl rfl rfl rfl (by rfl) (C157 (D := puc 4616 D) (N := puc 4616 N) (HW_subc H oz_R2cls_32 oz_R2cls_20) ((((show F10 8 0 = F 8 0 from (eF10 8 0)))).trans (pf9)) (n9) (en9) (u8_1) ((((show F10 8 1 = F 8 1 from (eF10 8 1))).trans (eu8_1))) (A 9) ((show A10 9 = A 9 from (eA10 9))) (show inr (a2) from h1) (show 0 ≤ (u8_1) ∧ (u8_1) ≤ (n9) ∧ (n9) ≤ 65536 from h7) (fun z33 σ33 D33ₚ N33ₚ F33ₚ A33ₚ c33 s33 Hₚ Oₚ hD33 hN33 hS33 hA33 (pm33_1 : HID _) m33_1 (em33_1 : HID _) w33_1 ew33_1 pz33_0 pz33_1 pz33_2 pz33_3 pz33_4 => ⟨rretB rfl pz33_0, ?_⟩))
          refine v_backMc (c := c) (s := s) H oz_R2cls_32 oz_R2cls_20 Hₚ Oₚ hD33 oz_R2cls_33 (fun D33 N33 F33 A33 H Oₚ eD33 eN33 eF33 eA33 => ?_)
          have O := OUT_trans O Oₚ
          -- Row.reserve
          have cF33 : SF oz_R2clsl_0 F F33 := SF_trans (cF10) (SF_gluc (ι := oz_R2clsl_6) oz_R2cls_20 hS33 eF33 (by decide +kernel)) (any_sub (lₚ := [(8, 0)]) (by decide +kernel))
          have mF33 := SFm_of cF33 oz_R2cls_14
          have cA33 : SA oz_R2clsl_1 A A33 := SA_trans (cA10) (SA_gluc (ι := oz_R2clsl_6) oz_R2cls_20 hA33 eA33 (by decide +kernel)) (any_subA (lₚ := [9]) (by decide +kernel))
          have mA33 := SAm_of cA33 oz_R2cls_15
          have cD33 : SD oz_R2clsl_1 D D33 := SD_trans (SD_refl) (SD_gluc (ι := oz_R2clsl_6) oz_R2cls_20 hD33 eD33 (by decide +kernel)) (any_subA (lₚ := [9]) (by decide +kernel))
          have mD33 := SDm_of cD33 oz_R2cls_15
          have cN33 : SD oz_R2clsl_1 N N33 := SD_trans (SD_refl) (SD_gluc (ι := oz_R2clsl_6) oz_R2cls_20 hN33 eN33 (by decide +kernel)) (any_subA (lₚ := [9]) (by decide +kernel))
          have mN33 := SDm_of cN33 oz_R2cls_15
          have pf33_2_0 : HID (F33 2 0 = (D33 3 : Int)) := ((show F33 2 0 = F10 2 0 from (eF33 2 0))).trans (((((show F10 2 0 = F 2 0 from (eF10 2 0)))).trans (pf3)).trans (congrArg (fun q : Nat => (q : Int)) ((show D33 3 = D 3 from (eD33 3))).symm))
          have pf33_4_0 : HID (F33 4 0 = (D33 5 : Int)) := ((show F33 4 0 = F10 4 0 from (eF33 4 0))).trans (((((show F10 4 0 = F 4 0 from (eF10 4 0)))).trans (pf5)).trans (congrArg (fun q : Nat => (q : Int)) ((show D33 5 = D 5 from (eD33 5))).symm))
          have pf33_6_0 : HID (F33 6 0 = (D33 7 : Int)) := ((show F33 6 0 = F10 6 0 from (eF33 6 0))).trans (((((show F10 6 0 = F 6 0 from (eF10 6 0)))).trans (pf7)).trans (congrArg (fun q : Nat => (q : Int)) ((show D33 7 = D 7 from (eD33 7))).symm))
          have pf33_8_0 : HID (F33 8 0 = (D33 9 : Int)) := (eF33 8 0).trans (pm33_1.trans (congrArg (fun q : Nat => (q : Int)) (eD33 9).symm))
          refine w_ifne (t := 33) rfl rfl (show inr (z33) from q_138 pz33_0) (fun b35 => ?_) (fun b35 => ?_)
          · refine Ew_of (pcₚ := 34) (fun _ => x_aload_n rfl rfl) ?_
            refine Ew_stk (congrArg (fun qz : Nat => ([.ref qz] : List Value)) (show D33 0 = D 0 from mD33 0 rfl).symm) ?_
            refine v_g H (o := 0) (v := .ref (D33 1)) rfl rfl rfl rfl rfl (vrf ((mF33 0 0 rfl).trans ((pf1).trans (congrArg (fun q : Nat => (q : Int)) (mD33 1 rfl).symm)))) ?_
            refine Ew_of (pcₚ := 38) (fun _ => x_iload_n rfl rfl) ?_
            refine v_lR H (o := 1) rfl rfl rfl rfl rfl (n := n1) ((congrArg (fun q : Nat => (q : Int)) (mN33 1 rfl)).trans (en1)) (show 0 ≤ a1 ∧ a1 < n1 from q_4728 b14 h3) (z := ((D33 8 : Nat) : Int)) (v := .ref (D33 8)) ((congrArg (A33 1) b14).trans ((mA33 1 rfl 3).trans ((pf8).trans (congrArg (fun q : Nat => (q : Int)) (mD33 8 rfl).symm)))) (vrf rfl) ?_
            refine Ew_of (pcₚ := 40) (fun _ => x_lload_n rfl rfl) ?_
            refine Ew_of (pcₚ := 41) (fun _ => x_iload_n rfl rfl) ?_
            refine w_stat24 rfl rfl (by rfl) (C28_Row (D := puc 4616 D33) (N := puc 4616 N33) (HW_subc H oz_R2cls_34 oz_R2cls_20) (pf33_8_0) (m33_1) ((congrArg (fun q : Nat => (q : Int)) (eN33 9)).trans em33_1) (u8_1) (((((show F33 8 1 = F10 8 1 from (eF33 8 1).trans (hS33 0 1 rfl))).trans ((show F10 8 1 = F 8 1 from (eF10 8 1)))).trans (eu8_1))) (show inrJ (a3) from h2) (show inr (a2) from h1) (show 0 ≤ (u8_1) ∧ (u8_1) ≤ (m33_1) ∧ (m33_1) ≤ 65536 from pz33_1) (show (a2) ≤ 8 from b13) (fun σ36 D36ₚ N36ₚ F36ₚ A36ₚ c36 s36 Hₚ Oₚ hD36 hN36 hS36 hA36 (pm36_1 : HID _) m36_1 (em36_1 : HID _) y36_0_1 (ey36_0_1 : HID _) pz36_0 => ⟨rfl, ?_⟩))
            refine v_backMc (c := (c + c33)) (s := (s + s33)) H oz_R2cls_34 oz_R2cls_20 Hₚ Oₚ hD36 oz_R2cls_33 (fun D36 N36 F36 A36 H Oₚ eD36 eN36 eF36 eA36 => ?_)
            have O := OUT_trans O Oₚ
            -- PackHouse.addHighestFirst
            have cF36 : SF oz_R2clsl_0 F F36 := SF_trans (cF33) (SF_gluc (ι := oz_R2clsl_6) oz_R2cls_20 hS36 eF36 (by decide +kernel)) (any_sub (lₚ := [(8, 0), (8, 1), (8, 2)]) (by decide +kernel))
            have mF36 := SFm_of cF36 oz_R2cls_14
            have cA36 : SA oz_R2clsl_1 A A36 := SA_trans (cA33) (SA_gluc (ι := oz_R2clsl_6) oz_R2cls_20 hA36 eA36 (by decide +kernel)) (any_subA (lₚ := [9]) (by decide +kernel))
            have mA36 := SAm_of cA36 oz_R2cls_15
            have cD36 : SD oz_R2clsl_1 D D36 := SD_trans (cD33) (SD_gluc (ι := oz_R2clsl_6) oz_R2cls_20 hD36 eD36 (by decide +kernel)) (any_subA (lₚ := [9]) (by decide +kernel))
            have mD36 := SDm_of cD36 oz_R2cls_15
            have cN36 : SD oz_R2clsl_1 N N36 := SD_trans (cN33) (SD_gluc (ι := oz_R2clsl_6) oz_R2cls_20 hN36 eN36 (by decide +kernel)) (any_subA (lₚ := [9]) (by decide +kernel))
            have mN36 := SDm_of cN36 oz_R2cls_15
            have pf36_2_0 : HID (F36 2 0 = (D36 3 : Int)) := ((show F36 2 0 = F33 2 0 from (eF36 2 0))).trans ((pf33_2_0).trans (congrArg (fun q : Nat => (q : Int)) ((show D36 3 = D33 3 from (eD36 3))).symm))
            have pf36_4_0 : HID (F36 4 0 = (D36 5 : Int)) := ((show F36 4 0 = F33 4 0 from (eF36 4 0))).trans ((pf33_4_0).trans (congrArg (fun q : Nat => (q : Int)) ((show D36 5 = D33 5 from (eD36 5))).symm))
            have pf36_6_0 : HID (F36 6 0 = (D36 7 : Int)) := ((show F36 6 0 = F33 6 0 from (eF36 6 0))).trans ((pf33_6_0).trans (congrArg (fun q : Nat => (q : Int)) ((show D36 7 = D33 7 from (eD36 7))).symm))
            have pf36_8_0 : HID (F36 8 0 = (D36 9 : Int)) := (eF36 8 0).trans (pm36_1.trans (congrArg (fun q : Nat => (q : Int)) (eD36 9).symm))
            refine Ew_of (pcₚ := 45) (fun _ => x_iconst rfl) ?_
            exact w_ireturn rfl (k (1) _ _ _ _ _ _ _ H O (cD36) (cN36) (cF36) (cA36) (pf36_2_0) (pf36_4_0) (pf36_6_0) (pf36_8_0) (n3) ((congrArg (fun q : Nat => (q : Int)) (show N36 3 = N33 3 from (eN36 3))).trans ((congrArg (fun q : Nat => (q : Int)) (show N33 3 = N 3 from (eN33 3))).trans (en3))) (n5) ((congrArg (fun q : Nat => (q : Int)) (show N36 5 = N33 5 from (eN36 5))).trans ((congrArg (fun q : Nat => (q : Int)) (show N33 5 = N 5 from (eN33 5))).trans (en5))) (n7) ((congrArg (fun q : Nat => (q : Int)) (show N36 7 = N33 7 from (eN36 7))).trans ((congrArg (fun q : Nat => (q : Int)) (show N33 7 = N 7 from (eN33 7))).trans (en7))) (m36_1) ((congrArg (fun q : Nat => (q : Int)) (eN36 9)).trans em36_1) (u2_1) ((((((show F36 2 1 = F33 2 1 from (eF36 2 1))).trans ((show F33 2 1 = F10 2 1 from (eF33 2 1)))).trans ((show F10 2 1 = F 2 1 from (eF10 2 1)))).trans (eu2_1))) (u4_1) ((((((show F36 4 1 = F33 4 1 from (eF36 4 1))).trans ((show F33 4 1 = F10 4 1 from (eF33 4 1)))).trans ((show F10 4 1 = F 4 1 from (eF10 4 1)))).trans (eu4_1))) (u6_1) ((((((show F36 6 1 = F33 6 1 from (eF36 6 1))).trans ((show F33 6 1 = F10 6 1 from (eF33 6 1)))).trans ((show F10 6 1 = F 6 1 from (eF10 6 1)))).trans (eu6_1))) (y36_0_1) (((eF36 8 1).trans ey36_0_1)) (show (1) = 0 ∨ (1) = 1 by first | exact q_49 | omega) (show 0 ≤ (u2_1) ∧ (u2_1) ≤ (n3) ∧ (n3) ≤ 65536 from h4) (show 0 ≤ (u4_1) ∧ (u4_1) ≤ (n5) ∧ (n5) ≤ 65536 from h5) (show 0 ≤ (u6_1) ∧ (u6_1) ≤ (n7) ∧ (n7) ≤ 65536 from h6) (show 0 ≤ (y36_0_1) ∧ (y36_0_1) ≤ (m36_1) ∧ (m36_1) ≤ 65536 from pz36_0))
          · refine Ew_of (pcₚ := 32) (fun _ => x_iconst rfl) ?_
            exact w_ireturn rfl (k (0) _ _ _ _ _ _ _ H O (cD33) (cN33) (cF33) (cA33) (pf33_2_0) (pf33_4_0) (pf33_6_0) (pf33_8_0) (n3) ((congrArg (fun q : Nat => (q : Int)) (show N33 3 = N 3 from (eN33 3))).trans (en3)) (n5) ((congrArg (fun q : Nat => (q : Int)) (show N33 5 = N 5 from (eN33 5))).trans (en5)) (n7) ((congrArg (fun q : Nat => (q : Int)) (show N33 7 = N 7 from (eN33 7))).trans (en7)) (m33_1) ((congrArg (fun q : Nat => (q : Int)) (eN33 9)).trans em33_1) (u2_1) (((((show F33 2 1 = F10 2 1 from (eF33 2 1))).trans ((show F10 2 1 = F 2 1 from (eF10 2 1)))).trans (eu2_1))) (u4_1) (((((show F33 4 1 = F10 4 1 from (eF33 4 1))).trans ((show F10 4 1 = F 4 1 from (eF10 4 1)))).trans (eu4_1))) (u6_1) (((((show F33 6 1 = F10 6 1 from (eF33 6 1))).trans ((show F10 6 1 = F 6 1 from (eF10 6 1)))).trans (eu6_1))) (u8_1) (((((show F33 8 1 = F10 8 1 from (eF33 8 1).trans (hS33 0 1 rfl))).trans ((show F10 8 1 = F 8 1 from (eF10 8 1)))).trans (eu8_1))) (show (0) = 0 ∨ (0) = 1 by first | exact q_45 | omega) (show 0 ≤ (u2_1) ∧ (u2_1) ≤ (n3) ∧ (n3) ≤ 65536 from h4) (show 0 ≤ (u4_1) ∧ (u4_1) ≤ (n5) ∧ (n5) ≤ 65536 from h5) (show 0 ≤ (u6_1) ∧ (u6_1) ≤ (n7) ∧ (n7) ≤ 65536 from h6) (show 0 ≤ (u8_1) ∧ (u8_1) ≤ (m33_1) ∧ (m33_1) ≤ 65536 from pz33_1))
abbrev V3 : vV := [(0, 0, [(4, 0), (4, 0), (4, 0), (4, 0), (4, 0), (4, 0), (4, 0), (4, 0), (4, 0), (4, 0), (4, 0), (4, 0), (4, 0), (4, 0), (4, 0), (4, 0), (4, 0), (0, 0), (0, 0)]), (1, 4, []), (0, 7, [(4, 0), (0, 0), (1, 0), (0, 0), (0, 0)]), (1, 0, []), (0, 7, [(4, 0), (0, 0), (1, 0), (0, 0), (0, 0)]), (1, 0, []), (0, 7, [(4, 0), (0, 0), (1, 0), (0, 0), (0, 0)]), (1, 0, []), (0, 7, [(4, 0), (0, 0), (1, 0), (0, 0), (0, 0)]), (1, 0, [])]
theorem len_V3_oz_R2cls : (V3).length = 10 := by decide +kernel
theorem oz_R2cls_36 : vsub V3 V24 [] = true := by decide +kernel
theorem oz_R2cls_37 : vsub V3 V163_thisa [2, 3] = true := by decide +kernel
theorem oz_R2cls_38 : vmov V3 [2, 3] [1] = true := by decide +kernel
theorem oz_R2cls_39 : vsub V3 V163_thisa [4, 5] = true := by decide +kernel
theorem oz_R2cls_40 : vmov V3 [4, 5] [1] = true := by decide +kernel
theorem oz_R2cls_41 : vsub V3 V163_thisa [6, 7] = true := by decide +kernel
theorem oz_R2cls_42 : vmov V3 [6, 7] [1] = true := by decide +kernel
theorem oz_R2cls_43 : vsub V3 V163_thisa [8, 9] = true := by decide +kernel
theorem oz_R2cls_44 : vmov V3 [8, 9] [1] = true := by decide +kernel

theorem C3 {σE : rS} {D N : Nat → Nat} {F : hF} {A : hA} {d c s : Nat} {Q : wQ} (H : HW V3 σE D N F A) {a1 a2 a3 : Int} (pf1 : HID (F 0 0 = (D 1 : Int))) (pf2 : HID (A 1 0 = (D 2 : Int))) (pf3 : HID (F 2 0 = (D 3 : Int))) (pf4 : HID (A 1 1 = (D 4 : Int))) (pf5 : HID (F 4 0 = (D 5 : Int))) (pf6 : HID (A 1 2 = (D 6 : Int))) (pf7 : HID (F 6 0 = (D 7 : Int))) (pf8 : HID (A 1 3 = (D 8 : Int))) (pf9 : HID (F 8 0 = (D 9 : Int))) (n1 : Int) (en1 : HID ((N 1 : Int) = n1)) (n3 : Int) (en3 : HID ((N 3 : Int) = n3)) (n5 : Int) (en5 : HID ((N 5 : Int) = n5)) (n7 : Int) (en7 : HID ((N 7 : Int) = n7)) (n9 : Int) (en9 : HID ((N 9 : Int) = n9)) (u2_1 : Int) (eu2_1 : HID (F 2 1 = u2_1)) (u4_1 : Int) (eu4_1 : HID (F 4 1 = u4_1)) (u6_1 : Int) (eu6_1 : HID (F 6 1 = u6_1)) (u8_1 : Int) (eu8_1 : HID (F 8 1 = u8_1)) (h0 : inr (a1)) (h1 : inr (a2)) (h2 : inr (a3)) (h3 : (n1) = 4) (h4 : 0 ≤ (u2_1) ∧ (u2_1) ≤ (n3) ∧ (n3) ≤ 65536) (h5 : 0 ≤ (u4_1) ∧ (u4_1) ≤ (n5) ∧ (n5) ≤ 65536) (h6 : 0 ≤ (u6_1) ∧ (u6_1) ≤ (n7) ∧ (n7) ≤ 65536) (h7 : 0 ≤ (u8_1) ∧ (u8_1) ≤ (n9) ∧ (n9) ≤ 65536) (k : ∀ (z : Int) (σ : rS) (Dₚ Nₚ : Nat → Nat) (Fₚ : hF) (Aₚ : hA) (cₚ sₚ : Nat), HW V3 σ Dₚ Nₚ Fₚ Aₚ → OUT (V3).length D N σE c s Dₚ Nₚ σ cₚ sₚ → SD [3, 5, 7, 9] D Dₚ → SD [3, 5, 7, 9] N Nₚ → SF [(2, 0), (2, 1), (2, 2), (4, 0), (4, 1), (4, 2), (6, 0), (6, 1), (6, 2), (8, 0), (8, 1), (8, 2)] F Fₚ → SA [3, 5, 7, 9] A Aₚ → Fₚ 2 0 = (Dₚ 3 : Int) → Fₚ 4 0 = (Dₚ 5 : Int) → Fₚ 6 0 = (Dₚ 7 : Int) → Fₚ 8 0 = (Dₚ 9 : Int) → ∀ m3 : Int, (Nₚ 3 : Int) = m3 → ∀ m5 : Int, (Nₚ 5 : Int) = m5 → ∀ m7 : Int, (Nₚ 7 : Int) = m7 → ∀ m9 : Int, (Nₚ 9 : Int) = m9 → ∀ y2_1 : Int, Fₚ 2 1 = y2_1 → ∀ y4_1 : Int, Fₚ 4 1 = y4_1 → ∀ y6_1 : Int, Fₚ 6 1 = y6_1 → ∀ y8_1 : Int, Fₚ 8 1 = y8_1 → ((z) = 0 ∨ (z) = 1) → (0 ≤ (y2_1) ∧ (y2_1) ≤ (m3) ∧ (m3) ≤ 65536) → (0 ≤ (y4_1) ∧ (y4_1) ≤ (m5) ∧ (m5) ≤ 65536) → (0 ≤ (y6_1) ∧ (y6_1) ≤ (m7) ∧ (m7) ≤ 65536) → (0 ≤ (y8_1) ∧ (y8_1) ≤ (m9) ∧ (m9) ≤ 65536) → Q (some (I z)) σ cₚ sₚ) : Ew 3 (d + 3) 0 (rargs 0 [.ref (D 0), I a1, I a2, I a3]) [] σE c s Q := by
  have O := OUT_refl (n := (V3).length) (D := D) (N := N) (σ := σE) (c := c) (s := s)
  have HE := H
  have r5 : HID ((0 : Int) ≤ n1 ∧ n1 ≤ 1000000) := nrng (H.nle 1 (ltn len_V3_oz_R2cls rfl)) (show (N 1 : Int) = n1 from en1)
  refine Ew_of (pcₚ := 1) (fun _ => x_iload_n rfl rfl) ?_
  refine w_stat24 rfl rfl (by rfl) (C24 (D := puc 0 D) (N := puc 0 N) (HW_subc H oz_R2cls_36 oz_R2cls_16) (show inr (a1) from h0) (fun z10 σ10 F10ₚ A10ₚ Hₚ Oₚ hS10 hA10 pz10_0 pz10_1 => ⟨rretB rfl pz10_0, ?_⟩))
  refine v_backc (c := c) (s := s) H oz_R2cls_36 oz_R2cls_16 Hₚ Oₚ (fun F10 A10 H Oₚ eF10 eA10 => ?_)
  have O := OUT_trans O Oₚ
  -- PackHouse.isRow
  have cF10 : SF oz_R2clsl_0 F F10 := SF_trans (SF_refl) (SF_gluc (ι := oz_R2clsl_2) oz_R2cls_16 hS10 eF10 (by decide +kernel)) (any_sub (lₚ := []) (by decide +kernel))
  have mF10 := SFm_of cF10 oz_R2cls_14
  have cA10 : SA oz_R2clsl_1 A A10 := SA_trans (SA_refl) (SA_gluc (ι := oz_R2clsl_2) oz_R2cls_16 hA10 eA10 (by decide +kernel)) (any_subA (lₚ := []) (by decide +kernel))
  have mA10 := SAm_of cA10 oz_R2cls_15
  refine w_ifeq (t := 29) rfl rfl (show inr (z10) from q_138 pz10_0) (fun b11 => ?_) (fun b11 => ?_)
  · refine Ew_of (pcₚ := 30) (fun _ => x_iconst rfl) ?_
    exact w_ireturn rfl (k (0) _ _ _ _ _ _ _ H O (SD_refl) (SD_refl) (cF10) (cA10) ((((show F10 2 0 = F 2 0 from (eF10 2 0)))).trans (pf3)) ((((show F10 4 0 = F 4 0 from (eF10 4 0)))).trans (pf5)) ((((show F10 6 0 = F 6 0 from (eF10 6 0)))).trans (pf7)) ((((show F10 8 0 = F 8 0 from (eF10 8 0)))).trans (pf9)) (n3) (en3) (n5) (en5) (n7) (en7) (n9) (en9) (u2_1) ((((show F10 2 1 = F 2 1 from (eF10 2 1))).trans (eu2_1))) (u4_1) ((((show F10 4 1 = F 4 1 from (eF10 4 1))).trans (eu4_1))) (u6_1) ((((show F10 6 1 = F 6 1 from (eF10 6 1))).trans (eu6_1))) (u8_1) ((((show F10 8 1 = F 8 1 from (eF10 8 1))).trans (eu8_1))) (show (0) = 0 ∨ (0) = 1 by first | exact q_45 | omega) (show 0 ≤ (u2_1) ∧ (u2_1) ≤ (n3) ∧ (n3) ≤ 65536 from h4) (show 0 ≤ (u4_1) ∧ (u4_1) ≤ (n5) ∧ (n5) ≤ 65536 from h5) (show 0 ≤ (u6_1) ∧ (u6_1) ≤ (n7) ∧ (n7) ≤ 65536 from h6) (show 0 ≤ (u8_1) ∧ (u8_1) ≤ (n9) ∧ (n9) ≤ 65536 from h7))
  · refine Ew_of (pcₚ := 8) (fun _ => x_iload_n rfl rfl) ?_
    refine Ew_of (pcₚ := 9) (fun _ => x_iconst rfl) ?_
    refine w_icmplt (t := 29) rfl rfl (show inr (a2) from h1) (show inr (1) from q_135) (fun b12 => ?_) (fun b12 => ?_)
    · refine Ew_of (pcₚ := 30) (fun _ => x_iconst rfl) ?_
      exact w_ireturn rfl (k (0) _ _ _ _ _ _ _ H O (SD_refl) (SD_refl) (cF10) (cA10) ((((show F10 2 0 = F 2 0 from (eF10 2 0)))).trans (pf3)) ((((show F10 4 0 = F 4 0 from (eF10 4 0)))).trans (pf5)) ((((show F10 6 0 = F 6 0 from (eF10 6 0)))).trans (pf7)) ((((show F10 8 0 = F 8 0 from (eF10 8 0)))).trans (pf9)) (n3) (en3) (n5) (en5) (n7) (en7) (n9) (en9) (u2_1) ((((show F10 2 1 = F 2 1 from (eF10 2 1))).trans (eu2_1))) (u4_1) ((((show F10 4 1 = F 4 1 from (eF10 4 1))).trans (eu4_1))) (u6_1) ((((show F10 6 1 = F 6 1 from (eF10 6 1))).trans (eu6_1))) (u8_1) ((((show F10 8 1 = F 8 1 from (eF10 8 1))).trans (eu8_1))) (show (0) = 0 ∨ (0) = 1 by first | exact q_45 | omega) (show 0 ≤ (u2_1) ∧ (u2_1) ≤ (n3) ∧ (n3) ≤ 65536 from h4) (show 0 ≤ (u4_1) ∧ (u4_1) ≤ (n5) ∧ (n5) ≤ 65536 from h5) (show 0 ≤ (u6_1) ∧ (u6_1) ≤ (n7) ∧ (n7) ≤ 65536 from h6) (show 0 ≤ (u8_1) ∧ (u8_1) ≤ (n9) ∧ (n9) ≤ 65536 from h7))
    · refine Ew_of (pcₚ := 13) (fun _ => x_iload_n rfl rfl) ?_
      refine Ew_of (pcₚ := 14) (fun _ => x_aload_n rfl rfl) ?_
      refine v_g H (o := 0) (v := .ref (D 1)) rfl rfl rfl rfl rfl (vrf ((mF10 0 0 rfl).trans (pf1))) ?_
      refine Ew_of (pcₚ := 18) (fun _ => x_iload_n rfl rfl) ?_
      rcases (show a1 = 0 ∨ a1 = 1 ∨ a1 = 2 ∨ a1 = 3 by omega) with b13 | b13 | b13 | b13
      · refine v_lR H (o := 1) rfl rfl rfl rfl rfl (n := n1) (en1) (show 0 ≤ a1 ∧ a1 < n1 from q_4724 (HIDe r5) b13 h3) (z := ((D 2 : Nat) : Int)) (v := .ref (D 2)) ((congrArg (A10 1) b13).trans ((mA10 1 rfl 0).trans (pf2))) (vrf rfl) ?_
        refine v_g H (o := 2) (v := I (u2_1)) rfl rfl rfl rfl rfl (congrArg (fun z : Int => I z) ((((show F10 2 1 = F 2 1 from (eF10 2 1))).trans (eu2_1)) : F10 2 1 = u2_1)) ?_
        refine w_icmpgt (t := 29) rfl rfl (show inr (a2) from h1) (show inr (u2_1) from q_38 h4) (fun b14 => ?_) (fun b14 => ?_)
        · refine Ew_of (pcₚ := 30) (fun _ => x_iconst rfl) ?_
          exact w_ireturn rfl (k (0) _ _ _ _ _ _ _ H O (SD_refl) (SD_refl) (cF10) (cA10) ((((show F10 2 0 = F 2 0 from (eF10 2 0)))).trans (pf3)) ((((show F10 4 0 = F 4 0 from (eF10 4 0)))).trans (pf5)) ((((show F10 6 0 = F 6 0 from (eF10 6 0)))).trans (pf7)) ((((show F10 8 0 = F 8 0 from (eF10 8 0)))).trans (pf9)) (n3) (en3) (n5) (en5) (n7) (en7) (n9) (en9) (u2_1) ((((show F10 2 1 = F 2 1 from (eF10 2 1))).trans (eu2_1))) (u4_1) ((((show F10 4 1 = F 4 1 from (eF10 4 1))).trans (eu4_1))) (u6_1) ((((show F10 6 1 = F 6 1 from (eF10 6 1))).trans (eu6_1))) (u8_1) ((((show F10 8 1 = F 8 1 from (eF10 8 1))).trans (eu8_1))) (show (0) = 0 ∨ (0) = 1 by first | exact q_45 | omega) (show 0 ≤ (u2_1) ∧ (u2_1) ≤ (n3) ∧ (n3) ≤ 65536 from h4) (show 0 ≤ (u4_1) ∧ (u4_1) ≤ (n5) ∧ (n5) ≤ 65536 from h5) (show 0 ≤ (u6_1) ∧ (u6_1) ≤ (n7) ∧ (n7) ≤ 65536 from h6) (show 0 ≤ (u8_1) ∧ (u8_1) ≤ (n9) ∧ (n9) ≤ 65536 from h7))
        · refine Ew_of (pcₚ := 26) (fun _ => x_iload_n rfl rfl) ?_
          refine w_ifge (t := 31) rfl rfl (show inr (a3) from h2) (fun b15 => ?_) (fun b15 => ?_)
          · refine Ew_of (pcₚ := 32) (fun _ => x_iload_n rfl rfl) ?_
            refine w_i2l rfl (show inr (a2) from h1) ?_
            refine Ew_of (pcₚ := 34) (fun _ => x_iload_n rfl rfl) ?_
            refine w_i2l rfl (show inr (a3) from h2) ?_
            refine w_lmulA rfl (fun z16 gz16 => ?_)
            refine Ew_of (pcₚ := 38) (fun _ => x_lstore rfl) ?_
            refine Ew_of (pcₚ := 40) (fun _ => x_lload rfl rk2_s) ?_
            refine Ew_of (pcₚ := 42) (fun _ => x_ldc (z := 65536) rfl (by decide)) ?_
            refine Ew_of (pcₚ := 43) (fun _ => x_aload_n rfl (rk2_o (rfl) rfl rfl)) ?_
            refine v_g H (o := 0) (v := .ref (D 1)) rfl rfl rfl rfl rfl (vrf ((mF10 0 0 rfl).trans (pf1))) ?_
            refine Ew_of (pcₚ := 47) (fun _ => x_iload_n rfl (rk2_o (rfl) rfl rfl)) ?_
            refine v_lR H (o := 1) rfl rfl rfl rfl rfl (n := n1) (en1) (show 0 ≤ a1 ∧ a1 < n1 from q_4724 (HIDe r5) b13 h3) (z := ((D 2 : Nat) : Int)) (v := .ref (D 2)) ((congrArg (A10 1) b13).trans ((mA10 1 rfl 0).trans (pf2))) (vrf rfl) ?_
            refine v_g H (o := 2) (v := I (u2_1)) rfl rfl rfl rfl rfl (congrArg (fun z : Int => I z) ((((show F10 2 1 = F 2 1 from (eF10 2 1))).trans (eu2_1)) : F10 2 1 = u2_1)) ?_
            refine w_isub rfl ?_
            refine w_i2l rfl (show inr ((65536 - u2_1)) from q_46 h4) ?_
            refine w_lcmp rfl (show inrJ (z16) from gz16) (show inrJ ((65536 - u2_1)) from q_4729 h4) (fun z17 gz17 gaz17 gbz17 => ?_)
            refine w_ifle (t := 59) rfl rfl (show inr (z17) from gz17) (fun b18 => ?_) (fun b18 => ?_)
            · refine Ew_of (pcₚ := 60) (fun _ => x_aload_n rfl (rk2_o (rfl) rfl rfl)) ?_
              refine v_g H (o := 0) (v := .ref (D 1)) rfl rfl rfl rfl rfl (vrf ((mF10 0 0 rfl).trans (pf1))) ?_
              refine Ew_of (pcₚ := 64) (fun _ => x_iload_n rfl (rk2_o (rfl) rfl rfl)) ?_
              refine v_lR H (o := 1) rfl rfl rfl rfl rfl (n := n1) (en1) (show 0 ≤ a1 ∧ a1 < n1 from q_4724 (HIDe r5) b13 h3) (z := ((D 2 : Nat) : Int)) (v := .ref (D 2)) ((congrArg (A10 1) b13).trans ((mA10 1 rfl 0).trans (pf2))) (vrf rfl) ?_
              refine Ew_of (pcₚ := 66) (fun _ => x_iload_n rfl (rk2_o (rfl) rfl rfl)) ?_
              refine Ew_of (pcₚ := 68) (fun _ => x_lload rfl rk2_s) ?_
              refine w_l2iA rfl (fun z19 gz19 => ?_)
              refine Ew_of (pcₚ := 70) (fun _ => x_iconst rfl) ?_
              refine Ew_of (pcₚ := 71) (fun _ => x_aload_n rfl (rk2_o (rfl) rfl rfl)) ?_
              refine v_g H (o := 0) (v := .ref (D 1)) rfl rfl rfl rfl rfl (vrf ((mF10 0 0 rfl).trans (pf1))) ?_
              refine Ew_of (pcₚ := 75) (fun _ => x_iload_n rfl (rk2_o (rfl) rfl rfl)) ?_
              refine v_lR H (o := 1) rfl rfl rfl rfl rfl (n := n1) (en1) (show 0 ≤ a1 ∧ a1 < n1 from q_4724 (HIDe r5) b13 h3) (z := ((D 2 : Nat) : Int)) (v := .ref (D 2)) ((congrArg (A10 1) b13).trans ((mA10 1 rfl 0).trans (pf2))) (vrf rfl) ?_
              refine v_inv H (o := 2) rfl rfl rfl rfl rfl rfl (by rfl) (C163_thisa (D := puc 1538 D) (N := puc 1538 N) (HW_subc H oz_R2cls_37 oz_R2cls_17) ((((show F10 2 0 = F 2 0 from (eF10 2 0)))).trans (pf3)) (n3) (en3) (u2_1) ((((show F10 2 1 = F 2 1 from (eF10 2 1))).trans (eu2_1))) (F 2 2) (((show F10 2 2 = F 2 2 from (eF10 2 2)))) (A 3) ((show A10 3 = A 3 from (eA10 3))) (show inr (a2) from h1) (show inr (z19) from gz19) (show inr (0) from q_2) (show 0 ≤ (u2_1) ∧ (u2_1) ≤ (n3) ∧ (n3) ≤ 65536 from h4) (show 0 ≤ (0) ∧ (0) ≤ (u2_1) from q_3013 h4) (show (z19) < 0 ∨ 1 ≤ (a2) ∧ (a2) ≤ (u2_1) - (0) from q_4730 b12 b14) (fun σ21 D21ₚ N21ₚ F21ₚ A21ₚ c21 s21 Hₚ Oₚ hD21 hN21 hS21 hA21 (pm21_1 : HID _) m21_1 (em21_1 : HID _) y21_0_1 (ey21_0_1 : HID _) y21_0_2 (ey21_0_2 : HID _) w21_1 ew21_1 pz21_0 pz21_1 pz21_2 pz21_3 pz21_4 => ⟨rfl, ?_⟩))
              refine v_backMc (c := c) (s := s) H oz_R2cls_37 oz_R2cls_17 Hₚ Oₚ hD21 oz_R2cls_38 (fun D21 N21 F21 A21 H Oₚ eD21 eN21 eF21 eA21 => ?_)
              have O := OUT_trans O Oₚ
              -- Row.copyBack
              have cF21 : SF oz_R2clsl_0 F F21 := SF_trans (cF10) (SF_gluc (ι := oz_R2clsl_3) oz_R2cls_17 hS21 eF21 (by decide +kernel)) (any_sub (lₚ := [(2, 0), (2, 1), (2, 2)]) (by decide +kernel))
              have mF21 := SFm_of cF21 oz_R2cls_14
              have cA21 : SA oz_R2clsl_1 A A21 := SA_trans (cA10) (SA_gluc (ι := oz_R2clsl_3) oz_R2cls_17 hA21 eA21 (by decide +kernel)) (any_subA (lₚ := [3]) (by decide +kernel))
              have mA21 := SAm_of cA21 oz_R2cls_15
              have cD21 : SD oz_R2clsl_1 D D21 := SD_trans (SD_refl) (SD_gluc (ι := oz_R2clsl_3) oz_R2cls_17 hD21 eD21 (by decide +kernel)) (any_subA (lₚ := [3]) (by decide +kernel))
              have mD21 := SDm_of cD21 oz_R2cls_15
              have cN21 : SD oz_R2clsl_1 N N21 := SD_trans (SD_refl) (SD_gluc (ι := oz_R2clsl_3) oz_R2cls_17 hN21 eN21 (by decide +kernel)) (any_subA (lₚ := [3]) (by decide +kernel))
              have mN21 := SDm_of cN21 oz_R2cls_15
              have pf21_2_0 : HID (F21 2 0 = (D21 3 : Int)) := (eF21 2 0).trans (pm21_1.trans (congrArg (fun q : Nat => (q : Int)) (eD21 3).symm))
              have pf21_4_0 : HID (F21 4 0 = (D21 5 : Int)) := ((show F21 4 0 = F10 4 0 from (eF21 4 0))).trans (((((show F10 4 0 = F 4 0 from (eF10 4 0)))).trans (pf5)).trans (congrArg (fun q : Nat => (q : Int)) ((show D21 5 = D 5 from (eD21 5))).symm))
              have pf21_6_0 : HID (F21 6 0 = (D21 7 : Int)) := ((show F21 6 0 = F10 6 0 from (eF21 6 0))).trans (((((show F10 6 0 = F 6 0 from (eF10 6 0)))).trans (pf7)).trans (congrArg (fun q : Nat => (q : Int)) ((show D21 7 = D 7 from (eD21 7))).symm))
              have pf21_8_0 : HID (F21 8 0 = (D21 9 : Int)) := ((show F21 8 0 = F10 8 0 from (eF21 8 0))).trans (((((show F10 8 0 = F 8 0 from (eF10 8 0)))).trans (pf9)).trans (congrArg (fun q : Nat => (q : Int)) ((show D21 9 = D 9 from (eD21 9))).symm))
              refine Ew_of (pcₚ := 80) (fun _ => x_iconst rfl) ?_
              exact w_ireturn rfl (k (1) _ _ _ _ _ _ _ H O (cD21) (cN21) (cF21) (cA21) (pf21_2_0) (pf21_4_0) (pf21_6_0) (pf21_8_0) (m21_1) ((congrArg (fun q : Nat => (q : Int)) (eN21 3)).trans em21_1) (n5) ((congrArg (fun q : Nat => (q : Int)) (show N21 5 = N 5 from (eN21 5))).trans (en5)) (n7) ((congrArg (fun q : Nat => (q : Int)) (show N21 7 = N 7 from (eN21 7))).trans (en7)) (n9) ((congrArg (fun q : Nat => (q : Int)) (show N21 9 = N 9 from (eN21 9))).trans (en9)) (y21_0_1) (((eF21 2 1).trans ey21_0_1)) (u4_1) (((((show F21 4 1 = F10 4 1 from (eF21 4 1))).trans ((show F10 4 1 = F 4 1 from (eF10 4 1)))).trans (eu4_1))) (u6_1) (((((show F21 6 1 = F10 6 1 from (eF21 6 1))).trans ((show F10 6 1 = F 6 1 from (eF10 6 1)))).trans (eu6_1))) (u8_1) (((((show F21 8 1 = F10 8 1 from (eF21 8 1))).trans ((show F10 8 1 = F 8 1 from (eF10 8 1)))).trans (eu8_1))) (show (1) = 0 ∨ (1) = 1 by first | exact q_49 | omega) (show 0 ≤ (y21_0_1) ∧ (y21_0_1) ≤ (m21_1) ∧ (m21_1) ≤ 65536 from pz21_0) (show 0 ≤ (u4_1) ∧ (u4_1) ≤ (n5) ∧ (n5) ≤ 65536 from h5) (show 0 ≤ (u6_1) ∧ (u6_1) ≤ (n7) ∧ (n7) ≤ 65536 from h6) (show 0 ≤ (u8_1) ∧ (u8_1) ≤ (n9) ∧ (n9) ≤ 65536 from h7))
            · refine Ew_of (pcₚ := 58) (fun _ => x_iconst rfl) ?_
              exact w_ireturn rfl (k (0) _ _ _ _ _ _ _ H O (SD_refl) (SD_refl) (cF10) (cA10) ((((show F10 2 0 = F 2 0 from (eF10 2 0)))).trans (pf3)) ((((show F10 4 0 = F 4 0 from (eF10 4 0)))).trans (pf5)) ((((show F10 6 0 = F 6 0 from (eF10 6 0)))).trans (pf7)) ((((show F10 8 0 = F 8 0 from (eF10 8 0)))).trans (pf9)) (n3) (en3) (n5) (en5) (n7) (en7) (n9) (en9) (u2_1) ((((show F10 2 1 = F 2 1 from (eF10 2 1))).trans (eu2_1))) (u4_1) ((((show F10 4 1 = F 4 1 from (eF10 4 1))).trans (eu4_1))) (u6_1) ((((show F10 6 1 = F 6 1 from (eF10 6 1))).trans (eu6_1))) (u8_1) ((((show F10 8 1 = F 8 1 from (eF10 8 1))).trans (eu8_1))) (show (0) = 0 ∨ (0) = 1 by first | exact q_45 | omega) (show 0 ≤ (u2_1) ∧ (u2_1) ≤ (n3) ∧ (n3) ≤ 65536 from h4) (show 0 ≤ (u4_1) ∧ (u4_1) ≤ (n5) ∧ (n5) ≤ 65536 from h5) (show 0 ≤ (u6_1) ∧ (u6_1) ≤ (n7) ∧ (n7) ≤ 65536 from h6) (show 0 ≤ (u8_1) ∧ (u8_1) ≤ (n9) ∧ (n9) ≤ 65536 from h7))
          · refine Ew_of (pcₚ := 30) (fun _ => x_iconst rfl) ?_
            exact w_ireturn rfl (k (0) _ _ _ _ _ _ _ H O (SD_refl) (SD_refl) (cF10) (cA10) ((((show F10 2 0 = F 2 0 from (eF10 2 0)))).trans (pf3)) ((((show F10 4 0 = F 4 0 from (eF10 4 0)))).trans (pf5)) ((((show F10 6 0 = F 6 0 from (eF10 6 0)))).trans (pf7)) ((((show F10 8 0 = F 8 0 from (eF10 8 0)))).trans (pf9)) (n3) (en3) (n5) (en5) (n7) (en7) (n9) (en9) (u2_1) ((((show F10 2 1 = F 2 1 from (eF10 2 1))).trans (eu2_1))) (u4_1) ((((show F10 4 1 = F 4 1 from (eF10 4 1))).trans (eu4_1))) (u6_1) ((((show F10 6 1 = F 6 1 from (eF10 6 1))).trans (eu6_1))) (u8_1) ((((show F10 8 1 = F 8 1 from (eF10 8 1))).trans (eu8_1))) (show (0) = 0 ∨ (0) = 1 by first | exact q_45 | omega) (show 0 ≤ (u2_1) ∧ (u2_1) ≤ (n3) ∧ (n3) ≤ 65536 from h4) (show 0 ≤ (u4_1) ∧ (u4_1) ≤ (n5) ∧ (n5) ≤ 65536 from h5) (show 0 ≤ (u6_1) ∧ (u6_1) ≤ (n7) ∧ (n7) ≤ 65536 from h6) (show 0 ≤ (u8_1) ∧ (u8_1) ≤ (n9) ∧ (n9) ≤ 65536 from h7))
      · refine v_lR H (o := 1) rfl rfl rfl rfl rfl (n := n1) (en1) (show 0 ≤ a1 ∧ a1 < n1 from q_4726 (HIDe r5) b13 h3) (z := ((D 4 : Nat) : Int)) (v := .ref (D 4)) ((congrArg (A10 1) b13).trans ((mA10 1 rfl 1).trans (pf4))) (vrf rfl) ?_
        refine v_g H (o := 4) (v := I (u4_1)) rfl rfl rfl rfl rfl (congrArg (fun z : Int => I z) ((((show F10 4 1 = F 4 1 from (eF10 4 1))).trans (eu4_1)) : F10 4 1 = u4_1)) ?_
        refine w_icmpgt (t := 29) rfl rfl (show inr (a2) from h1) (show inr (u4_1) from q_38 h5) (fun b25 => ?_) (fun b25 => ?_)
        · refine Ew_of (pcₚ := 30) (fun _ => x_iconst rfl) ?_
          exact w_ireturn rfl (k (0) _ _ _ _ _ _ _ H O (SD_refl) (SD_refl) (cF10) (cA10) ((((show F10 2 0 = F 2 0 from (eF10 2 0)))).trans (pf3)) ((((show F10 4 0 = F 4 0 from (eF10 4 0)))).trans (pf5)) ((((show F10 6 0 = F 6 0 from (eF10 6 0)))).trans (pf7)) ((((show F10 8 0 = F 8 0 from (eF10 8 0)))).trans (pf9)) (n3) (en3) (n5) (en5) (n7) (en7) (n9) (en9) (u2_1) ((((show F10 2 1 = F 2 1 from (eF10 2 1))).trans (eu2_1))) (u4_1) ((((show F10 4 1 = F 4 1 from (eF10 4 1))).trans (eu4_1))) (u6_1) ((((show F10 6 1 = F 6 1 from (eF10 6 1))).trans (eu6_1))) (u8_1) ((((show F10 8 1 = F 8 1 from (eF10 8 1))).trans (eu8_1))) (show (0) = 0 ∨ (0) = 1 by first | exact q_45 | omega) (show 0 ≤ (u2_1) ∧ (u2_1) ≤ (n3) ∧ (n3) ≤ 65536 from h4) (show 0 ≤ (u4_1) ∧ (u4_1) ≤ (n5) ∧ (n5) ≤ 65536 from h5) (show 0 ≤ (u6_1) ∧ (u6_1) ≤ (n7) ∧ (n7) ≤ 65536 from h6) (show 0 ≤ (u8_1) ∧ (u8_1) ≤ (n9) ∧ (n9) ≤ 65536 from h7))
        · refine Ew_of (pcₚ := 26) (fun _ => x_iload_n rfl rfl) ?_
          refine w_ifge (t := 31) rfl rfl (show inr (a3) from h2) (fun b26 => ?_) (fun b26 => ?_)
          · refine Ew_of (pcₚ := 32) (fun _ => x_iload_n rfl rfl) ?_
            refine w_i2l rfl (show inr (a2) from h1) ?_
            refine Ew_of (pcₚ := 34) (fun _ => x_iload_n rfl rfl) ?_
            refine w_i2l rfl (show inr (a3) from h2) ?_
            refine w_lmulA rfl (fun z27 gz27 => ?_)
            refine Ew_of (pcₚ := 38) (fun _ => x_lstore rfl) ?_
            refine Ew_of (pcₚ := 40) (fun _ => x_lload rfl rk2_s) ?_
            refine Ew_of (pcₚ := 42) (fun _ => x_ldc (z := 65536) rfl (by decide)) ?_
            refine Ew_of (pcₚ := 43) (fun _ => x_aload_n rfl (rk2_o (rfl) rfl rfl)) ?_
            refine v_g H (o := 0) (v := .ref (D 1)) rfl rfl rfl rfl rfl (vrf ((mF10 0 0 rfl).trans (pf1))) ?_
            refine Ew_of (pcₚ := 47) (fun _ => x_iload_n rfl (rk2_o (rfl) rfl rfl)) ?_
            refine v_lR H (o := 1) rfl rfl rfl rfl rfl (n := n1) (en1) (show 0 ≤ a1 ∧ a1 < n1 from q_4726 (HIDe r5) b13 h3) (z := ((D 4 : Nat) : Int)) (v := .ref (D 4)) ((congrArg (A10 1) b13).trans ((mA10 1 rfl 1).trans (pf4))) (vrf rfl) ?_
            refine v_g H (o := 4) (v := I (u4_1)) rfl rfl rfl rfl rfl (congrArg (fun z : Int => I z) ((((show F10 4 1 = F 4 1 from (eF10 4 1))).trans (eu4_1)) : F10 4 1 = u4_1)) ?_
            refine w_isub rfl ?_
            refine w_i2l rfl (show inr ((65536 - u4_1)) from q_46 h5) ?_
            refine w_lcmp rfl (show inrJ (z27) from gz27) (show inrJ ((65536 - u4_1)) from q_4729 h5) (fun z28 gz28 gaz28 gbz28 => ?_)
            refine w_ifle (t := 59) rfl rfl (show inr (z28) from gz28) (fun b29 => ?_) (fun b29 => ?_)
            · refine Ew_of (pcₚ := 60) (fun _ => x_aload_n rfl (rk2_o (rfl) rfl rfl)) ?_
              refine v_g H (o := 0) (v := .ref (D 1)) rfl rfl rfl rfl rfl (vrf ((mF10 0 0 rfl).trans (pf1))) ?_
              refine Ew_of (pcₚ := 64) (fun _ => x_iload_n rfl (rk2_o (rfl) rfl rfl)) ?_
              refine v_lR H (o := 1) rfl rfl rfl rfl rfl (n := n1) (en1) (show 0 ≤ a1 ∧ a1 < n1 from q_4726 (HIDe r5) b13 h3) (z := ((D 4 : Nat) : Int)) (v := .ref (D 4)) ((congrArg (A10 1) b13).trans ((mA10 1 rfl 1).trans (pf4))) (vrf rfl) ?_
              refine Ew_of (pcₚ := 66) (fun _ => x_iload_n rfl (rk2_o (rfl) rfl rfl)) ?_
              refine Ew_of (pcₚ := 68) (fun _ => x_lload rfl rk2_s) ?_
              refine w_l2iA rfl (fun z30 gz30 => ?_)
              refine Ew_of (pcₚ := 70) (fun _ => x_iconst rfl) ?_
              refine Ew_of (pcₚ := 71) (fun _ => x_aload_n rfl (rk2_o (rfl) rfl rfl)) ?_
              refine v_g H (o := 0) (v := .ref (D 1)) rfl rfl rfl rfl rfl (vrf ((mF10 0 0 rfl).trans (pf1))) ?_
              refine Ew_of (pcₚ := 75) (fun _ => x_iload_n rfl (rk2_o (rfl) rfl rfl)) ?_
              refine v_lR H (o := 1) rfl rfl rfl rfl rfl (n := n1) (en1) (show 0 ≤ a1 ∧ a1 < n1 from q_4726 (HIDe r5) b13 h3) (z := ((D 4 : Nat) : Int)) (v := .ref (D 4)) ((congrArg (A10 1) b13).trans ((mA10 1 rfl 1).trans (pf4))) (vrf rfl) ?_
              refine v_inv H (o := 4) rfl rfl rfl rfl rfl rfl (by rfl) (C163_thisa (D := puc 2564 D) (N := puc 2564 N) (HW_subc H oz_R2cls_39 oz_R2cls_18) ((((show F10 4 0 = F 4 0 from (eF10 4 0)))).trans (pf5)) (n5) (en5) (u4_1) ((((show F10 4 1 = F 4 1 from (eF10 4 1))).trans (eu4_1))) (F 4 2) (((show F10 4 2 = F 4 2 from (eF10 4 2)))) (A 5) ((show A10 5 = A 5 from (eA10 5))) (show inr (a2) from h1) (show inr (z30) from gz30) (show inr (0) from q_2) (show 0 ≤ (u4_1) ∧ (u4_1) ≤ (n5) ∧ (n5) ≤ 65536 from h5) (show 0 ≤ (0) ∧ (0) ≤ (u4_1) from q_3013 h5) (show (z30) < 0 ∨ 1 ≤ (a2) ∧ (a2) ≤ (u4_1) - (0) from q_4730 b12 b25) (fun σ32 D32ₚ N32ₚ F32ₚ A32ₚ c32 s32 Hₚ Oₚ hD32 hN32 hS32 hA32 (pm32_1 : HID _) m32_1 (em32_1 : HID _) y32_0_1 (ey32_0_1 : HID _) y32_0_2 (ey32_0_2 : HID _) w32_1 ew32_1 pz32_0 pz32_1 pz32_2 pz32_3 pz32_4 => ⟨rfl, ?_⟩))
              refine v_backMc (c := c) (s := s) H oz_R2cls_39 oz_R2cls_18 Hₚ Oₚ hD32 oz_R2cls_40 (fun D32 N32 F32 A32 H Oₚ eD32 eN32 eF32 eA32 => ?_)
              have O := OUT_trans O Oₚ
              -- Row.copyBack
              have cF32 : SF oz_R2clsl_0 F F32 := SF_trans (cF10) (SF_gluc (ι := oz_R2clsl_4) oz_R2cls_18 hS32 eF32 (by decide +kernel)) (any_sub (lₚ := [(4, 0), (4, 1), (4, 2)]) (by decide +kernel))
              have mF32 := SFm_of cF32 oz_R2cls_14
              have cA32 : SA oz_R2clsl_1 A A32 := SA_trans (cA10) (SA_gluc (ι := oz_R2clsl_4) oz_R2cls_18 hA32 eA32 (by decide +kernel)) (any_subA (lₚ := [5]) (by decide +kernel))
              have mA32 := SAm_of cA32 oz_R2cls_15
              have cD32 : SD oz_R2clsl_1 D D32 := SD_trans (SD_refl) (SD_gluc (ι := oz_R2clsl_4) oz_R2cls_18 hD32 eD32 (by decide +kernel)) (any_subA (lₚ := [5]) (by decide +kernel))
              have mD32 := SDm_of cD32 oz_R2cls_15
              have cN32 : SD oz_R2clsl_1 N N32 := SD_trans (SD_refl) (SD_gluc (ι := oz_R2clsl_4) oz_R2cls_18 hN32 eN32 (by decide +kernel)) (any_subA (lₚ := [5]) (by decide +kernel))
              have mN32 := SDm_of cN32 oz_R2cls_15
              have pf32_2_0 : HID (F32 2 0 = (D32 3 : Int)) := ((show F32 2 0 = F10 2 0 from (eF32 2 0))).trans (((((show F10 2 0 = F 2 0 from (eF10 2 0)))).trans (pf3)).trans (congrArg (fun q : Nat => (q : Int)) ((show D32 3 = D 3 from (eD32 3))).symm))
              have pf32_4_0 : HID (F32 4 0 = (D32 5 : Int)) := (eF32 4 0).trans (pm32_1.trans (congrArg (fun q : Nat => (q : Int)) (eD32 5).symm))
              have pf32_6_0 : HID (F32 6 0 = (D32 7 : Int)) := ((show F32 6 0 = F10 6 0 from (eF32 6 0))).trans (((((show F10 6 0 = F 6 0 from (eF10 6 0)))).trans (pf7)).trans (congrArg (fun q : Nat => (q : Int)) ((show D32 7 = D 7 from (eD32 7))).symm))
              have pf32_8_0 : HID (F32 8 0 = (D32 9 : Int)) := ((show F32 8 0 = F10 8 0 from (eF32 8 0))).trans (((((show F10 8 0 = F 8 0 from (eF10 8 0)))).trans (pf9)).trans (congrArg (fun q : Nat => (q : Int)) ((show D32 9 = D 9 from (eD32 9))).symm))
              refine Ew_of (pcₚ := 80) (fun _ => x_iconst rfl) ?_
              exact w_ireturn rfl (k (1) _ _ _ _ _ _ _ H O (cD32) (cN32) (cF32) (cA32) (pf32_2_0) (pf32_4_0) (pf32_6_0) (pf32_8_0) (n3) ((congrArg (fun q : Nat => (q : Int)) (show N32 3 = N 3 from (eN32 3))).trans (en3)) (m32_1) ((congrArg (fun q : Nat => (q : Int)) (eN32 5)).trans em32_1) (n7) ((congrArg (fun q : Nat => (q : Int)) (show N32 7 = N 7 from (eN32 7))).trans (en7)) (n9) ((congrArg (fun q : Nat => (q : Int)) (show N32 9 = N 9 from (eN32 9))).trans (en9)) (u2_1) (((((show F32 2 1 = F10 2 1 from (eF32 2 1))).trans ((show F10 2 1 = F 2 1 from (eF10 2 1)))).trans (eu2_1))) (y32_0_1) (((eF32 4 1).trans ey32_0_1)) (u6_1) (((((show F32 6 1 = F10 6 1 from (eF32 6 1))).trans ((show F10 6 1 = F 6 1 from (eF10 6 1)))).trans (eu6_1))) (u8_1) (((((show F32 8 1 = F10 8 1 from (eF32 8 1))).trans ((show F10 8 1 = F 8 1 from (eF10 8 1)))).trans (eu8_1))) (show (1) = 0 ∨ (1) = 1 by first | exact q_49 | omega) (show 0 ≤ (u2_1) ∧ (u2_1) ≤ (n3) ∧ (n3) ≤ 65536 from h4) (show 0 ≤ (y32_0_1) ∧ (y32_0_1) ≤ (m32_1) ∧ (m32_1) ≤ 65536 from pz32_0) (show 0 ≤ (u6_1) ∧ (u6_1) ≤ (n7) ∧ (n7) ≤ 65536 from h6) (show 0 ≤ (u8_1) ∧ (u8_1) ≤ (n9) ∧ (n9) ≤ 65536 from h7))
            · refine Ew_of (pcₚ := 58) (fun _ => x_iconst rfl) ?_
              exact w_ireturn rfl (k (0) _ _ _ _ _ _ _ H O (SD_refl) (SD_refl) (cF10) (cA10) ((((show F10 2 0 = F 2 0 from (eF10 2 0)))).trans (pf3)) ((((show F10 4 0 = F 4 0 from (eF10 4 0)))).trans (pf5)) ((((show F10 6 0 = F 6 0 from (eF10 6 0)))).trans (pf7)) ((((show F10 8 0 = F 8 0 from (eF10 8 0)))).trans (pf9)) (n3) (en3) (n5) (en5) (n7) (en7) (n9) (en9) (u2_1) ((((show F10 2 1 = F 2 1 from (eF10 2 1))).trans (eu2_1))) (u4_1) ((((show F10 4 1 = F 4 1 from (eF10 4 1))).trans (eu4_1))) (u6_1) ((((show F10 6 1 = F 6 1 from (eF10 6 1))).trans (eu6_1))) (u8_1) ((((show F10 8 1 = F 8 1 from (eF10 8 1))).trans (eu8_1))) (show (0) = 0 ∨ (0) = 1 by first | exact q_45 | omega) (show 0 ≤ (u2_1) ∧ (u2_1) ≤ (n3) ∧ (n3) ≤ 65536 from h4) (show 0 ≤ (u4_1) ∧ (u4_1) ≤ (n5) ∧ (n5) ≤ 65536 from h5) (show 0 ≤ (u6_1) ∧ (u6_1) ≤ (n7) ∧ (n7) ≤ 65536 from h6) (show 0 ≤ (u8_1) ∧ (u8_1) ≤ (n9) ∧ (n9) ≤ 65536 from h7))
          · refine Ew_of (pcₚ := 30) (fun _ => x_iconst rfl) ?_
            exact w_ireturn rfl (k (0) _ _ _ _ _ _ _ H O (SD_refl) (SD_refl) (cF10) (cA10) ((((show F10 2 0 = F 2 0 from (eF10 2 0)))).trans (pf3)) ((((show F10 4 0 = F 4 0 from (eF10 4 0)))).trans (pf5)) ((((show F10 6 0 = F 6 0 from (eF10 6 0)))).trans (pf7)) ((((show F10 8 0 = F 8 0 from (eF10 8 0)))).trans (pf9)) (n3) (en3) (n5) (en5) (n7) (en7) (n9) (en9) (u2_1) ((((show F10 2 1 = F 2 1 from (eF10 2 1))).trans (eu2_1))) (u4_1) ((((show F10 4 1 = F 4 1 from (eF10 4 1))).trans (eu4_1))) (u6_1) ((((show F10 6 1 = F 6 1 from (eF10 6 1))).trans (eu6_1))) (u8_1) ((((show F10 8 1 = F 8 1 from (eF10 8 1))).trans (eu8_1))) (show (0) = 0 ∨ (0) = 1 by first | exact q_45 | omega) (show 0 ≤ (u2_1) ∧ (u2_1) ≤ (n3) ∧ (n3) ≤ 65536 from h4) (show 0 ≤ (u4_1) ∧ (u4_1) ≤ (n5) ∧ (n5) ≤ 65536 from h5) (show 0 ≤ (u6_1) ∧ (u6_1) ≤ (n7) ∧ (n7) ≤ 65536 from h6) (show 0 ≤ (u8_1) ∧ (u8_1) ≤ (n9) ∧ (n9) ≤ 65536 from h7))
      · refine v_lR H (o := 1) rfl rfl rfl rfl rfl (n := n1) (en1) (show 0 ≤ a1 ∧ a1 < n1 from q_4727 (HIDe r5) b13 h3) (z := ((D 6 : Nat) : Int)) (v := .ref (D 6)) ((congrArg (A10 1) b13).trans ((mA10 1 rfl 2).trans (pf6))) (vrf rfl) ?_
        refine v_g H (o := 6) (v := I (u6_1)) rfl rfl rfl rfl rfl (congrArg (fun z : Int => I z) ((((show F10 6 1 = F 6 1 from (eF10 6 1))).trans (eu6_1)) : F10 6 1 = u6_1)) ?_
        refine w_icmpgt (t := 29) rfl rfl (show inr (a2) from h1) (show inr (u6_1) from q_38 h6) (fun b36 => ?_) (fun b36 => ?_)
        · refine Ew_of (pcₚ := 30) (fun _ => x_iconst rfl) ?_
          exact w_ireturn rfl (k (0) _ _ _ _ _ _ _ H O (SD_refl) (SD_refl) (cF10) (cA10) ((((show F10 2 0 = F 2 0 from (eF10 2 0)))).trans (pf3)) ((((show F10 4 0 = F 4 0 from (eF10 4 0)))).trans (pf5)) ((((show F10 6 0 = F 6 0 from (eF10 6 0)))).trans (pf7)) ((((show F10 8 0 = F 8 0 from (eF10 8 0)))).trans (pf9)) (n3) (en3) (n5) (en5) (n7) (en7) (n9) (en9) (u2_1) ((((show F10 2 1 = F 2 1 from (eF10 2 1))).trans (eu2_1))) (u4_1) ((((show F10 4 1 = F 4 1 from (eF10 4 1))).trans (eu4_1))) (u6_1) ((((show F10 6 1 = F 6 1 from (eF10 6 1))).trans (eu6_1))) (u8_1) ((((show F10 8 1 = F 8 1 from (eF10 8 1))).trans (eu8_1))) (show (0) = 0 ∨ (0) = 1 by first | exact q_45 | omega) (show 0 ≤ (u2_1) ∧ (u2_1) ≤ (n3) ∧ (n3) ≤ 65536 from h4) (show 0 ≤ (u4_1) ∧ (u4_1) ≤ (n5) ∧ (n5) ≤ 65536 from h5) (show 0 ≤ (u6_1) ∧ (u6_1) ≤ (n7) ∧ (n7) ≤ 65536 from h6) (show 0 ≤ (u8_1) ∧ (u8_1) ≤ (n9) ∧ (n9) ≤ 65536 from h7))
        · refine Ew_of (pcₚ := 26) (fun _ => x_iload_n rfl rfl) ?_
          refine w_ifge (t := 31) rfl rfl (show inr (a3) from h2) (fun b37 => ?_) (fun b37 => ?_)
          · refine Ew_of (pcₚ := 32) (fun _ => x_iload_n rfl rfl) ?_
            refine w_i2l rfl (show inr (a2) from h1) ?_
            refine Ew_of (pcₚ := 34) (fun _ => x_iload_n rfl rfl) ?_
            refine w_i2l rfl (show inr (a3) from h2) ?_
            refine w_lmulA rfl (fun z38 gz38 => ?_)
            refine Ew_of (pcₚ := 38) (fun _ => x_lstore rfl) ?_
            refine Ew_of (pcₚ := 40) (fun _ => x_lload rfl rk2_s) ?_
            refine Ew_of (pcₚ := 42) (fun _ => x_ldc (z := 65536) rfl (by decide)) ?_
            refine Ew_of (pcₚ := 43) (fun _ => x_aload_n rfl (rk2_o (rfl) rfl rfl)) ?_
            refine v_g H (o := 0) (v := .ref (D 1)) rfl rfl rfl rfl rfl (vrf ((mF10 0 0 rfl).trans (pf1))) ?_
            refine Ew_of (pcₚ := 47) (fun _ => x_iload_n rfl (rk2_o (rfl) rfl rfl)) ?_
            refine v_lR H (o := 1) rfl rfl rfl rfl rfl (n := n1) (en1) (show 0 ≤ a1 ∧ a1 < n1 from q_4727 (HIDe r5) b13 h3) (z := ((D 6 : Nat) : Int)) (v := .ref (D 6)) ((congrArg (A10 1) b13).trans ((mA10 1 rfl 2).trans (pf6))) (vrf rfl) ?_
            refine v_g H (o := 6) (v := I (u6_1)) rfl rfl rfl rfl rfl (congrArg (fun z : Int => I z) ((((show F10 6 1 = F 6 1 from (eF10 6 1))).trans (eu6_1)) : F10 6 1 = u6_1)) ?_
            refine w_isub rfl ?_
            refine w_i2l rfl (show inr ((65536 - u6_1)) from q_46 h6) ?_
            refine w_lcmp rfl (show inrJ (z38) from gz38) (show inrJ ((65536 - u6_1)) from q_4729 h6) (fun z39 gz39 gaz39 gbz39 => ?_)
            refine w_ifle (t := 59) rfl rfl (show inr (z39) from gz39) (fun b40 => ?_) (fun b40 => ?_)
            · refine Ew_of (pcₚ := 60) (fun _ => x_aload_n rfl (rk2_o (rfl) rfl rfl)) ?_
              refine v_g H (o := 0) (v := .ref (D 1)) rfl rfl rfl rfl rfl (vrf ((mF10 0 0 rfl).trans (pf1))) ?_
              refine Ew_of (pcₚ := 64) (fun _ => x_iload_n rfl (rk2_o (rfl) rfl rfl)) ?_
              refine v_lR H (o := 1) rfl rfl rfl rfl rfl (n := n1) (en1) (show 0 ≤ a1 ∧ a1 < n1 from q_4727 (HIDe r5) b13 h3) (z := ((D 6 : Nat) : Int)) (v := .ref (D 6)) ((congrArg (A10 1) b13).trans ((mA10 1 rfl 2).trans (pf6))) (vrf rfl) ?_
              refine Ew_of (pcₚ := 66) (fun _ => x_iload_n rfl (rk2_o (rfl) rfl rfl)) ?_
              refine Ew_of (pcₚ := 68) (fun _ => x_lload rfl rk2_s) ?_
              refine w_l2iA rfl (fun z41 gz41 => ?_)
              refine Ew_of (pcₚ := 70) (fun _ => x_iconst rfl) ?_
              refine Ew_of (pcₚ := 71) (fun _ => x_aload_n rfl (rk2_o (rfl) rfl rfl)) ?_
              refine v_g H (o := 0) (v := .ref (D 1)) rfl rfl rfl rfl rfl (vrf ((mF10 0 0 rfl).trans (pf1))) ?_
              refine Ew_of (pcₚ := 75) (fun _ => x_iload_n rfl (rk2_o (rfl) rfl rfl)) ?_
              refine v_lR H (o := 1) rfl rfl rfl rfl rfl (n := n1) (en1) (show 0 ≤ a1 ∧ a1 < n1 from q_4727 (HIDe r5) b13 h3) (z := ((D 6 : Nat) : Int)) (v := .ref (D 6)) ((congrArg (A10 1) b13).trans ((mA10 1 rfl 2).trans (pf6))) (vrf rfl) ?_
              refine v_inv H (o := 6) rfl rfl rfl rfl rfl rfl (by rfl) (C163_thisa (D := puc 3590 D) (N := puc 3590 N) (HW_subc H oz_R2cls_41 oz_R2cls_19) ((((show F10 6 0 = F 6 0 from (eF10 6 0)))).trans (pf7)) (n7) (en7) (u6_1) ((((show F10 6 1 = F 6 1 from (eF10 6 1))).trans (eu6_1))) (F 6 2) (((show F10 6 2 = F 6 2 from (eF10 6 2)))) (A 7) ((show A10 7 = A 7 from (eA10 7))) (show inr (a2) from h1) (show inr (z41) from gz41) (show inr (0) from q_2) (show 0 ≤ (u6_1) ∧ (u6_1) ≤ (n7) ∧ (n7) ≤ 65536 from h6) (show 0 ≤ (0) ∧ (0) ≤ (u6_1) from q_3013 h6) (show (z41) < 0 ∨ 1 ≤ (a2) ∧ (a2) ≤ (u6_1) - (0) from q_4730 b12 b36) (fun σ43 D43ₚ N43ₚ F43ₚ A43ₚ c43 s43 Hₚ Oₚ hD43 hN43 hS43 hA43 (pm43_1 : HID _) m43_1 (em43_1 : HID _) y43_0_1 (ey43_0_1 : HID _) y43_0_2 (ey43_0_2 : HID _) w43_1 ew43_1 pz43_0 pz43_1 pz43_2 pz43_3 pz43_4 => ⟨rfl, ?_⟩))
              refine v_backMc (c := c) (s := s) H oz_R2cls_41 oz_R2cls_19 Hₚ Oₚ hD43 oz_R2cls_42 (fun D43 N43 F43 A43 H Oₚ eD43 eN43 eF43 eA43 => ?_)
              have O := OUT_trans O Oₚ
              -- Row.copyBack
              have cF43 : SF oz_R2clsl_0 F F43 := SF_trans (cF10) (SF_gluc (ι := oz_R2clsl_5) oz_R2cls_19 hS43 eF43 (by decide +kernel)) (any_sub (lₚ := [(6, 0), (6, 1), (6, 2)]) (by decide +kernel))
              have mF43 := SFm_of cF43 oz_R2cls_14
              have cA43 : SA oz_R2clsl_1 A A43 := SA_trans (cA10) (SA_gluc (ι := oz_R2clsl_5) oz_R2cls_19 hA43 eA43 (by decide +kernel)) (any_subA (lₚ := [7]) (by decide +kernel))
              have mA43 := SAm_of cA43 oz_R2cls_15
              have cD43 : SD oz_R2clsl_1 D D43 := SD_trans (SD_refl) (SD_gluc (ι := oz_R2clsl_5) oz_R2cls_19 hD43 eD43 (by decide +kernel)) (any_subA (lₚ := [7]) (by decide +kernel))
              have mD43 := SDm_of cD43 oz_R2cls_15
              have cN43 : SD oz_R2clsl_1 N N43 := SD_trans (SD_refl) (SD_gluc (ι := oz_R2clsl_5) oz_R2cls_19 hN43 eN43 (by decide +kernel)) (any_subA (lₚ := [7]) (by decide +kernel))
              have mN43 := SDm_of cN43 oz_R2cls_15
              have pf43_2_0 : HID (F43 2 0 = (D43 3 : Int)) := ((show F43 2 0 = F10 2 0 from (eF43 2 0))).trans (((((show F10 2 0 = F 2 0 from (eF10 2 0)))).trans (pf3)).trans (congrArg (fun q : Nat => (q : Int)) ((show D43 3 = D 3 from (eD43 3))).symm))
              have pf43_4_0 : HID (F43 4 0 = (D43 5 : Int)) := ((show F43 4 0 = F10 4 0 from (eF43 4 0))).trans (((((show F10 4 0 = F 4 0 from (eF10 4 0)))).trans (pf5)).trans (congrArg (fun q : Nat => (q : Int)) ((show D43 5 = D 5 from (eD43 5))).symm))
              have pf43_6_0 : HID (F43 6 0 = (D43 7 : Int)) := (eF43 6 0).trans (pm43_1.trans (congrArg (fun q : Nat => (q : Int)) (eD43 7).symm))
              have pf43_8_0 : HID (F43 8 0 = (D43 9 : Int)) := ((show F43 8 0 = F10 8 0 from (eF43 8 0))).trans (((((show F10 8 0 = F 8 0 from (eF10 8 0)))).trans (pf9)).trans (congrArg (fun q : Nat => (q : Int)) ((show D43 9 = D 9 from (eD43 9))).symm))
              refine Ew_of (pcₚ := 80) (fun _ => x_iconst rfl) ?_
              exact w_ireturn rfl (k (1) _ _ _ _ _ _ _ H O (cD43) (cN43) (cF43) (cA43) (pf43_2_0) (pf43_4_0) (pf43_6_0) (pf43_8_0) (n3) ((congrArg (fun q : Nat => (q : Int)) (show N43 3 = N 3 from (eN43 3))).trans (en3)) (n5) ((congrArg (fun q : Nat => (q : Int)) (show N43 5 = N 5 from (eN43 5))).trans (en5)) (m43_1) ((congrArg (fun q : Nat => (q : Int)) (eN43 7)).trans em43_1) (n9) ((congrArg (fun q : Nat => (q : Int)) (show N43 9 = N 9 from (eN43 9))).trans (en9)) (u2_1) (((((show F43 2 1 = F10 2 1 from (eF43 2 1))).trans ((show F10 2 1 = F 2 1 from (eF10 2 1)))).trans (eu2_1))) (u4_1) (((((show F43 4 1 = F10 4 1 from (eF43 4 1))).trans ((show F10 4 1 = F 4 1 from (eF10 4 1)))).trans (eu4_1))) (y43_0_1) (((eF43 6 1).trans ey43_0_1)) (u8_1) (((((show F43 8 1 = F10 8 1 from (eF43 8 1))).trans ((show F10 8 1 = F 8 1 from (eF10 8 1)))).trans (eu8_1))) (show (1) = 0 ∨ (1) = 1 by first | exact q_49 | omega) (show 0 ≤ (u2_1) ∧ (u2_1) ≤ (n3) ∧ (n3) ≤ 65536 from h4) (show 0 ≤ (u4_1) ∧ (u4_1) ≤ (n5) ∧ (n5) ≤ 65536 from h5) (show 0 ≤ (y43_0_1) ∧ (y43_0_1) ≤ (m43_1) ∧ (m43_1) ≤ 65536 from pz43_0) (show 0 ≤ (u8_1) ∧ (u8_1) ≤ (n9) ∧ (n9) ≤ 65536 from h7))
            · refine Ew_of (pcₚ := 58) (fun _ => x_iconst rfl) ?_
              exact w_ireturn rfl (k (0) _ _ _ _ _ _ _ H O (SD_refl) (SD_refl) (cF10) (cA10) ((((show F10 2 0 = F 2 0 from (eF10 2 0)))).trans (pf3)) ((((show F10 4 0 = F 4 0 from (eF10 4 0)))).trans (pf5)) ((((show F10 6 0 = F 6 0 from (eF10 6 0)))).trans (pf7)) ((((show F10 8 0 = F 8 0 from (eF10 8 0)))).trans (pf9)) (n3) (en3) (n5) (en5) (n7) (en7) (n9) (en9) (u2_1) ((((show F10 2 1 = F 2 1 from (eF10 2 1))).trans (eu2_1))) (u4_1) ((((show F10 4 1 = F 4 1 from (eF10 4 1))).trans (eu4_1))) (u6_1) ((((show F10 6 1 = F 6 1 from (eF10 6 1))).trans (eu6_1))) (u8_1) ((((show F10 8 1 = F 8 1 from (eF10 8 1))).trans (eu8_1))) (show (0) = 0 ∨ (0) = 1 by first | exact q_45 | omega) (show 0 ≤ (u2_1) ∧ (u2_1) ≤ (n3) ∧ (n3) ≤ 65536 from h4) (show 0 ≤ (u4_1) ∧ (u4_1) ≤ (n5) ∧ (n5) ≤ 65536 from h5) (show 0 ≤ (u6_1) ∧ (u6_1) ≤ (n7) ∧ (n7) ≤ 65536 from h6) (show 0 ≤ (u8_1) ∧ (u8_1) ≤ (n9) ∧ (n9) ≤ 65536 from h7))
          · refine Ew_of (pcₚ := 30) (fun _ => x_iconst rfl) ?_
            exact w_ireturn rfl (k (0) _ _ _ _ _ _ _ H O (SD_refl) (SD_refl) (cF10) (cA10) ((((show F10 2 0 = F 2 0 from (eF10 2 0)))).trans (pf3)) ((((show F10 4 0 = F 4 0 from (eF10 4 0)))).trans (pf5)) ((((show F10 6 0 = F 6 0 from (eF10 6 0)))).trans (pf7)) ((((show F10 8 0 = F 8 0 from (eF10 8 0)))).trans (pf9)) (n3) (en3) (n5) (en5) (n7) (en7) (n9) (en9) (u2_1) ((((show F10 2 1 = F 2 1 from (eF10 2 1))).trans (eu2_1))) (u4_1) ((((show F10 4 1 = F 4 1 from (eF10 4 1))).trans (eu4_1))) (u6_1) ((((show F10 6 1 = F 6 1 from (eF10 6 1))).trans (eu6_1))) (u8_1) ((((show F10 8 1 = F 8 1 from (eF10 8 1))).trans (eu8_1))) (show (0) = 0 ∨ (0) = 1 by first | exact q_45 | omega) (show 0 ≤ (u2_1) ∧ (u2_1) ≤ (n3) ∧ (n3) ≤ 65536 from h4) (show 0 ≤ (u4_1) ∧ (u4_1) ≤ (n5) ∧ (n5) ≤ 65536 from h5) (show 0 ≤ (u6_1) ∧ (u6_1) ≤ (n7) ∧ (n7) ≤ 65536 from h6) (show 0 ≤ (u8_1) ∧ (u8_1) ≤ (n9) ∧ (n9) ≤ 65536 from h7))
      · refine v_lR H (o := 1) rfl rfl rfl rfl rfl (n := n1) (en1) (show 0 ≤ a1 ∧ a1 < n1 from q_4728 b13 h3) (z := ((D 8 : Nat) : Int)) (v := .ref (D 8)) ((congrArg (A10 1) b13).trans ((mA10 1 rfl 3).trans (pf8))) (vrf rfl) ?_
        refine v_g H (o := 8) (v := I (u8_1)) rfl rfl rfl rfl rfl (congrArg (fun z : Int => I z) ((((show F10 8 1 = F 8 1 from (eF10 8 1))).trans (eu8_1)) : F10 8 1 = u8_1)) ?_
        refine w_icmpgt (t := 29) rfl rfl (show inr (a2) from h1) (show inr (u8_1) from q_38 h7) (fun b47 => ?_) (fun b47 => ?_)
        · refine Ew_of (pcₚ := 30) (fun _ => x_iconst rfl) ?_
          exact w_ireturn rfl (k (0) _ _ _ _ _ _ _ H O (SD_refl) (SD_refl) (cF10) (cA10) ((((show F10 2 0 = F 2 0 from (eF10 2 0)))).trans (pf3)) ((((show F10 4 0 = F 4 0 from (eF10 4 0)))).trans (pf5)) ((((show F10 6 0 = F 6 0 from (eF10 6 0)))).trans (pf7)) ((((show F10 8 0 = F 8 0 from (eF10 8 0)))).trans (pf9)) (n3) (en3) (n5) (en5) (n7) (en7) (n9) (en9) (u2_1) ((((show F10 2 1 = F 2 1 from (eF10 2 1))).trans (eu2_1))) (u4_1) ((((show F10 4 1 = F 4 1 from (eF10 4 1))).trans (eu4_1))) (u6_1) ((((show F10 6 1 = F 6 1 from (eF10 6 1))).trans (eu6_1))) (u8_1) ((((show F10 8 1 = F 8 1 from (eF10 8 1))).trans (eu8_1))) (show (0) = 0 ∨ (0) = 1 by first | exact q_45 | omega) (show 0 ≤ (u2_1) ∧ (u2_1) ≤ (n3) ∧ (n3) ≤ 65536 from h4) (show 0 ≤ (u4_1) ∧ (u4_1) ≤ (n5) ∧ (n5) ≤ 65536 from h5) (show 0 ≤ (u6_1) ∧ (u6_1) ≤ (n7) ∧ (n7) ≤ 65536 from h6) (show 0 ≤ (u8_1) ∧ (u8_1) ≤ (n9) ∧ (n9) ≤ 65536 from h7))
        · refine Ew_of (pcₚ := 26) (fun _ => x_iload_n rfl rfl) ?_
          refine w_ifge (t := 31) rfl rfl (show inr (a3) from h2) (fun b48 => ?_) (fun b48 => ?_)
          · refine Ew_of (pcₚ := 32) (fun _ => x_iload_n rfl rfl) ?_
            refine w_i2l rfl (show inr (a2) from h1) ?_
            refine Ew_of (pcₚ := 34) (fun _ => x_iload_n rfl rfl) ?_
            refine w_i2l rfl (show inr (a3) from h2) ?_
            refine w_lmulA rfl (fun z49 gz49 => ?_)
            refine Ew_of (pcₚ := 38) (fun _ => x_lstore rfl) ?_
            refine Ew_of (pcₚ := 40) (fun _ => x_lload rfl rk2_s) ?_
            refine Ew_of (pcₚ := 42) (fun _ => x_ldc (z := 65536) rfl (by decide)) ?_
            refine Ew_of (pcₚ := 43) (fun _ => x_aload_n rfl (rk2_o (rfl) rfl rfl)) ?_
            refine v_g H (o := 0) (v := .ref (D 1)) rfl rfl rfl rfl rfl (vrf ((mF10 0 0 rfl).trans (pf1))) ?_
            refine Ew_of (pcₚ := 47) (fun _ => x_iload_n rfl (rk2_o (rfl) rfl rfl)) ?_
            refine v_lR H (o := 1) rfl rfl rfl rfl rfl (n := n1) (en1) (show 0 ≤ a1 ∧ a1 < n1 from q_4728 b13 h3) (z := ((D 8 : Nat) : Int)) (v := .ref (D 8)) ((congrArg (A10 1) b13).trans ((mA10 1 rfl 3).trans (pf8))) (vrf rfl) ?_
            refine v_g H (o := 8) (v := I (u8_1)) rfl rfl rfl rfl rfl (congrArg (fun z : Int => I z) ((((show F10 8 1 = F 8 1 from (eF10 8 1))).trans (eu8_1)) : F10 8 1 = u8_1)) ?_
            refine w_isub rfl ?_
            refine w_i2l rfl (show inr ((65536 - u8_1)) from q_46 h7) ?_
            refine w_lcmp rfl (show inrJ (z49) from gz49) (show inrJ ((65536 - u8_1)) from q_4729 h7) (fun z50 gz50 gaz50 gbz50 => ?_)
            refine w_ifle (t := 59) rfl rfl (show inr (z50) from gz50) (fun b51 => ?_) (fun b51 => ?_)
            · refine Ew_of (pcₚ := 60) (fun _ => x_aload_n rfl (rk2_o (rfl) rfl rfl)) ?_
              refine v_g H (o := 0) (v := .ref (D 1)) rfl rfl rfl rfl rfl (vrf ((mF10 0 0 rfl).trans (pf1))) ?_
              refine Ew_of (pcₚ := 64) (fun _ => x_iload_n rfl (rk2_o (rfl) rfl rfl)) ?_
              refine v_lR H (o := 1) rfl rfl rfl rfl rfl (n := n1) (en1) (show 0 ≤ a1 ∧ a1 < n1 from q_4728 b13 h3) (z := ((D 8 : Nat) : Int)) (v := .ref (D 8)) ((congrArg (A10 1) b13).trans ((mA10 1 rfl 3).trans (pf8))) (vrf rfl) ?_
              refine Ew_of (pcₚ := 66) (fun _ => x_iload_n rfl (rk2_o (rfl) rfl rfl)) ?_
              refine Ew_of (pcₚ := 68) (fun _ => x_lload rfl rk2_s) ?_
              refine w_l2iA rfl (fun z52 gz52 => ?_)
              refine Ew_of (pcₚ := 70) (fun _ => x_iconst rfl) ?_
              refine Ew_of (pcₚ := 71) (fun _ => x_aload_n rfl (rk2_o (rfl) rfl rfl)) ?_
              refine v_g H (o := 0) (v := .ref (D 1)) rfl rfl rfl rfl rfl (vrf ((mF10 0 0 rfl).trans (pf1))) ?_
              refine Ew_of (pcₚ := 75) (fun _ => x_iload_n rfl (rk2_o (rfl) rfl rfl)) ?_
              refine v_lR H (o := 1) rfl rfl rfl rfl rfl (n := n1) (en1) (show 0 ≤ a1 ∧ a1 < n1 from q_4728 b13 h3) (z := ((D 8 : Nat) : Int)) (v := .ref (D 8)) ((congrArg (A10 1) b13).trans ((mA10 1 rfl 3).trans (pf8))) (vrf rfl) ?_
              refine v_inv H (o := 8) rfl rfl rfl rfl rfl rfl (by rfl) (C163_thisa (D := puc 4616 D) (N := puc 4616 N) (HW_subc H oz_R2cls_43 oz_R2cls_20) ((((show F10 8 0 = F 8 0 from (eF10 8 0)))).trans (pf9)) (n9) (en9) (u8_1) ((((show F10 8 1 = F 8 1 from (eF10 8 1))).trans (eu8_1))) (F 8 2) (((show F10 8 2 = F 8 2 from (eF10 8 2)))) (A 9) ((show A10 9 = A 9 from (eA10 9))) (show inr (a2) from h1) (show inr (z52) from gz52) (show inr (0) from q_2) (show 0 ≤ (u8_1) ∧ (u8_1) ≤ (n9) ∧ (n9) ≤ 65536 from h7) (show 0 ≤ (0) ∧ (0) ≤ (u8_1) from q_3013 h7) (show (z52) < 0 ∨ 1 ≤ (a2) ∧ (a2) ≤ (u8_1) - (0) from q_4730 b12 b47) (fun σ54 D54ₚ N54ₚ F54ₚ A54ₚ c54 s54 Hₚ Oₚ hD54 hN54 hS54 hA54 (pm54_1 : HID _) m54_1 (em54_1 : HID _) y54_0_1 (ey54_0_1 : HID _) y54_0_2 (ey54_0_2 : HID _) w54_1 ew54_1 pz54_0 pz54_1 pz54_2 pz54_3 pz54_4 => ⟨rfl, ?_⟩))
              refine v_backMc (c := c) (s := s) H oz_R2cls_43 oz_R2cls_20 Hₚ Oₚ hD54 oz_R2cls_44 (fun D54 N54 F54 A54 H Oₚ eD54 eN54 eF54 eA54 => ?_)
              have O := OUT_trans O Oₚ
              -- Row.copyBack
              have cF54 : SF oz_R2clsl_0 F F54 := SF_trans (cF10) (SF_gluc (ι := oz_R2clsl_6) oz_R2cls_20 hS54 eF54 (by decide +kernel)) (any_sub (lₚ := [(8, 0), (8, 1), (8, 2)]) (by decide +kernel))
              have mF54 := SFm_of cF54 oz_R2cls_14
              have cA54 : SA oz_R2clsl_1 A A54 := SA_trans (cA10) (SA_gluc (ι := oz_R2clsl_6) oz_R2cls_20 hA54 eA54 (by decide +kernel)) (any_subA (lₚ := [9]) (by decide +kernel))
              have mA54 := SAm_of cA54 oz_R2cls_15
              have cD54 : SD oz_R2clsl_1 D D54 := SD_trans (SD_refl) (SD_gluc (ι := oz_R2clsl_6) oz_R2cls_20 hD54 eD54 (by decide +kernel)) (any_subA (lₚ := [9]) (by decide +kernel))
              have mD54 := SDm_of cD54 oz_R2cls_15
              have cN54 : SD oz_R2clsl_1 N N54 := SD_trans (SD_refl) (SD_gluc (ι := oz_R2clsl_6) oz_R2cls_20 hN54 eN54 (by decide +kernel)) (any_subA (lₚ := [9]) (by decide +kernel))
              have mN54 := SDm_of cN54 oz_R2cls_15
              have pf54_2_0 : HID (F54 2 0 = (D54 3 : Int)) := ((show F54 2 0 = F10 2 0 from (eF54 2 0))).trans (((((show F10 2 0 = F 2 0 from (eF10 2 0)))).trans (pf3)).trans (congrArg (fun q : Nat => (q : Int)) ((show D54 3 = D 3 from (eD54 3))).symm))
              have pf54_4_0 : HID (F54 4 0 = (D54 5 : Int)) := ((show F54 4 0 = F10 4 0 from (eF54 4 0))).trans (((((show F10 4 0 = F 4 0 from (eF10 4 0)))).trans (pf5)).trans (congrArg (fun q : Nat => (q : Int)) ((show D54 5 = D 5 from (eD54 5))).symm))
              have pf54_6_0 : HID (F54 6 0 = (D54 7 : Int)) := ((show F54 6 0 = F10 6 0 from (eF54 6 0))).trans (((((show F10 6 0 = F 6 0 from (eF10 6 0)))).trans (pf7)).trans (congrArg (fun q : Nat => (q : Int)) ((show D54 7 = D 7 from (eD54 7))).symm))
              have pf54_8_0 : HID (F54 8 0 = (D54 9 : Int)) := (eF54 8 0).trans (pm54_1.trans (congrArg (fun q : Nat => (q : Int)) (eD54 9).symm))
              refine Ew_of (pcₚ := 80) (fun _ => x_iconst rfl) ?_
              exact w_ireturn rfl (k (1) _ _ _ _ _ _ _ H O (cD54) (cN54) (cF54) (cA54) (pf54_2_0) (pf54_4_0) (pf54_6_0) (pf54_8_0) (n3) ((congrArg (fun q : Nat => (q : Int)) (show N54 3 = N 3 from (eN54 3))).trans (en3)) (n5) ((congrArg (fun q : Nat => (q : Int)) (show N54 5 = N 5 from (eN54 5))).trans (en5)) (n7) ((congrArg (fun q : Nat => (q : Int)) (show N54 7 = N 7 from (eN54 7))).trans (en7)) (m54_1) ((congrArg (fun q : Nat => (q : Int)) (eN54 9)).trans em54_1) (u2_1) (((((show F54 2 1 = F10 2 1 from (eF54 2 1))).trans ((show F10 2 1 = F 2 1 from (eF10 2 1)))).trans (eu2_1))) (u4_1) (((((show F54 4 1 = F10 4 1 from (eF54 4 1))).trans ((show F10 4 1 = F 4 1 from (eF10 4 1)))).trans (eu4_1))) (u6_1) (((((show F54 6 1 = F10 6 1 from (eF54 6 1))).trans ((show F10 6 1 = F 6 1 from (eF10 6 1)))).trans (eu6_1))) (y54_0_1) (((eF54 8 1).trans ey54_0_1)) (show (1) = 0 ∨ (1) = 1 by first | exact q_49 | omega) (show 0 ≤ (u2_1) ∧ (u2_1) ≤ (n3) ∧ (n3) ≤ 65536 from h4) (show 0 ≤ (u4_1) ∧ (u4_1) ≤ (n5) ∧ (n5) ≤ 65536 from h5) (show 0 ≤ (u6_1) ∧ (u6_1) ≤ (n7) ∧ (n7) ≤ 65536 from h6) (show 0 ≤ (y54_0_1) ∧ (y54_0_1) ≤ (m54_1) ∧ (m54_1) ≤ 65536 from pz54_0))
            · refine Ew_of (pcₚ := 58) (fun _ => x_iconst rfl) ?_
              exact w_ireturn rfl (k (0) _ _ _ _ _ _ _ H O (SD_refl) (SD_refl) (cF10) (cA10) ((((show F10 2 0 = F 2 0 from (eF10 2 0)))).trans (pf3)) ((((show F10 4 0 = F 4 0 from (eF10 4 0)))).trans (pf5)) ((((show F10 6 0 = F 6 0 from (eF10 6 0)))).trans (pf7)) ((((show F10 8 0 = F 8 0 from (eF10 8 0)))).trans (pf9)) (n3) (en3) (n5) (en5) (n7) (en7) (n9) (en9) (u2_1) ((((show F10 2 1 = F 2 1 from (eF10 2 1))).trans (eu2_1))) (u4_1) ((((show F10 4 1 = F 4 1 from (eF10 4 1))).trans (eu4_1))) (u6_1) ((((show F10 6 1 = F 6 1 from (eF10 6 1))).trans (eu6_1))) (u8_1) ((((show F10 8 1 = F 8 1 from (eF10 8 1))).trans (eu8_1))) (show (0) = 0 ∨ (0) = 1 by first | exact q_45 | omega) (show 0 ≤ (u2_1) ∧ (u2_1) ≤ (n3) ∧ (n3) ≤ 65536 from h4) (show 0 ≤ (u4_1) ∧ (u4_1) ≤ (n5) ∧ (n5) ≤ 65536 from h5) (show 0 ≤ (u6_1) ∧ (u6_1) ≤ (n7) ∧ (n7) ≤ 65536 from h6) (show 0 ≤ (u8_1) ∧ (u8_1) ≤ (n9) ∧ (n9) ≤ 65536 from h7))
          · refine Ew_of (pcₚ := 30) (fun _ => x_iconst rfl) ?_
            exact w_ireturn rfl (k (0) _ _ _ _ _ _ _ H O (SD_refl) (SD_refl) (cF10) (cA10) ((((show F10 2 0 = F 2 0 from (eF10 2 0)))).trans (pf3)) ((((show F10 4 0 = F 4 0 from (eF10 4 0)))).trans (pf5)) ((((show F10 6 0 = F 6 0 from (eF10 6 0)))).trans (pf7)) ((((show F10 8 0 = F 8 0 from (eF10 8 0)))).trans (pf9)) (n3) (en3) (n5) (en5) (n7) (en7) (n9) (en9) (u2_1) ((((show F10 2 1 = F 2 1 from (eF10 2 1))).trans (eu2_1))) (u4_1) ((((show F10 4 1 = F 4 1 from (eF10 4 1))).trans (eu4_1))) (u6_1) ((((show F10 6 1 = F 6 1 from (eF10 6 1))).trans (eu6_1))) (u8_1) ((((show F10 8 1 = F 8 1 from (eF10 8 1))).trans (eu8_1))) (show (0) = 0 ∨ (0) = 1 by first | exact q_45 | omega) (show 0 ≤ (u2_1) ∧ (u2_1) ≤ (n3) ∧ (n3) ≤ 65536 from h4) (show 0 ≤ (u4_1) ∧ (u4_1) ≤ (n5) ∧ (n5) ≤ 65536 from h5) (show 0 ≤ (u6_1) ∧ (u6_1) ≤ (n7) ∧ (n7) ≤ 65536 from h6) (show 0 ≤ (u8_1) ∧ (u8_1) ≤ (n9) ∧ (n9) ≤ 65536 from h7))
abbrev V4 : vV := [(0, 0, [(4, 0), (4, 0), (4, 0), (4, 0), (4, 0), (4, 0), (4, 0), (4, 0), (4, 0), (4, 0), (4, 0), (4, 0), (4, 0), (4, 0), (4, 0), (4, 0), (4, 0), (0, 0), (0, 0)]), (1, 4, []), (0, 7, [(4, 0), (0, 0), (1, 0), (0, 0), (0, 0)]), (1, 0, []), (0, 7, [(4, 0), (0, 0), (1, 0), (0, 0), (0, 0)]), (1, 0, []), (0, 7, [(4, 0), (0, 0), (1, 0), (0, 0), (0, 0)]), (1, 0, []), (0, 7, [(4, 0), (0, 0), (1, 0), (0, 0), (0, 0)]), (1, 0, [])]
abbrev V6 : vV := [(0, 0, [(4, 0), (4, 0), (4, 0), (4, 0), (4, 0), (4, 0), (4, 0), (4, 0), (4, 0), (4, 0), (4, 0), (4, 0), (4, 0), (4, 0), (4, 0), (4, 0), (4, 0), (0, 0), (0, 0)]), (1, 4, []), (0, 7, [(4, 0), (0, 0), (1, 0), (0, 0), (0, 0)]), (1, 0, []), (0, 7, [(4, 0), (0, 0), (1, 0), (0, 0), (0, 0)]), (1, 0, []), (0, 7, [(4, 0), (0, 0), (1, 0), (0, 0), (0, 0)]), (1, 0, []), (0, 7, [(4, 0), (0, 0), (1, 0), (0, 0), (0, 0)]), (1, 0, [])]
abbrev V7 : vV := [(0, 0, [(4, 0), (4, 0), (4, 0), (4, 0), (4, 0), (4, 0), (4, 0), (4, 0), (4, 0), (4, 0), (4, 0), (4, 0), (4, 0), (4, 0), (4, 0), (4, 0), (4, 0), (0, 0), (0, 0)]), (1, 4, []), (0, 7, [(4, 0), (0, 0), (1, 0), (0, 0), (0, 0)]), (1, 0, []), (0, 7, [(4, 0), (0, 0), (1, 0), (0, 0), (0, 0)]), (1, 0, []), (0, 7, [(4, 0), (0, 0), (1, 0), (0, 0), (0, 0)]), (1, 0, []), (0, 7, [(4, 0), (0, 0), (1, 0), (0, 0), (0, 0)]), (1, 0, [])]
abbrev V8 : vV := [(0, 0, [(4, 0), (4, 0), (4, 0), (4, 0), (4, 0), (4, 0), (4, 0), (4, 0), (4, 0), (4, 0), (4, 0), (4, 0), (4, 0), (4, 0), (4, 0), (4, 0), (4, 0), (0, 0), (0, 0)]), (1, 4, []), (0, 7, [(4, 0), (0, 0), (1, 0), (0, 0), (0, 0)]), (1, 0, []), (0, 7, [(4, 0), (0, 0), (1, 0), (0, 0), (0, 0)]), (1, 0, []), (0, 7, [(4, 0), (0, 0), (1, 0), (0, 0), (0, 0)]), (1, 0, []), (0, 7, [(4, 0), (0, 0), (1, 0), (0, 0), (0, 0)]), (1, 0, [])]
