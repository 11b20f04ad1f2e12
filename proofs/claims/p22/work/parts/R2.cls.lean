abbrev V1 : vV := [(0, 0, [(4, 0), (4, 0), (4, 0), (4, 0), (4, 0), (4, 0), (4, 0), (4, 0), (4, 0), (4, 0), (4, 0), (4, 0), (4, 0), (4, 0), (4, 0), (4, 0), (4, 0), (0, 0), (0, 0)]), (1, 4, []), (0, 7, [(4, 0), (0, 0), (1, 0), (0, 0), (0, 0)]), (1, 0, []), (0, 7, [(4, 0), (0, 0), (1, 0), (0, 0), (0, 0)]), (1, 0, []), (0, 7, [(4, 0), (0, 0), (1, 0), (0, 0), (0, 0)]), (1, 0, []), (0, 7, [(4, 0), (0, 0), (1, 0), (0, 0), (0, 0)]), (1, 0, [])]
theorem len_V1_oz_R2cls : (V1).length = 10 := by decide +kernel
theorem oz_R2cls_1 : vsub V1 V24 [] = true := by decide +kernel
theorem oz_R2cls_2 : vsub V1 V157 [2, 3] = true := by decide +kernel
theorem oz_R2cls_3 : vmov V1 [2, 3] [1] = true := by decide +kernel
theorem oz_R2cls_4 : vsub V1 V28_Row [2, 3] = true := by decide +kernel
theorem oz_R2cls_5 : vsub V1 V157 [4, 5] = true := by decide +kernel
theorem oz_R2cls_6 : vmov V1 [4, 5] [1] = true := by decide +kernel
theorem oz_R2cls_7 : vsub V1 V28_Row [4, 5] = true := by decide +kernel
theorem oz_R2cls_8 : vsub V1 V157 [6, 7] = true := by decide +kernel
theorem oz_R2cls_9 : vmov V1 [6, 7] [1] = true := by decide +kernel
theorem oz_R2cls_10 : vsub V1 V28_Row [6, 7] = true := by decide +kernel
theorem oz_R2cls_11 : vsub V1 V157 [8, 9] = true := by decide +kernel
theorem oz_R2cls_12 : vmov V1 [8, 9] [1] = true := by decide +kernel
theorem oz_R2cls_13 : vsub V1 V28_Row [8, 9] = true := by decide +kernel
def oz_R2clsl_0 : List (Nat × Nat) := [(2, 0), (2, 1), (2, 2), (4, 0), (4, 1), (4, 2), (6, 0), (6, 1), (6, 2), (8, 0), (8, 1), (8, 2)]
theorem oz_R2cls_14 : (oz_R2clsl_0).all (fun p => !tbz 810544624661213368008936607208522120322122395190384182433292325627178493411328 (Nat.add (Nat.mul 32 p.1) p.2)) = true := by decide +kernel
def oz_R2clsl_1 : List Nat := [3, 5, 7, 9]
theorem oz_R2cls_15 : (oz_R2clsl_1).all (fun p => !tbz 680 p) = true := by decide +kernel
def oz_R2clsl_2 : List Nat := []
theorem oz_R2cls_16 : okc oz_R2clsl_2 0 = true := by decide +kernel
def oz_R2clsl_3 : List Nat := [2, 3]
theorem oz_R2cls_17 : okc oz_R2clsl_3 1538 = true := by decide +kernel
def oz_R2clsl_4 : List Nat := [4, 5]
theorem oz_R2cls_18 : okc oz_R2clsl_4 2564 = true := by decide +kernel
def oz_R2clsl_5 : List Nat := [6, 7]
theorem oz_R2cls_19 : okc oz_R2clsl_5 3590 = true := by decide +kernel
def oz_R2clsl_6 : List Nat := [8, 9]
theorem oz_R2cls_20 : okc oz_R2clsl_6 4616 = true := by decide +kernel
/-- PackHouse.feed: this, this.rows, this.rows.0, this.rows.0.bytes, this.rows.1, this.rows.1.bytes, this.rows.2, this.rows.2.bytes, this.rows.3, this.rows.3.bytes -/
theorem C1 {σE : rS} {D N : Nat → Nat} {F : hF} {A : hA} {d c s : Nat} {Q : wQ} (H : HW V1 σE D N F A) {a1 a2 a3 a4 a5 : Int} (pf1 : HID (F 0 0 = (D 1 : Int))) (pf2 : HID (A 1 0 = (D 2 : Int))) (pf3 : HID (F 2 0 = (D 3 : Int))) (pf4 : HID (A 1 1 = (D 4 : Int))) (pf5 : HID (F 4 0 = (D 5 : Int))) (pf6 : HID (A 1 2 = (D 6 : Int))) (pf7 : HID (F 6 0 = (D 7 : Int))) (pf8 : HID (A 1 3 = (D 8 : Int))) (pf9 : HID (F 8 0 = (D 9 : Int))) (n1 : Int) (en1 : HID ((N 1 : Int) = n1)) (n3 : Int) (en3 : HID ((N 3 : Int) = n3)) (n5 : Int) (en5 : HID ((N 5 : Int) = n5)) (n7 : Int) (en7 : HID ((N 7 : Int) = n7)) (n9 : Int) (en9 : HID ((N 9 : Int) = n9)) (u2_1 : Int) (eu2_1 : HID (F 2 1 = u2_1)) (u4_1 : Int) (eu4_1 : HID (F 4 1 = u4_1)) (u6_1 : Int) (eu6_1 : HID (F 6 1 = u6_1)) (u8_1 : Int) (eu8_1 : HID (F 8 1 = u8_1)) (h0 : inr (a1)) (h1 : inr (a2)) (h2 : inr (a3)) (h3 : inr (a4)) (h4 : inr (a5)) (h5 : (n1) = 4) (h6 : 0 ≤ (u2_1) ∧ (u2_1) ≤ (n3) ∧ (n3) ≤ 65536) (h7 : 0 ≤ (u4_1) ∧ (u4_1) ≤ (n5) ∧ (n5) ≤ 65536) (h8 : 0 ≤ (u6_1) ∧ (u6_1) ≤ (n7) ∧ (n7) ≤ 65536) (h9 : 0 ≤ (u8_1) ∧ (u8_1) ≤ (n9) ∧ (n9) ≤ 65536) (k : ∀ (z : Int) (σ : rS) (Dₚ Nₚ : Nat → Nat) (Fₚ : hF) (Aₚ : hA) (cₚ sₚ : Nat), HW V1 σ Dₚ Nₚ Fₚ Aₚ → OUT (V1).length D N σE c s Dₚ Nₚ σ cₚ sₚ → SD [3, 5, 7, 9] D Dₚ → SD [3, 5, 7, 9] N Nₚ → SF [(2, 0), (2, 1), (2, 2), (4, 0), (4, 1), (4, 2), (6, 0), (6, 1), (6, 2), (8, 0), (8, 1), (8, 2)] F Fₚ → SA [3, 5, 7, 9] A Aₚ → Fₚ 2 0 = (Dₚ 3 : Int) → Fₚ 4 0 = (Dₚ 5 : Int) → Fₚ 6 0 = (Dₚ 7 : Int) → Fₚ 8 0 = (Dₚ 9 : Int) → ∀ m3 : Int, (Nₚ 3 : Int) = m3 → ∀ m5 : Int, (Nₚ 5 : Int) = m5 → ∀ m7 : Int, (Nₚ 7 : Int) = m7 → ∀ m9 : Int, (Nₚ 9 : Int) = m9 → ∀ y2_1 : Int, Fₚ 2 1 = y2_1 → ∀ y4_1 : Int, Fₚ 4 1 = y4_1 → ∀ y6_1 : Int, Fₚ 6 1 = y6_1 → ∀ y8_1 : Int, Fₚ 8 1 = y8_1 → ((z) = 0 ∨ (z) = 1) → (0 ≤ (y2_1) ∧ (y2_1) ≤ (m3) ∧ (m3) ≤ 65536) → (0 ≤ (y4_1) ∧ (y4_1) ≤ (m5) ∧ (m5) ≤ 65536) → (0 ≤ (y6_1) ∧ (y6_1) ≤ (m7) ∧ (m7) ≤ 65536) → (0 ≤ (y8_1) ∧ (y8_1) ≤ (m9) ∧ (m9) ≤ 65536) → Q (some (I z)) σ cₚ sₚ) : Ew 1 (d + 4) 0 (rargs 0 [.ref (D 0), I a1, I a2, I a3, I a4, I a5]) [] σE c s Q := by
  have O := OUT_refl (n := (V1).length) (D := D) (N := N) (σ := σE) (c := c) (s := s)
  have HE := H
  have r5 : HID ((0 : Int) ≤ n1 ∧ n1 ≤ 1000000) := nrng (H.nle 1 (ltn len_V1_oz_R2cls rfl)) (show (N 1 : Int) = n1 from en1)
  refine Ew_of (pcₚ := 1) (fun _ => x_iload_n rfl rfl) ?_
  refine w_stat24 rfl rfl (by rfl) (C24 (D := puc 0 D) (N := puc 0 N) (HW_subc H oz_R2cls_1 oz_R2cls_16) (show inr (a1) from h0) (fun z10 σ10 F10ₚ A10ₚ Hₚ Oₚ hS10 hA10 pz10_0 pz10_1 => ⟨rretB rfl pz10_0, ?_⟩))
  refine v_backc (c := c) (s := s) H oz_R2cls_1 oz_R2cls_16 Hₚ Oₚ (fun F10 A10 H Oₚ eF10 eA10 => ?_)
  have O := OUT_trans O Oₚ
  -- PackHouse.isRow
  have cF10 : SF oz_R2clsl_0 F F10 := SF_trans (SF_refl) (SF_gluc (ι := oz_R2clsl_2) oz_R2cls_16 hS10 eF10 (by decide +kernel)) (any_sub (lₚ := []) (by decide +kernel))
  have mF10 := SFm_of cF10 oz_R2cls_14
  have cA10 : SA oz_R2clsl_1 A A10 := SA_trans (SA_refl) (SA_gluc (ι := oz_R2clsl_2) oz_R2cls_16 hA10 eA10 (by decide +kernel)) (any_subA (lₚ := []) (by decide +kernel))
  have mA10 := SAm_of cA10 oz_R2cls_15
  refine w_ifeq (t := 21) rfl rfl (show inr (z10) from q_15 pz10_0) (fun b11 => ?_) (fun b11 => ?_)
  · refine Ew_of (pcₚ := 22) (fun _ => x_iconst rfl) ?_
    exact w_ireturn rfl (k (0) _ _ _ _ _ _ _ H O (SD_refl) (SD_refl) (cF10) (cA10) ((((show F10 2 0 = F 2 0 from (eF10 2 0)))).trans (pf3)) ((((show F10 4 0 = F 4 0 from (eF10 4 0)))).trans (pf5)) ((((show F10 6 0 = F 6 0 from (eF10 6 0)))).trans (pf7)) ((((show F10 8 0 = F 8 0 from (eF10 8 0)))).trans (pf9)) (n3) (en3) (n5) (en5) (n7) (en7) (n9) (en9) (u2_1) ((((show F10 2 1 = F 2 1 from (eF10 2 1))).trans (eu2_1))) (u4_1) ((((show F10 4 1 = F 4 1 from (eF10 4 1))).trans (eu4_1))) (u6_1) ((((show F10 6 1 = F 6 1 from (eF10 6 1))).trans (eu6_1))) (u8_1) ((((show F10 8 1 = F 8 1 from (eF10 8 1))).trans (eu8_1))) (show (0) = 0 ∨ (0) = 1 by first | exact q_1 | omega) (show 0 ≤ (u2_1) ∧ (u2_1) ≤ (n3) ∧ (n3) ≤ 65536 from h6) (show 0 ≤ (u4_1) ∧ (u4_1) ≤ (n5) ∧ (n5) ≤ 65536 from h7) (show 0 ≤ (u6_1) ∧ (u6_1) ≤ (n7) ∧ (n7) ≤ 65536 from h8) (show 0 ≤ (u8_1) ∧ (u8_1) ≤ (n9) ∧ (n9) ≤ 65536 from h9))
  · refine Ew_of (pcₚ := 8) (fun _ => x_aload_n rfl rfl) ?_
    refine v_g H (o := 0) (v := .ref (D 1)) rfl rfl rfl rfl rfl (vrf ((mF10 0 0 rfl).trans (pf1))) ?_
    refine Ew_of (pcₚ := 12) (fun _ => x_iload_n rfl rfl) ?_
    rcases (show a1 = 0 ∨ a1 = 1 ∨ a1 = 2 ∨ a1 = 3 by omega) with b12 | b12 | b12 | b12
    · refine v_lR H (o := 1) rfl rfl rfl rfl rfl (n := n1) (en1) (show 0 ≤ a1 ∧ a1 < n1 from q_4225 (HIDe r5) b12 h5) (z := ((D 2 : Nat) : Int)) (v := .ref (D 2)) ((congrArg (A10 1) b12).trans ((mA10 1 rfl 0).trans (pf2))) (vrf rfl) ?_
      refine Ew_of (pcₚ := 15) (fun _ => x_bipush (z := 16) rfl (by decide)) ?_
      refine v_inv H (o := 2) rfl rfl rfl rfl rfl rfl (by rfl) (C157 (D := puc 1538 D) (N := puc 1538 N) (HW_subc H oz_R2cls_2 oz_R2cls_17) ((((show F10 2 0 = F 2 0 from (eF10 2 0)))).trans (pf3)) (n3) (en3) (u2_1) ((((show F10 2 1 = F 2 1 from (eF10 2 1))).trans (eu2_1))) (A 3) ((show A10 3 = A 3 from (eA10 3))) (show inr (16) from q_86) (show 0 ≤ (u2_1) ∧ (u2_1) ≤ (n3) ∧ (n3) ≤ 65536 from h6) (fun z13 σ13 D13ₚ N13ₚ F13ₚ A13ₚ c13 s13 Hₚ Oₚ hD13 hN13 hS13 hA13 (pm13_1 : HID _) m13_1 (em13_1 : HID _) w13_1 ew13_1 pz13_0 pz13_1 pz13_2 pz13_3 pz13_4 => ⟨rretB rfl pz13_0, ?_⟩))
      refine v_backMc (c := c) (s := s) H oz_R2cls_2 oz_R2cls_17 Hₚ Oₚ hD13 oz_R2cls_3 (fun D13 N13 F13 A13 H Oₚ eD13 eN13 eF13 eA13 => ?_)
      have O := OUT_trans O Oₚ
      -- Row.reserve
      have cF13 : SF oz_R2clsl_0 F F13 := SF_trans (cF10) (SF_gluc (ι := oz_R2clsl_3) oz_R2cls_17 hS13 eF13 (by decide +kernel)) (any_sub (lₚ := [(2, 0)]) (by decide +kernel))
      have mF13 := SFm_of cF13 oz_R2cls_14
      have cA13 : SA oz_R2clsl_1 A A13 := SA_trans (cA10) (SA_gluc (ι := oz_R2clsl_3) oz_R2cls_17 hA13 eA13 (by decide +kernel)) (any_subA (lₚ := [3]) (by decide +kernel))
      have mA13 := SAm_of cA13 oz_R2cls_15
      have cD13 : SD oz_R2clsl_1 D D13 := SD_trans (SD_refl) (SD_gluc (ι := oz_R2clsl_3) oz_R2cls_17 hD13 eD13 (by decide +kernel)) (any_subA (lₚ := [3]) (by decide +kernel))
      have mD13 := SDm_of cD13 oz_R2cls_15
      have cN13 : SD oz_R2clsl_1 N N13 := SD_trans (SD_refl) (SD_gluc (ι := oz_R2clsl_3) oz_R2cls_17 hN13 eN13 (by decide +kernel)) (any_subA (lₚ := [3]) (by decide +kernel))
      have mN13 := SDm_of cN13 oz_R2cls_15
      have pf13_2_0 : HID (F13 2 0 = (D13 3 : Int)) := (eF13 2 0).trans (pm13_1.trans (congrArg (fun q : Nat => (q : Int)) (eD13 3).symm))
      have pf13_4_0 : HID (F13 4 0 = (D13 5 : Int)) := ((show F13 4 0 = F10 4 0 from (eF13 4 0))).trans (((((show F10 4 0 = F 4 0 from (eF10 4 0)))).trans (pf5)).trans (congrArg (fun q : Nat => (q : Int)) ((show D13 5 = D 5 from (eD13 5))).symm))
      have pf13_6_0 : HID (F13 6 0 = (D13 7 : Int)) := ((show F13 6 0 = F10 6 0 from (eF13 6 0))).trans (((((show F10 6 0 = F 6 0 from (eF10 6 0)))).trans (pf7)).trans (congrArg (fun q : Nat => (q : Int)) ((show D13 7 = D 7 from (eD13 7))).symm))
      have pf13_8_0 : HID (F13 8 0 = (D13 9 : Int)) := ((show F13 8 0 = F10 8 0 from (eF13 8 0))).trans (((((show F10 8 0 = F 8 0 from (eF10 8 0)))).trans (pf9)).trans (congrArg (fun q : Nat => (q : Int)) ((show D13 9 = D 9 from (eD13 9))).symm))
      refine w_ifne (t := 23) rfl rfl (show inr (z13) from q_15 pz13_0) (fun b15 => ?_) (fun b15 => ?_)
      · refine Ew_of (pcₚ := 24) (fun _ => x_aload_n rfl rfl) ?_
        refine Ew_stk (congrArg (fun qz : Nat => ([.ref qz] : List Value)) (show D13 0 = D 0 from mD13 0 rfl).symm) ?_
        refine v_g H (o := 0) (v := .ref (D13 1)) rfl rfl rfl rfl rfl (vrf ((mF13 0 0 rfl).trans ((pf1).trans (congrArg (fun q : Nat => (q : Int)) (mD13 1 rfl).symm)))) ?_
        refine Ew_of (pcₚ := 28) (fun _ => x_iload_n rfl rfl) ?_
        refine v_lR H (o := 1) rfl rfl rfl rfl rfl (n := n1) ((congrArg (fun q : Nat => (q : Int)) (mN13 1 rfl)).trans (en1)) (show 0 ≤ a1 ∧ a1 < n1 from q_4225 (HIDe r5) b12 h5) (z := ((D13 2 : Nat) : Int)) (v := .ref (D13 2)) ((congrArg (A13 1) b12).trans ((mA13 1 rfl 0).trans ((pf2).trans (congrArg (fun q : Nat => (q : Int)) (mD13 2 rfl).symm)))) (vrf rfl) ?_
        refine Ew_of (pcₚ := 30) (fun _ => x_iload_n rfl rfl) ?_
        refine w_i2l rfl (show inr (a2) from h1) ?_
        refine Ew_of (pcₚ := 33) (fun _ => x_bipush (z := 32) rfl (by decide)) ?_
        refine w_lshlA rfl (fun z16 gz16 => ?_)
        refine Ew_of (pcₚ := 35) (fun _ => x_iload_n rfl rfl) ?_
        refine w_i2l rfl (show inr (a3) from h2) ?_
        refine Ew_of (pcₚ := 39) (fun _ => x_ldc2 (z := 4294967295) rfl (by decide)) ?_
        refine w_land rfl (show inrJ (a3) from q_428 h2) (show inrJ (4294967295) from q_50) (fun z17 gz17 gaz17 gbz17 => ?_)
        refine w_lorA rfl (fun z18 gz18 => ?_)
        refine Ew_of (pcₚ := 43) (fun _ => x_bipush (z := 8) rfl (by decide)) ?_
        refine w_stat24 rfl rfl (by rfl) (C28_Row (D := puc 1538 D13) (N := puc 1538 N13) (HW_subc H oz_R2cls_4 oz_R2cls_17) (pf13_2_0) (m13_1) ((congrArg (fun q : Nat => (q : Int)) (eN13 3)).trans em13_1) (u2_1) (((((show F13 2 1 = F10 2 1 from (eF13 2 1).trans (hS13 0 1 rfl))).trans ((show F10 2 1 = F 2 1 from (eF10 2 1)))).trans (eu2_1))) (show inrJ (z18) from gz18) (show inr (8) from q_96) (show 0 ≤ (u2_1) ∧ (u2_1) ≤ (m13_1) ∧ (m13_1) ≤ 65536 from pz13_1) (show (8) ≤ 8 from q_2389) (fun σ19 D19ₚ N19ₚ F19ₚ A19ₚ c19 s19 Hₚ Oₚ hD19 hN19 hS19 hA19 (pm19_1 : HID _) m19_1 (em19_1 : HID _) y19_0_1 (ey19_0_1 : HID _) pz19_0 => ⟨rfl, ?_⟩))
        refine v_backMc (c := (c + c13)) (s := (s + s13)) H oz_R2cls_4 oz_R2cls_17 Hₚ Oₚ hD19 oz_R2cls_3 (fun D19 N19 F19 A19 H Oₚ eD19 eN19 eF19 eA19 => ?_)
        have O := OUT_trans O Oₚ
        -- PackHouse.addHighestFirst
        have cF19 : SF oz_R2clsl_0 F F19 := SF_trans (cF13) (SF_gluc (ι := oz_R2clsl_3) oz_R2cls_17 hS19 eF19 (by decide +kernel)) (any_sub (lₚ := [(2, 0), (2, 1), (2, 2)]) (by decide +kernel))
        have mF19 := SFm_of cF19 oz_R2cls_14
        have cA19 : SA oz_R2clsl_1 A A19 := SA_trans (cA13) (SA_gluc (ι := oz_R2clsl_3) oz_R2cls_17 hA19 eA19 (by decide +kernel)) (any_subA (lₚ := [3]) (by decide +kernel))
        have mA19 := SAm_of cA19 oz_R2cls_15
        have cD19 : SD oz_R2clsl_1 D D19 := SD_trans (cD13) (SD_gluc (ι := oz_R2clsl_3) oz_R2cls_17 hD19 eD19 (by decide +kernel)) (any_subA (lₚ := [3]) (by decide +kernel))
        have mD19 := SDm_of cD19 oz_R2cls_15
        have cN19 : SD oz_R2clsl_1 N N19 := SD_trans (cN13) (SD_gluc (ι := oz_R2clsl_3) oz_R2cls_17 hN19 eN19 (by decide +kernel)) (any_subA (lₚ := [3]) (by decide +kernel))
        have mN19 := SDm_of cN19 oz_R2cls_15
        have pf19_2_0 : HID (F19 2 0 = (D19 3 : Int)) := (eF19 2 0).trans (pm19_1.trans (congrArg (fun q : Nat => (q : Int)) (eD19 3).symm))
        have pf19_4_0 : HID (F19 4 0 = (D19 5 : Int)) := ((show F19 4 0 = F13 4 0 from (eF19 4 0))).trans ((pf13_4_0).trans (congrArg (fun q : Nat => (q : Int)) ((show D19 5 = D13 5 from (eD19 5))).symm))
        have pf19_6_0 : HID (F19 6 0 = (D19 7 : Int)) := ((show F19 6 0 = F13 6 0 from (eF19 6 0))).trans ((pf13_6_0).trans (congrArg (fun q : Nat => (q : Int)) ((show D19 7 = D13 7 from (eD19 7))).symm))
        have pf19_8_0 : HID (F19 8 0 = (D19 9 : Int)) := ((show F19 8 0 = F13 8 0 from (eF19 8 0))).trans ((pf13_8_0).trans (congrArg (fun q : Nat => (q : Int)) ((show D19 9 = D13 9 from (eD19 9))).symm))
        refine Ew_of (pcₚ := 47) (fun _ => x_aload_n rfl rfl) ?_
        refine Ew_stk (congrArg (fun qz : Nat => ([.ref qz] : List Value)) (show D19 0 = D 0 from mD19 0 rfl).symm) ?_
        refine v_g H (o := 0) (v := .ref (D19 1)) rfl rfl rfl rfl rfl (vrf ((mF19 0 0 rfl).trans ((pf1).trans (congrArg (fun q : Nat => (q : Int)) (mD19 1 rfl).symm)))) ?_
        refine Ew_of (pcₚ := 51) (fun _ => x_iload_n rfl rfl) ?_
        refine v_lR H (o := 1) rfl rfl rfl rfl rfl (n := n1) ((congrArg (fun q : Nat => (q : Int)) (mN19 1 rfl)).trans (en1)) (show 0 ≤ a1 ∧ a1 < n1 from q_4225 (HIDe r5) b12 h5) (z := ((D19 2 : Nat) : Int)) (v := .ref (D19 2)) ((congrArg (A19 1) b12).trans ((mA19 1 rfl 0).trans ((pf2).trans (congrArg (fun q : Nat => (q : Int)) (mD19 2 rfl).symm)))) (vrf rfl) ?_
        refine Ew_of (pcₚ := 54) (fun _ => x_iload rfl rfl) ?_
        refine w_i2l rfl (show inr (a4) from h3) ?_
        refine Ew_of (pcₚ := 57) (fun _ => x_bipush (z := 32) rfl (by decide)) ?_
        refine w_lshlA rfl (fun z22 gz22 => ?_)
        refine Ew_of (pcₚ := 60) (fun _ => x_iload rfl rfl) ?_
        refine w_i2l rfl (show inr (a5) from h4) ?_
        refine Ew_of (pcₚ := 64) (fun _ => x_ldc2 (z := 4294967295) rfl (by decide)) ?_
        refine w_land rfl (show inrJ (a5) from q_428 h4) (show inrJ (4294967295) from q_50) (fun z23 gz23 gaz23 gbz23 => ?_)
        refine w_lorA rfl (fun z24 gz24 => ?_)
        refine Ew_of (pcₚ := 68) (fun _ => x_bipush (z := 8) rfl (by decide)) ?_
        refine w_stat24 rfl rfl (by rfl) (C28_Row (D := puc 1538 D19) (N := puc 1538 N19) (HW_subc H oz_R2cls_4 oz_R2cls_17) (pf19_2_0) (m19_1) ((congrArg (fun q : Nat => (q : Int)) (eN19 3)).trans em19_1) (y19_0_1) (((eF19 2 1).trans ey19_0_1)) (show inrJ (z24) from gz24) (show inr (8) from q_96) (show 0 ≤ (y19_0_1) ∧ (y19_0_1) ≤ (m19_1) ∧ (m19_1) ≤ 65536 from pz19_0) (show (8) ≤ 8 from q_2389) (fun σ25 D25ₚ N25ₚ F25ₚ A25ₚ c25 s25 Hₚ Oₚ hD25 hN25 hS25 hA25 (pm25_1 : HID _) m25_1 (em25_1 : HID _) y25_0_1 (ey25_0_1 : HID _) pz25_0 => ⟨rfl, ?_⟩))
        refine v_backMc (c := ((c + c13) + c19)) (s := ((s + s13) + s19)) H oz_R2cls_4 oz_R2cls_17 Hₚ Oₚ hD25 oz_R2cls_3 (fun D25 N25 F25 A25 H Oₚ eD25 eN25 eF25 eA25 => ?_)
        have O := OUT_trans O Oₚ
        -- PackHouse.addHighestFirst
        have cF25 : SF oz_R2clsl_0 F F25 := SF_trans (cF19) (SF_gluc (ι := oz_R2clsl_3) oz_R2cls_17 hS25 eF25 (by decide +kernel)) (any_sub (lₚ := [(2, 0), (2, 1), (2, 2)]) (by decide +kernel))
        have mF25 := SFm_of cF25 oz_R2cls_14
        have cA25 : SA oz_R2clsl_1 A A25 := SA_trans (cA19) (SA_gluc (ι := oz_R2clsl_3) oz_R2cls_17 hA25 eA25 (by decide +kernel)) (any_subA (lₚ := [3]) (by decide +kernel))
        have mA25 := SAm_of cA25 oz_R2cls_15
        have cD25 : SD oz_R2clsl_1 D D25 := SD_trans (cD19) (SD_gluc (ι := oz_R2clsl_3) oz_R2cls_17 hD25 eD25 (by decide +kernel)) (any_subA (lₚ := [3]) (by decide +kernel))
        have mD25 := SDm_of cD25 oz_R2cls_15
        have cN25 : SD oz_R2clsl_1 N N25 := SD_trans (cN19) (SD_gluc (ι := oz_R2clsl_3) oz_R2cls_17 hN25 eN25 (by decide +kernel)) (any_subA (lₚ := [3]) (by decide +kernel))
        have mN25 := SDm_of cN25 oz_R2cls_15
        have pf25_2_0 : HID (F25 2 0 = (D25 3 : Int)) := (eF25 2 0).trans (pm25_1.trans (congrArg (fun q : Nat => (q : Int)) (eD25 3).symm))
        have pf25_4_0 : HID (F25 4 0 = (D25 5 : Int)) := ((show F25 4 0 = F19 4 0 from (eF25 4 0))).trans ((pf19_4_0).trans (congrArg (fun q : Nat => (q : Int)) ((show D25 5 = D19 5 from (eD25 5))).symm))
        have pf25_6_0 : HID (F25 6 0 = (D25 7 : Int)) := ((show F25 6 0 = F19 6 0 from (eF25 6 0))).trans ((pf19_6_0).trans (congrArg (fun q : Nat => (q : Int)) ((show D25 7 = D19 7 from (eD25 7))).symm))
        have pf25_8_0 : HID (F25 8 0 = (D25 9 : Int)) := ((show F25 8 0 = F19 8 0 from (eF25 8 0))).trans ((pf19_8_0).trans (congrArg (fun q : Nat => (q : Int)) ((show D25 9 = D19 9 from (eD25 9))).symm))
        refine Ew_of (pcₚ := 72) (fun _ => x_iconst rfl) ?_
        exact w_ireturn rfl (k (1) _ _ _ _ _ _ _ H O (cD25) (cN25) (cF25) (cA25) (pf25_2_0) (pf25_4_0) (pf25_6_0) (pf25_8_0) (m25_1) ((congrArg (fun q : Nat => (q : Int)) (eN25 3)).trans em25_1) (n5) ((congrArg (fun q : Nat => (q : Int)) (show N25 5 = N19 5 from (eN25 5))).trans ((congrArg (fun q : Nat => (q : Int)) (show N19 5 = N13 5 from (eN19 5))).trans ((congrArg (fun q : Nat => (q : Int)) (show N13 5 = N 5 from (eN13 5))).trans (en5)))) (n7) ((congrArg (fun q : Nat => (q : Int)) (show N25 7 = N19 7 from (eN25 7))).trans ((congrArg (fun q : Nat => (q : Int)) (show N19 7 = N13 7 from (eN19 7))).trans ((congrArg (fun q : Nat => (q : Int)) (show N13 7 = N 7 from (eN13 7))).trans (en7)))) (n9) ((congrArg (fun q : Nat => (q : Int)) (show N25 9 = N19 9 from (eN25 9))).trans ((congrArg (fun q : Nat => (q : Int)) (show N19 9 = N13 9 from (eN19 9))).trans ((congrArg (fun q : Nat => (q : Int)) (show N13 9 = N 9 from (eN13 9))).trans (en9)))) (y25_0_1) (((eF25 2 1).trans ey25_0_1)) (u4_1) (((((((show F25 4 1 = F19 4 1 from (eF25 4 1))).trans ((show F19 4 1 = F13 4 1 from (eF19 4 1)))).trans ((show F13 4 1 = F10 4 1 from (eF13 4 1)))).trans ((show F10 4 1 = F 4 1 from (eF10 4 1)))).trans (eu4_1))) (u6_1) (((((((show F25 6 1 = F19 6 1 from (eF25 6 1))).trans ((show F19 6 1 = F13 6 1 from (eF19 6 1)))).trans ((show F13 6 1 = F10 6 1 from (eF13 6 1)))).trans ((show F10 6 1 = F 6 1 from (eF10 6 1)))).trans (eu6_1))) (u8_1) (((((((show F25 8 1 = F19 8 1 from (eF25 8 1))).trans ((show F19 8 1 = F13 8 1 from (eF19 8 1)))).trans ((show F13 8 1 = F10 8 1 from (eF13 8 1)))).trans ((show F10 8 1 = F 8 1 from (eF10 8 1)))).trans (eu8_1))) (show (1) = 0 ∨ (1) = 1 by first | exact q_5 | omega) (show 0 ≤ (y25_0_1) ∧ (y25_0_1) ≤ (m25_1) ∧ (m25_1) ≤ 65536 from pz25_0) (show 0 ≤ (u4_1) ∧ (u4_1) ≤ (n5) ∧ (n5) ≤ 65536 from h7) (show 0 ≤ (u6_1) ∧ (u6_1) ≤ (n7) ∧ (n7) ≤ 65536 from h8) (show 0 ≤ (u8_1) ∧ (u8_1) ≤ (n9) ∧ (n9) ≤ 65536 from h9))
      · refine Ew_of (pcₚ := 22) (fun _ => x_iconst rfl) ?_
        exact w_ireturn rfl (k (0) _ _ _ _ _ _ _ H O (cD13) (cN13) (cF13) (cA13) (pf13_2_0) (pf13_4_0) (pf13_6_0) (pf13_8_0) (m13_1) ((congrArg (fun q : Nat => (q : Int)) (eN13 3)).trans em13_1) (n5) ((congrArg (fun q : Nat => (q : Int)) (show N13 5 = N 5 from (eN13 5))).trans (en5)) (n7) ((congrArg (fun q : Nat => (q : Int)) (show N13 7 = N 7 from (eN13 7))).trans (en7)) (n9) ((congrArg (fun q : Nat => (q : Int)) (show N13 9 = N 9 from (eN13 9))).trans (en9)) (u2_1) (((((show F13 2 1 = F10 2 1 from (eF13 2 1).trans (hS13 0 1 rfl))).trans ((show F10 2 1 = F 2 1 from (eF10 2 1)))).trans (eu2_1))) (u4_1) (((((show F13 4 1 = F10 4 1 from (eF13 4 1))).trans ((show F10 4 1 = F 4 1 from (eF10 4 1)))).trans (eu4_1))) (u6_1) (((((show F13 6 1 = F10 6 1 from (eF13 6 1))).trans ((show F10 6 1 = F 6 1 from (eF10 6 1)))).trans (eu6_1))) (u8_1) (((((show F13 8 1 = F10 8 1 from (eF13 8 1))).trans ((show F10 8 1 = F 8 1 from (eF10 8 1)))).trans (eu8_1))) (show (0) = 0 ∨ (0) = 1 by first | exact q_1 | omega) (show 0 ≤ (u2_1) ∧ (u2_1) ≤ (m13_1) ∧ (m13_1) ≤ 65536 from pz13_1) (show 0 ≤ (u4_1) ∧ (u4_1) ≤ (n5) ∧ (n5) ≤ 65536 from h7) (show 0 ≤ (u6_1) ∧ (u6_1) ≤ (n7) ∧ (n7) ≤ 65536 from h8) (show 0 ≤ (u8_1) ∧ (u8_1) ≤ (n9) ∧ (n9) ≤ 65536 from h9))
    · refine v_lR H (o := 1) rfl rfl rfl rfl rfl (n := n1) (en1) (show 0 ≤ a1 ∧ a1 < n1 from q_4226 (HIDe r5) b12 h5) (z := ((D 4 : Nat) : Int)) (v := .ref (D 4)) ((congrArg (A10 1) b12).trans ((mA10 1 rfl 1).trans (pf4))) (vrf rfl) ?_
      refine Ew_of (pcₚ := 15) (fun _ => x_bipush (z := 16) rfl (by decide)) ?_
      refine v_inv H (o := 4) rfl rfl rfl rfl rfl rfl (by rfl) (C157 (D := puc 2564 D) (N := puc 2564 N) (HW_subc H oz_R2cls_5 oz_R2cls_18) ((((show F10 4 0 = F 4 0 from (eF10 4 0)))).trans (pf5)) (n5) (en5) (u4_1) ((((show F10 4 1 = F 4 1 from (eF10 4 1))).trans (eu4_1))) (A 5) ((show A10 5 = A 5 from (eA10 5))) (show inr (16) from q_86) (show 0 ≤ (u4_1) ∧ (u4_1) ≤ (n5) ∧ (n5) ≤ 65536 from h7) (fun z28 σ28 D28ₚ N28ₚ F28ₚ A28ₚ c28 s28 Hₚ Oₚ hD28 hN28 hS28 hA28 (pm28_1 : HID _) m28_1 (em28_1 : HID _) w28_1 ew28_1 pz28_0 pz28_1 pz28_2 pz28_3 pz28_4 => ⟨rretB rfl pz28_0, ?_⟩))
      refine v_backMc (c := c) (s := s) H oz_R2cls_5 oz_R2cls_18 Hₚ Oₚ hD28 oz_R2cls_6 (fun D28 N28 F28 A28 H Oₚ eD28 eN28 eF28 eA28 => ?_)
      have O := OUT_trans O Oₚ
      -- Row.reserve
      have cF28 : SF oz_R2clsl_0 F F28 := SF_trans (cF10) (SF_gluc (ι := oz_R2clsl_4) oz_R2cls_18 hS28 eF28 (by decide +kernel)) (any_sub (lₚ := [(4, 0)]) (by decide +kernel))
      have mF28 := SFm_of cF28 oz_R2cls_14
      have cA28 : SA oz_R2clsl_1 A A28 := SA_trans (cA10) (SA_gluc (ι := oz_R2clsl_4) oz_R2cls_18 hA28 eA28 (by decide +kernel)) (any_subA (lₚ := [5]) (by decide +kernel))
      have mA28 := SAm_of cA28 oz_R2cls_15
      have cD28 : SD oz_R2clsl_1 D D28 := SD_trans (SD_refl) (SD_gluc (ι := oz_R2clsl_4) oz_R2cls_18 hD28 eD28 (by decide +kernel)) (any_subA (lₚ := [5]) (by decide +kernel))
      have mD28 := SDm_of cD28 oz_R2cls_15
      have cN28 : SD oz_R2clsl_1 N N28 := SD_trans (SD_refl) (SD_gluc (ι := oz_R2clsl_4) oz_R2cls_18 hN28 eN28 (by decide +kernel)) (any_subA (lₚ := [5]) (by decide +kernel))
      have mN28 := SDm_of cN28 oz_R2cls_15
      have pf28_2_0 : HID (F28 2 0 = (D28 3 : Int)) := ((show F28 2 0 = F10 2 0 from (eF28 2 0))).trans (((((show F10 2 0 = F 2 0 from (eF10 2 0)))).trans (pf3)).trans (congrArg (fun q : Nat => (q : Int)) ((show D28 3 = D 3 from (eD28 3))).symm))
      have pf28_4_0 : HID (F28 4 0 = (D28 5 : Int)) := (eF28 4 0).trans (pm28_1.trans (congrArg (fun q : Nat => (q : Int)) (eD28 5).symm))
      have pf28_6_0 : HID (F28 6 0 = (D28 7 : Int)) := ((show F28 6 0 = F10 6 0 from (eF28 6 0))).trans (((((show F10 6 0 = F 6 0 from (eF10 6 0)))).trans (pf7)).trans (congrArg (fun q : Nat => (q : Int)) ((show D28 7 = D 7 from (eD28 7))).symm))
      have pf28_8_0 : HID (F28 8 0 = (D28 9 : Int)) := ((show F28 8 0 = F10 8 0 from (eF28 8 0))).trans (((((show F10 8 0 = F 8 0 from (eF10 8 0)))).trans (pf9)).trans (congrArg (fun q : Nat => (q : Int)) ((show D28 9 = D 9 from (eD28 9))).symm))
      refine w_ifne (t := 23) rfl rfl (show inr (z28) from q_15 pz28_0) (fun b30 => ?_) (fun b30 => ?_)
      · refine Ew_of (pcₚ := 24) (fun _ => x_aload_n rfl rfl) ?_
        refine Ew_stk (congrArg (fun qz : Nat => ([.ref qz] : List Value)) (show D28 0 = D 0 from mD28 0 rfl).symm) ?_
        refine v_g H (o := 0) (v := .ref (D28 1)) rfl rfl rfl rfl rfl (vrf ((mF28 0 0 rfl).trans ((pf1).trans (congrArg (fun q : Nat => (q : Int)) (mD28 1 rfl).symm)))) ?_
        refine Ew_of (pcₚ := 28) (fun _ => x_iload_n rfl rfl) ?_
        refine v_lR H (o := 1) rfl rfl rfl rfl rfl (n := n1) ((congrArg (fun q : Nat => (q : Int)) (mN28 1 rfl)).trans (en1)) (show 0 ≤ a1 ∧ a1 < n1 from q_4226 (HIDe r5) b12 h5) (z := ((D28 4 : Nat) : Int)) (v := .ref (D28 4)) ((congrArg (A28 1) b12).trans ((mA28 1 rfl 1).trans ((pf4).trans (congrArg (fun q : Nat => (q : Int)) (mD28 4 rfl).symm)))) (vrf rfl) ?_
        refine Ew_of (pcₚ := 30) (fun _ => x_iload_n rfl rfl) ?_
        refine w_i2l rfl (show inr (a2) from h1) ?_
        refine Ew_of (pcₚ := 33) (fun _ => x_bipush (z := 32) rfl (by decide)) ?_
        refine w_lshlA rfl (fun z31 gz31 => ?_)
        refine Ew_of (pcₚ := 35) (fun _ => x_iload_n rfl rfl) ?_
        refine w_i2l rfl (show inr (a3) from h2) ?_
        refine Ew_of (pcₚ := 39) (fun _ => x_ldc2 (z := 4294967295) rfl (by decide)) ?_
        refine w_land rfl (show inrJ (a3) from q_428 h2) (show inrJ (4294967295) from q_50) (fun z32 gz32 gaz32 gbz32 => ?_)
        refine w_lorA rfl (fun z33 gz33 => ?_)
        refine Ew_of (pcₚ := 43) (fun _ => x_bipush (z := 8) rfl (by decide)) ?_
        refine w_stat24 rfl rfl (by rfl) (C28_Row (D := puc 2564 D28) (N := puc 2564 N28) (HW_subc H oz_R2cls_7 oz_R2cls_18) (pf28_4_0) (m28_1) ((congrArg (fun q : Nat => (q : Int)) (eN28 5)).trans em28_1) (u4_1) (((((show F28 4 1 = F10 4 1 from (eF28 4 1).trans (hS28 0 1 rfl))).trans ((show F10 4 1 = F 4 1 from (eF10 4 1)))).trans (eu4_1))) (show inrJ (z33) from gz33) (show inr (8) from q_96) (show 0 ≤ (u4_1) ∧ (u4_1) ≤ (m28_1) ∧ (m28_1) ≤ 65536 from pz28_1) (show (8) ≤ 8 from q_2389) (fun σ34 D34ₚ N34ₚ F34ₚ A34ₚ c34 s34 Hₚ Oₚ hD34 hN34 hS34 hA34 (pm34_1 : HID _) m34_1 (em34_1 : HID _) y34_0_1 (ey34_0_1 : HID _) pz34_0 => ⟨rfl, ?_⟩))
        refine v_backMc (c := (c + c28)) (s := (s + s28)) H oz_R2cls_7 oz_R2cls_18 Hₚ Oₚ hD34 oz_R2cls_6 (fun D34 N34 F34 A34 H Oₚ eD34 eN34 eF34 eA34 => ?_)
        have O := OUT_trans O Oₚ
        -- PackHouse.addHighestFirst
        have cF34 : SF oz_R2clsl_0 F F34 := SF_trans (cF28) (SF_gluc (ι := oz_R2clsl_4) oz_R2cls_18 hS34 eF34 (by decide +kernel)) (any_sub (lₚ := [(4, 0), (4, 1), (4, 2)]) (by decide +kernel))
        have mF34 := SFm_of cF34 oz_R2cls_14
        have cA34 : SA oz_R2clsl_1 A A34 := SA_trans (cA28) (SA_gluc (ι := oz_R2clsl_4) oz_R2cls_18 hA34 eA34 (by decide +kernel)) (any_subA (lₚ := [5]) (by decide +kernel))
        have mA34 := SAm_of cA34 oz_R2cls_15
        have cD34 : SD oz_R2clsl_1 D D34 := SD_trans (cD28) (SD_gluc (ι := oz_R2clsl_4) oz_R2cls_18 hD34 eD34 (by decide +kernel)) (any_subA (lₚ := [5]) (by decide +kernel))
        have mD34 := SDm_of cD34 oz_R2cls_15
        have cN34 : SD oz_R2clsl_1 N N34 := SD_trans (cN28) (SD_gluc (ι := oz_R2clsl_4) oz_R2cls_18 hN34 eN34 (by decide +kernel)) (any_subA (lₚ := [5]) (by decide +kernel))
        have mN34 := SDm_of cN34 oz_R2cls_15
        have pf34_2_0 : HID (F34 2 0 = (D34 3 : Int)) := ((show F34 2 0 = F28 2 0 from (eF34 2 0))).trans ((pf28_2_0).trans (congrArg (fun q : Nat => (q : Int)) ((show D34 3 = D28 3 from (eD34 3))).symm))
        have pf34_4_0 : HID (F34 4 0 = (D34 5 : Int)) := (eF34 4 0).trans (pm34_1.trans (congrArg (fun q : Nat => (q : Int)) (eD34 5).symm))
        have pf34_6_0 : HID (F34 6 0 = (D34 7 : Int)) := ((show F34 6 0 = F28 6 0 from (eF34 6 0))).trans ((pf28_6_0).trans (congrArg (fun q : Nat => (q : Int)) ((show D34 7 = D28 7 from (eD34 7))).symm))
        have pf34_8_0 : HID (F34 8 0 = (D34 9 : Int)) := ((show F34 8 0 = F28 8 0 from (eF34 8 0))).trans ((pf28_8_0).trans (congrArg (fun q : Nat => (q : Int)) ((show D34 9 = D28 9 from (eD34 9))).symm))
        refine Ew_of (pcₚ := 47) (fun _ => x_aload_n rfl rfl) ?_
        refine Ew_stk (congrArg (fun qz : Nat => ([.ref qz] : List Value)) (show D34 0 = D 0 from mD34 0 rfl).symm) ?_
        refine v_g H (o := 0) (v := .ref (D34 1)) rfl rfl rfl rfl rfl (vrf ((mF34 0 0 rfl).trans ((pf1).trans (congrArg (fun q : Nat => (q : Int)) (mD34 1 rfl).symm)))) ?_
        refine Ew_of (pcₚ := 51) (fun _ => x_iload_n rfl rfl) ?_
        refine v_lR H (o := 1) rfl rfl rfl rfl rfl (n := n1) ((congrArg (fun q : Nat => (q : Int)) (mN34 1 rfl)).trans (en1)) (show 0 ≤ a1 ∧ a1 < n1 from q_4226 (HIDe r5) b12 h5) (z := ((D34 4 : Nat) : Int)) (v := .ref (D34 4)) ((congrArg (A34 1) b12).trans ((mA34 1 rfl 1).trans ((pf4).trans (congrArg (fun q : Nat => (q : Int)) (mD34 4 rfl).symm)))) (vrf rfl) ?_
        refine Ew_of (pcₚ := 54) (fun _ => x_iload rfl rfl) ?_
        refine w_i2l rfl (show inr (a4) from h3) ?_
        refine Ew_of (pcₚ := 57) (fun _ => x_bipush (z := 32) rfl (by decide)) ?_
        refine w_lshlA rfl (fun z37 gz37 => ?_)
        refine Ew_of (pcₚ := 60) (fun _ => x_iload rfl rfl) ?_
        refine w_i2l rfl (show inr (a5) from h4) ?_
        refine Ew_of (pcₚ := 64) (fun _ => x_ldc2 (z := 4294967295) rfl (by decide)) ?_
        refine w_land rfl (show inrJ (a5) from q_428 h4) (show inrJ (4294967295) from q_50) (fun z38 gz38 gaz38 gbz38 => ?_)
        refine w_lorA rfl (fun z39 gz39 => ?_)
        refine Ew_of (pcₚ := 68) (fun _ => x_bipush (z := 8) rfl (by decide)) ?_
        refine w_stat24 rfl rfl (by rfl) (C28_Row (D := puc 2564 D34) (N := puc 2564 N34) (HW_subc H oz_R2cls_7 oz_R2cls_18) (pf34_4_0) (m34_1) ((congrArg (fun q : Nat => (q : Int)) (eN34 5)).trans em34_1) (y34_0_1) (((eF34 4 1).trans ey34_0_1)) (show inrJ (z39) from gz39) (show inr (8) from q_96) (show 0 ≤ (y34_0_1) ∧ (y34_0_1) ≤ (m34_1) ∧ (m34_1) ≤ 65536 from pz34_0) (show (8) ≤ 8 from q_2389) (fun σ40 D40ₚ N40ₚ F40ₚ A40ₚ c40 s40 Hₚ Oₚ hD40 hN40 hS40 hA40 (pm40_1 : HID _) m40_1 (em40_1 : HID _) y40_0_1 (ey40_0_1 : HID _) pz40_0 => ⟨rfl, ?_⟩))
        refine v_backMc (c := ((c + c28) + c34)) (s := ((s + s28) + s34)) H oz_R2cls_7 oz_R2cls_18 Hₚ Oₚ hD40 oz_R2cls_6 (fun D40 N40 F40 A40 H Oₚ eD40 eN40 eF40 eA40 => ?_)
        have O := OUT_trans O Oₚ
        -- PackHouse.addHighestFirst
        have cF40 : SF oz_R2clsl_0 F F40 := SF_trans (cF34) (SF_gluc (ι := oz_R2clsl_4) oz_R2cls_18 hS40 eF40 (by decide +kernel)) (any_sub (lₚ := [(4, 0), (4, 1), (4, 2)]) (by decide +kernel))
        have mF40 := SFm_of cF40 oz_R2cls_14
        have cA40 : SA oz_R2clsl_1 A A40 := SA_trans (cA34) (SA_gluc (ι := oz_R2clsl_4) oz_R2cls_18 hA40 eA40 (by decide +kernel)) (any_subA (lₚ := [5]) (by decide +kernel))
        have mA40 := SAm_of cA40 oz_R2cls_15
        have cD40 : SD oz_R2clsl_1 D D40 := SD_trans (cD34) (SD_gluc (ι := oz_R2clsl_4) oz_R2cls_18 hD40 eD40 (by decide +kernel)) (any_subA (lₚ := [5]) (by decide +kernel))
        have mD40 := SDm_of cD40 oz_R2cls_15
        have cN40 : SD oz_R2clsl_1 N N40 := SD_trans (cN34) (SD_gluc (ι := oz_R2clsl_4) oz_R2cls_18 hN40 eN40 (by decide +kernel)) (any_subA (lₚ := [5]) (by decide +kernel))
        have mN40 := SDm_of cN40 oz_R2cls_15
        have pf40_2_0 : HID (F40 2 0 = (D40 3 : Int)) := ((show F40 2 0 = F34 2 0 from (eF40 2 0))).trans ((pf34_2_0).trans (congrArg (fun q : Nat => (q : Int)) ((show D40 3 = D34 3 from (eD40 3))).symm))
        have pf40_4_0 : HID (F40 4 0 = (D40 5 : Int)) := (eF40 4 0).trans (pm40_1.trans (congrArg (fun q : Nat => (q : Int)) (eD40 5).symm))
        have pf40_6_0 : HID (F40 6 0 = (D40 7 : Int)) := ((show F40 6 0 = F34 6 0 from (eF40 6 0))).trans ((pf34_6_0).trans (congrArg (fun q : Nat => (q : Int)) ((show D40 7 = D34 7 from (eD40 7))).symm))
        have pf40_8_0 : HID (F40 8 0 = (D40 9 : Int)) := ((show F40 8 0 = F34 8 0 from (eF40 8 0))).trans ((pf34_8_0).trans (congrArg (fun q : Nat => (q : Int)) ((show D40 9 = D34 9 from (eD40 9))).symm))
        refine Ew_of (pcₚ := 72) (fun _ => x_iconst rfl) ?_
        exact w_ireturn rfl (k (1) _ _ _ _ _ _ _ H O (cD40) (cN40) (cF40) (cA40) (pf40_2_0) (pf40_4_0) (pf40_6_0) (pf40_8_0) (n3) ((congrArg (fun q : Nat => (q : Int)) (show N40 3 = N34 3 from (eN40 3))).trans ((congrArg (fun q : Nat => (q : Int)) (show N34 3 = N28 3 from (eN34 3))).trans ((congrArg (fun q : Nat => (q : Int)) (show N28 3 = N 3 from (eN28 3))).trans (en3)))) (m40_1) ((congrArg (fun q : Nat => (q : Int)) (eN40 5)).trans em40_1) (n7) ((congrArg (fun q : Nat => (q : Int)) (show N40 7 = N34 7 from (eN40 7))).trans ((congrArg (fun q : Nat => (q : Int)) (show N34 7 = N28 7 from (eN34 7))).trans ((congrArg (fun q : Nat => (q : Int)) (show N28 7 = N 7 from (eN28 7))).trans (en7)))) (n9) ((congrArg (fun q : Nat => (q : Int)) (show N40 9 = N34 9 from (eN40 9))).trans ((congrArg (fun q : Nat => (q : Int)) (show N34 9 = N28 9 from (eN34 9))).trans ((congrArg (fun q : Nat => (q : Int)) (show N28 9 = N 9 from (eN28 9))).trans (en9)))) (u2_1) (((((((show F40 2 1 = F34 2 1 from (eF40 2 1))).trans ((show F34 2 1 = F28 2 1 from (eF34 2 1)))).trans ((show F28 2 1 = F10 2 1 from (eF28 2 1)))).trans ((show F10 2 1 = F 2 1 from (eF10 2 1)))).trans (eu2_1))) (y40_0_1) (((eF40 4 1).trans ey40_0_1)) (u6_1) (((((((show F40 6 1 = F34 6 1 from (eF40 6 1))).trans ((show F34 6 1 = F28 6 1 from (eF34 6 1)))).trans ((show F28 6 1 = F10 6 1 from (eF28 6 1)))).trans ((show F10 6 1 = F 6 1 from (eF10 6 1)))).trans (eu6_1))) (u8_1) (((((((show F40 8 1 = F34 8 1 from (eF40 8 1))).trans ((show F34 8 1 = F28 8 1 from (eF34 8 1)))).trans ((show F28 8 1 = F10 8 1 from (eF28 8 1)))).trans ((show F10 8 1 = F 8 1 from (eF10 8 1)))).trans (eu8_1))) (show (1) = 0 ∨ (1) = 1 by first | exact q_5 | omega) (show 0 ≤ (u2_1) ∧ (u2_1) ≤ (n3) ∧ (n3) ≤ 65536 from h6) (show 0 ≤ (y40_0_1) ∧ (y40_0_1) ≤ (m40_1) ∧ (m40_1) ≤ 65536 from pz40_0) (show 0 ≤ (u6_1) ∧ (u6_1) ≤ (n7) ∧ (n7) ≤ 65536 from h8) (show 0 ≤ (u8_1) ∧ (u8_1) ≤ (n9) ∧ (n9) ≤ 65536 from h9))
      · refine Ew_of (pcₚ := 22) (fun _ => x_iconst rfl) ?_
        exact w_ireturn rfl (k (0) _ _ _ _ _ _ _ H O (cD28) (cN28) (cF28) (cA28) (pf28_2_0) (pf28_4_0) (pf28_6_0) (pf28_8_0) (n3) ((congrArg (fun q : Nat => (q : Int)) (show N28 3 = N 3 from (eN28 3))).trans (en3)) (m28_1) ((congrArg (fun q : Nat => (q : Int)) (eN28 5)).trans em28_1) (n7) ((congrArg (fun q : Nat => (q : Int)) (show N28 7 = N 7 from (eN28 7))).trans (en7)) (n9) ((congrArg (fun q : Nat => (q : Int)) (show N28 9 = N 9 from (eN28 9))).trans (en9)) (u2_1) (((((show F28 2 1 = F10 2 1 from (eF28 2 1))).trans ((show F10 2 1 = F 2 1 from (eF10 2 1)))).trans (eu2_1))) (u4_1) (((((show F28 4 1 = F10 4 1 from (eF28 4 1).trans (hS28 0 1 rfl))).trans ((show F10 4 1 = F 4 1 from (eF10 4 1)))).trans (eu4_1))) (u6_1) (((((show F28 6 1 = F10 6 1 from (eF28 6 1))).trans ((show F10 6 1 = F 6 1 from (eF10 6 1)))).trans (eu6_1))) (u8_1) (((((show F28 8 1 = F10 8 1 from (eF28 8 1))).trans ((show F10 8 1 = F 8 1 from (eF10 8 1)))).trans (eu8_1))) (show (0) = 0 ∨ (0) = 1 by first | exact q_1 | omega) (show 0 ≤ (u2_1) ∧ (u2_1) ≤ (n3) ∧ (n3) ≤ 65536 from h6) (show 0 ≤ (u4_1) ∧ (u4_1) ≤ (m28_1) ∧ (m28_1) ≤ 65536 from pz28_1) (show 0 ≤ (u6_1) ∧ (u6_1) ≤ (n7) ∧ (n7) ≤ 65536 from h8) (show 0 ≤ (u8_1) ∧ (u8_1) ≤ (n9) ∧ (n9) ≤ 65536 from h9))
    · refine v_lR H (o := 1) rfl rfl rfl rfl rfl (n := n1) (en1) (show 0 ≤ a1 ∧ a1 < n1 from q_4227 (HIDe r5) b12 h5) (z := ((D 6 : Nat) : Int)) (v := .ref (D 6)) ((congrArg (A10 1) b12).trans ((mA10 1 rfl 2).trans (pf6))) (vrf rfl) ?_
      refine Ew_of (pcₚ := 15) (fun _ => x_bipush (z := 16) rfl (by decide)) ?_
      refine v_inv H (o := 6) rfl rfl rfl rfl rfl rfl (by rfl) (C157 (D := puc 3590 D) (N := puc 3590 N) (HW_subc H oz_R2cls_8 oz_R2cls_19) ((((show F10 6 0 = F 6 0 from (eF10 6 0)))).trans (pf7)) (n7) (en7) (u6_1) ((((show F10 6 1 = F 6 1 from (eF10 6 1))).trans (eu6_1))) (A 7) ((show A10 7 = A 7 from (eA10 7))) (show inr (16) from q_86) (show 0 ≤ (u6_1) ∧ (u6_1) ≤ (n7) ∧ (n7) ≤ 65536 from h8) (fun z43 σ43 D43ₚ N43ₚ F43ₚ A43ₚ c43 s43 Hₚ Oₚ hD43 hN43 hS43 hA43 (pm43_1 : HID _) m43_1 (em43_1 : HID _) w43_1 ew43_1 pz43_0 pz43_1 pz43_2 pz43_3 pz43_4 => ⟨rretB rfl pz43_0, ?_⟩))
      refine v_backMc (c := c) (s := s) H oz_R2cls_8 oz_R2cls_19 Hₚ Oₚ hD43 oz_R2cls_9 (fun D43 N43 F43 A43 H Oₚ eD43 eN43 eF43 eA43 => ?_)
      have O := OUT_trans O Oₚ
      -- Row.reserve
      have cF43 : SF oz_R2clsl_0 F F43 := SF_trans (cF10) (SF_gluc (ι := oz_R2clsl_5) oz_R2cls_19 hS43 eF43 (by decide +kernel)) (any_sub (lₚ := [(6, 0)]) (by decide +kernel))
      have mF43 := SFm_of cF43 oz_R2cls_14
      have cA43 : SA oz_R2clsl_1 A A43 := SA_trans (cA10) (SA_gluc (ι := oz_R2clsl_5) oz_R2cls_19 hA43 eA43 (by decide +kernel)) (any_subA (lₚ := [7]) (by decide +kernel))
      have mA43 := SAm_of cA43 oz_R2cls_15
      have cD43 : SD oz_R2clsl_1 D D43 := SD_trans (SD_refl) (SD_gluc (ι := oz_R2clsl_5) oz_R2cls_19 hD43 eD43 (by decide +kernel)) (any_subA (lₚ := [7]) (by decide +kernel))
      have mD43 := SDm_of cD43 oz_R2cls_15
      have cN43 : SD oz_R2clsl_1 N N43 := SD_trans (SD_refl) (SD_gluc (ι := oz_R2clsl_5) oz_R2cls_19 hN43 eN43 (by decide +kernel)) (any_subA (lₚ := [7]) (by decide +kernel))
      have mN43 := SDm_of cN43 oz_R2cls_15
      have pf43_2_0 : HID (F43 2 0 = (D43 3 : Int)) := ((show F43 2 0 = F10 2 0 from (eF43 2 0))).trans (((((show F10 2 0 = F 2 0 from (eF10 2 0)))).trans (pf3)).trans (congrArg (fun q : Nat => (q : Int)) ((show D43 3 = D 3 from (eD43 3))).symm))
      have pf43_4_0 : HID (F43 4 0 = (D43 5 : Int)) := ((show F43 4 0 = F10 4 0 from (eF43 4 0))).trans (((((show F10 4 0 = F 4 0 from (eF10 4 0)))).trans (pf5)).trans (congrArg (fun q : Nat => (q : Int)) ((show D43 5 = D 5 from (eD43 5))).symm))
      have pf43_6_0 : HID (F43 6 0 = (D43 7 : Int)) := (eF43 6 0).trans (pm43_1.trans (congrArg (fun q : Nat => (q : Int)) (eD43 7).symm))
      have pf43_8_0 : HID (F43 8 0 = (D43 9 : Int)) := ((show F43 8 0 = F10 8 0 from (eF43 8 0))).trans (((((show F10 8 0 = F 8 0 from (eF10 8 0)))).trans (pf9)).trans (congrArg (fun q : Nat => (q : Int)) ((show D43 9 = D 9 from (eD43 9))).symm))
      refine w_ifne (t := 23) rfl rfl (show inr (z43) from q_15 pz43_0) (fun b45 => ?_) (fun b45 => ?_)
      · refine Ew_of (pcₚ := 24) (fun _ => x_aload_n rfl rfl) ?_
        refine Ew_stk (congrArg (fun qz : Nat => ([.ref qz] : List Value)) (show D43 0 = D 0 from mD43 0 rfl).symm) ?_
        refine v_g H (o := 0) (v := .ref (D43 1)) rfl rfl rfl rfl rfl (vrf ((mF43 0 0 rfl).trans ((pf1).trans (congrArg (fun q : Nat => (q : Int)) (mD43 1 rfl).symm)))) ?_
        refine Ew_of (pcₚ := 28) (fun _ => x_iload_n rfl rfl) ?_
        refine v_lR H (o := 1) rfl rfl rfl rfl rfl (n := n1) ((congrArg (fun q : Nat => (q : Int)) (mN43 1 rfl)).trans (en1)) (show 0 ≤ a1 ∧ a1 < n1 from q_4227 (HIDe r5) b12 h5) (z := ((D43 6 : Nat) : Int)) (v := .ref (D43 6)) ((congrArg (A43 1) b12).trans ((mA43 1 rfl 2).trans ((pf6).trans (congrArg (fun q : Nat => (q : Int)) (mD43 6 rfl).symm)))) (vrf rfl) ?_
        refine Ew_of (pcₚ := 30) (fun _ => x_iload_n rfl rfl) ?_
        refine w_i2l rfl (show inr (a2) from h1) ?_
        refine Ew_of (pcₚ := 33) (fun _ => x_bipush (z := 32) rfl (by decide)) ?_
        refine w_lshlA rfl (fun z46 gz46 => ?_)
        refine Ew_of (pcₚ := 35) (fun _ => x_iload_n rfl rfl) ?_
        refine w_i2l rfl (show inr (a3) from h2) ?_
        refine Ew_of (pcₚ := 39) (fun _ => x_ldc2 (z := 4294967295) rfl (by decide)) ?_
        refine w_land rfl (show inrJ (a3) from q_428 h2) (show inrJ (4294967295) from q_50) (fun z47 gz47 gaz47 gbz47 => ?_)
        refine w_lorA rfl (fun z48 gz48 => ?_)
        refine Ew_of (pcₚ := 43) (fun _ => x_bipush (z := 8) rfl (by decide)) ?_
        refine w_stat24 rfl rfl (by rfl) (C28_Row (D := puc 3590 D43) (N := puc 3590 N43) (HW_subc H oz_R2cls_10 oz_R2cls_19) (pf43_6_0) (m43_1) ((congrArg (fun q : Nat => (q : Int)) (eN43 7)).trans em43_1) (u6_1) (((((show F43 6 1 = F10 6 1 from (eF43 6 1).trans (hS43 0 1 rfl))).trans ((show F10 6 1 = F 6 1 from (eF10 6 1)))).trans (eu6_1))) (show inrJ (z48) from gz48) (show inr (8) from q_96) (show 0 ≤ (u6_1) ∧ (u6_1) ≤ (m43_1) ∧ (m43_1) ≤ 65536 from pz43_1) (show (8) ≤ 8 from q_2389) (fun σ49 D49ₚ N49ₚ F49ₚ A49ₚ c49 s49 Hₚ Oₚ hD49 hN49 hS49 hA49 (pm49_1 : HID _) m49_1 (em49_1 : HID _) y49_0_1 (ey49_0_1 : HID _) pz49_0 => ⟨rfl, ?_⟩))
        refine v_backMc (c := (c + c43)) (s := (s + s43)) H oz_R2cls_10 oz_R2cls_19 Hₚ Oₚ hD49 oz_R2cls_9 (fun D49 N49 F49 A49 H Oₚ eD49 eN49 eF49 eA49 => ?_)
        have O := OUT_trans O Oₚ
        -- PackHouse.addHighestFirst
        have cF49 : SF oz_R2clsl_0 F F49 := SF_trans (cF43) (SF_gluc (ι := oz_R2clsl_5) oz_R2cls_19 hS49 eF49 (by decide +kernel)) (any_sub (lₚ := [(6, 0), (6, 1), (6, 2)]) (by decide +kernel))
        have mF49 := SFm_of cF49 oz_R2cls_14
        have cA49 : SA oz_R2clsl_1 A A49 := SA_trans (cA43) (SA_gluc (ι := oz_R2clsl_5) oz_R2cls_19 hA49 eA49 (by decide +kernel)) (any_subA (lₚ := [7]) (by decide +kernel))
        have mA49 := SAm_of cA49 oz_R2cls_15
        have cD49 : SD oz_R2clsl_1 D D49 := SD_trans (cD43) (SD_gluc (ι := oz_R2clsl_5) oz_R2cls_19 hD49 eD49 (by decide +kernel)) (any_subA (lₚ := [7]) (by decide +kernel))
        have mD49 := SDm_of cD49 oz_R2cls_15
        have cN49 : SD oz_R2clsl_1 N N49 := SD_trans (cN43) (SD_gluc (ι := oz_R2clsl_5) oz_R2cls_19 hN49 eN49 (by decide +kernel)) (any_subA (lₚ := [7]) (by decide +kernel))
        have mN49 := SDm_of cN49 oz_R2cls_15
        have pf49_2_0 : HID (F49 2 0 = (D49 3 : Int)) := ((show F49 2 0 = F43 2 0 from (eF49 2 0))).trans ((pf43_2_0).trans (congrArg (fun q : Nat => (q : Int)) ((show D49 3 = D43 3 from (eD49 3))).symm))
        have pf49_4_0 : HID (F49 4 0 = (D49 5 : Int)) := ((show F49 4 0 = F43 4 0 from (eF49 4 0))).trans ((pf43_4_0).trans (congrArg (fun q : Nat => (q : Int)) ((show D49 5 = D43 5 from (eD49 5))).symm))
        have pf49_6_0 : HID (F49 6 0 = (D49 7 : Int)) := (eF49 6 0).trans (pm49_1.trans (congrArg (fun q : Nat => (q : Int)) (eD49 7).symm))
        have pf49_8_0 : HID (F49 8 0 = (D49 9 : Int)) := ((show F49 8 0 = F43 8 0 from (eF49 8 0))).trans ((pf43_8_0).trans (congrArg (fun q : Nat => (q : Int)) ((show D49 9 = D43 9 from (eD49 9))).symm))
        refine Ew_of (pcₚ := 47) (fun _ => x_aload_n rfl rfl) ?_
        refine Ew_stk (congrArg (fun qz : Nat => ([.ref qz] : List Value)) (show D49 0 = D 0 from mD49 0 rfl).symm) ?_
        refine v_g H (o := 0) (v := .ref (D49 1)) rfl rfl rfl rfl rfl (vrf ((mF49 0 0 rfl).trans ((pf1).trans (congrArg (fun q : Nat => (q : Int)) (mD49 1 rfl).symm)))) ?_
        refine Ew_of (pcₚ := 51) (fun _ => x_iload_n rfl rfl) ?_
        refine v_lR H (o := 1) rfl rfl rfl rfl rfl (n := n1) ((congrArg (fun q : Nat => (q : Int)) (mN49 1 rfl)).trans (en1)) (show 0 ≤ a1 ∧ a1 < n1 from q_4227 (HIDe r5) b12 h5) (z := ((D49 6 : Nat) : Int)) (v := .ref (D49 6)) ((congrArg (A49 1) b12).trans ((mA49 1 rfl 2).trans ((pf6).trans (congrArg (fun q : Nat => (q : Int)) (mD49 6 rfl).symm)))) (vrf rfl) ?_
        refine Ew_of (pcₚ := 54) (fun _ => x_iload rfl rfl) ?_
        refine w_i2l rfl (show inr (a4) from h3) ?_
        refine Ew_of (pcₚ := 57) (fun _ => x_bipush (z := 32) rfl (by decide)) ?_
        refine w_lshlA rfl (fun z52 gz52 => ?_)
        refine Ew_of (pcₚ := 60) (fun _ => x_iload rfl rfl) ?_
        refine w_i2l rfl (show inr (a5) from h4) ?_
        refine Ew_of (pcₚ := 64) (fun _ => x_ldc2 (z := 4294967295) rfl (by decide)) ?_
        refine w_land rfl (show inrJ (a5) from q_428 h4) (show inrJ (4294967295) from q_50) (fun z53 gz53 gaz53 gbz53 => ?_)
        refine w_lorA rfl (fun z54 gz54 => ?_)
        refine Ew_of (pcₚ := 68) (fun _ => x_bipush (z := 8) rfl (by decide)) ?_
        refine w_stat24 rfl rfl (by rfl) (C28_Row (D := puc 3590 D49) (N := puc 3590 N49) (HW_subc H oz_R2cls_10 oz_R2cls_19) (pf49_6_0) (m49_1) ((congrArg (fun q : Nat => (q : Int)) (eN49 7)).trans em49_1) (y49_0_1) (((eF49 6 1).trans ey49_0_1)) (show inrJ (z54) from gz54) (show inr (8) from q_96) (show 0 ≤ (y49_0_1) ∧ (y49_0_1) ≤ (m49_1) ∧ (m49_1) ≤ 65536 from pz49_0) (show (8) ≤ 8 from q_2389) (fun σ55 D55ₚ N55ₚ F55ₚ A55ₚ c55 s55 Hₚ Oₚ hD55 hN55 hS55 hA55 (pm55_1 : HID _) m55_1 (em55_1 : HID _) y55_0_1 (ey55_0_1 : HID _) pz55_0 => ⟨rfl, ?_⟩))
        refine v_backMc (c := ((c + c43) + c49)) (s := ((s + s43) + s49)) H oz_R2cls_10 oz_R2cls_19 Hₚ Oₚ hD55 oz_R2cls_9 (fun D55 N55 F55 A55 H Oₚ eD55 eN55 eF55 eA55 => ?_)
        have O := OUT_trans O Oₚ
        -- PackHouse.addHighestFirst
        have cF55 : SF oz_R2clsl_0 F F55 := SF_trans (cF49) (SF_gluc (ι := oz_R2clsl_5) oz_R2cls_19 hS55 eF55 (by decide +kernel)) (any_sub (lₚ := [(6, 0), (6, 1), (6, 2)]) (by decide +kernel))
        have mF55 := SFm_of cF55 oz_R2cls_14
        have cA55 : SA oz_R2clsl_1 A A55 := SA_trans (cA49) (SA_gluc (ι := oz_R2clsl_5) oz_R2cls_19 hA55 eA55 (by decide +kernel)) (any_subA (lₚ := [7]) (by decide +kernel))
        have mA55 := SAm_of cA55 oz_R2cls_15
        have cD55 : SD oz_R2clsl_1 D D55 := SD_trans (cD49) (SD_gluc (ι := oz_R2clsl_5) oz_R2cls_19 hD55 eD55 (by decide +kernel)) (any_subA (lₚ := [7]) (by decide +kernel))
        have mD55 := SDm_of cD55 oz_R2cls_15
        have cN55 : SD oz_R2clsl_1 N N55 := SD_trans (cN49) (SD_gluc (ι := oz_R2clsl_5) oz_R2cls_19 hN55 eN55 (by decide +kernel)) (any_subA (lₚ := [7]) (by decide +kernel))
        have mN55 := SDm_of cN55 oz_R2cls_15
        have pf55_2_0 : HID (F55 2 0 = (D55 3 : Int)) := ((show F55 2 0 = F49 2 0 from (eF55 2 0))).trans ((pf49_2_0).trans (congrArg (fun q : Nat => (q : Int)) ((show D55 3 = D49 3 from (eD55 3))).symm))
        have pf55_4_0 : HID (F55 4 0 = (D55 5 : Int)) := ((show F55 4 0 = F49 4 0 from (eF55 4 0))).trans ((pf49_4_0).trans (congrArg (fun q : Nat => (q : Int)) ((show D55 5 = D49 5 from (eD55 5))).symm))
        have pf55_6_0 : HID (F55 6 0 = (D55 7 : Int)) := (eF55 6 0).trans (pm55_1.trans (congrArg (fun q : Nat => (q : Int)) (eD55 7).symm))
        have pf55_8_0 : HID (F55 8 0 = (D55 9 : Int)) := ((show F55 8 0 = F49 8 0 from (eF55 8 0))).trans ((pf49_8_0).trans (congrArg (fun q : Nat => (q : Int)) ((show D55 9 = D49 9 from (eD55 9))).symm))
        refine Ew_of (pcₚ := 72) (fun _ => x_iconst rfl) ?_
        exact w_ireturn rfl (k (1) _ _ _ _ _ _ _ H O (cD55) (cN55) (cF55) (cA55) (pf55_2_0) (pf55_4_0) (pf55_6_0) (pf55_8_0) (n3) ((congrArg (fun q : Nat => (q : Int)) (show N55 3 = N49 3 from (eN55 3))).trans ((congrArg (fun q : Nat => (q : Int)) (show N49 3 = N43 3 from (eN49 3))).trans ((congrArg (fun q : Nat => (q : Int)) (show N43 3 = N 3 from (eN43 3))).trans (en3)))) (n5) ((congrArg (fun q : Nat => (q : Int)) (show N55 5 = N49 5 from (eN55 5))).trans ((congrArg (fun q : Nat => (q : Int)) (show N49 5 = N43 5 from (eN49 5))).trans ((congrArg (fun q : Nat => (q : Int)) (show N43 5 = N 5 from (eN43 5))).trans (en5)))) (m55_1) ((congrArg (fun q : Nat => (q : Int)) (eN55 7)).trans em55_1) (n9) ((congrArg (fun q : Nat => (q : Int)) (show N55 9 = N49 9 from (eN55 9))).trans ((congrArg (fun q : Nat => (q : Int)) (show N49 9 = N43 9 from (eN49 9))).trans ((congrArg (fun q : Nat => (q : Int)) (show N43 9 = N 9 from (eN43 9))).trans (en9)))) (u2_1) (((((((show F55 2 1 = F49 2 1 from (eF55 2 1))).trans ((show F49 2 1 = F43 2 1 from (eF49 2 1)))).trans ((show F43 2 1 = F10 2 1 from (eF43 2 1)))).trans ((show F10 2 1 = F 2 1 from (eF10 2 1)))).trans (eu2_1))) (u4_1) (((((((show F55 4 1 = F49 4 1 from (eF55 4 1))).trans ((show F49 4 1 = F43 4 1 from (eF49 4 1)))).trans ((show F43 4 1 = F10 4 1 from (eF43 4 1)))).trans ((show F10 4 1 = F 4 1 from (eF10 4 1)))).trans (eu4_1))) (y55_0_1) (((eF55 6 1).trans ey55_0_1)) (u8_1) (((((((show F55 8 1 = F49 8 1 from (eF55 8 1))).trans ((show F49 8 1 = F43 8 1 from (eF49 8 1)))).trans ((show F43 8 1 = F10 8 1 from (eF43 8 1)))).trans ((show F10 8 1 = F 8 1 from (eF10 8 1)))).trans (eu8_1))) (show (1) = 0 ∨ (1) = 1 by first | exact q_5 | omega) (show 0 ≤ (u2_1) ∧ (u2_1) ≤ (n3) ∧ (n3) ≤ 65536 from h6) (show 0 ≤ (u4_1) ∧ (u4_1) ≤ (n5) ∧ (n5) ≤ 65536 from h7) (show 0 ≤ (y55_0_1) ∧ (y55_0_1) ≤ (m55_1) ∧ (m55_1) ≤ 65536 from pz55_0) (show 0 ≤ (u8_1) ∧ (u8_1) ≤ (n9) ∧ (n9) ≤ 65536 from h9))
      · refine Ew_of (pcₚ := 22) (fun _ => x_iconst rfl) ?_
        exact w_ireturn rfl (k (0) _ _ _ _ _ _ _ H O (cD43) (cN43) (cF43) (cA43) (pf43_2_0) (pf43_4_0) (pf43_6_0) (pf43_8_0) (n3) ((congrArg (fun q : Nat => (q : Int)) (show N43 3 = N 3 from (eN43 3))).trans (en3)) (n5) ((congrArg (fun q : Nat => (q : Int)) (show N43 5 = N 5 from (eN43 5))).trans (en5)) (m43_1) ((congrArg (fun q : Nat => (q : Int)) (eN43 7)).trans em43_1) (n9) ((congrArg (fun q : Nat => (q : Int)) (show N43 9 = N 9 from (eN43 9))).trans (en9)) (u2_1) (((((show F43 2 1 = F10 2 1 from (eF43 2 1))).trans ((show F10 2 1 = F 2 1 from (eF10 2 1)))).trans (eu2_1))) (u4_1) (((((show F43 4 1 = F10 4 1 from (eF43 4 1))).trans ((show F10 4 1 = F 4 1 from (eF10 4 1)))).trans (eu4_1))) (u6_1) (((((show F43 6 1 = F10 6 1 from (eF43 6 1).trans (hS43 0 1 rfl))).trans ((show F10 6 1 = F 6 1 from (eF10 6 1)))).trans (eu6_1))) (u8_1) (((((show F43 8 1 = F10 8 1 from (eF43 8 1))).trans ((show F10 8 1 = F 8 1 from (eF10 8 1)))).trans (eu8_1))) (show (0) = 0 ∨ (0) = 1 by first | exact q_1 | omega) (show 0 ≤ (u2_1) ∧ (u2_1) ≤ (n3) ∧ (n3) ≤ 65536 from h6) (show 0 ≤ (u4_1) ∧ (u4_1) ≤ (n5) ∧ (n5) ≤ 65536 from h7) (show 0 ≤ (u6_1) ∧ (u6_1) ≤ (m43_1) ∧ (m43_1) ≤ 65536 from pz43_1) (show 0 ≤ (u8_1) ∧ (u8_1) ≤ (n9) ∧ (n9) ≤ 65536 from h9))
    · refine v_lR H (o := 1) rfl rfl rfl rfl rfl (n := n1) (en1) (show 0 ≤ a1 ∧ a1 < n1 from q_4228 b12 h5) (z := ((D 8 : Nat) : Int)) (v := .ref (D 8)) ((congrArg (A10 1) b12).trans ((mA10 1 rfl 3).trans (pf8))) (vrf rfl) ?_
      refine Ew_of (pcₚ := 15) (fun _ => x_bipush (z := 16) rfl (by decide)) ?_
      refine v_inv H (o := 8) rfl rfl rfl rfl rfl rfl (by rfl) (C157 (D := puc 4616 D) (N := puc 4616 N) (HW_subc H oz_R2cls_11 oz_R2cls_20) ((((show F10 8 0 = F 8 0 from (eF10 8 0)))).trans (pf9)) (n9) (en9) (u8_1) ((((show F10 8 1 = F 8 1 from (eF10 8 1))).trans (eu8_1))) (A 9) ((show A10 9 = A 9 from (eA10 9))) (show inr (16) from q_86) (show 0 ≤ (u8_1) ∧ (u8_1) ≤ (n9) ∧ (n9) ≤ 65536 from h9) (fun z58 σ58 D58ₚ N58ₚ F58ₚ A58ₚ c58 s58 Hₚ Oₚ hD58 hN58 hS58 hA58 (pm58_1 : HID _) m58_1 (em58_1 : HID _) w58_1 ew58_1 pz58_0 pz58_1 pz58_2 pz58_3 pz58_4 => ⟨rretB rfl pz58_0, ?_⟩))
      refine v_backMc (c := c) (s := s) H oz_R2cls_11 oz_R2cls_20 Hₚ Oₚ hD58 oz_R2cls_12 (fun D58 N58 F58 A58 H Oₚ eD58 eN58 eF58 eA58 => ?_)
      have O := OUT_trans O Oₚ
      -- Row.reserve
      have cF58 : SF oz_R2clsl_0 F F58 := SF_trans (cF10) (SF_gluc (ι := oz_R2clsl_6) oz_R2cls_20 hS58 eF58 (by decide +kernel)) (any_sub (lₚ := [(8, 0)]) (by decide +kernel))
      have mF58 := SFm_of cF58 oz_R2cls_14
      have cA58 : SA oz_R2clsl_1 A A58 := SA_trans (cA10) (SA_gluc (ι := oz_R2clsl_6) oz_R2cls_20 hA58 eA58 (by decide +kernel)) (any_subA (lₚ := [9]) (by decide +kernel))
      have mA58 := SAm_of cA58 oz_R2cls_15
      have cD58 : SD oz_R2clsl_1 D D58 := SD_trans (SD_refl) (SD_gluc (ι := oz_R2clsl_6) oz_R2cls_20 hD58 eD58 (by decide +kernel)) (any_subA (lₚ := [9]) (by decide +kernel))
      have mD58 := SDm_of cD58 oz_R2cls_15
      have cN58 : SD oz_R2clsl_1 N N58 := SD_trans (SD_refl) (SD_gluc (ι := oz_R2clsl_6) oz_R2cls_20 hN58 eN58 (by decide +kernel)) (any_subA (lₚ := [9]) (by decide +kernel))
      have mN58 := SDm_of cN58 oz_R2cls_15
      have pf58_2_0 : HID (F58 2 0 = (D58 3 : Int)) := ((show F58 2 0 = F10 2 0 from (eF58 2 0))).trans (((((show F10 2 0 = F 2 0 from (eF10 2 0)))).trans (pf3)).trans (congrArg (fun q : Nat => (q : Int)) ((show D58 3 = D 3 from (eD58 3))).symm))
      have pf58_4_0 : HID (F58 4 0 = (D58 5 : Int)) := ((show F58 4 0 = F10 4 0 from (eF58 4 0))).trans (((((show F10 4 0 = F 4 0 from (eF10 4 0)))).trans (pf5)).trans (congrArg (fun q : Nat => (q : Int)) ((show D58 5 = D 5 from (eD58 5))).symm))
      have pf58_6_0 : HID (F58 6 0 = (D58 7 : Int)) := ((show F58 6 0 = F10 6 0 from (eF58 6 0))).trans (((((show F10 6 0 = F 6 0 from (eF10 6 0)))).trans (pf7)).trans (congrArg (fun q : Nat => (q : Int)) ((show D58 7 = D 7 from (eD58 7))).symm))
      have pf58_8_0 : HID (F58 8 0 = (D58 9 : Int)) := (eF58 8 0).trans (pm58_1.trans (congrArg (fun q : Nat => (q : Int)) (eD58 9).symm))
      refine w_ifne (t := 23) rfl rfl (show inr (z58) from q_15 pz58_0) (fun b60 => ?_) (fun b60 => ?_)
      · refine Ew_of (pcₚ := 24) (fun _ => x_aload_n rfl rfl) ?_
        refine Ew_stk (congrArg (fun qz : Nat => ([.ref qz] : List Value)) (show D58 0 = D 0 from mD58 0 rfl).symm) ?_
        refine v_g H (o := 0) (v := .ref (D58 1)) rfl rfl rfl rfl rfl (vrf ((mF58 0 0 rfl).trans ((pf1).trans (congrArg (fun q : Nat => (q : Int)) (mD58 1 rfl).symm)))) ?_
        refine Ew_of (pcₚ := 28) (fun _ => x_iload_n rfl rfl) ?_
        refine v_lR H (o := 1) rfl rfl rfl rfl rfl (n := n1) ((congrArg (fun q : Nat => (q : Int)) (mN58 1 rfl)).trans (en1)) (show 0 ≤ a1 ∧ a1 < n1 from q_4228 b12 h5) (z := ((D58 8 : Nat) : Int)) (v := .ref (D58 8)) ((congrArg (A58 1) b12).trans ((mA58 1 rfl 3).trans ((pf8).trans (congrArg (fun q : Nat => (q : Int)) (mD58 8 rfl).symm)))) (vrf rfl) ?_
        refine Ew_of (pcₚ := 30) (fun _ => x_iload_n rfl rfl) ?_
        refine w_i2l rfl (show inr (a2) from h1) ?_
        refine Ew_of (pcₚ := 33) (fun _ => x_bipush (z := 32) rfl (by decide)) ?_
        refine w_lshlA rfl (fun z61 gz61 => ?_)
        refine Ew_of (pcₚ := 35) (fun _ => x_iload_n rfl rfl) ?_
        refine w_i2l rfl (show inr (a3) from h2) ?_
        refine Ew_of (pcₚ := 39) (fun _ => x_ldc2 (z := 4294967295) rfl (by decide)) ?_
        refine w_land rfl (show inrJ (a3) from q_428 h2) (show inrJ (4294967295) from q_50) (fun z62 gz62 gaz62 gbz62 => ?_)
        refine w_lorA rfl (fun z63 gz63 => ?_)
        refine Ew_of (pcₚ := 43) (fun _ => x_bipush (z := 8) rfl (by decide)) ?_
        refine w_stat24 rfl rfl (by rfl) (C28_Row (D := puc 4616 D58) (N := puc 4616 N58) (HW_subc H oz_R2cls_13 oz_R2cls_20) (pf58_8_0) (m58_1) ((congrArg (fun q : Nat => (q : Int)) (eN58 9)).trans em58_1) (u8_1) (((((show F58 8 1 = F10 8 1 from (eF58 8 1).trans (hS58 0 1 rfl))).trans ((show F10 8 1 = F 8 1 from (eF10 8 1)))).trans (eu8_1))) (show inrJ (z63) from gz63) (show inr (8) from q_96) (show 0 ≤ (u8_1) ∧ (u8_1) ≤ (m58_1) ∧ (m58_1) ≤ 65536 from pz58_1) (show (8) ≤ 8 from q_2389) (fun σ64 D64ₚ N64ₚ F64ₚ A64ₚ c64 s64 Hₚ Oₚ hD64 hN64 hS64 hA64 (pm64_1 : HID _) m64_1 (em64_1 : HID _) y64_0_1 (ey64_0_1 : HID _) pz64_0 => ⟨rfl, ?_⟩))
        refine v_backMc (c := (c + c58)) (s := (s + s58)) H oz_R2cls_13 oz_R2cls_20 Hₚ Oₚ hD64 oz_R2cls_12 (fun D64 N64 F64 A64 H Oₚ eD64 eN64 eF64 eA64 => ?_)
        have O := OUT_trans O Oₚ
        -- PackHouse.addHighestFirst
        have cF64 : SF oz_R2clsl_0 F F64 := SF_trans (cF58) (SF_gluc (ι := oz_R2clsl_6) oz_R2cls_20 hS64 eF64 (by decide +kernel)) (any_sub (lₚ := [(8, 0), (8, 1), (8, 2)]) (by decide +kernel))
        have mF64 := SFm_of cF64 oz_R2cls_14
        have cA64 : SA oz_R2clsl_1 A A64 := SA_trans (cA58) (SA_gluc (ι := oz_R2clsl_6) oz_R2cls_20 hA64 eA64 (by decide +kernel)) (any_subA (lₚ := [9]) (by decide +kernel))
        have mA64 := SAm_of cA64 oz_R2cls_15
        have cD64 : SD oz_R2clsl_1 D D64 := SD_trans (cD58) (SD_gluc (ι := oz_R2clsl_6) oz_R2cls_20 hD64 eD64 (by decide +kernel)) (any_subA (lₚ := [9]) (by decide +kernel))
        have mD64 := SDm_of cD64 oz_R2cls_15
        have cN64 : SD oz_R2clsl_1 N N64 := SD_trans (cN58) (SD_gluc (ι := oz_R2clsl_6) oz_R2cls_20 hN64 eN64 (by decide +kernel)) (any_subA (lₚ := [9]) (by decide +kernel))
        have mN64 := SDm_of cN64 oz_R2cls_15
        have pf64_2_0 : HID (F64 2 0 = (D64 3 : Int)) := ((show F64 2 0 = F58 2 0 from (eF64 2 0))).trans ((pf58_2_0).trans (congrArg (fun q : Nat => (q : Int)) ((show D64 3 = D58 3 from (eD64 3))).symm))
        have pf64_4_0 : HID (F64 4 0 = (D64 5 : Int)) := ((show F64 4 0 = F58 4 0 from (eF64 4 0))).trans ((pf58_4_0).trans (congrArg (fun q : Nat => (q : Int)) ((show D64 5 = D58 5 from (eD64 5))).symm))
        have pf64_6_0 : HID (F64 6 0 = (D64 7 : Int)) := ((show F64 6 0 = F58 6 0 from (eF64 6 0))).trans ((pf58_6_0).trans (congrArg (fun q : Nat => (q : Int)) ((show D64 7 = D58 7 from (eD64 7))).symm))
        have pf64_8_0 : HID (F64 8 0 = (D64 9 : Int)) := (eF64 8 0).trans (pm64_1.trans (congrArg (fun q : Nat => (q : Int)) (eD64 9).symm))
        refine Ew_of (pcₚ := 47) (fun _ => x_aload_n rfl rfl) ?_
        refine Ew_stk (congrArg (fun qz : Nat => ([.ref qz] : List Value)) (show D64 0 = D 0 from mD64 0 rfl).symm) ?_
        refine v_g H (o := 0) (v := .ref (D64 1)) rfl rfl rfl rfl rfl (vrf ((mF64 0 0 rfl).trans ((pf1).trans (congrArg (fun q : Nat => (q : Int)) (mD64 1 rfl).symm)))) ?_
        refine Ew_of (pcₚ := 51) (fun _ => x_iload_n rfl rfl) ?_
        refine v_lR H (o := 1) rfl rfl rfl rfl rfl (n := n1) ((congrArg (fun q : Nat => (q : Int)) (mN64 1 rfl)).trans (en1)) (show 0 ≤ a1 ∧ a1 < n1 from q_4228 b12 h5) (z := ((D64 8 : Nat) : Int)) (v := .ref (D64 8)) ((congrArg (A64 1) b12).trans ((mA64 1 rfl 3).trans ((pf8).trans (congrArg (fun q : Nat => (q : Int)) (mD64 8 rfl).symm)))) (vrf rfl) ?_
        refine Ew_of (pcₚ := 54) (fun _ => x_iload rfl rfl) ?_
        refine w_i2l rfl (show inr (a4) from h3) ?_
        refine Ew_of (pcₚ := 57) (fun _ => x_bipush (z := 32) rfl (by decide)) ?_
        refine w_lshlA rfl (fun z67 gz67 => ?_)
        refine Ew_of (pcₚ := 60) (fun _ => x_iload rfl rfl) ?_
        refine w_i2l rfl (show inr (a5) from h4) ?_
        refine Ew_of (pcₚ := 64) (fun _ => x_ldc2 (z := 4294967295) rfl (by decide)) ?_
        refine w_land rfl (show inrJ (a5) from q_428 h4) (show inrJ (4294967295) from q_50) (fun z68 gz68 gaz68 gbz68 => ?_)
        refine w_lorA rfl (fun z69 gz69 => ?_)
        refine Ew_of (pcₚ := 68) (fun _ => x_bipush (z := 8) rfl (by decide)) ?_
        refine w_stat24 rfl rfl (by rfl) (C28_Row (D := puc 4616 D64) (N := puc 4616 N64) (HW_subc H oz_R2cls_13 oz_R2cls_20) (pf64_8_0) (m64_1) ((congrArg (fun q : Nat => (q : Int)) (eN64 9)).trans em64_1) (y64_0_1) (((eF64 8 1).trans ey64_0_1)) (show inrJ (z69) from gz69) (show inr (8) from q_96) (show 0 ≤ (y64_0_1) ∧ (y64_0_1) ≤ (m64_1) ∧ (m64_1) ≤ 65536 from pz64_0) (show (8) ≤ 8 from q_2389) (fun σ70 D70ₚ N70ₚ F70ₚ A70ₚ c70 s70 Hₚ Oₚ hD70 hN70 hS70 hA70 (pm70_1 : HID _) m70_1 (em70_1 : HID _) y70_0_1 (ey70_0_1 : HID _) pz70_0 => ⟨rfl, ?_⟩))
        refine v_backMc (c := ((c + c58) + c64)) (s := ((s + s58) + s64)) H oz_R2cls_13 oz_R2cls_20 Hₚ Oₚ hD70 oz_R2cls_12 (fun D70 N70 F70 A70 H Oₚ eD70 eN70 eF70 eA70 => ?_)
        have O := OUT_trans O Oₚ
        -- PackHouse.addHighestFirst
        have cF70 : SF oz_R2clsl_0 F F70 := SF_trans (cF64) (SF_gluc (ι := oz_R2clsl_6) oz_R2cls_20 hS70 eF70 (by decide +kernel)) (any_sub (lₚ := [(8, 0), (8, 1), (8, 2)]) (by decide +kernel))
        have mF70 := SFm_of cF70 oz_R2cls_14
        have cA70 : SA oz_R2clsl_1 A A70 := SA_trans (cA64) (SA_gluc (ι := oz_R2clsl_6) oz_R2cls_20 hA70 eA70 (by decide +kernel)) (any_subA (lₚ := [9]) (by decide +kernel))
        have mA70 := SAm_of cA70 oz_R2cls_15
        have cD70 : SD oz_R2clsl_1 D D70 := SD_trans (cD64) (SD_gluc (ι := oz_R2clsl_6) oz_R2cls_20 hD70 eD70 (by decide +kernel)) (any_subA (lₚ := [9]) (by decide +kernel))
        have mD70 := SDm_of cD70 oz_R2cls_15
        have cN70 : SD oz_R2clsl_1 N N70 := SD_trans (cN64) (SD_gluc (ι := oz_R2clsl_6) oz_R2cls_20 hN70 eN70 (by decide +kernel)) (any_subA (lₚ := [9]) (by decide +kernel))
        have mN70 := SDm_of cN70 oz_R2cls_15
        have pf70_2_0 : HID (F70 2 0 = (D70 3 : Int)) := ((show F70 2 0 = F64 2 0 from (eF70 2 0))).trans ((pf64_2_0).trans (congrArg (fun q : Nat => (q : Int)) ((show D70 3 = D64 3 from (eD70 3))).symm))
        have pf70_4_0 : HID (F70 4 0 = (D70 5 : Int)) := ((show F70 4 0 = F64 4 0 from (eF70 4 0))).trans ((pf64_4_0).trans (congrArg (fun q : Nat => (q : Int)) ((show D70 5 = D64 5 from (eD70 5))).symm))
        have pf70_6_0 : HID (F70 6 0 = (D70 7 : Int)) := ((show F70 6 0 = F64 6 0 from (eF70 6 0))).trans ((pf64_6_0).trans (congrArg (fun q : Nat => (q : Int)) ((show D70 7 = D64 7 from (eD70 7))).symm))
        have pf70_8_0 : HID (F70 8 0 = (D70 9 : Int)) := (eF70 8 0).trans (pm70_1.trans (congrArg (fun q : Nat => (q : Int)) (eD70 9).symm))
        refine Ew_of (pcₚ := 72) (fun _ => x_iconst rfl) ?_
        exact w_ireturn rfl (k (1) _ _ _ _ _ _ _ H O (cD70) (cN70) (cF70) (cA70) (pf70_2_0) (pf70_4_0) (pf70_6_0) (pf70_8_0) (n3) ((congrArg (fun q : Nat => (q : Int)) (show N70 3 = N64 3 from (eN70 3))).trans ((congrArg (fun q : Nat => (q : Int)) (show N64 3 = N58 3 from (eN64 3))).trans ((congrArg (fun q : Nat => (q : Int)) (show N58 3 = N 3 from (eN58 3))).trans (en3)))) (n5) ((congrArg (fun q : Nat => (q : Int)) (show N70 5 = N64 5 from (eN70 5))).trans ((congrArg (fun q : Nat => (q : Int)) (show N64 5 = N58 5 from (eN64 5))).trans ((congrArg (fun q : Nat => (q : Int)) (show N58 5 = N 5 from (eN58 5))).trans (en5)))) (n7) ((congrArg (fun q : Nat => (q : Int)) (show N70 7 = N64 7 from (eN70 7))).trans ((congrArg (fun q : Nat => (q : Int)) (show N64 7 = N58 7 from (eN64 7))).trans ((congrArg (fun q : Nat => (q : Int)) (show N58 7 = N 7 from (eN58 7))).trans (en7)))) (m70_1) ((congrArg (fun q : Nat => (q : Int)) (eN70 9)).trans em70_1) (u2_1) (((((((show F70 2 1 = F64 2 1 from (eF70 2 1))).trans ((show F64 2 1 = F58 2 1 from (eF64 2 1)))).trans ((show F58 2 1 = F10 2 1 from (eF58 2 1)))).trans ((show F10 2 1 = F 2 1 from (eF10 2 1)))).trans (eu2_1))) (u4_1) (((((((show F70 4 1 = F64 4 1 from (eF70 4 1))).trans ((show F64 4 1 = F58 4 1 from (eF64 4 1)))).trans ((show F58 4 1 = F10 4 1 from (eF58 4 1)))).trans ((show F10 4 1 = F 4 1 from (eF10 4 1)))).trans (eu4_1))) (u6_1) (((((((show F70 6 1 = F64 6 1 from (eF70 6 1))).trans ((show F64 6 1 = F58 6 1 from (eF64 6 1)))).trans ((show F58 6 1 = F10 6 1 from (eF58 6 1)))).trans ((show F10 6 1 = F 6 1 from (eF10 6 1)))).trans (eu6_1))) (y70_0_1) (((eF70 8 1).trans ey70_0_1)) (show (1) = 0 ∨ (1) = 1 by first | exact q_5 | omega) (show 0 ≤ (u2_1) ∧ (u2_1) ≤ (n3) ∧ (n3) ≤ 65536 from h6) (show 0 ≤ (u4_1) ∧ (u4_1) ≤ (n5) ∧ (n5) ≤ 65536 from h7) (show 0 ≤ (u6_1) ∧ (u6_1) ≤ (n7) ∧ (n7) ≤ 65536 from h8) (show 0 ≤ (y70_0_1) ∧ (y70_0_1) ≤ (m70_1) ∧ (m70_1) ≤ 65536 from pz70_0))
      · refine Ew_of (pcₚ := 22) (fun _ => x_iconst rfl) ?_
        exact w_ireturn rfl (k (0) _ _ _ _ _ _ _ H O (cD58) (cN58) (cF58) (cA58) (pf58_2_0) (pf58_4_0) (pf58_6_0) (pf58_8_0) (n3) ((congrArg (fun q : Nat => (q : Int)) (show N58 3 = N 3 from (eN58 3))).trans (en3)) (n5) ((congrArg (fun q : Nat => (q : Int)) (show N58 5 = N 5 from (eN58 5))).trans (en5)) (n7) ((congrArg (fun q : Nat => (q : Int)) (show N58 7 = N 7 from (eN58 7))).trans (en7)) (m58_1) ((congrArg (fun q : Nat => (q : Int)) (eN58 9)).trans em58_1) (u2_1) (((((show F58 2 1 = F10 2 1 from (eF58 2 1))).trans ((show F10 2 1 = F 2 1 from (eF10 2 1)))).trans (eu2_1))) (u4_1) (((((show F58 4 1 = F10 4 1 from (eF58 4 1))).trans ((show F10 4 1 = F 4 1 from (eF10 4 1)))).trans (eu4_1))) (u6_1) (((((show F58 6 1 = F10 6 1 from (eF58 6 1))).trans ((show F10 6 1 = F 6 1 from (eF10 6 1)))).trans (eu6_1))) (u8_1) (((((show F58 8 1 = F10 8 1 from (eF58 8 1).trans (hS58 0 1 rfl))).trans ((show F10 8 1 = F 8 1 from (eF10 8 1)))).trans (eu8_1))) (show (0) = 0 ∨ (0) = 1 by first | exact q_1 | omega) (show 0 ≤ (u2_1) ∧ (u2_1) ≤ (n3) ∧ (n3) ≤ 65536 from h6) (show 0 ≤ (u4_1) ∧ (u4_1) ≤ (n5) ∧ (n5) ≤ 65536 from h7) (show 0 ≤ (u6_1) ∧ (u6_1) ≤ (n7) ∧ (n7) ≤ 65536 from h8) (show 0 ≤ (u8_1) ∧ (u8_1) ≤ (m58_1) ∧ (m58_1) ≤ 65536 from pz58_1))
abbrev V2 : vV := [(0, 0, [(4, 0), (4, 0), (4, 0), (4, 0), (4, 0), (4, 0), (4, 0), (4, 0), (4, 0), (4, 0), (4, 0), (4, 0), (4, 0), (4, 0), (4, 0), (4, 0), (4, 0), (0, 0), (0, 0)]), (1, 4, []), (0, 7, [(4, 0), (0, 0), (1, 0), (0, 0), (0, 0)]), (1, 0, []), (0, 7, [(4, 0), (0, 0), (1, 0), (0, 0), (0, 0)]), (1, 0, []), (0, 7, [(4, 0), (0, 0), (1, 0), (0, 0), (0, 0)]), (1, 0, []), (0, 7, [(4, 0), (0, 0), (1, 0), (0, 0), (0, 0)]), (1, 0, [])]
theorem len_V2_oz_R2cls : (V2).length = 10 := by decide +kernel
theorem oz_R2cls_22 : vsub V2 V24 [] = true := by decide +kernel
theorem oz_R2cls_23 : vsub V2 V157 [2, 3] = true := by decide +kernel
theorem oz_R2cls_24 : vmov V2 [2, 3] [1] = true := by decide +kernel
theorem oz_R2cls_25 : vsub V2 V28_Row [2, 3] = true := by decide +kernel
theorem oz_R2cls_26 : vsub V2 V157 [4, 5] = true := by decide +kernel
theorem oz_R2cls_27 : vmov V2 [4, 5] [1] = true := by decide +kernel
theorem oz_R2cls_28 : vsub V2 V28_Row [4, 5] = true := by decide +kernel
theorem oz_R2cls_29 : vsub V2 V157 [6, 7] = true := by decide +kernel
theorem oz_R2cls_30 : vmov V2 [6, 7] [1] = true := by decide +kernel
theorem oz_R2cls_31 : vsub V2 V28_Row [6, 7] = true := by decide +kernel
theorem oz_R2cls_32 : vsub V2 V157 [8, 9] = true := by decide +kernel
theorem oz_R2cls_33 : vmov V2 [8, 9] [1] = true := by decide +kernel
theorem oz_R2cls_34 : vsub V2 V28_Row [8, 9] = true := by decide +kernel
/-- PackHouse.give: this, this.rows, this.rows.0, this.rows.0.bytes, this.rows.1, this.rows.1.bytes, this.rows.2, this.rows.2.bytes, this.rows.3, this.rows.3.bytes -/
theorem C2 {σE : rS} {D N : Nat → Nat} {F : hF} {A : hA} {d c s : Nat} {Q : wQ} (H : HW V2 σE D N F A) {a1 a2 a3 : Int} (pf1 : HID (F 0 0 = (D 1 : Int))) (pf2 : HID (A 1 0 = (D 2 : Int))) (pf3 : HID (F 2 0 = (D 3 : Int))) (pf4 : HID (A 1 1 = (D 4 : Int))) (pf5 : HID (F 4 0 = (D 5 : Int))) (pf6 : HID (A 1 2 = (D 6 : Int))) (pf7 : HID (F 6 0 = (D 7 : Int))) (pf8 : HID (A 1 3 = (D 8 : Int))) (pf9 : HID (F 8 0 = (D 9 : Int))) (n1 : Int) (en1 : HID ((N 1 : Int) = n1)) (n3 : Int) (en3 : HID ((N 3 : Int) = n3)) (n5 : Int) (en5 : HID ((N 5 : Int) = n5)) (n7 : Int) (en7 : HID ((N 7 : Int) = n7)) (n9 : Int) (en9 : HID ((N 9 : Int) = n9)) (u2_1 : Int) (eu2_1 : HID (F 2 1 = u2_1)) (u4_1 : Int) (eu4_1 : HID (F 4 1 = u4_1)) (u6_1 : Int) (eu6_1 : HID (F 6 1 = u6_1)) (u8_1 : Int) (eu8_1 : HID (F 8 1 = u8_1)) (h0 : inr (a1)) (h1 : inr (a2)) (h2 : inrJ (a3)) (h3 : (n1) = 4) (h4 : 0 ≤ (u2_1) ∧ (u2_1) ≤ (n3) ∧ (n3) ≤ 65536) (h5 : 0 ≤ (u4_1) ∧ (u4_1) ≤ (n5) ∧ (n5) ≤ 65536) (h6 : 0 ≤ (u6_1) ∧ (u6_1) ≤ (n7) ∧ (n7) ≤ 65536) (h7 : 0 ≤ (u8_1) ∧ (u8_1) ≤ (n9) ∧ (n9) ≤ 65536) (k : ∀ (z : Int) (σ : rS) (Dₚ Nₚ : Nat → Nat) (Fₚ : hF) (Aₚ : hA) (cₚ sₚ : Nat), HW V2 σ Dₚ Nₚ Fₚ Aₚ → OUT (V2).length D N σE c s Dₚ Nₚ σ cₚ sₚ → SD [3, 5, 7, 9] D Dₚ → SD [3, 5, 7, 9] N Nₚ → SF [(2, 0), (2, 1), (2, 2), (4, 0), (4, 1), (4, 2), (6, 0), (6, 1), (6, 2), (8, 0), (8, 1), (8, 2)] F Fₚ → SA [3, 5, 7, 9] A Aₚ → Fₚ 2 0 = (Dₚ 3 : Int) → Fₚ 4 0 = (Dₚ 5 : Int) → Fₚ 6 0 = (Dₚ 7 : Int) → Fₚ 8 0 = (Dₚ 9 : Int) → ∀ m3 : Int, (Nₚ 3 : Int) = m3 → ∀ m5 : Int, (Nₚ 5 : Int) = m5 → ∀ m7 : Int, (Nₚ 7 : Int) = m7 → ∀ m9 : Int, (Nₚ 9 : Int) = m9 → ∀ y2_1 : Int, Fₚ 2 1 = y2_1 → ∀ y4_1 : Int, Fₚ 4 1 = y4_1 → ∀ y6_1 : Int, Fₚ 6 1 = y6_1 → ∀ y8_1 : Int, Fₚ 8 1 = y8_1 → ((z) = 0 ∨ (z) = 1) → (0 ≤ (y2_1) ∧ (y2_1) ≤ (m3) ∧ (m3) ≤ 65536) → (0 ≤ (y4_1) ∧ (y4_1) ≤ (m5) ∧ (m5) ≤ 65536) → (0 ≤ (y6_1) ∧ (y6_1) ≤ (m7) ∧ (m7) ≤ 65536) → (0 ≤ (y8_1) ∧ (y8_1) ≤ (m9) ∧ (m9) ≤ 65536) → Q (some (I z)) σ cₚ sₚ) : Ew 2 (d + 4) 0 (rargs 0 [.ref (D 0), I a1, I a2, J a3]) [] σE c s Q := by
  have O := OUT_refl (n := (V2).length) (D := D) (N := N) (σ := σE) (c := c) (s := s)
  have HE := H
  have r5 : HID ((0 : Int) ≤ n1 ∧ n1 ≤ 1000000) := nrng (H.nle 1 (ltn len_V2_oz_R2cls rfl)) (show (N 1 : Int) = n1 from en1)
  refine Ew_of (pcₚ := 1) (fun _ => x_iload_n rfl rfl) ?_
  refine w_stat24 rfl rfl (by rfl) (C24 (D := puc 0 D) (N := puc 0 N) (HW_subc H oz_R2cls_22 oz_R2cls_16) (show inr (a1) from h0) (fun z10 σ10 F10ₚ A10ₚ Hₚ Oₚ hS10 hA10 pz10_0 pz10_1 => ⟨rretB rfl pz10_0, ?_⟩))
  refine v_backc (c := c) (s := s) H oz_R2cls_22 oz_R2cls_16 Hₚ Oₚ (fun F10 A10 H Oₚ eF10 eA10 => ?_)
  have O := OUT_trans O Oₚ
  -- PackHouse.isRow
  have cF10 : SF oz_R2clsl_0 F F10 := SF_trans (SF_refl) (SF_gluc (ι := oz_R2clsl_2) oz_R2cls_16 hS10 eF10 (by decide +kernel)) (any_sub (lₚ := []) (by decide +kernel))
  have mF10 := SFm_of cF10 oz_R2cls_14
  have cA10 : SA oz_R2clsl_1 A A10 := SA_trans (SA_refl) (SA_gluc (ι := oz_R2clsl_2) oz_R2cls_16 hA10 eA10 (by decide +kernel)) (any_subA (lₚ := []) (by decide +kernel))
  have mA10 := SAm_of cA10 oz_R2cls_15
  refine w_ifeq (t := 31) rfl rfl (show inr (z10) from q_15 pz10_0) (fun b11 => ?_) (fun b11 => ?_)
  · refine Ew_of (pcₚ := 32) (fun _ => x_iconst rfl) ?_
    exact w_ireturn rfl (k (0) _ _ _ _ _ _ _ H O (SD_refl) (SD_refl) (cF10) (cA10) ((((show F10 2 0 = F 2 0 from (eF10 2 0)))).trans (pf3)) ((((show F10 4 0 = F 4 0 from (eF10 4 0)))).trans (pf5)) ((((show F10 6 0 = F 6 0 from (eF10 6 0)))).trans (pf7)) ((((show F10 8 0 = F 8 0 from (eF10 8 0)))).trans (pf9)) (n3) (en3) (n5) (en5) (n7) (en7) (n9) (en9) (u2_1) ((((show F10 2 1 = F 2 1 from (eF10 2 1))).trans (eu2_1))) (u4_1) ((((show F10 4 1 = F 4 1 from (eF10 4 1))).trans (eu4_1))) (u6_1) ((((show F10 6 1 = F 6 1 from (eF10 6 1))).trans (eu6_1))) (u8_1) ((((show F10 8 1 = F 8 1 from (eF10 8 1))).trans (eu8_1))) (show (0) = 0 ∨ (0) = 1 by first | exact q_1 | omega) (show 0 ≤ (u2_1) ∧ (u2_1) ≤ (n3) ∧ (n3) ≤ 65536 from h4) (show 0 ≤ (u4_1) ∧ (u4_1) ≤ (n5) ∧ (n5) ≤ 65536 from h5) (show 0 ≤ (u6_1) ∧ (u6_1) ≤ (n7) ∧ (n7) ≤ 65536 from h6) (show 0 ≤ (u8_1) ∧ (u8_1) ≤ (n9) ∧ (n9) ≤ 65536 from h7))
  · refine Ew_of (pcₚ := 8) (fun _ => x_iload_n rfl rfl) ?_
    refine Ew_of (pcₚ := 9) (fun _ => x_iconst rfl) ?_
    refine w_icmplt (t := 31) rfl rfl (show inr (a2) from h1) (show inr (1) from q_23) (fun b12 => ?_) (fun b12 => ?_)
    · refine Ew_of (pcₚ := 32) (fun _ => x_iconst rfl) ?_
      exact w_ireturn rfl (k (0) _ _ _ _ _ _ _ H O (SD_refl) (SD_refl) (cF10) (cA10) ((((show F10 2 0 = F 2 0 from (eF10 2 0)))).trans (pf3)) ((((show F10 4 0 = F 4 0 from (eF10 4 0)))).trans (pf5)) ((((show F10 6 0 = F 6 0 from (eF10 6 0)))).trans (pf7)) ((((show F10 8 0 = F 8 0 from (eF10 8 0)))).trans (pf9)) (n3) (en3) (n5) (en5) (n7) (en7) (n9) (en9) (u2_1) ((((show F10 2 1 = F 2 1 from (eF10 2 1))).trans (eu2_1))) (u4_1) ((((show F10 4 1 = F 4 1 from (eF10 4 1))).trans (eu4_1))) (u6_1) ((((show F10 6 1 = F 6 1 from (eF10 6 1))).trans (eu6_1))) (u8_1) ((((show F10 8 1 = F 8 1 from (eF10 8 1))).trans (eu8_1))) (show (0) = 0 ∨ (0) = 1 by first | exact q_1 | omega) (show 0 ≤ (u2_1) ∧ (u2_1) ≤ (n3) ∧ (n3) ≤ 65536 from h4) (show 0 ≤ (u4_1) ∧ (u4_1) ≤ (n5) ∧ (n5) ≤ 65536 from h5) (show 0 ≤ (u6_1) ∧ (u6_1) ≤ (n7) ∧ (n7) ≤ 65536 from h6) (show 0 ≤ (u8_1) ∧ (u8_1) ≤ (n9) ∧ (n9) ≤ 65536 from h7))
    · refine Ew_of (pcₚ := 13) (fun _ => x_iload_n rfl rfl) ?_
      refine Ew_of (pcₚ := 15) (fun _ => x_bipush (z := 8) rfl (by decide)) ?_
      refine w_icmpgt (t := 31) rfl rfl (show inr (a2) from h1) (show inr (8) from q_96) (fun b13 => ?_) (fun b13 => ?_)
      · refine Ew_of (pcₚ := 32) (fun _ => x_iconst rfl) ?_
        exact w_ireturn rfl (k (0) _ _ _ _ _ _ _ H O (SD_refl) (SD_refl) (cF10) (cA10) ((((show F10 2 0 = F 2 0 from (eF10 2 0)))).trans (pf3)) ((((show F10 4 0 = F 4 0 from (eF10 4 0)))).trans (pf5)) ((((show F10 6 0 = F 6 0 from (eF10 6 0)))).trans (pf7)) ((((show F10 8 0 = F 8 0 from (eF10 8 0)))).trans (pf9)) (n3) (en3) (n5) (en5) (n7) (en7) (n9) (en9) (u2_1) ((((show F10 2 1 = F 2 1 from (eF10 2 1))).trans (eu2_1))) (u4_1) ((((show F10 4 1 = F 4 1 from (eF10 4 1))).trans (eu4_1))) (u6_1) ((((show F10 6 1 = F 6 1 from (eF10 6 1))).trans (eu6_1))) (u8_1) ((((show F10 8 1 = F 8 1 from (eF10 8 1))).trans (eu8_1))) (show (0) = 0 ∨ (0) = 1 by first | exact q_1 | omega) (show 0 ≤ (u2_1) ∧ (u2_1) ≤ (n3) ∧ (n3) ≤ 65536 from h4) (show 0 ≤ (u4_1) ∧ (u4_1) ≤ (n5) ∧ (n5) ≤ 65536 from h5) (show 0 ≤ (u6_1) ∧ (u6_1) ≤ (n7) ∧ (n7) ≤ 65536 from h6) (show 0 ≤ (u8_1) ∧ (u8_1) ≤ (n9) ∧ (n9) ≤ 65536 from h7))
      · refine Ew_of (pcₚ := 19) (fun _ => x_aload_n rfl rfl) ?_
        refine v_g H (o := 0) (v := .ref (D 1)) rfl rfl rfl rfl rfl (vrf ((mF10 0 0 rfl).trans (pf1))) ?_
        refine Ew_of (pcₚ := 23) (fun _ => x_iload_n rfl rfl) ?_
        rcases (show a1 = 0 ∨ a1 = 1 ∨ a1 = 2 ∨ a1 = 3 by omega) with b14 | b14 | b14 | b14
        · refine v_lR H (o := 1) rfl rfl rfl rfl rfl (n := n1) (en1) (show 0 ≤ a1 ∧ a1 < n1 from q_4225 (HIDe r5) b14 h3) (z := ((D 2 : Nat) : Int)) (v := .ref (D 2)) ((congrArg (A10 1) b14).trans ((mA10 1 rfl 0).trans (pf2))) (vrf rfl) ?_
          refine Ew_of (pcₚ := 25) (fun _ => x_iload_n rfl rfl) ?_
          refine v_inv H (o := 2) rfl rfl rfl rfl rfl rfl (by rfl) (C157 (D := puc 1538 D) (N := puc 1538 N) (HW_subc H oz_R2cls_23 oz_R2cls_17) ((((show F10 2 0 = F 2 0 from (eF10 2 0)))).trans (pf3)) (n3) (en3) (u2_1) ((((show F10 2 1 = F 2 1 from (eF10 2 1))).trans (eu2_1))) (A 3) ((show A10 3 = A 3 from (eA10 3))) (show inr (a2) from h1) (show 0 ≤ (u2_1) ∧ (u2_1) ≤ (n3) ∧ (n3) ≤ 65536 from h4) (fun z15 σ15 D15ₚ N15ₚ F15ₚ A15ₚ c15 s15 Hₚ Oₚ hD15 hN15 hS15 hA15 (pm15_1 : HID _) m15_1 (em15_1 : HID _) w15_1 ew15_1 pz15_0 pz15_1 pz15_2 pz15_3 pz15_4 => ⟨rretB rfl pz15_0, ?_⟩))
          refine v_backMc (c := c) (s := s) H oz_R2cls_23 oz_R2cls_17 Hₚ Oₚ hD15 oz_R2cls_24 (fun D15 N15 F15 A15 H Oₚ eD15 eN15 eF15 eA15 => ?_)
          have O := OUT_trans O Oₚ
          -- Row.reserve
          have cF15 : SF oz_R2clsl_0 F F15 := SF_trans (cF10) (SF_gluc (ι := oz_R2clsl_3) oz_R2cls_17 hS15 eF15 (by decide +kernel)) (any_sub (lₚ := [(2, 0)]) (by decide +kernel))
          have mF15 := SFm_of cF15 oz_R2cls_14
          have cA15 : SA oz_R2clsl_1 A A15 := SA_trans (cA10) (SA_gluc (ι := oz_R2clsl_3) oz_R2cls_17 hA15 eA15 (by decide +kernel)) (any_subA (lₚ := [3]) (by decide +kernel))
          have mA15 := SAm_of cA15 oz_R2cls_15
          have cD15 : SD oz_R2clsl_1 D D15 := SD_trans (SD_refl) (SD_gluc (ι := oz_R2clsl_3) oz_R2cls_17 hD15 eD15 (by decide +kernel)) (any_subA (lₚ := [3]) (by decide +kernel))
          have mD15 := SDm_of cD15 oz_R2cls_15
          have cN15 : SD oz_R2clsl_1 N N15 := SD_trans (SD_refl) (SD_gluc (ι := oz_R2clsl_3) oz_R2cls_17 hN15 eN15 (by decide +kernel)) (any_subA (lₚ := [3]) (by decide +kernel))
          have mN15 := SDm_of cN15 oz_R2cls_15
          have pf15_2_0 : HID (F15 2 0 = (D15 3 : Int)) := (eF15 2 0).trans (pm15_1.trans (congrArg (fun q : Nat => (q : Int)) (eD15 3).symm))
          have pf15_4_0 : HID (F15 4 0 = (D15 5 : Int)) := ((show F15 4 0 = F10 4 0 from (eF15 4 0))).trans (((((show F10 4 0 = F 4 0 from (eF10 4 0)))).trans (pf5)).trans (congrArg (fun q : Nat => (q : Int)) ((show D15 5 = D 5 from (eD15 5))).symm))
          have pf15_6_0 : HID (F15 6 0 = (D15 7 : Int)) := ((show F15 6 0 = F10 6 0 from (eF15 6 0))).trans (((((show F10 6 0 = F 6 0 from (eF10 6 0)))).trans (pf7)).trans (congrArg (fun q : Nat => (q : Int)) ((show D15 7 = D 7 from (eD15 7))).symm))
          have pf15_8_0 : HID (F15 8 0 = (D15 9 : Int)) := ((show F15 8 0 = F10 8 0 from (eF15 8 0))).trans (((((show F10 8 0 = F 8 0 from (eF10 8 0)))).trans (pf9)).trans (congrArg (fun q : Nat => (q : Int)) ((show D15 9 = D 9 from (eD15 9))).symm))
          refine w_ifne (t := 33) rfl rfl (show inr (z15) from q_15 pz15_0) (fun b17 => ?_) (fun b17 => ?_)
          · refine Ew_of (pcₚ := 34) (fun _ => x_aload_n rfl rfl) ?_
            refine Ew_stk (congrArg (fun qz : Nat => ([.ref qz] : List Value)) (show D15 0 = D 0 from mD15 0 rfl).symm) ?_
            refine v_g H (o := 0) (v := .ref (D15 1)) rfl rfl rfl rfl rfl (vrf ((mF15 0 0 rfl).trans ((pf1).trans (congrArg (fun q : Nat => (q : Int)) (mD15 1 rfl).symm)))) ?_
            refine Ew_of (pcₚ := 38) (fun _ => x_iload_n rfl rfl) ?_
            refine v_lR H (o := 1) rfl rfl rfl rfl rfl (n := n1) ((congrArg (fun q : Nat => (q : Int)) (mN15 1 rfl)).trans (en1)) (show 0 ≤ a1 ∧ a1 < n1 from q_4225 (HIDe r5) b14 h3) (z := ((D15 2 : Nat) : Int)) (v := .ref (D15 2)) ((congrArg (A15 1) b14).trans ((mA15 1 rfl 0).trans ((pf2).trans (congrArg (fun q : Nat => (q : Int)) (mD15 2 rfl).symm)))) (vrf rfl) ?_
            refine Ew_of (pcₚ := 40) (fun _ => x_lload_n rfl rfl) ?_
            refine Ew_of (pcₚ := 41) (fun _ => x_iload_n rfl rfl) ?_
            refine w_stat24 rfl rfl (by rfl) (C28_Row (D := puc 1538 D15) (N := puc 1538 N15) (HW_subc H oz_R2cls_25 oz_R2cls_17) (pf15_2_0) (m15_1) ((congrArg (fun q : Nat => (q : Int)) (eN15 3)).trans em15_1) (u2_1) (((((show F15 2 1 = F10 2 1 from (eF15 2 1).trans (hS15 0 1 rfl))).trans ((show F10 2 1 = F 2 1 from (eF10 2 1)))).trans (eu2_1))) (show inrJ (a3) from h2) (show inr (a2) from h1) (show 0 ≤ (u2_1) ∧ (u2_1) ≤ (m15_1) ∧ (m15_1) ≤ 65536 from pz15_1) (show (a2) ≤ 8 from b13) (fun σ18 D18ₚ N18ₚ F18ₚ A18ₚ c18 s18 Hₚ Oₚ hD18 hN18 hS18 hA18 (pm18_1 : HID _) m18_1 (em18_1 : HID _) y18_0_1 (ey18_0_1 : HID _) pz18_0 => ⟨rfl, ?_⟩))
            refine v_backMc (c := (c + c15)) (s := (s + s15)) H oz_R2cls_25 oz_R2cls_17 Hₚ Oₚ hD18 oz_R2cls_24 (fun D18 N18 F18 A18 H Oₚ eD18 eN18 eF18 eA18 => ?_)
            have O := OUT_trans O Oₚ
            -- PackHouse.addHighestFirst
            have cF18 : SF oz_R2clsl_0 F F18 := SF_trans (cF15) (SF_gluc (ι := oz_R2clsl_3) oz_R2cls_17 hS18 eF18 (by decide +kernel)) (any_sub (lₚ := [(2, 0), (2, 1), (2, 2)]) (by decide +kernel))
            have mF18 := SFm_of cF18 oz_R2cls_14
            have cA18 : SA oz_R2clsl_1 A A18 := SA_trans (cA15) (SA_gluc (ι := oz_R2clsl_3) oz_R2cls_17 hA18 eA18 (by decide +kernel)) (any_subA (lₚ := [3]) (by decide +kernel))
            have mA18 := SAm_of cA18 oz_R2cls_15
            have cD18 : SD oz_R2clsl_1 D D18 := SD_trans (cD15) (SD_gluc (ι := oz_R2clsl_3) oz_R2cls_17 hD18 eD18 (by decide +kernel)) (any_subA (lₚ := [3]) (by decide +kernel))
            have mD18 := SDm_of cD18 oz_R2cls_15
            have cN18 : SD oz_R2clsl_1 N N18 := SD_trans (cN15) (SD_gluc (ι := oz_R2clsl_3) oz_R2cls_17 hN18 eN18 (by decide +kernel)) (any_subA (lₚ := [3]) (by decide +kernel))
            have mN18 := SDm_of cN18 oz_R2cls_15
            have pf18_2_0 : HID (F18 2 0 = (D18 3 : Int)) := (eF18 2 0).trans (pm18_1.trans (congrArg (fun q : Nat => (q : Int)) (eD18 3).symm))
            have pf18_4_0 : HID (F18 4 0 = (D18 5 : Int)) := ((show F18 4 0 = F15 4 0 from (eF18 4 0))).trans ((pf15_4_0).trans (congrArg (fun q : Nat => (q : Int)) ((show D18 5 = D15 5 from (eD18 5))).symm))
            have pf18_6_0 : HID (F18 6 0 = (D18 7 : Int)) := ((show F18 6 0 = F15 6 0 from (eF18 6 0))).trans ((pf15_6_0).trans (congrArg (fun q : Nat => (q : Int)) ((show D18 7 = D15 7 from (eD18 7))).symm))
            have pf18_8_0 : HID (F18 8 0 = (D18 9 : Int)) := ((show F18 8 0 = F15 8 0 from (eF18 8 0))).trans ((pf15_8_0).trans (congrArg (fun q : Nat => (q : Int)) ((show D18 9 = D15 9 from (eD18 9))).symm))
            refine Ew_of (pcₚ := 45) (fun _ => x_iconst rfl) ?_
            exact w_ireturn rfl (k (1) _ _ _ _ _ _ _ H O (cD18) (cN18) (cF18) (cA18) (pf18_2_0) (pf18_4_0) (pf18_6_0) (pf18_8_0) (m18_1) ((congrArg (fun q : Nat => (q : Int)) (eN18 3)).trans em18_1) (n5) ((congrArg (fun q : Nat => (q : Int)) (show N18 5 = N15 5 from (eN18 5))).trans ((congrArg (fun q : Nat => (q : Int)) (show N15 5 = N 5 from (eN15 5))).trans (en5))) (n7) ((congrArg (fun q : Nat => (q : Int)) (show N18 7 = N15 7 from (eN18 7))).trans ((congrArg (fun q : Nat => (q : Int)) (show N15 7 = N 7 from (eN15 7))).trans (en7))) (n9) ((congrArg (fun q : Nat => (q : Int)) (show N18 9 = N15 9 from (eN18 9))).trans ((congrArg (fun q : Nat => (q : Int)) (show N15 9 = N 9 from (eN15 9))).trans (en9))) (y18_0_1) (((eF18 2 1).trans ey18_0_1)) (u4_1) ((((((show F18 4 1 = F15 4 1 from (eF18 4 1))).trans ((show F15 4 1 = F10 4 1 from (eF15 4 1)))).trans ((show F10 4 1 = F 4 1 from (eF10 4 1)))).trans (eu4_1))) (u6_1) ((((((show F18 6 1 = F15 6 1 from (eF18 6 1))).trans ((show F15 6 1 = F10 6 1 from (eF15 6 1)))).trans ((show F10 6 1 = F 6 1 from (eF10 6 1)))).trans (eu6_1))) (u8_1) ((((((show F18 8 1 = F15 8 1 from (eF18 8 1))).trans ((show F15 8 1 = F10 8 1 from (eF15 8 1)))).trans ((show F10 8 1 = F 8 1 from (eF10 8 1)))).trans (eu8_1))) (show (1) = 0 ∨ (1) = 1 by first | exact q_5 | omega) (show 0 ≤ (y18_0_1) ∧ (y18_0_1) ≤ (m18_1) ∧ (m18_1) ≤ 65536 from pz18_0) (show 0 ≤ (u4_1) ∧ (u4_1) ≤ (n5) ∧ (n5) ≤ 65536 from h5) (show 0 ≤ (u6_1) ∧ (u6_1) ≤ (n7) ∧ (n7) ≤ 65536 from h6) (show 0 ≤ (u8_1) ∧ (u8_1) ≤ (n9) ∧ (n9) ≤ 65536 from h7))
          · refine Ew_of (pcₚ := 32) (fun _ => x_iconst rfl) ?_
            exact w_ireturn rfl (k (0) _ _ _ _ _ _ _ H O (cD15) (cN15) (cF15) (cA15) (pf15_2_0) (pf15_4_0) (pf15_6_0) (pf15_8_0) (m15_1) ((congrArg (fun q : Nat => (q : Int)) (eN15 3)).trans em15_1) (n5) ((congrArg (fun q : Nat => (q : Int)) (show N15 5 = N 5 from (eN15 5))).trans (en5)) (n7) ((congrArg (fun q : Nat => (q : Int)) (show N15 7 = N 7 from (eN15 7))).trans (en7)) (n9) ((congrArg (fun q : Nat => (q : Int)) (show N15 9 = N 9 from (eN15 9))).trans (en9)) (u2_1) (((((show F15 2 1 = F10 2 1 from (eF15 2 1).trans (hS15 0 1 rfl))).trans ((show F10 2 1 = F 2 1 from (eF10 2 1)))).trans (eu2_1))) (u4_1) (((((show F15 4 1 = F10 4 1 from (eF15 4 1))).trans ((show F10 4 1 = F 4 1 from (eF10 4 1)))).trans (eu4_1))) (u6_1) (((((show F15 6 1 = F10 6 1 from (eF15 6 1))).trans ((show F10 6 1 = F 6 1 from (eF10 6 1)))).trans (eu6_1))) (u8_1) (((((show F15 8 1 = F10 8 1 from (eF15 8 1))).trans ((show F10 8 1 = F 8 1 from (eF10 8 1)))).trans (eu8_1))) (show (0) = 0 ∨ (0) = 1 by first | exact q_1 | omega) (show 0 ≤ (u2_1) ∧ (u2_1) ≤ (m15_1) ∧ (m15_1) ≤ 65536 from pz15_1) (show 0 ≤ (u4_1) ∧ (u4_1) ≤ (n5) ∧ (n5) ≤ 65536 from h5) (show 0 ≤ (u6_1) ∧ (u6_1) ≤ (n7) ∧ (n7) ≤ 65536 from h6) (show 0 ≤ (u8_1) ∧ (u8_1) ≤ (n9) ∧ (n9) ≤ 65536 from h7))
        · refine v_lR H (o := 1) rfl rfl rfl rfl rfl (n := n1) (en1) (show 0 ≤ a1 ∧ a1 < n1 from q_4226 (HIDe r5) b14 h3) (z := ((D 4 : Nat) : Int)) (v := .ref (D 4)) ((congrArg (A10 1) b14).trans ((mA10 1 rfl 1).trans (pf4))) (vrf rfl) ?_
          refine Ew_of (pcₚ := 25) (fun _ => x_iload_n rfl rfl) ?_
          refine v_inv H (o := 4) rfl rfl rfl rfl rfl rfl (by rfl) (C157 (D := puc 2564 D) (N := puc 2564 N) (HW_subc H oz_R2cls_26 oz_R2cls_18) ((((show F10 4 0 = F 4 0 from (eF10 4 0)))).trans (pf5)) (n5) (en5) (u4_1) ((((show F10 4 1 = F 4 1 from (eF10 4 1))).trans (eu4_1))) (A 5) ((show A10 5 = A 5 from (eA10 5))) (show inr (a2) from h1) (show 0 ≤ (u4_1) ∧ (u4_1) ≤ (n5) ∧ (n5) ≤ 65536 from h5) (fun z21 σ21 D21ₚ N21ₚ F21ₚ A21ₚ c21 s21 Hₚ Oₚ hD21 hN21 hS21 hA21 (pm21_1 : HID _) m21_1 (em21_1 : HID _) w21_1 ew21_1 pz21_0 pz21_1 pz21_2 pz21_3 pz21_4 => ⟨rretB rfl pz21_0, ?_⟩))
          refine v_backMc (c := c) (s := s) H oz_R2cls_26 oz_R2cls_18 Hₚ Oₚ hD21 oz_R2cls_27 (fun D21 N21 F21 A21 H Oₚ eD21 eN21 eF21 eA21 => ?_)
          have O := OUT_trans O Oₚ
          -- Row.reserve
          have cF21 : SF oz_R2clsl_0 F F21 := SF_trans (cF10) (SF_gluc (ι := oz_R2clsl_4) oz_R2cls_18 hS21 eF21 (by decide +kernel)) (any_sub (lₚ := [(4, 0)]) (by decide +kernel))
          have mF21 := SFm_of cF21 oz_R2cls_14
          have cA21 : SA oz_R2clsl_1 A A21 := SA_trans (cA10) (SA_gluc (ι := oz_R2clsl_4) oz_R2cls_18 hA21 eA21 (by decide +kernel)) (any_subA (lₚ := [5]) (by decide +kernel))
          have mA21 := SAm_of cA21 oz_R2cls_15
          have cD21 : SD oz_R2clsl_1 D D21 := SD_trans (SD_refl) (SD_gluc (ι := oz_R2clsl_4) oz_R2cls_18 hD21 eD21 (by decide +kernel)) (any_subA (lₚ := [5]) (by decide +kernel))
          have mD21 := SDm_of cD21 oz_R2cls_15
          have cN21 : SD oz_R2clsl_1 N N21 := SD_trans (SD_refl) (SD_gluc (ι := oz_R2clsl_4) oz_R2cls_18 hN21 eN21 (by decide +kernel)) (any_subA (lₚ := [5]) (by decide +kernel))
          have mN21 := SDm_of cN21 oz_R2cls_15
          have pf21_2_0 : HID (F21 2 0 = (D21 3 : Int)) := ((show F21 2 0 = F10 2 0 from (eF21 2 0))).trans (((((show F10 2 0 = F 2 0 from (eF10 2 0)))).trans (pf3)).trans (congrArg (fun q : Nat => (q : Int)) ((show D21 3 = D 3 from (eD21 3))).symm))
          have pf21_4_0 : HID (F21 4 0 = (D21 5 : Int)) := (eF21 4 0).trans (pm21_1.trans (congrArg (fun q : Nat => (q : Int)) (eD21 5).symm))
          have pf21_6_0 : HID (F21 6 0 = (D21 7 : Int)) := ((show F21 6 0 = F10 6 0 from (eF21 6 0))).trans (((((show F10 6 0 = F 6 0 from (eF10 6 0)))).trans (pf7)).trans (congrArg (fun q : Nat => (q : Int)) ((show D21 7 = D 7 from (eD21 7))).symm))
          have pf21_8_0 : HID (F21 8 0 = (D21 9 : Int)) := ((show F21 8 0 = F10 8 0 from (eF21 8 0))).trans (((((show F10 8 0 = F 8 0 from (eF10 8 0)))).trans (pf9)).trans (congrArg (fun q : Nat => (q : Int)) ((show D21 9 = D 9 from (eD21 9))).symm))
          refine w_ifne (t := 33) rfl rfl (show inr (z21) from q_15 pz21_0) (fun b23 => ?_) (fun b23 => ?_)
          · refine Ew_of (pcₚ := 34) (fun _ => x_aload_n rfl rfl) ?_
            refine Ew_stk (congrArg (fun qz : Nat => ([.ref qz] : List Value)) (show D21 0 = D 0 from mD21 0 rfl).symm) ?_
            refine v_g H (o := 0) (v := .ref (D21 1)) rfl rfl rfl rfl rfl (vrf ((mF21 0 0 rfl).trans ((pf1).trans (congrArg (fun q : Nat => (q : Int)) (mD21 1 rfl).symm)))) ?_
            refine Ew_of (pcₚ := 38) (fun _ => x_iload_n rfl rfl) ?_
            refine v_lR H (o := 1) rfl rfl rfl rfl rfl (n := n1) ((congrArg (fun q : Nat => (q : Int)) (mN21 1 rfl)).trans (en1)) (show 0 ≤ a1 ∧ a1 < n1 from q_4226 (HIDe r5) b14 h3) (z := ((D21 4 : Nat) : Int)) (v := .ref (D21 4)) ((congrArg (A21 1) b14).trans ((mA21 1 rfl 1).trans ((pf4).trans (congrArg (fun q : Nat => (q : Int)) (mD21 4 rfl).symm)))) (vrf rfl) ?_
            refine Ew_of (pcₚ := 40) (fun _ => x_lload_n rfl rfl) ?_
            refine Ew_of (pcₚ := 41) (fun _ => x_iload_n rfl rfl) ?_
            refine w_stat24 rfl rfl (by rfl) (C28_Row (D := puc 2564 D21) (N := puc 2564 N21) (HW_subc H oz_R2cls_28 oz_R2cls_18) (pf21_4_0) (m21_1) ((congrArg (fun q : Nat => (q : Int)) (eN21 5)).trans em21_1) (u4_1) (((((show F21 4 1 = F10 4 1 from (eF21 4 1).trans (hS21 0 1 rfl))).trans ((show F10 4 1 = F 4 1 from (eF10 4 1)))).trans (eu4_1))) (show inrJ (a3) from h2) (show inr (a2) from h1) (show 0 ≤ (u4_1) ∧ (u4_1) ≤ (m21_1) ∧ (m21_1) ≤ 65536 from pz21_1) (show (a2) ≤ 8 from b13) (fun σ24 D24ₚ N24ₚ F24ₚ A24ₚ c24 s24 Hₚ Oₚ hD24 hN24 hS24 hA24 (pm24_1 : HID _) m24_1 (em24_1 : HID _) y24_0_1 (ey24_0_1 : HID _) pz24_0 => ⟨rfl, ?_⟩))
            refine v_backMc (c := (c + c21)) (s := (s + s21)) H oz_R2cls_28 oz_R2cls_18 Hₚ Oₚ hD24 oz_R2cls_27 (fun D24 N24 F24 A24 H Oₚ eD24 eN24 eF24 eA24 => ?_)
            have O := OUT_trans O Oₚ
            -- PackHouse.addHighestFirst
            have cF24 : SF oz_R2clsl_0 F F24 := SF_trans (cF21) (SF_gluc (ι := oz_R2clsl_4) oz_R2cls_18 hS24 eF24 (by decide +kernel)) (any_sub (lₚ := [(4, 0), (4, 1), (4, 2)]) (by decide +kernel))
            have mF24 := SFm_of cF24 oz_R2cls_14
            have cA24 : SA oz_R2clsl_1 A A24 := SA_trans (cA21) (SA_gluc (ι := oz_R2clsl_4) oz_R2cls_18 hA24 eA24 (by decide +kernel)) (any_subA (lₚ := [5]) (by decide +kernel))
            have mA24 := SAm_of cA24 oz_R2cls_15
            have cD24 : SD oz_R2clsl_1 D D24 := SD_trans (cD21) (SD_gluc (ι := oz_R2clsl_4) oz_R2cls_18 hD24 eD24 (by decide +kernel)) (any_subA (lₚ := [5]) (by decide +kernel))
            have mD24 := SDm_of cD24 oz_R2cls_15
            have cN24 : SD oz_R2clsl_1 N N24 := SD_trans (cN21) (SD_gluc (ι := oz_R2clsl_4) oz_R2cls_18 hN24 eN24 (by decide +kernel)) (any_subA (lₚ := [5]) (by decide +kernel))
            have mN24 := SDm_of cN24 oz_R2cls_15
            have pf24_2_0 : HID (F24 2 0 = (D24 3 : Int)) := ((show F24 2 0 = F21 2 0 from (eF24 2 0))).trans ((pf21_2_0).trans (congrArg (fun q : Nat => (q : Int)) ((show D24 3 = D21 3 from (eD24 3))).symm))
            have pf24_4_0 : HID (F24 4 0 = (D24 5 : Int)) := (eF24 4 0).trans (pm24_1.trans (congrArg (fun q : Nat => (q : Int)) (eD24 5).symm))
            have pf24_6_0 : HID (F24 6 0 = (D24 7 : Int)) := ((show F24 6 0 = F21 6 0 from (eF24 6 0))).trans ((pf21_6_0).trans (congrArg (fun q : Nat => (q : Int)) ((show D24 7 = D21 7 from (eD24 7))).symm))
            have pf24_8_0 : HID (F24 8 0 = (D24 9 : Int)) := ((show F24 8 0 = F21 8 0 from (eF24 8 0))).trans ((pf21_8_0).trans (congrArg (fun q : Nat => (q : Int)) ((show D24 9 = D21 9 from (eD24 9))).symm))
            refine Ew_of (pcₚ := 45) (fun _ => x_iconst rfl) ?_
            exact w_ireturn rfl (k (1) _ _ _ _ _ _ _ H O (cD24) (cN24) (cF24) (cA24) (pf24_2_0) (pf24_4_0) (pf24_6_0) (pf24_8_0) (n3) ((congrArg (fun q : Nat => (q : Int)) (show N24 3 = N21 3 from (eN24 3))).trans ((congrArg (fun q : Nat => (q : Int)) (show N21 3 = N 3 from (eN21 3))).trans (en3))) (m24_1) ((congrArg (fun q : Nat => (q : Int)) (eN24 5)).trans em24_1) (n7) ((congrArg (fun q : Nat => (q : Int)) (show N24 7 = N21 7 from (eN24 7))).trans ((congrArg (fun q : Nat => (q : Int)) (show N21 7 = N 7 from (eN21 7))).trans (en7))) (n9) ((congrArg (fun q : Nat => (q : Int)) (show N24 9 = N21 9 from (eN24 9))).trans ((congrArg (fun q : Nat => (q : Int)) (show N21 9 = N 9 from (eN21 9))).trans (en9))) (u2_1) ((((((show F24 2 1 = F21 2 1 from (eF24 2 1))).trans ((show F21 2 1 = F10 2 1 from (eF21 2 1)))).trans ((show F10 2 1 = F 2 1 from (eF10 2 1)))).trans (eu2_1))) (y24_0_1) (((eF24 4 1).trans ey24_0_1)) (u6_1) ((((((show F24 6 1 = F21 6 1 from (eF24 6 1))).trans ((show F21 6 1 = F10 6 1 from (eF21 6 1)))).trans ((show F10 6 1 = F 6 1 from (eF10 6 1)))).trans (eu6_1))) (u8_1) ((((((show F24 8 1 = F21 8 1 from (eF24 8 1))).trans ((show F21 8 1 = F10 8 1 from (eF21 8 1)))).trans ((show F10 8 1 = F 8 1 from (eF10 8 1)))).trans (eu8_1))) (show (1) = 0 ∨ (1) = 1 by first | exact q_5 | omega) (show 0 ≤ (u2_1) ∧ (u2_1) ≤ (n3) ∧ (n3) ≤ 65536 from h4) (show 0 ≤ (y24_0_1) ∧ (y24_0_1) ≤ (m24_1) ∧ (m24_1) ≤ 65536 from pz24_0) (show 0 ≤ (u6_1) ∧ (u6_1) ≤ (n7) ∧ (n7) ≤ 65536 from h6) (show 0 ≤ (u8_1) ∧ (u8_1) ≤ (n9) ∧ (n9) ≤ 65536 from h7))
          · refine Ew_of (pcₚ := 32) (fun _ => x_iconst rfl) ?_
            exact w_ireturn rfl (k (0) _ _ _ _ _ _ _ H O (cD21) (cN21) (cF21) (cA21) (pf21_2_0) (pf21_4_0) (pf21_6_0) (pf21_8_0) (n3) ((congrArg (fun q : Nat => (q : Int)) (show N21 3 = N 3 from (eN21 3))).trans (en3)) (m21_1) ((congrArg (fun q : Nat => (q : Int)) (eN21 5)).trans em21_1) (n7) ((congrArg (fun q : Nat => (q : Int)) (show N21 7 = N 7 from (eN21 7))).trans (en7)) (n9) ((congrArg (fun q : Nat => (q : Int)) (show N21 9 = N 9 from (eN21 9))).trans (en9)) (u2_1) (((((show F21 2 1 = F10 2 1 from (eF21 2 1))).trans ((show F10 2 1 = F 2 1 from (eF10 2 1)))).trans (eu2_1))) (u4_1) (((((show F21 4 1 = F10 4 1 from (eF21 4 1).trans (hS21 0 1 rfl))).trans ((show F10 4 1 = F 4 1 from (eF10 4 1)))).trans (eu4_1))) (u6_1) (((((show F21 6 1 = F10 6 1 from (eF21 6 1))).trans ((show F10 6 1 = F 6 1 from (eF10 6 1)))).trans (eu6_1))) (u8_1) (((((show F21 8 1 = F10 8 1 from (eF21 8 1))).trans ((show F10 8 1 = F 8 1 from (eF10 8 1)))).trans (eu8_1))) (show (0) = 0 ∨ (0) = 1 by first | exact q_1 | omega) (show 0 ≤ (u2_1) ∧ (u2_1) ≤ (n3) ∧ (n3) ≤ 65536 from h4) (show 0 ≤ (u4_1) ∧ (u4_1) ≤ (m21_1) ∧ (m21_1) ≤ 65536 from pz21_1) (show 0 ≤ (u6_1) ∧ (u6_1) ≤ (n7) ∧ (n7) ≤ 65536 from h6) (show 0 ≤ (u8_1) ∧ (u8_1) ≤ (n9) ∧ (n9) ≤ 65536 from h7))
        · refine v_lR H (o := 1) rfl rfl rfl rfl rfl (n := n1) (en1) (show 0 ≤ a1 ∧ a1 < n1 from q_4227 (HIDe r5) b14 h3) (z := ((D 6 : Nat) : Int)) (v := .ref (D 6)) ((congrArg (A10 1) b14).trans ((mA10 1 rfl 2).trans (pf6))) (vrf rfl) ?_
          refine Ew_of (pcₚ := 25) (fun _ => x_iload_n rfl rfl) ?_
          refine v_inv H (o := 6) rfl rfl rfl rfl rfl rfl (by rfl) (C157 (D := puc 3590 D) (N := puc 3590 N) (HW_subc H oz_R2cls_29 oz_R2cls_19) ((((show F10 6 0 = F 6 0 from (eF10 6 0)))).trans (pf7)) (n7) (en7) (u6_1) ((((show F10 6 1 = F 6 1 from (eF10 6 1))).trans (eu6_1))) (A 7) ((show A10 7 = A 7 from (eA10 7))) (show inr (a2) from h1) (show 0 ≤ (u6_1) ∧ (u6_1) ≤ (n7) ∧ (n7) ≤ 65536 from h6) (fun z27 σ27 D27ₚ N27ₚ F27ₚ A27ₚ c27 s27 Hₚ Oₚ hD27 hN27 hS27 hA27 (pm27_1 : HID _) m27_1 (em27_1 : HID _) w27_1 ew27_1 pz27_0 pz27_1 pz27_2 pz27_3 pz27_4 => ⟨rretB rfl pz27_0, ?_⟩))
          refine v_backMc (c := c) (s := s) H oz_R2cls_29 oz_R2cls_19 Hₚ Oₚ hD27 oz_R2cls_30 (fun D27 N27 F27 A27 H Oₚ eD27 eN27 eF27 eA27 => ?_)
          have O := OUT_trans O Oₚ
          -- Row.reserve
          have cF27 : SF oz_R2clsl_0 F F27 := SF_trans (cF10) (SF_gluc (ι := oz_R2clsl_5) oz_R2cls_19 hS27 eF27 (by decide +kernel)) (any_sub (lₚ := [(6, 0)]) (by decide +kernel))
          have mF27 := SFm_of cF27 oz_R2cls_14
          have cA27 : SA oz_R2clsl_1 A A27 := SA_trans (cA10) (SA_gluc (ι := oz_R2clsl_5) oz_R2cls_19 hA27 eA27 (by decide +kernel)) (any_subA (lₚ := [7]) (by decide +kernel))
          have mA27 := SAm_of cA27 oz_R2cls_15
          have cD27 : SD oz_R2clsl_1 D D27 := SD_trans (SD_refl) (SD_gluc (ι := oz_R2clsl_5) oz_R2cls_19 hD27 eD27 (by decide +kernel)) (any_subA (lₚ := [7]) (by decide +kernel))
          have mD27 := SDm_of cD27 oz_R2cls_15
          have cN27 : SD oz_R2clsl_1 N N27 := SD_trans (SD_refl) (SD_gluc (ι := oz_R2clsl_5) oz_R2cls_19 hN27 eN27 (by decide +kernel)) (any_subA (lₚ := [7]) (by decide +kernel))
          have mN27 := SDm_of cN27 oz_R2cls_15
          have pf27_2_0 : HID (F27 2 0 = (D27 3 : Int)) := ((show F27 2 0 = F10 2 0 from (eF27 2 0))).trans (((((show F10 2 0 = F 2 0 from (eF10 2 0)))).trans (pf3)).trans (congrArg (fun q : Nat => (q : Int)) ((show D27 3 = D 3 from (eD27 3))).symm))
          have pf27_4_0 : HID (F27 4 0 = (D27 5 : Int)) := ((show F27 4 0 = F10 4 0 from (eF27 4 0))).trans (((((show F10 4 0 = F 4 0 from (eF10 4 0)))).trans (pf5)).trans (congrArg (fun q : Nat => (q : Int)) ((show D27 5 = D 5 from (eD27 5))).symm))
          have pf27_6_0 : HID (F27 6 0 = (D27 7 : Int)) := (eF27 6 0).trans (pm27_1.trans (congrArg (fun q : Nat => (q : Int)) (eD27 7).symm))
          have pf27_8_0 : HID (F27 8 0 = (D27 9 : Int)) := ((show F27 8 0 = F10 8 0 from (eF27 8 0))).trans (((((show F10 8 0 = F 8 0 from (eF10 8 0)))).trans (pf9)).trans (congrArg (fun q : Nat => (q : Int)) ((show D27 9 = D 9 from (eD27 9))).symm))
          refine w_ifne (t := 33) rfl rfl (show inr (z27) from q_15 pz27_0) (fun b29 => ?_) (fun b29 => ?_)
          · refine Ew_of (pcₚ := 34) (fun _ => x_aload_n rfl rfl) ?_
            refine Ew_stk (congrArg (fun qz : Nat => ([.ref qz] : List Value)) (show D27 0 = D 0 from mD27 0 rfl).symm) ?_
            refine v_g H (o := 0) (v := .ref (D27 1)) rfl rfl rfl rfl rfl (vrf ((mF27 0 0 rfl).trans ((pf1).trans (congrArg (fun q : Nat => (q : Int)) (mD27 1 rfl).symm)))) ?_
            refine Ew_of (pcₚ := 38) (fun _ => x_iload_n rfl rfl) ?_
            refine v_lR H (o := 1) rfl rfl rfl rfl rfl (n := n1) ((congrArg (fun q : Nat => (q : Int)) (mN27 1 rfl)).trans (en1)) (show 0 ≤ a1 ∧ a1 < n1 from q_4227 (HIDe r5) b14 h3) (z := ((D27 6 : Nat) : Int)) (v := .ref (D27 6)) ((congrArg (A27 1) b14).trans ((mA27 1 rfl 2).trans ((pf6).trans (congrArg (fun q : Nat => (q : Int)) (mD27 6 rfl).symm)))) (vrf rfl) ?_
            refine Ew_of (pcₚ := 40) (fun _ => x_lload_n rfl rfl) ?_
            refine Ew_of (pcₚ := 41) (fun _ => x_iload_n rfl rfl) ?_
            refine w_stat24 rfl rfl (by rfl) (C28_Row (D := puc 3590 D27) (N := puc 3590 N27) (HW_subc H oz_R2cls_31 oz_R2cls_19) (pf27_6_0) (m27_1) ((congrArg (fun q : Nat => (q : Int)) (eN27 7)).trans em27_1) (u6_1) (((((show F27 6 1 = F10 6 1 from (eF27 6 1).trans (hS27 0 1 rfl))).trans ((show F10 6 1 = F 6 1 from (eF10 6 1)))).trans (eu6_1))) (show inrJ (a3) from h2) (show inr (a2) from h1) (show 0 ≤ (u6_1) ∧ (u6_1) ≤ (m27_1) ∧ (m27_1) ≤ 65536 from pz27_1) (show (a2) ≤ 8 from b13) (fun σ30 D30ₚ N30ₚ F30ₚ A30ₚ c30 s30 Hₚ Oₚ hD30 hN30 hS30 hA30 (pm30_1 : HID _) m30_1 (em30_1 : HID _) y30_0_1 (ey30_0_1 : HID _) pz30_0 => ⟨rfl, ?_⟩))
            refine v_backMc (c := (c + c27)) (s := (s + s27)) H oz_R2cls_31 oz_R2cls_19 Hₚ Oₚ hD30 oz_R2cls_30 (fun D30 N30 F30 A30 H Oₚ eD30 eN30 eF30 eA30 => ?_)
            have O := OUT_trans O Oₚ
            -- PackHouse.addHighestFirst
            have cF30 : SF oz_R2clsl_0 F F30 := SF_trans (cF27) (SF_gluc (ι := oz_R2clsl_5) oz_R2cls_19 hS30 eF30 (by decide +kernel)) (any_sub (lₚ := [(6, 0), (6, 1), (6, 2)]) (by decide +kernel))
            have mF30 := SFm_of cF30 oz_R2cls_14
            have cA30 : SA oz_R2clsl_1 A A30 := SA_trans (cA27) (SA_gluc (ι := oz_R2clsl_5) oz_R2cls_19 hA30 eA30 (by decide +kernel)) (any_subA (lₚ := [7]) (by decide +kernel))
            have mA30 := SAm_of cA30 oz_R2cls_15
            have cD30 : SD oz_R2clsl_1 D D30 := SD_trans (cD27) (SD_gluc (ι := oz_R2clsl_5) oz_R2cls_19 hD30 eD30 (by decide +kernel)) (any_subA (lₚ := [7]) (by decide +kernel))
            have mD30 := SDm_of cD30 oz_R2cls_15
            have cN30 : SD oz_R2clsl_1 N N30 := SD_trans (cN27) (SD_gluc (ι := oz_R2clsl_5) oz_R2cls_19 hN30 eN30 (by decide +kernel)) (any_subA (lₚ := [7]) (by decide +kernel))
            have mN30 := SDm_of cN30 oz_R2cls_15
            have pf30_2_0 : HID (F30 2 0 = (D30 3 : Int)) := ((show F30 2 0 = F27 2 0 from (eF30 2 0))).trans ((pf27_2_0).trans (congrArg (fun q : Nat => (q : Int)) ((show D30 3 = D27 3 from (eD30 3))).symm))
            have pf30_4_0 : HID (F30 4 0 = (D30 5 : Int)) := ((show F30 4 0 = F27 4 0 from (eF30 4 0))).trans ((pf27_4_0).trans (congrArg (fun q : Nat => (q : Int)) ((show D30 5 = D27 5 from (eD30 5))).symm))
            have pf30_6_0 : HID (F30 6 0 = (D30 7 : Int)) := (eF30 6 0).trans (pm30_1.trans (congrArg (fun q : Nat => (q : Int)) (eD30 7).symm))
            have pf30_8_0 : HID (F30 8 0 = (D30 9 : Int)) := ((show F30 8 0 = F27 8 0 from (eF30 8 0))).trans ((pf27_8_0).trans (congrArg (fun q : Nat => (q : Int)) ((show D30 9 = D27 9 from (eD30 9))).symm))
            refine Ew_of (pcₚ := 45) (fun _ => x_iconst rfl) ?_
            exact w_ireturn rfl (k (1) _ _ _ _ _ _ _ H O (cD30) (cN30) (cF30) (cA30) (pf30_2_0) (pf30_4_0) (pf30_6_0) (pf30_8_0) (n3) ((congrArg (fun q : Nat => (q : Int)) (show N30 3 = N27 3 from (eN30 3))).trans ((congrArg (fun q : Nat => (q : Int)) (show N27 3 = N 3 from (eN27 3))).trans (en3))) (n5) ((congrArg (fun q : Nat => (q : Int)) (show N30 5 = N27 5 from (eN30 5))).trans ((congrArg (fun q : Nat => (q : Int)) (show N27 5 = N 5 from (eN27 5))).trans (en5))) (m30_1) ((congrArg (fun q : Nat => (q : Int)) (eN30 7)).trans em30_1) (n9) ((congrArg (fun q : Nat => (q : Int)) (show N30 9 = N27 9 from (eN30 9))).trans ((congrArg (fun q : Nat => (q : Int)) (show N27 9 = N 9 from (eN27 9))).trans (en9))) (u2_1) ((((((show F30 2 1 = F27 2 1 from (eF30 2 1))).trans ((show F27 2 1 = F10 2 1 from (eF27 2 1)))).trans ((show F10 2 1 = F 2 1 from (eF10 2 1)))).trans (eu2_1))) (u4_1) ((((((show F30 4 1 = F27 4 1 from (eF30 4 1))).trans ((show F27 4 1 = F10 4 1 from (eF27 4 1)))).trans ((show F10 4 1 = F 4 1 from (eF10 4 1)))).trans (eu4_1))) (y30_0_1) (((eF30 6 1).trans ey30_0_1)) (u8_1) ((((((show F30 8 1 = F27 8 1 from (eF30 8 1))).trans ((show F27 8 1 = F10 8 1 from (eF27 8 1)))).trans ((show F10 8 1 = F 8 1 from (eF10 8 1)))).trans (eu8_1))) (show (1) = 0 ∨ (1) = 1 by first | exact q_5 | omega) (show 0 ≤ (u2_1) ∧ (u2_1) ≤ (n3) ∧ (n3) ≤ 65536 from h4) (show 0 ≤ (u4_1) ∧ (u4_1) ≤ (n5) ∧ (n5) ≤ 65536 from h5) (show 0 ≤ (y30_0_1) ∧ (y30_0_1) ≤ (m30_1) ∧ (m30_1) ≤ 65536 from pz30_0) (show 0 ≤ (u8_1) ∧ (u8_1) ≤ (n9) ∧ (n9) ≤ 65536 from h7))
          · refine Ew_of (pcₚ := 32) (fun _ => x_iconst rfl) ?_
            exact w_ireturn rfl (k (0) _ _ _ _ _ _ _ H O (cD27) (cN27) (cF27) (cA27) (pf27_2_0) (pf27_4_0) (pf27_6_0) (pf27_8_0) (n3) ((congrArg (fun q : Nat => (q : Int)) (show N27 3 = N 3 from (eN27 3))).trans (en3)) (n5) ((congrArg (fun q : Nat => (q : Int)) (show N27 5 = N 5 from (eN27 5))).trans (en5)) (m27_1) ((congrArg (fun q : Nat => (q : Int)) (eN27 7)).trans em27_1) (n9) ((congrArg (fun q : Nat => (q : Int)) (show N27 9 = N 9 from (eN27 9))).trans (en9)) (u2_1) (((((show F27 2 1 = F10 2 1 from (eF27 2 1))).trans ((show F10 2 1 = F 2 1 from (eF10 2 1)))).trans (eu2_1))) (u4_1) (((((show F27 4 1 = F10 4 1 from (eF27 4 1))).trans ((show F10 4 1 = F 4 1 from (eF10 4 1)))).trans (eu4_1))) (u6_1) (((((show F27 6 1 = F10 6 1 from (eF27 6 1).trans (hS27 0 1 rfl))).trans ((show F10 6 1 = F 6 1 from (eF10 6 1)))).trans (eu6_1))) (u8_1) (((((show F27 8 1 = F10 8 1 from (eF27 8 1))).trans ((show F10 8 1 = F 8 1 from (eF10 8 1)))).trans (eu8_1))) (show (0) = 0 ∨ (0) = 1 by first | exact q_1 | omega) (show 0 ≤ (u2_1) ∧ (u2_1) ≤ (n3) ∧ (n3) ≤ 65536 from h4) (show 0 ≤ (u4_1) ∧ (u4_1) ≤ (n5) ∧ (n5) ≤ 65536 from h5) (show 0 ≤ (u6_1) ∧ (u6_1) ≤ (m27_1) ∧ (m27_1) ≤ 65536 from pz27_1) (show 0 ≤ (u8_1) ∧ (u8_1) ≤ (n9) ∧ (n9) ≤ 65536 from h7))
        · refine v_lR H (o := 1) rfl rfl rfl rfl rfl (n := n1) (en1) (show 0 ≤ a1 ∧ a1 < n1 from q_4228 b14 h3) (z := ((D 8 : Nat) : Int)) (v := .ref (D 8)) ((congrArg (A10 1) b14).trans ((mA10 1 rfl 3).trans (pf8))) (vrf rfl) ?_
          refine Ew_of (pcₚ := 25) (fun _ => x_iload_n rfl rfl) ?_
          refine v_inv H (o := 8) rfl rfl rfl rfl rfl rfl (by rfl) (C157 (D := puc 4616 D) (N := puc 4616 N) (HW_subc H oz_R2cls_32 oz_R2cls_20) ((((show F10 8 0 = F 8 0 from (eF10 8 0)))).trans (pf9)) (n9) (en9) (u8_1) ((((show F10 8 1 = F 8 1 from (eF10 8 1))).trans (eu8_1))) (A 9) ((show A10 9 = A 9 from (eA10 9))) (show inr (a2) from h1) (show 0 ≤ (u8_1) ∧ (u8_1) ≤ (n9) ∧ (n9) ≤ 65536 from h7) (fun z33 σ33 D33ₚ N33ₚ F33ₚ A33ₚ c33 s33 Hₚ Oₚ hD33 hN33 hS33 hA33 (pm33_1 : HID _) m33_1 (em33_1 : HID _) w33_1 ew33_1 pz33_0 pz33_1 pz33_2 pz33_3 pz33_4 => ⟨rretB rfl pz33_0, ?_⟩))
          refine v_backMc (c := c) (s := s) H oz_R2cls_32 oz_R2cls_20 Hₚ Oₚ hD33 oz_R2cls_33 (fun D33 N33 F33 A33 H Oₚ eD33 eN33 eF33 eA33 => ?_)
          have O := OUT_trans O Oₚ
          -- Row.reserve
          have cF33 : SF oz_R2clsl_0 F F33 := SF_trans (cF10) (SF_gluc (ι := oz_R2clsl_6) oz_R2cls_20 hS33 eF33 (by decide +kernel)) (any_sub (lₚ := [(8, 0)]) (by decide +kernel))
          have mF33 := SFm_of cF33 oz_R2cls_14
          have cA33 : SA oz_R2clsl_1 A A33 := SA_trans (cA10) (SA_gluc (ι := oz_R2clsl_6) oz_R2cls_20 hA33 eA33 (by decide +kernel)) (any_subA (lₚ := [9]) (by decide +kernel))
          have mA33 := SAm_of cA33 oz_R2cls_15
          have cD33 : SD oz_R2clsl_1 D D33 := SD_trans (SD_refl) (SD_gluc (ι := oz_R2clsl_6) oz_R2cls_20 hD33 eD33 (by decide +kernel)) (any_subA (lₚ := [9]) (by decide +kernel))
          have mD33 := SDm_of cD33 oz_R2cls_15
          have cN33 : SD oz_R2clsl_1 N N33 := SD_trans (SD_refl) (SD_gluc (ι := oz_R2clsl_6) oz_R2cls_20 hN33 eN33 (by decide +kernel)) (any_subA (lₚ := [9]) (by decide +kernel))
          have mN33 := SDm_of cN33 oz_R2cls_15
          have pf33_2_0 : HID (F33 2 0 = (D33 3 : Int)) := ((show F33 2 0 = F10 2 0 from (eF33 2 0))).trans (((((show F10 2 0 = F 2 0 from (eF10 2 0)))).trans (pf3)).trans (congrArg (fun q : Nat => (q : Int)) ((show D33 3 = D 3 from (eD33 3))).symm))
          have pf33_4_0 : HID (F33 4 0 = (D33 5 : Int)) := ((show F33 4 0 = F10 4 0 from (eF33 4 0))).trans (((((show F10 4 0 = F 4 0 from (eF10 4 0)))).trans (pf5)).trans (congrArg (fun q : Nat => (q : Int)) ((show D33 5 = D 5 from (eD33 5))).symm))
          have pf33_6_0 : HID (F33 6 0 = (D33 7 : Int)) := ((show F33 6 0 = F10 6 0 from (eF33 6 0))).trans (((((show F10 6 0 = F 6 0 from (eF10 6 0)))).trans (pf7)).trans (congrArg (fun q : Nat => (q : Int)) ((show D33 7 = D 7 from (eD33 7))).symm))
          have pf33_8_0 : HID (F33 8 0 = (D33 9 : Int)) := (eF33 8 0).trans (pm33_1.trans (congrArg (fun q : Nat => (q : Int)) (eD33 9).symm))
          refine w_ifne (t := 33) rfl rfl (show inr (z33) from q_15 pz33_0) (fun b35 => ?_) (fun b35 => ?_)
          · refine Ew_of (pcₚ := 34) (fun _ => x_aload_n rfl rfl) ?_
            refine Ew_stk (congrArg (fun qz : Nat => ([.ref qz] : List Value)) (show D33 0 = D 0 from mD33 0 rfl).symm) ?_
            refine v_g H (o := 0) (v := .ref (D33 1)) rfl rfl rfl rfl rfl (vrf ((mF33 0 0 rfl).trans ((pf1).trans (congrArg (fun q : Nat => (q : Int)) (mD33 1 rfl).symm)))) ?_
            refine Ew_of (pcₚ := 38) (fun _ => x_iload_n rfl rfl) ?_
            refine v_lR H (o := 1) rfl rfl rfl rfl rfl (n := n1) ((congrArg (fun q : Nat => (q : Int)) (mN33 1 rfl)).trans (en1)) (show 0 ≤ a1 ∧ a1 < n1 from q_4228 b14 h3) (z := ((D33 8 : Nat) : Int)) (v := .ref (D33 8)) ((congrArg (A33 1) b14).trans ((mA33 1 rfl 3).trans ((pf8).trans (congrArg (fun q : Nat => (q : Int)) (mD33 8 rfl).symm)))) (vrf rfl) ?_
            refine Ew_of (pcₚ := 40) (fun _ => x_lload_n rfl rfl) ?_
            refine Ew_of (pcₚ := 41) (fun _ => x_iload_n rfl rfl) ?_
            refine w_stat24 rfl rfl (by rfl) (C28_Row (D := puc 4616 D33) (N := puc 4616 N33) (HW_subc H oz_R2cls_34 oz_R2cls_20) (pf33_8_0) (m33_1) ((congrArg (fun q : Nat => (q : Int)) (eN33 9)).trans em33_1) (u8_1) (((((show F33 8 1 = F10 8 1 from (eF33 8 1).trans (hS33 0 1 rfl))).trans ((show F10 8 1 = F 8 1 from (eF10 8 1)))).trans (eu8_1))) (show inrJ (a3) from h2) (show inr (a2) from h1) (show 0 ≤ (u8_1) ∧ (u8_1) ≤ (m33_1) ∧ (m33_1) ≤ 65536 from pz33_1) (show (a2) ≤ 8 from b13) (fun σ36 D36ₚ N36ₚ F36ₚ A36ₚ c36 s36 Hₚ Oₚ hD36 hN36 hS36 hA36 (pm36_1 : HID _) m36_1 (em36_1 : HID _) y36_0_1 (ey36_0_1 : HID _) pz36_0 => ⟨rfl, ?_⟩))
            refine v_backMc (c := (c + c33)) (s := (s + s33)) H oz_R2cls_34 oz_R2cls_20 Hₚ Oₚ hD36 oz_R2cls_33 (fun D36 N36 F36 A36 H Oₚ eD36 eN36 eF36 eA36 => ?_)
            have O := OUT_trans O Oₚ
            -- PackHouse.addHighestFirst
            have cF36 : SF oz_R2clsl_0 F F36 := SF_trans (cF33) (SF_gluc (ι := oz_R2clsl_6) oz_R2cls_20 hS36 eF36 (by decide +kernel)) (any_sub (lₚ := [(8, 0), (8, 1), (8, 2)]) (by decide +kernel))
            have mF36 := SFm_of cF36 oz_R2cls_14
            have cA36 : SA oz_R2clsl_1 A A36 := SA_trans (cA33) (SA_gluc (ι := oz_R2clsl_6) oz_R2cls_20 hA36 eA36 (by decide +kernel)) (any_subA (lₚ := [9]) (by decide +kernel))
            have mA36 := SAm_of cA36 oz_R2cls_15
            have cD36 : SD oz_R2clsl_1 D D36 := SD_trans (cD33) (SD_gluc (ι := oz_R2clsl_6) oz_R2cls_20 hD36 eD36 (by decide +kernel)) (any_subA (lₚ := [9]) (by decide +kernel))
            have mD36 := SDm_of cD36 oz_R2cls_15
            have cN36 : SD oz_R2clsl_1 N N36 := SD_trans (cN33) (SD_gluc (ι := oz_R2clsl_6) oz_R2cls_20 hN36 eN36 (by decide +kernel)) (any_subA (lₚ := [9]) (by decide +kernel))
            have mN36 := SDm_of cN36 oz_R2cls_15
            have pf36_2_0 : HID (F36 2 0 = (D36 3 : Int)) := ((show F36 2 0 = F33 2 0 from (eF36 2 0))).trans ((pf33_2_0).trans (congrArg (fun q : Nat => (q : Int)) ((show D36 3 = D33 3 from (eD36 3))).symm))
            have pf36_4_0 : HID (F36 4 0 = (D36 5 : Int)) := ((show F36 4 0 = F33 4 0 from (eF36 4 0))).trans ((pf33_4_0).trans (congrArg (fun q : Nat => (q : Int)) ((show D36 5 = D33 5 from (eD36 5))).symm))
            have pf36_6_0 : HID (F36 6 0 = (D36 7 : Int)) := ((show F36 6 0 = F33 6 0 from (eF36 6 0))).trans ((pf33_6_0).trans (congrArg (fun q : Nat => (q : Int)) ((show D36 7 = D33 7 from (eD36 7))).symm))
            have pf36_8_0 : HID (F36 8 0 = (D36 9 : Int)) := (eF36 8 0).trans (pm36_1.trans (congrArg (fun q : Nat => (q : Int)) (eD36 9).symm))
            refine Ew_of (pcₚ := 45) (fun _ => x_iconst rfl) ?_
            exact w_ireturn rfl (k (1) _ _ _ _ _ _ _ H O (cD36) (cN36) (cF36) (cA36) (pf36_2_0) (pf36_4_0) (pf36_6_0) (pf36_8_0) (n3) ((congrArg (fun q : Nat => (q : Int)) (show N36 3 = N33 3 from (eN36 3))).trans ((congrArg (fun q : Nat => (q : Int)) (show N33 3 = N 3 from (eN33 3))).trans (en3))) (n5) ((congrArg (fun q : Nat => (q : Int)) (show N36 5 = N33 5 from (eN36 5))).trans ((congrArg (fun q : Nat => (q : Int)) (show N33 5 = N 5 from (eN33 5))).trans (en5))) (n7) ((congrArg (fun q : Nat => (q : Int)) (show N36 7 = N33 7 from (eN36 7))).trans ((congrArg (fun q : Nat => (q : Int)) (show N33 7 = N 7 from (eN33 7))).trans (en7))) (m36_1) ((congrArg (fun q : Nat => (q : Int)) (eN36 9)).trans em36_1) (u2_1) ((((((show F36 2 1 = F33 2 1 from (eF36 2 1))).trans ((show F33 2 1 = F10 2 1 from (eF33 2 1)))).trans ((show F10 2 1 = F 2 1 from (eF10 2 1)))).trans (eu2_1))) (u4_1) ((((((show F36 4 1 = F33 4 1 from (eF36 4 1))).trans ((show F33 4 1 = F10 4 1 from (eF33 4 1)))).trans ((show F10 4 1 = F 4 1 from (eF10 4 1)))).trans (eu4_1))) (u6_1) ((((((show F36 6 1 = F33 6 1 from (eF36 6 1))).trans ((show F33 6 1 = F10 6 1 from (eF33 6 1)))).trans ((show F10 6 1 = F 6 1 from (eF10 6 1)))).trans (eu6_1))) (y36_0_1) (((eF36 8 1).trans ey36_0_1)) (show (1) = 0 ∨ (1) = 1 by first | exact q_5 | omega) (show 0 ≤ (u2_1) ∧ (u2_1) ≤ (n3) ∧ (n3) ≤ 65536 from h4) (show 0 ≤ (u4_1) ∧ (u4_1) ≤ (n5) ∧ (n5) ≤ 65536 from h5) (show 0 ≤ (u6_1) ∧ (u6_1) ≤ (n7) ∧ (n7) ≤ 65536 from h6) (show 0 ≤ (y36_0_1) ∧ (y36_0_1) ≤ (m36_1) ∧ (m36_1) ≤ 65536 from pz36_0))
          · refine Ew_of (pcₚ := 32) (fun _ => x_iconst rfl) ?_
            exact w_ireturn rfl (k (0) _ _ _ _ _ _ _ H O (cD33) (cN33) (cF33) (cA33) (pf33_2_0) (pf33_4_0) (pf33_6_0) (pf33_8_0) (n3) ((congrArg (fun q : Nat => (q : Int)) (show N33 3 = N 3 from (eN33 3))).trans (en3)) (n5) ((congrArg (fun q : Nat => (q : Int)) (show N33 5 = N 5 from (eN33 5))).trans (en5)) (n7) ((congrArg (fun q : Nat => (q : Int)) (show N33 7 = N 7 from (eN33 7))).trans (en7)) (m33_1) ((congrArg (fun q : Nat => (q : Int)) (eN33 9)).trans em33_1) (u2_1) (((((show F33 2 1 = F10 2 1 from (eF33 2 1))).trans ((show F10 2 1 = F 2 1 from (eF10 2 1)))).trans (eu2_1))) (u4_1) (((((show F33 4 1 = F10 4 1 from (eF33 4 1))).trans ((show F10 4 1 = F 4 1 from (eF10 4 1)))).trans (eu4_1))) (u6_1) (((((show F33 6 1 = F10 6 1 from (eF33 6 1))).trans ((show F10 6 1 = F 6 1 from (eF10 6 1)))).trans (eu6_1))) (u8_1) (((((show F33 8 1 = F10 8 1 from (eF33 8 1).trans (hS33 0 1 rfl))).trans ((show F10 8 1 = F 8 1 from (eF10 8 1)))).trans (eu8_1))) (show (0) = 0 ∨ (0) = 1 by first | exact q_1 | omega) (show 0 ≤ (u2_1) ∧ (u2_1) ≤ (n3) ∧ (n3) ≤ 65536 from h4) (show 0 ≤ (u4_1) ∧ (u4_1) ≤ (n5) ∧ (n5) ≤ 65536 from h5) (show 0 ≤ (u6_1) ∧ (u6_1) ≤ (n7) ∧ (n7) ≤ 65536 from h6) (show 0 ≤ (u8_1) ∧ (u8_1) ≤ (m33_1) ∧ (m33_1) ≤ 65536 from pz33_1))
abbrev V3 : vV := [(0, 0, [(4, 0), (4, 0), (4, 0), (4, 0), (4, 0), (4, 0), (4, 0), (4, 0), (4, 0), (4, 0), (4, 0), (4, 0), (4, 0), (4, 0), (4, 0), (4, 0), (4, 0), (0, 0), (0, 0)]), (1, 4, []), (0, 7, [(4, 0), (0, 0), (1, 0), (0, 0), (0, 0)]), (1, 0, []), (0, 7, [(4, 0), (0, 0), (1, 0), (0, 0), (0, 0)]), (1, 0, []), (0, 7, [(4, 0), (0, 0), (1, 0), (0, 0), (0, 0)]), (1, 0, []), (0, 7, [(4, 0), (0, 0), (1, 0), (0, 0), (0, 0)]), (1, 0, [])]
theorem len_V3_oz_R2cls : (V3).length = 10 := by decide +kernel
theorem oz_R2cls_36 : vsub V3 V24 [] = true := by decide +kernel
theorem oz_R2cls_37 : vsub V3 V163_thisa [2, 3] = true := by decide +kernel
theorem oz_R2cls_38 : vmov V3 [2, 3] [1] = true := by decide +kernel
theorem oz_R2cls_39 : vsub V3 V163_thisa [4, 5] = true := by decide +kernel
theorem oz_R2cls_40 : vmov V3 [4, 5] [1] = true := by decide +kernel
theorem oz_R2cls_41 : vsub V3 V163_thisa [6, 7] = true := by decide +kernel
theorem oz_R2cls_42 : vmov V3 [6, 7] [1] = true := by decide +kernel
theorem oz_R2cls_43 : vsub V3 V163_thisa [8, 9] = true := by decide +kernel
theorem oz_R2cls_44 : vmov V3 [8, 9] [1] = true := by decide +kernel
/-- PackHouse.again: this, this.rows, this.rows.0, this.rows.0.bytes, this.rows.1, this.rows.1.bytes, this.rows.2, this.rows.2.bytes, this.rows.3, this.rows.3.bytes -/
theorem C3 {σE : rS} {D N : Nat → Nat} {F : hF} {A : hA} {d c s : Nat} {Q : wQ} (H : HW V3 σE D N F A) {a1 a2 a3 : Int} (pf1 : HID (F 0 0 = (D 1 : Int))) (pf2 : HID (A 1 0 = (D 2 : Int))) (pf3 : HID (F 2 0 = (D 3 : Int))) (pf4 : HID (A 1 1 = (D 4 : Int))) (pf5 : HID (F 4 0 = (D 5 : Int))) (pf6 : HID (A 1 2 = (D 6 : Int))) (pf7 : HID (F 6 0 = (D 7 : Int))) (pf8 : HID (A 1 3 = (D 8 : Int))) (pf9 : HID (F 8 0 = (D 9 : Int))) (n1 : Int) (en1 : HID ((N 1 : Int) = n1)) (n3 : Int) (en3 : HID ((N 3 : Int) = n3)) (n5 : Int) (en5 : HID ((N 5 : Int) = n5)) (n7 : Int) (en7 : HID ((N 7 : Int) = n7)) (n9 : Int) (en9 : HID ((N 9 : Int) = n9)) (u2_1 : Int) (eu2_1 : HID (F 2 1 = u2_1)) (u4_1 : Int) (eu4_1 : HID (F 4 1 = u4_1)) (u6_1 : Int) (eu6_1 : HID (F 6 1 = u6_1)) (u8_1 : Int) (eu8_1 : HID (F 8 1 = u8_1)) (h0 : inr (a1)) (h1 : inr (a2)) (h2 : inr (a3)) (h3 : (n1) = 4) (h4 : 0 ≤ (u2_1) ∧ (u2_1) ≤ (n3) ∧ (n3) ≤ 65536) (h5 : 0 ≤ (u4_1) ∧ (u4_1) ≤ (n5) ∧ (n5) ≤ 65536) (h6 : 0 ≤ (u6_1) ∧ (u6_1) ≤ (n7) ∧ (n7) ≤ 65536) (h7 : 0 ≤ (u8_1) ∧ (u8_1) ≤ (n9) ∧ (n9) ≤ 65536) (k : ∀ (z : Int) (σ : rS) (Dₚ Nₚ : Nat → Nat) (Fₚ : hF) (Aₚ : hA) (cₚ sₚ : Nat), HW V3 σ Dₚ Nₚ Fₚ Aₚ → OUT (V3).length D N σE c s Dₚ Nₚ σ cₚ sₚ → SD [3, 5, 7, 9] D Dₚ → SD [3, 5, 7, 9] N Nₚ → SF [(2, 0), (2, 1), (2, 2), (4, 0), (4, 1), (4, 2), (6, 0), (6, 1), (6, 2), (8, 0), (8, 1), (8, 2)] F Fₚ → SA [3, 5, 7, 9] A Aₚ → Fₚ 2 0 = (Dₚ 3 : Int) → Fₚ 4 0 = (Dₚ 5 : Int) → Fₚ 6 0 = (Dₚ 7 : Int) → Fₚ 8 0 = (Dₚ 9 : Int) → ∀ m3 : Int, (Nₚ 3 : Int) = m3 → ∀ m5 : Int, (Nₚ 5 : Int) = m5 → ∀ m7 : Int, (Nₚ 7 : Int) = m7 → ∀ m9 : Int, (Nₚ 9 : Int) = m9 → ∀ y2_1 : Int, Fₚ 2 1 = y2_1 → ∀ y4_1 : Int, Fₚ 4 1 = y4_1 → ∀ y6_1 : Int, Fₚ 6 1 = y6_1 → ∀ y8_1 : Int, Fₚ 8 1 = y8_1 → ((z) = 0 ∨ (z) = 1) → (0 ≤ (y2_1) ∧ (y2_1) ≤ (m3) ∧ (m3) ≤ 65536) → (0 ≤ (y4_1) ∧ (y4_1) ≤ (m5) ∧ (m5) ≤ 65536) → (0 ≤ (y6_1) ∧ (y6_1) ≤ (m7) ∧ (m7) ≤ 65536) → (0 ≤ (y8_1) ∧ (y8_1) ≤ (m9) ∧ (m9) ≤ 65536) → Q (some (I z)) σ cₚ sₚ) : Ew 3 (d + 3) 0 (rargs 0 [.ref (D 0), I a1, I a2, I a3]) [] σE c s Q := by
  have O := OUT_refl (n := (V3).length) (D := D) (N := N) (σ := σE) (c := c) (s := s)
  have HE := H
  have r5 : HID ((0 : Int) ≤ n1 ∧ n1 ≤ 1000000) := nrng (H.nle 1 (ltn len_V3_oz_R2cls rfl)) (show (N 1 : Int) = n1 from en1)
  refine Ew_of (pcₚ := 1) (fun _ => x_iload_n rfl rfl) ?_
  refine w_stat24 rfl rfl (by rfl) (C24 (D := puc 0 D) (N := puc 0 N) (HW_subc H oz_R2cls_36 oz_R2cls_16) (show inr (a1) from h0) (fun z10 σ10 F10ₚ A10ₚ Hₚ Oₚ hS10 hA10 pz10_0 pz10_1 => ⟨rretB rfl pz10_0, ?_⟩))
  refine v_backc (c := c) (s := s) H oz_R2cls_36 oz_R2cls_16 Hₚ Oₚ (fun F10 A10 H Oₚ eF10 eA10 => ?_)
  have O := OUT_trans O Oₚ
  -- PackHouse.isRow
  have cF10 : SF oz_R2clsl_0 F F10 := SF_trans (SF_refl) (SF_gluc (ι := oz_R2clsl_2) oz_R2cls_16 hS10 eF10 (by decide +kernel)) (any_sub (lₚ := []) (by decide +kernel))
  have mF10 := SFm_of cF10 oz_R2cls_14
  have cA10 : SA oz_R2clsl_1 A A10 := SA_trans (SA_refl) (SA_gluc (ι := oz_R2clsl_2) oz_R2cls_16 hA10 eA10 (by decide +kernel)) (any_subA (lₚ := []) (by decide +kernel))
  have mA10 := SAm_of cA10 oz_R2cls_15
  refine w_ifeq (t := 29) rfl rfl (show inr (z10) from q_15 pz10_0) (fun b11 => ?_) (fun b11 => ?_)
  · refine Ew_of (pcₚ := 30) (fun _ => x_iconst rfl) ?_
    exact w_ireturn rfl (k (0) _ _ _ _ _ _ _ H O (SD_refl) (SD_refl) (cF10) (cA10) ((((show F10 2 0 = F 2 0 from (eF10 2 0)))).trans (pf3)) ((((show F10 4 0 = F 4 0 from (eF10 4 0)))).trans (pf5)) ((((show F10 6 0 = F 6 0 from (eF10 6 0)))).trans (pf7)) ((((show F10 8 0 = F 8 0 from (eF10 8 0)))).trans (pf9)) (n3) (en3) (n5) (en5) (n7) (en7) (n9) (en9) (u2_1) ((((show F10 2 1 = F 2 1 from (eF10 2 1))).trans (eu2_1))) (u4_1) ((((show F10 4 1 = F 4 1 from (eF10 4 1))).trans (eu4_1))) (u6_1) ((((show F10 6 1 = F 6 1 from (eF10 6 1))).trans (eu6_1))) (u8_1) ((((show F10 8 1 = F 8 1 from (eF10 8 1))).trans (eu8_1))) (show (0) = 0 ∨ (0) = 1 by first | exact q_1 | omega) (show 0 ≤ (u2_1) ∧ (u2_1) ≤ (n3) ∧ (n3) ≤ 65536 from h4) (show 0 ≤ (u4_1) ∧ (u4_1) ≤ (n5) ∧ (n5) ≤ 65536 from h5) (show 0 ≤ (u6_1) ∧ (u6_1) ≤ (n7) ∧ (n7) ≤ 65536 from h6) (show 0 ≤ (u8_1) ∧ (u8_1) ≤ (n9) ∧ (n9) ≤ 65536 from h7))
  · refine Ew_of (pcₚ := 8) (fun _ => x_iload_n rfl rfl) ?_
    refine Ew_of (pcₚ := 9) (fun _ => x_iconst rfl) ?_
    refine w_icmplt (t := 29) rfl rfl (show inr (a2) from h1) (show inr (1) from q_23) (fun b12 => ?_) (fun b12 => ?_)
    · refine Ew_of (pcₚ := 30) (fun _ => x_iconst rfl) ?_
      exact w_ireturn rfl (k (0) _ _ _ _ _ _ _ H O (SD_refl) (SD_refl) (cF10) (cA10) ((((show F10 2 0 = F 2 0 from (eF10 2 0)))).trans (pf3)) ((((show F10 4 0 = F 4 0 from (eF10 4 0)))).trans (pf5)) ((((show F10 6 0 = F 6 0 from (eF10 6 0)))).trans (pf7)) ((((show F10 8 0 = F 8 0 from (eF10 8 0)))).trans (pf9)) (n3) (en3) (n5) (en5) (n7) (en7) (n9) (en9) (u2_1) ((((show F10 2 1 = F 2 1 from (eF10 2 1))).trans (eu2_1))) (u4_1) ((((show F10 4 1 = F 4 1 from (eF10 4 1))).trans (eu4_1))) (u6_1) ((((show F10 6 1 = F 6 1 from (eF10 6 1))).trans (eu6_1))) (u8_1) ((((show F10 8 1 = F 8 1 from (eF10 8 1))).trans (eu8_1))) (show (0) = 0 ∨ (0) = 1 by first | exact q_1 | omega) (show 0 ≤ (u2_1) ∧ (u2_1) ≤ (n3) ∧ (n3) ≤ 65536 from h4) (show 0 ≤ (u4_1) ∧ (u4_1) ≤ (n5) ∧ (n5) ≤ 65536 from h5) (show 0 ≤ (u6_1) ∧ (u6_1) ≤ (n7) ∧ (n7) ≤ 65536 from h6) (show 0 ≤ (u8_1) ∧ (u8_1) ≤ (n9) ∧ (n9) ≤ 65536 from h7))
    · refine Ew_of (pcₚ := 13) (fun _ => x_iload_n rfl rfl) ?_
      refine Ew_of (pcₚ := 14) (fun _ => x_aload_n rfl rfl) ?_
      refine v_g H (o := 0) (v := .ref (D 1)) rfl rfl rfl rfl rfl (vrf ((mF10 0 0 rfl).trans (pf1))) ?_
      refine Ew_of (pcₚ := 18) (fun _ => x_iload_n rfl rfl) ?_
      rcases (show a1 = 0 ∨ a1 = 1 ∨ a1 = 2 ∨ a1 = 3 by omega) with b13 | b13 | b13 | b13
      · refine v_lR H (o := 1) rfl rfl rfl rfl rfl (n := n1) (en1) (show 0 ≤ a1 ∧ a1 < n1 from q_4225 (HIDe r5) b13 h3) (z := ((D 2 : Nat) : Int)) (v := .ref (D 2)) ((congrArg (A10 1) b13).trans ((mA10 1 rfl 0).trans (pf2))) (vrf rfl) ?_
        refine v_g H (o := 2) (v := I (u2_1)) rfl rfl rfl rfl rfl (congrArg (fun z : Int => I z) ((((show F10 2 1 = F 2 1 from (eF10 2 1))).trans (eu2_1)) : F10 2 1 = u2_1)) ?_
        refine w_icmpgt (t := 29) rfl rfl (show inr (a2) from h1) (show inr (u2_1) from q_884 h4) (fun b14 => ?_) (fun b14 => ?_)
        · refine Ew_of (pcₚ := 30) (fun _ => x_iconst rfl) ?_
          exact w_ireturn rfl (k (0) _ _ _ _ _ _ _ H O (SD_refl) (SD_refl) (cF10) (cA10) ((((show F10 2 0 = F 2 0 from (eF10 2 0)))).trans (pf3)) ((((show F10 4 0 = F 4 0 from (eF10 4 0)))).trans (pf5)) ((((show F10 6 0 = F 6 0 from (eF10 6 0)))).trans (pf7)) ((((show F10 8 0 = F 8 0 from (eF10 8 0)))).trans (pf9)) (n3) (en3) (n5) (en5) (n7) (en7) (n9) (en9) (u2_1) ((((show F10 2 1 = F 2 1 from (eF10 2 1))).trans (eu2_1))) (u4_1) ((((show F10 4 1 = F 4 1 from (eF10 4 1))).trans (eu4_1))) (u6_1) ((((show F10 6 1 = F 6 1 from (eF10 6 1))).trans (eu6_1))) (u8_1) ((((show F10 8 1 = F 8 1 from (eF10 8 1))).trans (eu8_1))) (show (0) = 0 ∨ (0) = 1 by first | exact q_1 | omega) (show 0 ≤ (u2_1) ∧ (u2_1) ≤ (n3) ∧ (n3) ≤ 65536 from h4) (show 0 ≤ (u4_1) ∧ (u4_1) ≤ (n5) ∧ (n5) ≤ 65536 from h5) (show 0 ≤ (u6_1) ∧ (u6_1) ≤ (n7) ∧ (n7) ≤ 65536 from h6) (show 0 ≤ (u8_1) ∧ (u8_1) ≤ (n9) ∧ (n9) ≤ 65536 from h7))
        · refine Ew_of (pcₚ := 26) (fun _ => x_iload_n rfl rfl) ?_
          refine w_ifge (t := 31) rfl rfl (show inr (a3) from h2) (fun b15 => ?_) (fun b15 => ?_)
          · refine Ew_of (pcₚ := 32) (fun _ => x_iload_n rfl rfl) ?_
            refine w_i2l rfl (show inr (a2) from h1) ?_
            refine Ew_of (pcₚ := 34) (fun _ => x_iload_n rfl rfl) ?_
            refine w_i2l rfl (show inr (a3) from h2) ?_
            refine w_lmulA rfl (fun z16 gz16 => ?_)
            refine Ew_of (pcₚ := 38) (fun _ => x_lstore rfl) ?_
            refine Ew_of (pcₚ := 40) (fun _ => x_lload rfl rk2_s) ?_
            refine Ew_of (pcₚ := 42) (fun _ => x_ldc (z := 65536) rfl (by decide)) ?_
            refine Ew_of (pcₚ := 43) (fun _ => x_aload_n rfl (rk2_o (rfl) rfl rfl)) ?_
            refine v_g H (o := 0) (v := .ref (D 1)) rfl rfl rfl rfl rfl (vrf ((mF10 0 0 rfl).trans (pf1))) ?_
            refine Ew_of (pcₚ := 47) (fun _ => x_iload_n rfl (rk2_o (rfl) rfl rfl)) ?_
            refine v_lR H (o := 1) rfl rfl rfl rfl rfl (n := n1) (en1) (show 0 ≤ a1 ∧ a1 < n1 from q_4225 (HIDe r5) b13 h3) (z := ((D 2 : Nat) : Int)) (v := .ref (D 2)) ((congrArg (A10 1) b13).trans ((mA10 1 rfl 0).trans (pf2))) (vrf rfl) ?_
            refine v_g H (o := 2) (v := I (u2_1)) rfl rfl rfl rfl rfl (congrArg (fun z : Int => I z) ((((show F10 2 1 = F 2 1 from (eF10 2 1))).trans (eu2_1)) : F10 2 1 = u2_1)) ?_
            refine w_isub rfl ?_
            refine w_i2l rfl (show inr ((65536 - u2_1)) from q_2517 h4) ?_
            refine w_lcmp rfl (show inrJ (z16) from gz16) (show inrJ ((65536 - u2_1)) from q_4229 h4) (fun z17 gz17 gaz17 gbz17 => ?_)
            refine w_ifle (t := 59) rfl rfl (show inr (z17) from gz17) (fun b18 => ?_) (fun b18 => ?_)
            · refine Ew_of (pcₚ := 60) (fun _ => x_aload_n rfl (rk2_o (rfl) rfl rfl)) ?_
              refine v_g H (o := 0) (v := .ref (D 1)) rfl rfl rfl rfl rfl (vrf ((mF10 0 0 rfl).trans (pf1))) ?_
              refine Ew_of (pcₚ := 64) (fun _ => x_iload_n rfl (rk2_o (rfl) rfl rfl)) ?_
              refine v_lR H (o := 1) rfl rfl rfl rfl rfl (n := n1) (en1) (show 0 ≤ a1 ∧ a1 < n1 from q_4225 (HIDe r5) b13 h3) (z := ((D 2 : Nat) : Int)) (v := .ref (D 2)) ((congrArg (A10 1) b13).trans ((mA10 1 rfl 0).trans (pf2))) (vrf rfl) ?_
              refine Ew_of (pcₚ := 66) (fun _ => x_iload_n rfl (rk2_o (rfl) rfl rfl)) ?_
              refine Ew_of (pcₚ := 68) (fun _ => x_lload rfl rk2_s) ?_
              refine w_l2iA rfl (fun z19 gz19 => ?_)
              refine Ew_of (pcₚ := 70) (fun _ => x_iconst rfl) ?_
              refine Ew_of (pcₚ := 71) (fun _ => x_aload_n rfl (rk2_o (rfl) rfl rfl)) ?_
              refine v_g H (o := 0) (v := .ref (D 1)) rfl rfl rfl rfl rfl (vrf ((mF10 0 0 rfl).trans (pf1))) ?_
              refine Ew_of (pcₚ := 75) (fun _ => x_iload_n rfl (rk2_o (rfl) rfl rfl)) ?_
              refine v_lR H (o := 1) rfl rfl rfl rfl rfl (n := n1) (en1) (show 0 ≤ a1 ∧ a1 < n1 from q_4225 (HIDe r5) b13 h3) (z := ((D 2 : Nat) : Int)) (v := .ref (D 2)) ((congrArg (A10 1) b13).trans ((mA10 1 rfl 0).trans (pf2))) (vrf rfl) ?_
              refine v_inv H (o := 2) rfl rfl rfl rfl rfl rfl (by rfl) (C163_thisa (D := puc 1538 D) (N := puc 1538 N) (HW_subc H oz_R2cls_37 oz_R2cls_17) ((((show F10 2 0 = F 2 0 from (eF10 2 0)))).trans (pf3)) (n3) (en3) (u2_1) ((((show F10 2 1 = F 2 1 from (eF10 2 1))).trans (eu2_1))) (show inr (a2) from h1) (show inr (z19) from gz19) (show inr (0) from q_20) (show 0 ≤ (u2_1) ∧ (u2_1) ≤ (n3) ∧ (n3) ≤ 65536 from h4) (show 0 ≤ (u2_1) ∧ (u2_1) ≤ (n3) ∧ (n3) ≤ 65536 from h4) (show 0 ≤ (0) ∧ (0) ≤ (u2_1) from q_2615 h4) (show (z19) < 0 ∨ 1 ≤ (a2) ∧ ((a2) ≤ (u2_1) - (0) ∨ (a2) - ((u2_1) - (0)) ≤ (u2_1)) from q_4230 b12 b14) (fun σ20 D20ₚ N20ₚ F20ₚ A20ₚ c20 s20 Hₚ Oₚ hD20 hN20 hS20 hA20 (pm20_1 : HID _) m20_1 (em20_1 : HID _) y20_0_1 (ey20_0_1 : HID _) pz20_0 pz20_1 => ⟨rfl, ?_⟩))
              refine v_backMc (c := c) (s := s) H oz_R2cls_37 oz_R2cls_17 Hₚ Oₚ hD20 oz_R2cls_38 (fun D20 N20 F20 A20 H Oₚ eD20 eN20 eF20 eA20 => ?_)
              have O := OUT_trans O Oₚ
              -- Row.copyBack
              have cF20 : SF oz_R2clsl_0 F F20 := SF_trans (cF10) (SF_gluc (ι := oz_R2clsl_3) oz_R2cls_17 hS20 eF20 (by decide +kernel)) (any_sub (lₚ := [(2, 0), (2, 1), (2, 2)]) (by decide +kernel))
              have mF20 := SFm_of cF20 oz_R2cls_14
              have cA20 : SA oz_R2clsl_1 A A20 := SA_trans (cA10) (SA_gluc (ι := oz_R2clsl_3) oz_R2cls_17 hA20 eA20 (by decide +kernel)) (any_subA (lₚ := [3]) (by decide +kernel))
              have mA20 := SAm_of cA20 oz_R2cls_15
              have cD20 : SD oz_R2clsl_1 D D20 := SD_trans (SD_refl) (SD_gluc (ι := oz_R2clsl_3) oz_R2cls_17 hD20 eD20 (by decide +kernel)) (any_subA (lₚ := [3]) (by decide +kernel))
              have mD20 := SDm_of cD20 oz_R2cls_15
              have cN20 : SD oz_R2clsl_1 N N20 := SD_trans (SD_refl) (SD_gluc (ι := oz_R2clsl_3) oz_R2cls_17 hN20 eN20 (by decide +kernel)) (any_subA (lₚ := [3]) (by decide +kernel))
              have mN20 := SDm_of cN20 oz_R2cls_15
              have pf20_2_0 : HID (F20 2 0 = (D20 3 : Int)) := (eF20 2 0).trans (pm20_1.trans (congrArg (fun q : Nat => (q : Int)) (eD20 3).symm))
              have pf20_4_0 : HID (F20 4 0 = (D20 5 : Int)) := ((show F20 4 0 = F10 4 0 from (eF20 4 0))).trans (((((show F10 4 0 = F 4 0 from (eF10 4 0)))).trans (pf5)).trans (congrArg (fun q : Nat => (q : Int)) ((show D20 5 = D 5 from (eD20 5))).symm))
              have pf20_6_0 : HID (F20 6 0 = (D20 7 : Int)) := ((show F20 6 0 = F10 6 0 from (eF20 6 0))).trans (((((show F10 6 0 = F 6 0 from (eF10 6 0)))).trans (pf7)).trans (congrArg (fun q : Nat => (q : Int)) ((show D20 7 = D 7 from (eD20 7))).symm))
              have pf20_8_0 : HID (F20 8 0 = (D20 9 : Int)) := ((show F20 8 0 = F10 8 0 from (eF20 8 0))).trans (((((show F10 8 0 = F 8 0 from (eF10 8 0)))).trans (pf9)).trans (congrArg (fun q : Nat => (q : Int)) ((show D20 9 = D 9 from (eD20 9))).symm))
              refine Ew_of (pcₚ := 80) (fun _ => x_iconst rfl) ?_
              exact w_ireturn rfl (k (1) _ _ _ _ _ _ _ H O (cD20) (cN20) (cF20) (cA20) (pf20_2_0) (pf20_4_0) (pf20_6_0) (pf20_8_0) (m20_1) ((congrArg (fun q : Nat => (q : Int)) (eN20 3)).trans em20_1) (n5) ((congrArg (fun q : Nat => (q : Int)) (show N20 5 = N 5 from (eN20 5))).trans (en5)) (n7) ((congrArg (fun q : Nat => (q : Int)) (show N20 7 = N 7 from (eN20 7))).trans (en7)) (n9) ((congrArg (fun q : Nat => (q : Int)) (show N20 9 = N 9 from (eN20 9))).trans (en9)) (y20_0_1) (((eF20 2 1).trans ey20_0_1)) (u4_1) (((((show F20 4 1 = F10 4 1 from (eF20 4 1))).trans ((show F10 4 1 = F 4 1 from (eF10 4 1)))).trans (eu4_1))) (u6_1) (((((show F20 6 1 = F10 6 1 from (eF20 6 1))).trans ((show F10 6 1 = F 6 1 from (eF10 6 1)))).trans (eu6_1))) (u8_1) (((((show F20 8 1 = F10 8 1 from (eF20 8 1))).trans ((show F10 8 1 = F 8 1 from (eF10 8 1)))).trans (eu8_1))) (show (1) = 0 ∨ (1) = 1 by first | exact q_5 | omega) (show 0 ≤ (y20_0_1) ∧ (y20_0_1) ≤ (m20_1) ∧ (m20_1) ≤ 65536 from pz20_0) (show 0 ≤ (u4_1) ∧ (u4_1) ≤ (n5) ∧ (n5) ≤ 65536 from h5) (show 0 ≤ (u6_1) ∧ (u6_1) ≤ (n7) ∧ (n7) ≤ 65536 from h6) (show 0 ≤ (u8_1) ∧ (u8_1) ≤ (n9) ∧ (n9) ≤ 65536 from h7))
            · refine Ew_of (pcₚ := 58) (fun _ => x_iconst rfl) ?_
              exact w_ireturn rfl (k (0) _ _ _ _ _ _ _ H O (SD_refl) (SD_refl) (cF10) (cA10) ((((show F10 2 0 = F 2 0 from (eF10 2 0)))).trans (pf3)) ((((show F10 4 0 = F 4 0 from (eF10 4 0)))).trans (pf5)) ((((show F10 6 0 = F 6 0 from (eF10 6 0)))).trans (pf7)) ((((show F10 8 0 = F 8 0 from (eF10 8 0)))).trans (pf9)) (n3) (en3) (n5) (en5) (n7) (en7) (n9) (en9) (u2_1) ((((show F10 2 1 = F 2 1 from (eF10 2 1))).trans (eu2_1))) (u4_1) ((((show F10 4 1 = F 4 1 from (eF10 4 1))).trans (eu4_1))) (u6_1) ((((show F10 6 1 = F 6 1 from (eF10 6 1))).trans (eu6_1))) (u8_1) ((((show F10 8 1 = F 8 1 from (eF10 8 1))).trans (eu8_1))) (show (0) = 0 ∨ (0) = 1 by first | exact q_1 | omega) (show 0 ≤ (u2_1) ∧ (u2_1) ≤ (n3) ∧ (n3) ≤ 65536 from h4) (show 0 ≤ (u4_1) ∧ (u4_1) ≤ (n5) ∧ (n5) ≤ 65536 from h5) (show 0 ≤ (u6_1) ∧ (u6_1) ≤ (n7) ∧ (n7) ≤ 65536 from h6) (show 0 ≤ (u8_1) ∧ (u8_1) ≤ (n9) ∧ (n9) ≤ 65536 from h7))
          · refine Ew_of (pcₚ := 30) (fun _ => x_iconst rfl) ?_
            exact w_ireturn rfl (k (0) _ _ _ _ _ _ _ H O (SD_refl) (SD_refl) (cF10) (cA10) ((((show F10 2 0 = F 2 0 from (eF10 2 0)))).trans (pf3)) ((((show F10 4 0 = F 4 0 from (eF10 4 0)))).trans (pf5)) ((((show F10 6 0 = F 6 0 from (eF10 6 0)))).trans (pf7)) ((((show F10 8 0 = F 8 0 from (eF10 8 0)))).trans (pf9)) (n3) (en3) (n5) (en5) (n7) (en7) (n9) (en9) (u2_1) ((((show F10 2 1 = F 2 1 from (eF10 2 1))).trans (eu2_1))) (u4_1) ((((show F10 4 1 = F 4 1 from (eF10 4 1))).trans (eu4_1))) (u6_1) ((((show F10 6 1 = F 6 1 from (eF10 6 1))).trans (eu6_1))) (u8_1) ((((show F10 8 1 = F 8 1 from (eF10 8 1))).trans (eu8_1))) (show (0) = 0 ∨ (0) = 1 by first | exact q_1 | omega) (show 0 ≤ (u2_1) ∧ (u2_1) ≤ (n3) ∧ (n3) ≤ 65536 from h4) (show 0 ≤ (u4_1) ∧ (u4_1) ≤ (n5) ∧ (n5) ≤ 65536 from h5) (show 0 ≤ (u6_1) ∧ (u6_1) ≤ (n7) ∧ (n7) ≤ 65536 from h6) (show 0 ≤ (u8_1) ∧ (u8_1) ≤ (n9) ∧ (n9) ≤ 65536 from h7))
      · refine v_lR H (o := 1) rfl rfl rfl rfl rfl (n := n1) (en1) (show 0 ≤ a1 ∧ a1 < n1 from q_4226 (HIDe r5) b13 h3) (z := ((D 4 : Nat) : Int)) (v := .ref (D 4)) ((congrArg (A10 1) b13).trans ((mA10 1 rfl 1).trans (pf4))) (vrf rfl) ?_
        refine v_g H (o := 4) (v := I (u4_1)) rfl rfl rfl rfl rfl (congrArg (fun z : Int => I z) ((((show F10 4 1 = F 4 1 from (eF10 4 1))).trans (eu4_1)) : F10 4 1 = u4_1)) ?_
        refine w_icmpgt (t := 29) rfl rfl (show inr (a2) from h1) (show inr (u4_1) from q_884 h5) (fun b23 => ?_) (fun b23 => ?_)
        · refine Ew_of (pcₚ := 30) (fun _ => x_iconst rfl) ?_
          exact w_ireturn rfl (k (0) _ _ _ _ _ _ _ H O (SD_refl) (SD_refl) (cF10) (cA10) ((((show F10 2 0 = F 2 0 from (eF10 2 0)))).trans (pf3)) ((((show F10 4 0 = F 4 0 from (eF10 4 0)))).trans (pf5)) ((((show F10 6 0 = F 6 0 from (eF10 6 0)))).trans (pf7)) ((((show F10 8 0 = F 8 0 from (eF10 8 0)))).trans (pf9)) (n3) (en3) (n5) (en5) (n7) (en7) (n9) (en9) (u2_1) ((((show F10 2 1 = F 2 1 from (eF10 2 1))).trans (eu2_1))) (u4_1) ((((show F10 4 1 = F 4 1 from (eF10 4 1))).trans (eu4_1))) (u6_1) ((((show F10 6 1 = F 6 1 from (eF10 6 1))).trans (eu6_1))) (u8_1) ((((show F10 8 1 = F 8 1 from (eF10 8 1))).trans (eu8_1))) (show (0) = 0 ∨ (0) = 1 by first | exact q_1 | omega) (show 0 ≤ (u2_1) ∧ (u2_1) ≤ (n3) ∧ (n3) ≤ 65536 from h4) (show 0 ≤ (u4_1) ∧ (u4_1) ≤ (n5) ∧ (n5) ≤ 65536 from h5) (show 0 ≤ (u6_1) ∧ (u6_1) ≤ (n7) ∧ (n7) ≤ 65536 from h6) (show 0 ≤ (u8_1) ∧ (u8_1) ≤ (n9) ∧ (n9) ≤ 65536 from h7))
        · refine Ew_of (pcₚ := 26) (fun _ => x_iload_n rfl rfl) ?_
          refine w_ifge (t := 31) rfl rfl (show inr (a3) from h2) (fun b24 => ?_) (fun b24 => ?_)
          · refine Ew_of (pcₚ := 32) (fun _ => x_iload_n rfl rfl) ?_
            refine w_i2l rfl (show inr (a2) from h1) ?_
            refine Ew_of (pcₚ := 34) (fun _ => x_iload_n rfl rfl) ?_
            refine w_i2l rfl (show inr (a3) from h2) ?_
            refine w_lmulA rfl (fun z25 gz25 => ?_)
            refine Ew_of (pcₚ := 38) (fun _ => x_lstore rfl) ?_
            refine Ew_of (pcₚ := 40) (fun _ => x_lload rfl rk2_s) ?_
            refine Ew_of (pcₚ := 42) (fun _ => x_ldc (z := 65536) rfl (by decide)) ?_
            refine Ew_of (pcₚ := 43) (fun _ => x_aload_n rfl (rk2_o (rfl) rfl rfl)) ?_
            refine v_g H (o := 0) (v := .ref (D 1)) rfl rfl rfl rfl rfl (vrf ((mF10 0 0 rfl).trans (pf1))) ?_
            refine Ew_of (pcₚ := 47) (fun _ => x_iload_n rfl (rk2_o (rfl) rfl rfl)) ?_
            refine v_lR H (o := 1) rfl rfl rfl rfl rfl (n := n1) (en1) (show 0 ≤ a1 ∧ a1 < n1 from q_4226 (HIDe r5) b13 h3) (z := ((D 4 : Nat) : Int)) (v := .ref (D 4)) ((congrArg (A10 1) b13).trans ((mA10 1 rfl 1).trans (pf4))) (vrf rfl) ?_
            refine v_g H (o := 4) (v := I (u4_1)) rfl rfl rfl rfl rfl (congrArg (fun z : Int => I z) ((((show F10 4 1 = F 4 1 from (eF10 4 1))).trans (eu4_1)) : F10 4 1 = u4_1)) ?_
            refine w_isub rfl ?_
            refine w_i2l rfl (show inr ((65536 - u4_1)) from q_2517 h5) ?_
            refine w_lcmp rfl (show inrJ (z25) from gz25) (show inrJ ((65536 - u4_1)) from q_4229 h5) (fun z26 gz26 gaz26 gbz26 => ?_)
            refine w_ifle (t := 59) rfl rfl (show inr (z26) from gz26) (fun b27 => ?_) (fun b27 => ?_)
            · refine Ew_of (pcₚ := 60) (fun _ => x_aload_n rfl (rk2_o (rfl) rfl rfl)) ?_
              refine v_g H (o := 0) (v := .ref (D 1)) rfl rfl rfl rfl rfl (vrf ((mF10 0 0 rfl).trans (pf1))) ?_
              refine Ew_of (pcₚ := 64) (fun _ => x_iload_n rfl (rk2_o (rfl) rfl rfl)) ?_
              refine v_lR H (o := 1) rfl rfl rfl rfl rfl (n := n1) (en1) (show 0 ≤ a1 ∧ a1 < n1 from q_4226 (HIDe r5) b13 h3) (z := ((D 4 : Nat) : Int)) (v := .ref (D 4)) ((congrArg (A10 1) b13).trans ((mA10 1 rfl 1).trans (pf4))) (vrf rfl) ?_
              refine Ew_of (pcₚ := 66) (fun _ => x_iload_n rfl (rk2_o (rfl) rfl rfl)) ?_
              refine Ew_of (pcₚ := 68) (fun _ => x_lload rfl rk2_s) ?_
              refine w_l2iA rfl (fun z28 gz28 => ?_)
              refine Ew_of (pcₚ := 70) (fun _ => x_iconst rfl) ?_
              refine Ew_of (pcₚ := 71) (fun _ => x_aload_n rfl (rk2_o (rfl) rfl rfl)) ?_
              refine v_g H (o := 0) (v := .ref (D 1)) rfl rfl rfl rfl rfl (vrf ((mF10 0 0 rfl).trans (pf1))) ?_
              refine Ew_of (pcₚ := 75) (fun _ => x_iload_n rfl (rk2_o (rfl) rfl rfl)) ?_
              refine v_lR H (o := 1) rfl rfl rfl rfl rfl (n := n1) (en1) (show 0 ≤ a1 ∧ a1 < n1 from q_4226 (HIDe r5) b13 h3) (z := ((D 4 : Nat) : Int)) (v := .ref (D 4)) ((congrArg (A10 1) b13).trans ((mA10 1 rfl 1).trans (pf4))) (vrf rfl) ?_
              refine v_inv H (o := 4) rfl rfl rfl rfl rfl rfl (by rfl) (C163_thisa (D := puc 2564 D) (N := puc 2564 N) (HW_subc H oz_R2cls_39 oz_R2cls_18) ((((show F10 4 0 = F 4 0 from (eF10 4 0)))).trans (pf5)) (n5) (en5) (u4_1) ((((show F10 4 1 = F 4 1 from (eF10 4 1))).trans (eu4_1))) (show inr (a2) from h1) (show inr (z28) from gz28) (show inr (0) from q_20) (show 0 ≤ (u4_1) ∧ (u4_1) ≤ (n5) ∧ (n5) ≤ 65536 from h5) (show 0 ≤ (u4_1) ∧ (u4_1) ≤ (n5) ∧ (n5) ≤ 65536 from h5) (show 0 ≤ (0) ∧ (0) ≤ (u4_1) from q_2615 h5) (show (z28) < 0 ∨ 1 ≤ (a2) ∧ ((a2) ≤ (u4_1) - (0) ∨ (a2) - ((u4_1) - (0)) ≤ (u4_1)) from q_4230 b12 b23) (fun σ29 D29ₚ N29ₚ F29ₚ A29ₚ c29 s29 Hₚ Oₚ hD29 hN29 hS29 hA29 (pm29_1 : HID _) m29_1 (em29_1 : HID _) y29_0_1 (ey29_0_1 : HID _) pz29_0 pz29_1 => ⟨rfl, ?_⟩))
              refine v_backMc (c := c) (s := s) H oz_R2cls_39 oz_R2cls_18 Hₚ Oₚ hD29 oz_R2cls_40 (fun D29 N29 F29 A29 H Oₚ eD29 eN29 eF29 eA29 => ?_)
              have O := OUT_trans O Oₚ
              -- Row.copyBack
              have cF29 : SF oz_R2clsl_0 F F29 := SF_trans (cF10) (SF_gluc (ι := oz_R2clsl_4) oz_R2cls_18 hS29 eF29 (by decide +kernel)) (any_sub (lₚ := [(4, 0), (4, 1), (4, 2)]) (by decide +kernel))
              have mF29 := SFm_of cF29 oz_R2cls_14
              have cA29 : SA oz_R2clsl_1 A A29 := SA_trans (cA10) (SA_gluc (ι := oz_R2clsl_4) oz_R2cls_18 hA29 eA29 (by decide +kernel)) (any_subA (lₚ := [5]) (by decide +kernel))
              have mA29 := SAm_of cA29 oz_R2cls_15
              have cD29 : SD oz_R2clsl_1 D D29 := SD_trans (SD_refl) (SD_gluc (ι := oz_R2clsl_4) oz_R2cls_18 hD29 eD29 (by decide +kernel)) (any_subA (lₚ := [5]) (by decide +kernel))
              have mD29 := SDm_of cD29 oz_R2cls_15
              have cN29 : SD oz_R2clsl_1 N N29 := SD_trans (SD_refl) (SD_gluc (ι := oz_R2clsl_4) oz_R2cls_18 hN29 eN29 (by decide +kernel)) (any_subA (lₚ := [5]) (by decide +kernel))
              have mN29 := SDm_of cN29 oz_R2cls_15
              have pf29_2_0 : HID (F29 2 0 = (D29 3 : Int)) := ((show F29 2 0 = F10 2 0 from (eF29 2 0))).trans (((((show F10 2 0 = F 2 0 from (eF10 2 0)))).trans (pf3)).trans (congrArg (fun q : Nat => (q : Int)) ((show D29 3 = D 3 from (eD29 3))).symm))
              have pf29_4_0 : HID (F29 4 0 = (D29 5 : Int)) := (eF29 4 0).trans (pm29_1.trans (congrArg (fun q : Nat => (q : Int)) (eD29 5).symm))
              have pf29_6_0 : HID (F29 6 0 = (D29 7 : Int)) := ((show F29 6 0 = F10 6 0 from (eF29 6 0))).trans (((((show F10 6 0 = F 6 0 from (eF10 6 0)))).trans (pf7)).trans (congrArg (fun q : Nat => (q : Int)) ((show D29 7 = D 7 from (eD29 7))).symm))
              have pf29_8_0 : HID (F29 8 0 = (D29 9 : Int)) := ((show F29 8 0 = F10 8 0 from (eF29 8 0))).trans (((((show F10 8 0 = F 8 0 from (eF10 8 0)))).trans (pf9)).trans (congrArg (fun q : Nat => (q : Int)) ((show D29 9 = D 9 from (eD29 9))).symm))
              refine Ew_of (pcₚ := 80) (fun _ => x_iconst rfl) ?_
              exact w_ireturn rfl (k (1) _ _ _ _ _ _ _ H O (cD29) (cN29) (cF29) (cA29) (pf29_2_0) (pf29_4_0) (pf29_6_0) (pf29_8_0) (n3) ((congrArg (fun q : Nat => (q : Int)) (show N29 3 = N 3 from (eN29 3))).trans (en3)) (m29_1) ((congrArg (fun q : Nat => (q : Int)) (eN29 5)).trans em29_1) (n7) ((congrArg (fun q : Nat => (q : Int)) (show N29 7 = N 7 from (eN29 7))).trans (en7)) (n9) ((congrArg (fun q : Nat => (q : Int)) (show N29 9 = N 9 from (eN29 9))).trans (en9)) (u2_1) (((((show F29 2 1 = F10 2 1 from (eF29 2 1))).trans ((show F10 2 1 = F 2 1 from (eF10 2 1)))).trans (eu2_1))) (y29_0_1) (((eF29 4 1).trans ey29_0_1)) (u6_1) (((((show F29 6 1 = F10 6 1 from (eF29 6 1))).trans ((show F10 6 1 = F 6 1 from (eF10 6 1)))).trans (eu6_1))) (u8_1) (((((show F29 8 1 = F10 8 1 from (eF29 8 1))).trans ((show F10 8 1 = F 8 1 from (eF10 8 1)))).trans (eu8_1))) (show (1) = 0 ∨ (1) = 1 by first | exact q_5 | omega) (show 0 ≤ (u2_1) ∧ (u2_1) ≤ (n3) ∧ (n3) ≤ 65536 from h4) (show 0 ≤ (y29_0_1) ∧ (y29_0_1) ≤ (m29_1) ∧ (m29_1) ≤ 65536 from pz29_0) (show 0 ≤ (u6_1) ∧ (u6_1) ≤ (n7) ∧ (n7) ≤ 65536 from h6) (show 0 ≤ (u8_1) ∧ (u8_1) ≤ (n9) ∧ (n9) ≤ 65536 from h7))
            · refine Ew_of (pcₚ := 58) (fun _ => x_iconst rfl) ?_
              exact w_ireturn rfl (k (0) _ _ _ _ _ _ _ H O (SD_refl) (SD_refl) (cF10) (cA10) ((((show F10 2 0 = F 2 0 from (eF10 2 0)))).trans (pf3)) ((((show F10 4 0 = F 4 0 from (eF10 4 0)))).trans (pf5)) ((((show F10 6 0 = F 6 0 from (eF10 6 0)))).trans (pf7)) ((((show F10 8 0 = F 8 0 from (eF10 8 0)))).trans (pf9)) (n3) (en3) (n5) (en5) (n7) (en7) (n9) (en9) (u2_1) ((((show F10 2 1 = F 2 1 from (eF10 2 1))).trans (eu2_1))) (u4_1) ((((show F10 4 1 = F 4 1 from (eF10 4 1))).trans (eu4_1))) (u6_1) ((((show F10 6 1 = F 6 1 from (eF10 6 1))).trans (eu6_1))) (u8_1) ((((show F10 8 1 = F 8 1 from (eF10 8 1))).trans (eu8_1))) (show (0) = 0 ∨ (0) = 1 by first | exact q_1 | omega) (show 0 ≤ (u2_1) ∧ (u2_1) ≤ (n3) ∧ (n3) ≤ 65536 from h4) (show 0 ≤ (u4_1) ∧ (u4_1) ≤ (n5) ∧ (n5) ≤ 65536 from h5) (show 0 ≤ (u6_1) ∧ (u6_1) ≤ (n7) ∧ (n7) ≤ 65536 from h6) (show 0 ≤ (u8_1) ∧ (u8_1) ≤ (n9) ∧ (n9) ≤ 65536 from h7))
          · refine Ew_of (pcₚ := 30) (fun _ => x_iconst rfl) ?_
            exact w_ireturn rfl (k (0) _ _ _ _ _ _ _ H O (SD_refl) (SD_refl) (cF10) (cA10) ((((show F10 2 0 = F 2 0 from (eF10 2 0)))).trans (pf3)) ((((show F10 4 0 = F 4 0 from (eF10 4 0)))).trans (pf5)) ((((show F10 6 0 = F 6 0 from (eF10 6 0)))).trans (pf7)) ((((show F10 8 0 = F 8 0 from (eF10 8 0)))).trans (pf9)) (n3) (en3) (n5) (en5) (n7) (en7) (n9) (en9) (u2_1) ((((show F10 2 1 = F 2 1 from (eF10 2 1))).trans (eu2_1))) (u4_1) ((((show F10 4 1 = F 4 1 from (eF10 4 1))).trans (eu4_1))) (u6_1) ((((show F10 6 1 = F 6 1 from (eF10 6 1))).trans (eu6_1))) (u8_1) ((((show F10 8 1 = F 8 1 from (eF10 8 1))).trans (eu8_1))) (show (0) = 0 ∨ (0) = 1 by first | exact q_1 | omega) (show 0 ≤ (u2_1) ∧ (u2_1) ≤ (n3) ∧ (n3) ≤ 65536 from h4) (show 0 ≤ (u4_1) ∧ (u4_1) ≤ (n5) ∧ (n5) ≤ 65536 from h5) (show 0 ≤ (u6_1) ∧ (u6_1) ≤ (n7) ∧ (n7) ≤ 65536 from h6) (show 0 ≤ (u8_1) ∧ (u8_1) ≤ (n9) ∧ (n9) ≤ 65536 from h7))
      · refine v_lR H (o := 1) rfl rfl rfl rfl rfl (n := n1) (en1) (show 0 ≤ a1 ∧ a1 < n1 from q_4227 (HIDe r5) b13 h3) (z := ((D 6 : Nat) : Int)) (v := .ref (D 6)) ((congrArg (A10 1) b13).trans ((mA10 1 rfl 2).trans (pf6))) (vrf rfl) ?_
        refine v_g H (o := 6) (v := I (u6_1)) rfl rfl rfl rfl rfl (congrArg (fun z : Int => I z) ((((show F10 6 1 = F 6 1 from (eF10 6 1))).trans (eu6_1)) : F10 6 1 = u6_1)) ?_
        refine w_icmpgt (t := 29) rfl rfl (show inr (a2) from h1) (show inr (u6_1) from q_884 h6) (fun b32 => ?_) (fun b32 => ?_)
        · refine Ew_of (pcₚ := 30) (fun _ => x_iconst rfl) ?_
          exact w_ireturn rfl (k (0) _ _ _ _ _ _ _ H O (SD_refl) (SD_refl) (cF10) (cA10) ((((show F10 2 0 = F 2 0 from (eF10 2 0)))).trans (pf3)) ((((show F10 4 0 = F 4 0 from (eF10 4 0)))).trans (pf5)) ((((show F10 6 0 = F 6 0 from (eF10 6 0)))).trans (pf7)) ((((show F10 8 0 = F 8 0 from (eF10 8 0)))).trans (pf9)) (n3) (en3) (n5) (en5) (n7) (en7) (n9) (en9) (u2_1) ((((show F10 2 1 = F 2 1 from (eF10 2 1))).trans (eu2_1))) (u4_1) ((((show F10 4 1 = F 4 1 from (eF10 4 1))).trans (eu4_1))) (u6_1) ((((show F10 6 1 = F 6 1 from (eF10 6 1))).trans (eu6_1))) (u8_1) ((((show F10 8 1 = F 8 1 from (eF10 8 1))).trans (eu8_1))) (show (0) = 0 ∨ (0) = 1 by first | exact q_1 | omega) (show 0 ≤ (u2_1) ∧ (u2_1) ≤ (n3) ∧ (n3) ≤ 65536 from h4) (show 0 ≤ (u4_1) ∧ (u4_1) ≤ (n5) ∧ (n5) ≤ 65536 from h5) (show 0 ≤ (u6_1) ∧ (u6_1) ≤ (n7) ∧ (n7) ≤ 65536 from h6) (show 0 ≤ (u8_1) ∧ (u8_1) ≤ (n9) ∧ (n9) ≤ 65536 from h7))
        · refine Ew_of (pcₚ := 26) (fun _ => x_iload_n rfl rfl) ?_
          refine w_ifge (t := 31) rfl rfl (show inr (a3) from h2) (fun b33 => ?_) (fun b33 => ?_)
          · refine Ew_of (pcₚ := 32) (fun _ => x_iload_n rfl rfl) ?_
            refine w_i2l rfl (show inr (a2) from h1) ?_
            refine Ew_of (pcₚ := 34) (fun _ => x_iload_n rfl rfl) ?_
            refine w_i2l rfl (show inr (a3) from h2) ?_
            refine w_lmulA rfl (fun z34 gz34 => ?_)
            refine Ew_of (pcₚ := 38) (fun _ => x_lstore rfl) ?_
            refine Ew_of (pcₚ := 40) (fun _ => x_lload rfl rk2_s) ?_
            refine Ew_of (pcₚ := 42) (fun _ => x_ldc (z := 65536) rfl (by decide)) ?_
            refine Ew_of (pcₚ := 43) (fun _ => x_aload_n rfl (rk2_o (rfl) rfl rfl)) ?_
            refine v_g H (o := 0) (v := .ref (D 1)) rfl rfl rfl rfl rfl (vrf ((mF10 0 0 rfl).trans (pf1))) ?_
            refine Ew_of (pcₚ := 47) (fun _ => x_iload_n rfl (rk2_o (rfl) rfl rfl)) ?_
            refine v_lR H (o := 1) rfl rfl rfl rfl rfl (n := n1) (en1) (show 0 ≤ a1 ∧ a1 < n1 from q_4227 (HIDe r5) b13 h3) (z := ((D 6 : Nat) : Int)) (v := .ref (D 6)) ((congrArg (A10 1) b13).trans ((mA10 1 rfl 2).trans (pf6))) (vrf rfl) ?_
            refine v_g H (o := 6) (v := I (u6_1)) rfl rfl rfl rfl rfl (congrArg (fun z : Int => I z) ((((show F10 6 1 = F 6 1 from (eF10 6 1))).trans (eu6_1)) : F10 6 1 = u6_1)) ?_
            refine w_isub rfl ?_
            refine w_i2l rfl (show inr ((65536 - u6_1)) from q_2517 h6) ?_
            refine w_lcmp rfl (show inrJ (z34) from gz34) (show inrJ ((65536 - u6_1)) from q_4229 h6) (fun z35 gz35 gaz35 gbz35 => ?_)
            refine w_ifle (t := 59) rfl rfl (show inr (z35) from gz35) (fun b36 => ?_) (fun b36 => ?_)
            · refine Ew_of (pcₚ := 60) (fun _ => x_aload_n rfl (rk2_o (rfl) rfl rfl)) ?_
              refine v_g H (o := 0) (v := .ref (D 1)) rfl rfl rfl rfl rfl (vrf ((mF10 0 0 rfl).trans (pf1))) ?_
              refine Ew_of (pcₚ := 64) (fun _ => x_iload_n rfl (rk2_o (rfl) rfl rfl)) ?_
              refine v_lR H (o := 1) rfl rfl rfl rfl rfl (n := n1) (en1) (show 0 ≤ a1 ∧ a1 < n1 from q_4227 (HIDe r5) b13 h3) (z := ((D 6 : Nat) : Int)) (v := .ref (D 6)) ((congrArg (A10 1) b13).trans ((mA10 1 rfl 2).trans (pf6))) (vrf rfl) ?_
              refine Ew_of (pcₚ := 66) (fun _ => x_iload_n rfl (rk2_o (rfl) rfl rfl)) ?_
              refine Ew_of (pcₚ := 68) (fun _ => x_lload rfl rk2_s) ?_
              refine w_l2iA rfl (fun z37 gz37 => ?_)
              refine Ew_of (pcₚ := 70) (fun _ => x_iconst rfl) ?_
              refine Ew_of (pcₚ := 71) (fun _ => x_aload_n rfl (rk2_o (rfl) rfl rfl)) ?_
              refine v_g H (o := 0) (v := .ref (D 1)) rfl rfl rfl rfl rfl (vrf ((mF10 0 0 rfl).trans (pf1))) ?_
              refine Ew_of (pcₚ := 75) (fun _ => x_iload_n rfl (rk2_o (rfl) rfl rfl)) ?_
              refine v_lR H (o := 1) rfl rfl rfl rfl rfl (n := n1) (en1) (show 0 ≤ a1 ∧ a1 < n1 from q_4227 (HIDe r5) b13 h3) (z := ((D 6 : Nat) : Int)) (v := .ref (D 6)) ((congrArg (A10 1) b13).trans ((mA10 1 rfl 2).trans (pf6))) (vrf rfl) ?_
              refine v_inv H (o := 6) rfl rfl rfl rfl rfl rfl (by rfl) (C163_thisa (D := puc 3590 D) (N := puc 3590 N) (HW_subc H oz_R2cls_41 oz_R2cls_19) ((((show F10 6 0 = F 6 0 from (eF10 6 0)))).trans (pf7)) (n7) (en7) (u6_1) ((((show F10 6 1 = F 6 1 from (eF10 6 1))).trans (eu6_1))) (show inr (a2) from h1) (show inr (z37) from gz37) (show inr (0) from q_20) (show 0 ≤ (u6_1) ∧ (u6_1) ≤ (n7) ∧ (n7) ≤ 65536 from h6) (show 0 ≤ (u6_1) ∧ (u6_1) ≤ (n7) ∧ (n7) ≤ 65536 from h6) (show 0 ≤ (0) ∧ (0) ≤ (u6_1) from q_2615 h6) (show (z37) < 0 ∨ 1 ≤ (a2) ∧ ((a2) ≤ (u6_1) - (0) ∨ (a2) - ((u6_1) - (0)) ≤ (u6_1)) from q_4230 b12 b32) (fun σ38 D38ₚ N38ₚ F38ₚ A38ₚ c38 s38 Hₚ Oₚ hD38 hN38 hS38 hA38 (pm38_1 : HID _) m38_1 (em38_1 : HID _) y38_0_1 (ey38_0_1 : HID _) pz38_0 pz38_1 => ⟨rfl, ?_⟩))
              refine v_backMc (c := c) (s := s) H oz_R2cls_41 oz_R2cls_19 Hₚ Oₚ hD38 oz_R2cls_42 (fun D38 N38 F38 A38 H Oₚ eD38 eN38 eF38 eA38 => ?_)
              have O := OUT_trans O Oₚ
              -- Row.copyBack
              have cF38 : SF oz_R2clsl_0 F F38 := SF_trans (cF10) (SF_gluc (ι := oz_R2clsl_5) oz_R2cls_19 hS38 eF38 (by decide +kernel)) (any_sub (lₚ := [(6, 0), (6, 1), (6, 2)]) (by decide +kernel))
              have mF38 := SFm_of cF38 oz_R2cls_14
              have cA38 : SA oz_R2clsl_1 A A38 := SA_trans (cA10) (SA_gluc (ι := oz_R2clsl_5) oz_R2cls_19 hA38 eA38 (by decide +kernel)) (any_subA (lₚ := [7]) (by decide +kernel))
              have mA38 := SAm_of cA38 oz_R2cls_15
              have cD38 : SD oz_R2clsl_1 D D38 := SD_trans (SD_refl) (SD_gluc (ι := oz_R2clsl_5) oz_R2cls_19 hD38 eD38 (by decide +kernel)) (any_subA (lₚ := [7]) (by decide +kernel))
              have mD38 := SDm_of cD38 oz_R2cls_15
              have cN38 : SD oz_R2clsl_1 N N38 := SD_trans (SD_refl) (SD_gluc (ι := oz_R2clsl_5) oz_R2cls_19 hN38 eN38 (by decide +kernel)) (any_subA (lₚ := [7]) (by decide +kernel))
              have mN38 := SDm_of cN38 oz_R2cls_15
              have pf38_2_0 : HID (F38 2 0 = (D38 3 : Int)) := ((show F38 2 0 = F10 2 0 from (eF38 2 0))).trans (((((show F10 2 0 = F 2 0 from (eF10 2 0)))).trans (pf3)).trans (congrArg (fun q : Nat => (q : Int)) ((show D38 3 = D 3 from (eD38 3))).symm))
              have pf38_4_0 : HID (F38 4 0 = (D38 5 : Int)) := ((show F38 4 0 = F10 4 0 from (eF38 4 0))).trans (((((show F10 4 0 = F 4 0 from (eF10 4 0)))).trans (pf5)).trans (congrArg (fun q : Nat => (q : Int)) ((show D38 5 = D 5 from (eD38 5))).symm))
              have pf38_6_0 : HID (F38 6 0 = (D38 7 : Int)) := (eF38 6 0).trans (pm38_1.trans (congrArg (fun q : Nat => (q : Int)) (eD38 7).symm))
              have pf38_8_0 : HID (F38 8 0 = (D38 9 : Int)) := ((show F38 8 0 = F10 8 0 from (eF38 8 0))).trans (((((show F10 8 0 = F 8 0 from (eF10 8 0)))).trans (pf9)).trans (congrArg (fun q : Nat => (q : Int)) ((show D38 9 = D 9 from (eD38 9))).symm))
              refine Ew_of (pcₚ := 80) (fun _ => x_iconst rfl) ?_
              exact w_ireturn rfl (k (1) _ _ _ _ _ _ _ H O (cD38) (cN38) (cF38) (cA38) (pf38_2_0) (pf38_4_0) (pf38_6_0) (pf38_8_0) (n3) ((congrArg (fun q : Nat => (q : Int)) (show N38 3 = N 3 from (eN38 3))).trans (en3)) (n5) ((congrArg (fun q : Nat => (q : Int)) (show N38 5 = N 5 from (eN38 5))).trans (en5)) (m38_1) ((congrArg (fun q : Nat => (q : Int)) (eN38 7)).trans em38_1) (n9) ((congrArg (fun q : Nat => (q : Int)) (show N38 9 = N 9 from (eN38 9))).trans (en9)) (u2_1) (((((show F38 2 1 = F10 2 1 from (eF38 2 1))).trans ((show F10 2 1 = F 2 1 from (eF10 2 1)))).trans (eu2_1))) (u4_1) (((((show F38 4 1 = F10 4 1 from (eF38 4 1))).trans ((show F10 4 1 = F 4 1 from (eF10 4 1)))).trans (eu4_1))) (y38_0_1) (((eF38 6 1).trans ey38_0_1)) (u8_1) (((((show F38 8 1 = F10 8 1 from (eF38 8 1))).trans ((show F10 8 1 = F 8 1 from (eF10 8 1)))).trans (eu8_1))) (show (1) = 0 ∨ (1) = 1 by first | exact q_5 | omega) (show 0 ≤ (u2_1) ∧ (u2_1) ≤ (n3) ∧ (n3) ≤ 65536 from h4) (show 0 ≤ (u4_1) ∧ (u4_1) ≤ (n5) ∧ (n5) ≤ 65536 from h5) (show 0 ≤ (y38_0_1) ∧ (y38_0_1) ≤ (m38_1) ∧ (m38_1) ≤ 65536 from pz38_0) (show 0 ≤ (u8_1) ∧ (u8_1) ≤ (n9) ∧ (n9) ≤ 65536 from h7))
            · refine Ew_of (pcₚ := 58) (fun _ => x_iconst rfl) ?_
              exact w_ireturn rfl (k (0) _ _ _ _ _ _ _ H O (SD_refl) (SD_refl) (cF10) (cA10) ((((show F10 2 0 = F 2 0 from (eF10 2 0)))).trans (pf3)) ((((show F10 4 0 = F 4 0 from (eF10 4 0)))).trans (pf5)) ((((show F10 6 0 = F 6 0 from (eF10 6 0)))).trans (pf7)) ((((show F10 8 0 = F 8 0 from (eF10 8 0)))).trans (pf9)) (n3) (en3) (n5) (en5) (n7) (en7) (n9) (en9) (u2_1) ((((show F10 2 1 = F 2 1 from (eF10 2 1))).trans (eu2_1))) (u4_1) ((((show F10 4 1 = F 4 1 from (eF10 4 1))).trans (eu4_1))) (u6_1) ((((show F10 6 1 = F 6 1 from (eF10 6 1))).trans (eu6_1))) (u8_1) ((((show F10 8 1 = F 8 1 from (eF10 8 1))).trans (eu8_1))) (show (0) = 0 ∨ (0) = 1 by first | exact q_1 | omega) (show 0 ≤ (u2_1) ∧ (u2_1) ≤ (n3) ∧ (n3) ≤ 65536 from h4) (show 0 ≤ (u4_1) ∧ (u4_1) ≤ (n5) ∧ (n5) ≤ 65536 from h5) (show 0 ≤ (u6_1) ∧ (u6_1) ≤ (n7) ∧ (n7) ≤ 65536 from h6) (show 0 ≤ (u8_1) ∧ (u8_1) ≤ (n9) ∧ (n9) ≤ 65536 from h7))
          · refine Ew_of (pcₚ := 30) (fun _ => x_iconst rfl) ?_
            exact w_ireturn rfl (k (0) _ _ _ _ _ _ _ H O (SD_refl) (SD_refl) (cF10) (cA10) ((((show F10 2 0 = F 2 0 from (eF10 2 0)))).trans (pf3)) ((((show F10 4 0 = F 4 0 from (eF10 4 0)))).trans (pf5)) ((((show F10 6 0 = F 6 0 from (eF10 6 0)))).trans (pf7)) ((((show F10 8 0 = F 8 0 from (eF10 8 0)))).trans (pf9)) (n3) (en3) (n5) (en5) (n7) (en7) (n9) (en9) (u2_1) ((((show F10 2 1 = F 2 1 from (eF10 2 1))).trans (eu2_1))) (u4_1) ((((show F10 4 1 = F 4 1 from (eF10 4 1))).trans (eu4_1))) (u6_1) ((((show F10 6 1 = F 6 1 from (eF10 6 1))).trans (eu6_1))) (u8_1) ((((show F10 8 1 = F 8 1 from (eF10 8 1))).trans (eu8_1))) (show (0) = 0 ∨ (0) = 1 by first | exact q_1 | omega) (show 0 ≤ (u2_1) ∧ (u2_1) ≤ (n3) ∧ (n3) ≤ 65536 from h4) (show 0 ≤ (u4_1) ∧ (u4_1) ≤ (n5) ∧ (n5) ≤ 65536 from h5) (show 0 ≤ (u6_1) ∧ (u6_1) ≤ (n7) ∧ (n7) ≤ 65536 from h6) (show 0 ≤ (u8_1) ∧ (u8_1) ≤ (n9) ∧ (n9) ≤ 65536 from h7))
      · refine v_lR H (o := 1) rfl rfl rfl rfl rfl (n := n1) (en1) (show 0 ≤ a1 ∧ a1 < n1 from q_4228 b13 h3) (z := ((D 8 : Nat) : Int)) (v := .ref (D 8)) ((congrArg (A10 1) b13).trans ((mA10 1 rfl 3).trans (pf8))) (vrf rfl) ?_
        refine v_g H (o := 8) (v := I (u8_1)) rfl rfl rfl rfl rfl (congrArg (fun z : Int => I z) ((((show F10 8 1 = F 8 1 from (eF10 8 1))).trans (eu8_1)) : F10 8 1 = u8_1)) ?_
        refine w_icmpgt (t := 29) rfl rfl (show inr (a2) from h1) (show inr (u8_1) from q_884 h7) (fun b41 => ?_) (fun b41 => ?_)
        · refine Ew_of (pcₚ := 30) (fun _ => x_iconst rfl) ?_
          exact w_ireturn rfl (k (0) _ _ _ _ _ _ _ H O (SD_refl) (SD_refl) (cF10) (cA10) ((((show F10 2 0 = F 2 0 from (eF10 2 0)))).trans (pf3)) ((((show F10 4 0 = F 4 0 from (eF10 4 0)))).trans (pf5)) ((((show F10 6 0 = F 6 0 from (eF10 6 0)))).trans (pf7)) ((((show F10 8 0 = F 8 0 from (eF10 8 0)))).trans (pf9)) (n3) (en3) (n5) (en5) (n7) (en7) (n9) (en9) (u2_1) ((((show F10 2 1 = F 2 1 from (eF10 2 1))).trans (eu2_1))) (u4_1) ((((show F10 4 1 = F 4 1 from (eF10 4 1))).trans (eu4_1))) (u6_1) ((((show F10 6 1 = F 6 1 from (eF10 6 1))).trans (eu6_1))) (u8_1) ((((show F10 8 1 = F 8 1 from (eF10 8 1))).trans (eu8_1))) (show (0) = 0 ∨ (0) = 1 by first | exact q_1 | omega) (show 0 ≤ (u2_1) ∧ (u2_1) ≤ (n3) ∧ (n3) ≤ 65536 from h4) (show 0 ≤ (u4_1) ∧ (u4_1) ≤ (n5) ∧ (n5) ≤ 65536 from h5) (show 0 ≤ (u6_1) ∧ (u6_1) ≤ (n7) ∧ (n7) ≤ 65536 from h6) (show 0 ≤ (u8_1) ∧ (u8_1) ≤ (n9) ∧ (n9) ≤ 65536 from h7))
        · refine Ew_of (pcₚ := 26) (fun _ => x_iload_n rfl rfl) ?_
          refine w_ifge (t := 31) rfl rfl (show inr (a3) from h2) (fun b42 => ?_) (fun b42 => ?_)
          · refine Ew_of (pcₚ := 32) (fun _ => x_iload_n rfl rfl) ?_
            refine w_i2l rfl (show inr (a2) from h1) ?_
            refine Ew_of (pcₚ := 34) (fun _ => x_iload_n rfl rfl) ?_
            refine w_i2l rfl (show inr (a3) from h2) ?_
            refine w_lmulA rfl (fun z43 gz43 => ?_)
            refine Ew_of (pcₚ := 38) (fun _ => x_lstore rfl) ?_
            refine Ew_of (pcₚ := 40) (fun _ => x_lload rfl rk2_s) ?_
            refine Ew_of (pcₚ := 42) (fun _ => x_ldc (z := 65536) rfl (by decide)) ?_
            refine Ew_of (pcₚ := 43) (fun _ => x_aload_n rfl (rk2_o (rfl) rfl rfl)) ?_
            refine v_g H (o := 0) (v := .ref (D 1)) rfl rfl rfl rfl rfl (vrf ((mF10 0 0 rfl).trans (pf1))) ?_
            refine Ew_of (pcₚ := 47) (fun _ => x_iload_n rfl (rk2_o (rfl) rfl rfl)) ?_
            refine v_lR H (o := 1) rfl rfl rfl rfl rfl (n := n1) (en1) (show 0 ≤ a1 ∧ a1 < n1 from q_4228 b13 h3) (z := ((D 8 : Nat) : Int)) (v := .ref (D 8)) ((congrArg (A10 1) b13).trans ((mA10 1 rfl 3).trans (pf8))) (vrf rfl) ?_
            refine v_g H (o := 8) (v := I (u8_1)) rfl rfl rfl rfl rfl (congrArg (fun z : Int => I z) ((((show F10 8 1 = F 8 1 from (eF10 8 1))).trans (eu8_1)) : F10 8 1 = u8_1)) ?_
            refine w_isub rfl ?_
            refine w_i2l rfl (show inr ((65536 - u8_1)) from q_2517 h7) ?_
            refine w_lcmp rfl (show inrJ (z43) from gz43) (show inrJ ((65536 - u8_1)) from q_4229 h7) (fun z44 gz44 gaz44 gbz44 => ?_)
            refine w_ifle (t := 59) rfl rfl (show inr (z44) from gz44) (fun b45 => ?_) (fun b45 => ?_)
            · refine Ew_of (pcₚ := 60) (fun _ => x_aload_n rfl (rk2_o (rfl) rfl rfl)) ?_
              refine v_g H (o := 0) (v := .ref (D 1)) rfl rfl rfl rfl rfl (vrf ((mF10 0 0 rfl).trans (pf1))) ?_
              refine Ew_of (pcₚ := 64) (fun _ => x_iload_n rfl (rk2_o (rfl) rfl rfl)) ?_
              refine v_lR H (o := 1) rfl rfl rfl rfl rfl (n := n1) (en1) (show 0 ≤ a1 ∧ a1 < n1 from q_4228 b13 h3) (z := ((D 8 : Nat) : Int)) (v := .ref (D 8)) ((congrArg (A10 1) b13).trans ((mA10 1 rfl 3).trans (pf8))) (vrf rfl) ?_
              refine Ew_of (pcₚ := 66) (fun _ => x_iload_n rfl (rk2_o (rfl) rfl rfl)) ?_
              refine Ew_of (pcₚ := 68) (fun _ => x_lload rfl rk2_s) ?_
              refine w_l2iA rfl (fun z46 gz46 => ?_)
              refine Ew_of (pcₚ := 70) (fun _ => x_iconst rfl) ?_
              refine Ew_of (pcₚ := 71) (fun _ => x_aload_n rfl (rk2_o (rfl) rfl rfl)) ?_
              refine v_g H (o := 0) (v := .ref (D 1)) rfl rfl rfl rfl rfl (vrf ((mF10 0 0 rfl).trans (pf1))) ?_
              refine Ew_of (pcₚ := 75) (fun _ => x_iload_n rfl (rk2_o (rfl) rfl rfl)) ?_
              refine v_lR H (o := 1) rfl rfl rfl rfl rfl (n := n1) (en1) (show 0 ≤ a1 ∧ a1 < n1 from q_4228 b13 h3) (z := ((D 8 : Nat) : Int)) (v := .ref (D 8)) ((congrArg (A10 1) b13).trans ((mA10 1 rfl 3).trans (pf8))) (vrf rfl) ?_
              refine v_inv H (o := 8) rfl rfl rfl rfl rfl rfl (by rfl) (C163_thisa (D := puc 4616 D) (N := puc 4616 N) (HW_subc H oz_R2cls_43 oz_R2cls_20) ((((show F10 8 0 = F 8 0 from (eF10 8 0)))).trans (pf9)) (n9) (en9) (u8_1) ((((show F10 8 1 = F 8 1 from (eF10 8 1))).trans (eu8_1))) (show inr (a2) from h1) (show inr (z46) from gz46) (show inr (0) from q_20) (show 0 ≤ (u8_1) ∧ (u8_1) ≤ (n9) ∧ (n9) ≤ 65536 from h7) (show 0 ≤ (u8_1) ∧ (u8_1) ≤ (n9) ∧ (n9) ≤ 65536 from h7) (show 0 ≤ (0) ∧ (0) ≤ (u8_1) from q_2615 h7) (show (z46) < 0 ∨ 1 ≤ (a2) ∧ ((a2) ≤ (u8_1) - (0) ∨ (a2) - ((u8_1) - (0)) ≤ (u8_1)) from q_4230 b12 b41) (fun σ47 D47ₚ N47ₚ F47ₚ A47ₚ c47 s47 Hₚ Oₚ hD47 hN47 hS47 hA47 (pm47_1 : HID _) m47_1 (em47_1 : HID _) y47_0_1 (ey47_0_1 : HID _) pz47_0 pz47_1 => ⟨rfl, ?_⟩))
              refine v_backMc (c := c) (s := s) H oz_R2cls_43 oz_R2cls_20 Hₚ Oₚ hD47 oz_R2cls_44 (fun D47 N47 F47 A47 H Oₚ eD47 eN47 eF47 eA47 => ?_)
              have O := OUT_trans O Oₚ
              -- Row.copyBack
              have cF47 : SF oz_R2clsl_0 F F47 := SF_trans (cF10) (SF_gluc (ι := oz_R2clsl_6) oz_R2cls_20 hS47 eF47 (by decide +kernel)) (any_sub (lₚ := [(8, 0), (8, 1), (8, 2)]) (by decide +kernel))
              have mF47 := SFm_of cF47 oz_R2cls_14
              have cA47 : SA oz_R2clsl_1 A A47 := SA_trans (cA10) (SA_gluc (ι := oz_R2clsl_6) oz_R2cls_20 hA47 eA47 (by decide +kernel)) (any_subA (lₚ := [9]) (by decide +kernel))
              have mA47 := SAm_of cA47 oz_R2cls_15
              have cD47 : SD oz_R2clsl_1 D D47 := SD_trans (SD_refl) (SD_gluc (ι := oz_R2clsl_6) oz_R2cls_20 hD47 eD47 (by decide +kernel)) (any_subA (lₚ := [9]) (by decide +kernel))
              have mD47 := SDm_of cD47 oz_R2cls_15
              have cN47 : SD oz_R2clsl_1 N N47 := SD_trans (SD_refl) (SD_gluc (ι := oz_R2clsl_6) oz_R2cls_20 hN47 eN47 (by decide +kernel)) (any_subA (lₚ := [9]) (by decide +kernel))
              have mN47 := SDm_of cN47 oz_R2cls_15
              have pf47_2_0 : HID (F47 2 0 = (D47 3 : Int)) := ((show F47 2 0 = F10 2 0 from (eF47 2 0))).trans (((((show F10 2 0 = F 2 0 from (eF10 2 0)))).trans (pf3)).trans (congrArg (fun q : Nat => (q : Int)) ((show D47 3 = D 3 from (eD47 3))).symm))
              have pf47_4_0 : HID (F47 4 0 = (D47 5 : Int)) := ((show F47 4 0 = F10 4 0 from (eF47 4 0))).trans (((((show F10 4 0 = F 4 0 from (eF10 4 0)))).trans (pf5)).trans (congrArg (fun q : Nat => (q : Int)) ((show D47 5 = D 5 from (eD47 5))).symm))
              have pf47_6_0 : HID (F47 6 0 = (D47 7 : Int)) := ((show F47 6 0 = F10 6 0 from (eF47 6 0))).trans (((((show F10 6 0 = F 6 0 from (eF10 6 0)))).trans (pf7)).trans (congrArg (fun q : Nat => (q : Int)) ((show D47 7 = D 7 from (eD47 7))).symm))
              have pf47_8_0 : HID (F47 8 0 = (D47 9 : Int)) := (eF47 8 0).trans (pm47_1.trans (congrArg (fun q : Nat => (q : Int)) (eD47 9).symm))
              refine Ew_of (pcₚ := 80) (fun _ => x_iconst rfl) ?_
              exact w_ireturn rfl (k (1) _ _ _ _ _ _ _ H O (cD47) (cN47) (cF47) (cA47) (pf47_2_0) (pf47_4_0) (pf47_6_0) (pf47_8_0) (n3) ((congrArg (fun q : Nat => (q : Int)) (show N47 3 = N 3 from (eN47 3))).trans (en3)) (n5) ((congrArg (fun q : Nat => (q : Int)) (show N47 5 = N 5 from (eN47 5))).trans (en5)) (n7) ((congrArg (fun q : Nat => (q : Int)) (show N47 7 = N 7 from (eN47 7))).trans (en7)) (m47_1) ((congrArg (fun q : Nat => (q : Int)) (eN47 9)).trans em47_1) (u2_1) (((((show F47 2 1 = F10 2 1 from (eF47 2 1))).trans ((show F10 2 1 = F 2 1 from (eF10 2 1)))).trans (eu2_1))) (u4_1) (((((show F47 4 1 = F10 4 1 from (eF47 4 1))).trans ((show F10 4 1 = F 4 1 from (eF10 4 1)))).trans (eu4_1))) (u6_1) (((((show F47 6 1 = F10 6 1 from (eF47 6 1))).trans ((show F10 6 1 = F 6 1 from (eF10 6 1)))).trans (eu6_1))) (y47_0_1) (((eF47 8 1).trans ey47_0_1)) (show (1) = 0 ∨ (1) = 1 by first | exact q_5 | omega) (show 0 ≤ (u2_1) ∧ (u2_1) ≤ (n3) ∧ (n3) ≤ 65536 from h4) (show 0 ≤ (u4_1) ∧ (u4_1) ≤ (n5) ∧ (n5) ≤ 65536 from h5) (show 0 ≤ (u6_1) ∧ (u6_1) ≤ (n7) ∧ (n7) ≤ 65536 from h6) (show 0 ≤ (y47_0_1) ∧ (y47_0_1) ≤ (m47_1) ∧ (m47_1) ≤ 65536 from pz47_0))
            · refine Ew_of (pcₚ := 58) (fun _ => x_iconst rfl) ?_
              exact w_ireturn rfl (k (0) _ _ _ _ _ _ _ H O (SD_refl) (SD_refl) (cF10) (cA10) ((((show F10 2 0 = F 2 0 from (eF10 2 0)))).trans (pf3)) ((((show F10 4 0 = F 4 0 from (eF10 4 0)))).trans (pf5)) ((((show F10 6 0 = F 6 0 from (eF10 6 0)))).trans (pf7)) ((((show F10 8 0 = F 8 0 from (eF10 8 0)))).trans (pf9)) (n3) (en3) (n5) (en5) (n7) (en7) (n9) (en9) (u2_1) ((((show F10 2 1 = F 2 1 from (eF10 2 1))).trans (eu2_1))) (u4_1) ((((show F10 4 1 = F 4 1 from (eF10 4 1))).trans (eu4_1))) (u6_1) ((((show F10 6 1 = F 6 1 from (eF10 6 1))).trans (eu6_1))) (u8_1) ((((show F10 8 1 = F 8 1 from (eF10 8 1))).trans (eu8_1))) (show (0) = 0 ∨ (0) = 1 by first | exact q_1 | omega) (show 0 ≤ (u2_1) ∧ (u2_1) ≤ (n3) ∧ (n3) ≤ 65536 from h4) (show 0 ≤ (u4_1) ∧ (u4_1) ≤ (n5) ∧ (n5) ≤ 65536 from h5) (show 0 ≤ (u6_1) ∧ (u6_1) ≤ (n7) ∧ (n7) ≤ 65536 from h6) (show 0 ≤ (u8_1) ∧ (u8_1) ≤ (n9) ∧ (n9) ≤ 65536 from h7))
          · refine Ew_of (pcₚ := 30) (fun _ => x_iconst rfl) ?_
            exact w_ireturn rfl (k (0) _ _ _ _ _ _ _ H O (SD_refl) (SD_refl) (cF10) (cA10) ((((show F10 2 0 = F 2 0 from (eF10 2 0)))).trans (pf3)) ((((show F10 4 0 = F 4 0 from (eF10 4 0)))).trans (pf5)) ((((show F10 6 0 = F 6 0 from (eF10 6 0)))).trans (pf7)) ((((show F10 8 0 = F 8 0 from (eF10 8 0)))).trans (pf9)) (n3) (en3) (n5) (en5) (n7) (en7) (n9) (en9) (u2_1) ((((show F10 2 1 = F 2 1 from (eF10 2 1))).trans (eu2_1))) (u4_1) ((((show F10 4 1 = F 4 1 from (eF10 4 1))).trans (eu4_1))) (u6_1) ((((show F10 6 1 = F 6 1 from (eF10 6 1))).trans (eu6_1))) (u8_1) ((((show F10 8 1 = F 8 1 from (eF10 8 1))).trans (eu8_1))) (show (0) = 0 ∨ (0) = 1 by first | exact q_1 | omega) (show 0 ≤ (u2_1) ∧ (u2_1) ≤ (n3) ∧ (n3) ≤ 65536 from h4) (show 0 ≤ (u4_1) ∧ (u4_1) ≤ (n5) ∧ (n5) ≤ 65536 from h5) (show 0 ≤ (u6_1) ∧ (u6_1) ≤ (n7) ∧ (n7) ≤ 65536 from h6) (show 0 ≤ (u8_1) ∧ (u8_1) ≤ (n9) ∧ (n9) ≤ 65536 from h7))
abbrev V4 : vV := [(0, 0, [(4, 0), (4, 0), (4, 0), (4, 0), (4, 0), (4, 0), (4, 0), (4, 0), (4, 0), (4, 0), (4, 0), (4, 0), (4, 0), (4, 0), (4, 0), (4, 0), (4, 0), (0, 0), (0, 0)]), (1, 4, []), (0, 7, [(4, 0), (0, 0), (1, 0), (0, 0), (0, 0)]), (1, 0, []), (0, 7, [(4, 0), (0, 0), (1, 0), (0, 0), (0, 0)]), (1, 0, []), (0, 7, [(4, 0), (0, 0), (1, 0), (0, 0), (0, 0)]), (1, 0, []), (0, 7, [(4, 0), (0, 0), (1, 0), (0, 0), (0, 0)]), (1, 0, [])]
theorem len_V4_oz_R2cls : (V4).length = 10 := by decide +kernel
theorem oz_R2cls_46 : vsub V4 V24 [] = true := by decide +kernel
def oz_R2clsl_7 : List (Nat × Nat) := [(2, 1), (4, 1), (6, 1), (8, 1)]
theorem oz_R2cls_47 : (oz_R2clsl_7).all (fun p => !tbz 231584178474632390859696173488149177234892112911538337838083521607765283831808 (Nat.add (Nat.mul 32 p.1) p.2)) = true := by decide +kernel
theorem oz_R2cls_48 : (oz_R2clsl_2).all (fun p => !tbz 0 p) = true := by decide +kernel
/-- PackHouse.cut: this, this.rows, this.rows.0, this.rows.0.bytes, this.rows.1, this.rows.1.bytes, this.rows.2, this.rows.2.bytes, this.rows.3, this.rows.3.bytes -/
theorem C4 {σE : rS} {D N : Nat → Nat} {F : hF} {A : hA} {d c s : Nat} {Q : wQ} (H : HW V4 σE D N F A) {a1 a2 : Int} (pf1 : HID (F 0 0 = (D 1 : Int))) (pf2 : HID (A 1 0 = (D 2 : Int))) (pf3 : HID (F 2 0 = (D 3 : Int))) (pf4 : HID (A 1 1 = (D 4 : Int))) (pf5 : HID (F 4 0 = (D 5 : Int))) (pf6 : HID (A 1 2 = (D 6 : Int))) (pf7 : HID (F 6 0 = (D 7 : Int))) (pf8 : HID (A 1 3 = (D 8 : Int))) (pf9 : HID (F 8 0 = (D 9 : Int))) (n1 : Int) (en1 : HID ((N 1 : Int) = n1)) (n3 : Int) (en3 : HID ((N 3 : Int) = n3)) (n5 : Int) (en5 : HID ((N 5 : Int) = n5)) (n7 : Int) (en7 : HID ((N 7 : Int) = n7)) (n9 : Int) (en9 : HID ((N 9 : Int) = n9)) (u2_1 : Int) (eu2_1 : HID (F 2 1 = u2_1)) (u4_1 : Int) (eu4_1 : HID (F 4 1 = u4_1)) (u6_1 : Int) (eu6_1 : HID (F 6 1 = u6_1)) (u8_1 : Int) (eu8_1 : HID (F 8 1 = u8_1)) (h0 : inr (a1)) (h1 : inr (a2)) (h2 : (n1) = 4) (h3 : 0 ≤ (u2_1) ∧ (u2_1) ≤ (n3) ∧ (n3) ≤ 65536) (h4 : 0 ≤ (u4_1) ∧ (u4_1) ≤ (n5) ∧ (n5) ≤ 65536) (h5 : 0 ≤ (u6_1) ∧ (u6_1) ≤ (n7) ∧ (n7) ≤ 65536) (h6 : 0 ≤ (u8_1) ∧ (u8_1) ≤ (n9) ∧ (n9) ≤ 65536) (k : ∀ (z : Int) (σ : rS) (Fₚ : hF) (Aₚ : hA), HW V4 σ D N Fₚ Aₚ → OUT (V4).length D N σE c s D N σ c s → SF [(2, 1), (4, 1), (6, 1), (8, 1)] F Fₚ → SA [] A Aₚ → ∀ y2_1 : Int, Fₚ 2 1 = y2_1 → ∀ y4_1 : Int, Fₚ 4 1 = y4_1 → ∀ y6_1 : Int, Fₚ 6 1 = y6_1 → ∀ y8_1 : Int, Fₚ 8 1 = y8_1 → ((z) = 0 ∨ (z) = 1) → (0 ≤ (y2_1) ∧ (y2_1) ≤ (n3) ∧ (n3) ≤ 65536) → (0 ≤ (y4_1) ∧ (y4_1) ≤ (n5) ∧ (n5) ≤ 65536) → (0 ≤ (y6_1) ∧ (y6_1) ≤ (n7) ∧ (n7) ≤ 65536) → (0 ≤ (y8_1) ∧ (y8_1) ≤ (n9) ∧ (n9) ≤ 65536) → Q (some (I z)) σ c s) : Ew 4 (d + 1) 0 (rargs 0 [.ref (D 0), I a1, I a2]) [] σE c s Q := by
  have O := OUT_refl (n := (V4).length) (D := D) (N := N) (σ := σE) (c := c) (s := s)
  have HE := H
  have r5 : HID ((0 : Int) ≤ n1 ∧ n1 ≤ 1000000) := nrng (H.nle 1 (ltn len_V4_oz_R2cls rfl)) (show (N 1 : Int) = n1 from en1)
  refine Ew_of (pcₚ := 1) (fun _ => x_iload_n rfl rfl) ?_
  refine w_stat24 rfl rfl (by rfl) (C24 (D := puc 0 D) (N := puc 0 N) (HW_subc H oz_R2cls_46 oz_R2cls_16) (show inr (a1) from h0) (fun z10 σ10 F10ₚ A10ₚ Hₚ Oₚ hS10 hA10 pz10_0 pz10_1 => ⟨rretB rfl pz10_0, ?_⟩))
  refine v_backc (c := c) (s := s) H oz_R2cls_46 oz_R2cls_16 Hₚ Oₚ (fun F10 A10 H Oₚ eF10 eA10 => ?_)
  have O := OUT_trans O Oₚ
  -- PackHouse.isRow
  have cF10 : SF oz_R2clsl_7 F F10 := SF_trans (SF_refl) (SF_gluc (ι := oz_R2clsl_2) oz_R2cls_16 hS10 eF10 (by decide +kernel)) (any_sub (lₚ := []) (by decide +kernel))
  have mF10 := SFm_of cF10 oz_R2cls_47
  have cA10 : SA oz_R2clsl_2 A A10 := SA_trans (SA_refl) (SA_gluc (ι := oz_R2clsl_2) oz_R2cls_16 hA10 eA10 (by decide +kernel)) (any_subA (lₚ := []) (by decide +kernel))
  have mA10 := SAm_of cA10 oz_R2cls_48
  refine w_ifeq (t := 24) rfl rfl (show inr (z10) from q_15 pz10_0) (fun b11 => ?_) (fun b11 => ?_)
  · refine Ew_of (pcₚ := 25) (fun _ => x_iconst rfl) ?_
    exact w_ireturn rfl (k (0) _ _ _ H O (cF10) (cA10) (u2_1) ((((show F10 2 1 = F 2 1 from (eF10 2 1))).trans (eu2_1))) (u4_1) ((((show F10 4 1 = F 4 1 from (eF10 4 1))).trans (eu4_1))) (u6_1) ((((show F10 6 1 = F 6 1 from (eF10 6 1))).trans (eu6_1))) (u8_1) ((((show F10 8 1 = F 8 1 from (eF10 8 1))).trans (eu8_1))) (show (0) = 0 ∨ (0) = 1 by first | exact q_1 | omega) (show 0 ≤ (u2_1) ∧ (u2_1) ≤ (n3) ∧ (n3) ≤ 65536 from h3) (show 0 ≤ (u4_1) ∧ (u4_1) ≤ (n5) ∧ (n5) ≤ 65536 from h4) (show 0 ≤ (u6_1) ∧ (u6_1) ≤ (n7) ∧ (n7) ≤ 65536 from h5) (show 0 ≤ (u8_1) ∧ (u8_1) ≤ (n9) ∧ (n9) ≤ 65536 from h6))
  · refine Ew_of (pcₚ := 8) (fun _ => x_iload_n rfl rfl) ?_
    refine w_iflt (t := 24) rfl rfl (show inr (a2) from h1) (fun b12 => ?_) (fun b12 => ?_)
    · refine Ew_of (pcₚ := 25) (fun _ => x_iconst rfl) ?_
      exact w_ireturn rfl (k (0) _ _ _ H O (cF10) (cA10) (u2_1) ((((show F10 2 1 = F 2 1 from (eF10 2 1))).trans (eu2_1))) (u4_1) ((((show F10 4 1 = F 4 1 from (eF10 4 1))).trans (eu4_1))) (u6_1) ((((show F10 6 1 = F 6 1 from (eF10 6 1))).trans (eu6_1))) (u8_1) ((((show F10 8 1 = F 8 1 from (eF10 8 1))).trans (eu8_1))) (show (0) = 0 ∨ (0) = 1 by first | exact q_1 | omega) (show 0 ≤ (u2_1) ∧ (u2_1) ≤ (n3) ∧ (n3) ≤ 65536 from h3) (show 0 ≤ (u4_1) ∧ (u4_1) ≤ (n5) ∧ (n5) ≤ 65536 from h4) (show 0 ≤ (u6_1) ∧ (u6_1) ≤ (n7) ∧ (n7) ≤ 65536 from h5) (show 0 ≤ (u8_1) ∧ (u8_1) ≤ (n9) ∧ (n9) ≤ 65536 from h6))
    · refine Ew_of (pcₚ := 12) (fun _ => x_iload_n rfl rfl) ?_
      refine Ew_of (pcₚ := 13) (fun _ => x_aload_n rfl rfl) ?_
      refine v_g H (o := 0) (v := .ref (D 1)) rfl rfl rfl rfl rfl (vrf ((mF10 0 0 rfl).trans (pf1))) ?_
      refine Ew_of (pcₚ := 17) (fun _ => x_iload_n rfl rfl) ?_
      rcases (show a1 = 0 ∨ a1 = 1 ∨ a1 = 2 ∨ a1 = 3 by omega) with b13 | b13 | b13 | b13
      · refine v_lR H (o := 1) rfl rfl rfl rfl rfl (n := n1) (en1) (show 0 ≤ a1 ∧ a1 < n1 from q_4225 (HIDe r5) b13 h2) (z := ((D 2 : Nat) : Int)) (v := .ref (D 2)) ((congrArg (A10 1) b13).trans ((mA10 1 rfl 0).trans (pf2))) (vrf rfl) ?_
        refine v_g H (o := 2) (v := I (u2_1)) rfl rfl rfl rfl rfl (congrArg (fun z : Int => I z) ((((show F10 2 1 = F 2 1 from (eF10 2 1))).trans (eu2_1)) : F10 2 1 = u2_1)) ?_
        refine w_icmple (t := 26) rfl rfl (show inr (a2) from h1) (show inr (u2_1) from q_884 h3) (fun b14 => ?_) (fun b14 => ?_)
        · refine Ew_of (pcₚ := 27) (fun _ => x_aload_n rfl rfl) ?_
          refine v_g H (o := 0) (v := .ref (D 1)) rfl rfl rfl rfl rfl (vrf ((mF10 0 0 rfl).trans (pf1))) ?_
          refine Ew_of (pcₚ := 31) (fun _ => x_iload_n rfl rfl) ?_
          refine v_lR H (o := 1) rfl rfl rfl rfl rfl (n := n1) (en1) (show 0 ≤ a1 ∧ a1 < n1 from q_4225 (HIDe r5) b13 h2) (z := ((D 2 : Nat) : Int)) (v := .ref (D 2)) ((congrArg (A10 1) b13).trans ((mA10 1 rfl 0).trans (pf2))) (vrf rfl) ?_
          refine Ew_of (pcₚ := 33) (fun _ => x_iload_n rfl rfl) ?_
          refine v_p H (o := 2) (z := a2) (v := I (a2)) rfl rfl rfl rfl rfl rfl rfl rfl (show (-2147483648 : Int) ≤ a2 ∧ a2 ≤ 2147483647 from q_3761 b12 h1) (fun σ H Oₚ => ?_)
          have O := OUT_trans O Oₚ
          have cFu15 : SF oz_R2clsl_7 F (updF F10 2 1 (a2)) := SF_upd (cF10) rfl
          have mFu15 := SFm_of cFu15 oz_R2cls_47
          refine Ew_of (pcₚ := 37) (fun _ => x_iconst rfl) ?_
          exact w_ireturn rfl (k (1) _ _ _ H O (cFu15) (cA10) (a2) (rfl) (u4_1) ((((show F10 4 1 = F 4 1 from (eF10 4 1))).trans (eu4_1))) (u6_1) ((((show F10 6 1 = F 6 1 from (eF10 6 1))).trans (eu6_1))) (u8_1) ((((show F10 8 1 = F 8 1 from (eF10 8 1))).trans (eu8_1))) (show (1) = 0 ∨ (1) = 1 by first | exact q_5 | omega) (show 0 ≤ (a2) ∧ (a2) ≤ (n3) ∧ (n3) ≤ 65536 from q_4231 b12 b14 h3) (show 0 ≤ (u4_1) ∧ (u4_1) ≤ (n5) ∧ (n5) ≤ 65536 from h4) (show 0 ≤ (u6_1) ∧ (u6_1) ≤ (n7) ∧ (n7) ≤ 65536 from h5) (show 0 ≤ (u8_1) ∧ (u8_1) ≤ (n9) ∧ (n9) ≤ 65536 from h6))
        · refine Ew_of (pcₚ := 25) (fun _ => x_iconst rfl) ?_
          exact w_ireturn rfl (k (0) _ _ _ H O (cF10) (cA10) (u2_1) ((((show F10 2 1 = F 2 1 from (eF10 2 1))).trans (eu2_1))) (u4_1) ((((show F10 4 1 = F 4 1 from (eF10 4 1))).trans (eu4_1))) (u6_1) ((((show F10 6 1 = F 6 1 from (eF10 6 1))).trans (eu6_1))) (u8_1) ((((show F10 8 1 = F 8 1 from (eF10 8 1))).trans (eu8_1))) (show (0) = 0 ∨ (0) = 1 by first | exact q_1 | omega) (show 0 ≤ (u2_1) ∧ (u2_1) ≤ (n3) ∧ (n3) ≤ 65536 from h3) (show 0 ≤ (u4_1) ∧ (u4_1) ≤ (n5) ∧ (n5) ≤ 65536 from h4) (show 0 ≤ (u6_1) ∧ (u6_1) ≤ (n7) ∧ (n7) ≤ 65536 from h5) (show 0 ≤ (u8_1) ∧ (u8_1) ≤ (n9) ∧ (n9) ≤ 65536 from h6))
      · refine v_lR H (o := 1) rfl rfl rfl rfl rfl (n := n1) (en1) (show 0 ≤ a1 ∧ a1 < n1 from q_4226 (HIDe r5) b13 h2) (z := ((D 4 : Nat) : Int)) (v := .ref (D 4)) ((congrArg (A10 1) b13).trans ((mA10 1 rfl 1).trans (pf4))) (vrf rfl) ?_
        refine v_g H (o := 4) (v := I (u4_1)) rfl rfl rfl rfl rfl (congrArg (fun z : Int => I z) ((((show F10 4 1 = F 4 1 from (eF10 4 1))).trans (eu4_1)) : F10 4 1 = u4_1)) ?_
        refine w_icmple (t := 26) rfl rfl (show inr (a2) from h1) (show inr (u4_1) from q_884 h4) (fun b16 => ?_) (fun b16 => ?_)
        · refine Ew_of (pcₚ := 27) (fun _ => x_aload_n rfl rfl) ?_
          refine v_g H (o := 0) (v := .ref (D 1)) rfl rfl rfl rfl rfl (vrf ((mF10 0 0 rfl).trans (pf1))) ?_
          refine Ew_of (pcₚ := 31) (fun _ => x_iload_n rfl rfl) ?_
          refine v_lR H (o := 1) rfl rfl rfl rfl rfl (n := n1) (en1) (show 0 ≤ a1 ∧ a1 < n1 from q_4226 (HIDe r5) b13 h2) (z := ((D 4 : Nat) : Int)) (v := .ref (D 4)) ((congrArg (A10 1) b13).trans ((mA10 1 rfl 1).trans (pf4))) (vrf rfl) ?_
          refine Ew_of (pcₚ := 33) (fun _ => x_iload_n rfl rfl) ?_
          refine v_p H (o := 4) (z := a2) (v := I (a2)) rfl rfl rfl rfl rfl rfl rfl rfl (show (-2147483648 : Int) ≤ a2 ∧ a2 ≤ 2147483647 from q_3761 b12 h1) (fun σ H Oₚ => ?_)
          have O := OUT_trans O Oₚ
          have cFu17 : SF oz_R2clsl_7 F (updF F10 4 1 (a2)) := SF_upd (cF10) rfl
          have mFu17 := SFm_of cFu17 oz_R2cls_47
          refine Ew_of (pcₚ := 37) (fun _ => x_iconst rfl) ?_
          exact w_ireturn rfl (k (1) _ _ _ H O (cFu17) (cA10) (u2_1) ((((show F10 2 1 = F 2 1 from (eF10 2 1))).trans (eu2_1))) (a2) (rfl) (u6_1) ((((show F10 6 1 = F 6 1 from (eF10 6 1))).trans (eu6_1))) (u8_1) ((((show F10 8 1 = F 8 1 from (eF10 8 1))).trans (eu8_1))) (show (1) = 0 ∨ (1) = 1 by first | exact q_5 | omega) (show 0 ≤ (u2_1) ∧ (u2_1) ≤ (n3) ∧ (n3) ≤ 65536 from h3) (show 0 ≤ (a2) ∧ (a2) ≤ (n5) ∧ (n5) ≤ 65536 from q_4231 b12 b16 h4) (show 0 ≤ (u6_1) ∧ (u6_1) ≤ (n7) ∧ (n7) ≤ 65536 from h5) (show 0 ≤ (u8_1) ∧ (u8_1) ≤ (n9) ∧ (n9) ≤ 65536 from h6))
        · refine Ew_of (pcₚ := 25) (fun _ => x_iconst rfl) ?_
          exact w_ireturn rfl (k (0) _ _ _ H O (cF10) (cA10) (u2_1) ((((show F10 2 1 = F 2 1 from (eF10 2 1))).trans (eu2_1))) (u4_1) ((((show F10 4 1 = F 4 1 from (eF10 4 1))).trans (eu4_1))) (u6_1) ((((show F10 6 1 = F 6 1 from (eF10 6 1))).trans (eu6_1))) (u8_1) ((((show F10 8 1 = F 8 1 from (eF10 8 1))).trans (eu8_1))) (show (0) = 0 ∨ (0) = 1 by first | exact q_1 | omega) (show 0 ≤ (u2_1) ∧ (u2_1) ≤ (n3) ∧ (n3) ≤ 65536 from h3) (show 0 ≤ (u4_1) ∧ (u4_1) ≤ (n5) ∧ (n5) ≤ 65536 from h4) (show 0 ≤ (u6_1) ∧ (u6_1) ≤ (n7) ∧ (n7) ≤ 65536 from h5) (show 0 ≤ (u8_1) ∧ (u8_1) ≤ (n9) ∧ (n9) ≤ 65536 from h6))
      · refine v_lR H (o := 1) rfl rfl rfl rfl rfl (n := n1) (en1) (show 0 ≤ a1 ∧ a1 < n1 from q_4227 (HIDe r5) b13 h2) (z := ((D 6 : Nat) : Int)) (v := .ref (D 6)) ((congrArg (A10 1) b13).trans ((mA10 1 rfl 2).trans (pf6))) (vrf rfl) ?_
        refine v_g H (o := 6) (v := I (u6_1)) rfl rfl rfl rfl rfl (congrArg (fun z : Int => I z) ((((show F10 6 1 = F 6 1 from (eF10 6 1))).trans (eu6_1)) : F10 6 1 = u6_1)) ?_
        refine w_icmple (t := 26) rfl rfl (show inr (a2) from h1) (show inr (u6_1) from q_884 h5) (fun b18 => ?_) (fun b18 => ?_)
        · refine Ew_of (pcₚ := 27) (fun _ => x_aload_n rfl rfl) ?_
          refine v_g H (o := 0) (v := .ref (D 1)) rfl rfl rfl rfl rfl (vrf ((mF10 0 0 rfl).trans (pf1))) ?_
          refine Ew_of (pcₚ := 31) (fun _ => x_iload_n rfl rfl) ?_
          refine v_lR H (o := 1) rfl rfl rfl rfl rfl (n := n1) (en1) (show 0 ≤ a1 ∧ a1 < n1 from q_4227 (HIDe r5) b13 h2) (z := ((D 6 : Nat) : Int)) (v := .ref (D 6)) ((congrArg (A10 1) b13).trans ((mA10 1 rfl 2).trans (pf6))) (vrf rfl) ?_
          refine Ew_of (pcₚ := 33) (fun _ => x_iload_n rfl rfl) ?_
          refine v_p H (o := 6) (z := a2) (v := I (a2)) rfl rfl rfl rfl rfl rfl rfl rfl (show (-2147483648 : Int) ≤ a2 ∧ a2 ≤ 2147483647 from q_3761 b12 h1) (fun σ H Oₚ => ?_)
          have O := OUT_trans O Oₚ
          have cFu19 : SF oz_R2clsl_7 F (updF F10 6 1 (a2)) := SF_upd (cF10) rfl
          have mFu19 := SFm_of cFu19 oz_R2cls_47
          refine Ew_of (pcₚ := 37) (fun _ => x_iconst rfl) ?_
          exact w_ireturn rfl (k (1) _ _ _ H O (cFu19) (cA10) (u2_1) ((((show F10 2 1 = F 2 1 from (eF10 2 1))).trans (eu2_1))) (u4_1) ((((show F10 4 1 = F 4 1 from (eF10 4 1))).trans (eu4_1))) (a2) (rfl) (u8_1) ((((show F10 8 1 = F 8 1 from (eF10 8 1))).trans (eu8_1))) (show (1) = 0 ∨ (1) = 1 by first | exact q_5 | omega) (show 0 ≤ (u2_1) ∧ (u2_1) ≤ (n3) ∧ (n3) ≤ 65536 from h3) (show 0 ≤ (u4_1) ∧ (u4_1) ≤ (n5) ∧ (n5) ≤ 65536 from h4) (show 0 ≤ (a2) ∧ (a2) ≤ (n7) ∧ (n7) ≤ 65536 from q_4231 b12 b18 h5) (show 0 ≤ (u8_1) ∧ (u8_1) ≤ (n9) ∧ (n9) ≤ 65536 from h6))
        · refine Ew_of (pcₚ := 25) (fun _ => x_iconst rfl) ?_
          exact w_ireturn rfl (k (0) _ _ _ H O (cF10) (cA10) (u2_1) ((((show F10 2 1 = F 2 1 from (eF10 2 1))).trans (eu2_1))) (u4_1) ((((show F10 4 1 = F 4 1 from (eF10 4 1))).trans (eu4_1))) (u6_1) ((((show F10 6 1 = F 6 1 from (eF10 6 1))).trans (eu6_1))) (u8_1) ((((show F10 8 1 = F 8 1 from (eF10 8 1))).trans (eu8_1))) (show (0) = 0 ∨ (0) = 1 by first | exact q_1 | omega) (show 0 ≤ (u2_1) ∧ (u2_1) ≤ (n3) ∧ (n3) ≤ 65536 from h3) (show 0 ≤ (u4_1) ∧ (u4_1) ≤ (n5) ∧ (n5) ≤ 65536 from h4) (show 0 ≤ (u6_1) ∧ (u6_1) ≤ (n7) ∧ (n7) ≤ 65536 from h5) (show 0 ≤ (u8_1) ∧ (u8_1) ≤ (n9) ∧ (n9) ≤ 65536 from h6))
      · refine v_lR H (o := 1) rfl rfl rfl rfl rfl (n := n1) (en1) (show 0 ≤ a1 ∧ a1 < n1 from q_4228 b13 h2) (z := ((D 8 : Nat) : Int)) (v := .ref (D 8)) ((congrArg (A10 1) b13).trans ((mA10 1 rfl 3).trans (pf8))) (vrf rfl) ?_
        refine v_g H (o := 8) (v := I (u8_1)) rfl rfl rfl rfl rfl (congrArg (fun z : Int => I z) ((((show F10 8 1 = F 8 1 from (eF10 8 1))).trans (eu8_1)) : F10 8 1 = u8_1)) ?_
        refine w_icmple (t := 26) rfl rfl (show inr (a2) from h1) (show inr (u8_1) from q_884 h6) (fun b20 => ?_) (fun b20 => ?_)
        · refine Ew_of (pcₚ := 27) (fun _ => x_aload_n rfl rfl) ?_
          refine v_g H (o := 0) (v := .ref (D 1)) rfl rfl rfl rfl rfl (vrf ((mF10 0 0 rfl).trans (pf1))) ?_
          refine Ew_of (pcₚ := 31) (fun _ => x_iload_n rfl rfl) ?_
          refine v_lR H (o := 1) rfl rfl rfl rfl rfl (n := n1) (en1) (show 0 ≤ a1 ∧ a1 < n1 from q_4228 b13 h2) (z := ((D 8 : Nat) : Int)) (v := .ref (D 8)) ((congrArg (A10 1) b13).trans ((mA10 1 rfl 3).trans (pf8))) (vrf rfl) ?_
          refine Ew_of (pcₚ := 33) (fun _ => x_iload_n rfl rfl) ?_
          refine v_p H (o := 8) (z := a2) (v := I (a2)) rfl rfl rfl rfl rfl rfl rfl rfl (show (-2147483648 : Int) ≤ a2 ∧ a2 ≤ 2147483647 from q_3761 b12 h1) (fun σ H Oₚ => ?_)
          have O := OUT_trans O Oₚ
          have cFu21 : SF oz_R2clsl_7 F (updF F10 8 1 (a2)) := SF_upd (cF10) rfl
          have mFu21 := SFm_of cFu21 oz_R2cls_47
          refine Ew_of (pcₚ := 37) (fun _ => x_iconst rfl) ?_
          exact w_ireturn rfl (k (1) _ _ _ H O (cFu21) (cA10) (u2_1) ((((show F10 2 1 = F 2 1 from (eF10 2 1))).trans (eu2_1))) (u4_1) ((((show F10 4 1 = F 4 1 from (eF10 4 1))).trans (eu4_1))) (u6_1) ((((show F10 6 1 = F 6 1 from (eF10 6 1))).trans (eu6_1))) (a2) (rfl) (show (1) = 0 ∨ (1) = 1 by first | exact q_5 | omega) (show 0 ≤ (u2_1) ∧ (u2_1) ≤ (n3) ∧ (n3) ≤ 65536 from h3) (show 0 ≤ (u4_1) ∧ (u4_1) ≤ (n5) ∧ (n5) ≤ 65536 from h4) (show 0 ≤ (u6_1) ∧ (u6_1) ≤ (n7) ∧ (n7) ≤ 65536 from h5) (show 0 ≤ (a2) ∧ (a2) ≤ (n9) ∧ (n9) ≤ 65536 from q_4231 b12 b20 h6))
        · refine Ew_of (pcₚ := 25) (fun _ => x_iconst rfl) ?_
          exact w_ireturn rfl (k (0) _ _ _ H O (cF10) (cA10) (u2_1) ((((show F10 2 1 = F 2 1 from (eF10 2 1))).trans (eu2_1))) (u4_1) ((((show F10 4 1 = F 4 1 from (eF10 4 1))).trans (eu4_1))) (u6_1) ((((show F10 6 1 = F 6 1 from (eF10 6 1))).trans (eu6_1))) (u8_1) ((((show F10 8 1 = F 8 1 from (eF10 8 1))).trans (eu8_1))) (show (0) = 0 ∨ (0) = 1 by first | exact q_1 | omega) (show 0 ≤ (u2_1) ∧ (u2_1) ≤ (n3) ∧ (n3) ≤ 65536 from h3) (show 0 ≤ (u4_1) ∧ (u4_1) ≤ (n5) ∧ (n5) ≤ 65536 from h4) (show 0 ≤ (u6_1) ∧ (u6_1) ≤ (n7) ∧ (n7) ≤ 65536 from h5) (show 0 ≤ (u8_1) ∧ (u8_1) ≤ (n9) ∧ (n9) ≤ 65536 from h6))
abbrev V6 : vV := [(0, 0, [(4, 0), (4, 0), (4, 0), (4, 0), (4, 0), (4, 0), (4, 0), (4, 0), (4, 0), (4, 0), (4, 0), (4, 0), (4, 0), (4, 0), (4, 0), (4, 0), (4, 0), (0, 0), (0, 0)]), (1, 4, []), (0, 7, [(4, 0), (0, 0), (1, 0), (0, 0), (0, 0)]), (1, 0, []), (0, 7, [(4, 0), (0, 0), (1, 0), (0, 0), (0, 0)]), (1, 0, []), (0, 7, [(4, 0), (0, 0), (1, 0), (0, 0), (0, 0)]), (1, 0, []), (0, 7, [(4, 0), (0, 0), (1, 0), (0, 0), (0, 0)]), (1, 0, [])]
theorem len_V6_oz_R2cls : (V6).length = 10 := by decide +kernel
theorem oz_R2cls_50 : vsub V6 V24 [] = true := by decide +kernel
def oz_R2clsl_8 : List (Nat × Nat) := []
theorem oz_R2cls_51 : (oz_R2clsl_8).all (fun p => !tbz 0 (Nat.add (Nat.mul 32 p.1) p.2)) = true := by decide +kernel
/-- PackHouse.size: this, this.rows, this.rows.0, this.rows.0.bytes, this.rows.1, this.rows.1.bytes, this.rows.2, this.rows.2.bytes, this.rows.3, this.rows.3.bytes -/
theorem C6 {σE : rS} {D N : Nat → Nat} {F : hF} {A : hA} {d c s : Nat} {Q : wQ} (H : HW V6 σE D N F A) {a1 : Int} (pf1 : HID (F 0 0 = (D 1 : Int))) (pf2 : HID (A 1 0 = (D 2 : Int))) (pf3 : HID (F 2 0 = (D 3 : Int))) (pf4 : HID (A 1 1 = (D 4 : Int))) (pf5 : HID (F 4 0 = (D 5 : Int))) (pf6 : HID (A 1 2 = (D 6 : Int))) (pf7 : HID (F 6 0 = (D 7 : Int))) (pf8 : HID (A 1 3 = (D 8 : Int))) (pf9 : HID (F 8 0 = (D 9 : Int))) (n1 : Int) (en1 : HID ((N 1 : Int) = n1)) (n3 : Int) (en3 : HID ((N 3 : Int) = n3)) (n5 : Int) (en5 : HID ((N 5 : Int) = n5)) (n7 : Int) (en7 : HID ((N 7 : Int) = n7)) (n9 : Int) (en9 : HID ((N 9 : Int) = n9)) (u2_1 : Int) (eu2_1 : HID (F 2 1 = u2_1)) (u4_1 : Int) (eu4_1 : HID (F 4 1 = u4_1)) (u6_1 : Int) (eu6_1 : HID (F 6 1 = u6_1)) (u8_1 : Int) (eu8_1 : HID (F 8 1 = u8_1)) (h0 : inr (a1)) (h1 : (n1) = 4) (h2 : 0 ≤ (u2_1) ∧ (u2_1) ≤ (n3) ∧ (n3) ≤ 65536) (h3 : 0 ≤ (u4_1) ∧ (u4_1) ≤ (n5) ∧ (n5) ≤ 65536) (h4 : 0 ≤ (u6_1) ∧ (u6_1) ≤ (n7) ∧ (n7) ≤ 65536) (h5 : 0 ≤ (u8_1) ∧ (u8_1) ≤ (n9) ∧ (n9) ≤ 65536) (k : ∀ (z : Int) (σ : rS) (Fₚ : hF) (Aₚ : hA), HW V6 σ D N Fₚ Aₚ → OUT (V6).length D N σE c s D N σ c s → SF [] F Fₚ → SA [] A Aₚ → (inr (z)) → Q (some (I z)) σ c s) : Ew 6 (d + 1) 0 (rargs 0 [.ref (D 0), I a1]) [] σE c s Q := by
  have O := OUT_refl (n := (V6).length) (D := D) (N := N) (σ := σE) (c := c) (s := s)
  have HE := H
  have r5 : HID ((0 : Int) ≤ n1 ∧ n1 ≤ 1000000) := nrng (H.nle 1 (ltn len_V6_oz_R2cls rfl)) (show (N 1 : Int) = n1 from en1)
  refine Ew_of (pcₚ := 1) (fun _ => x_iload_n rfl rfl) ?_
  refine w_stat24 rfl rfl (by rfl) (C24 (D := puc 0 D) (N := puc 0 N) (HW_subc H oz_R2cls_50 oz_R2cls_16) (show inr (a1) from h0) (fun z10 σ10 F10ₚ A10ₚ Hₚ Oₚ hS10 hA10 pz10_0 pz10_1 => ⟨rretB rfl pz10_0, ?_⟩))
  refine v_backc (c := c) (s := s) H oz_R2cls_50 oz_R2cls_16 Hₚ Oₚ (fun F10 A10 H Oₚ eF10 eA10 => ?_)
  have O := OUT_trans O Oₚ
  -- PackHouse.isRow
  have cF10 : SF oz_R2clsl_8 F F10 := SF_trans (SF_refl) (SF_gluc (ι := oz_R2clsl_2) oz_R2cls_16 hS10 eF10 (by decide +kernel)) (any_sub (lₚ := []) (by decide +kernel))
  have mF10 := SFm_of cF10 oz_R2cls_51
  have cA10 : SA oz_R2clsl_2 A A10 := SA_trans (SA_refl) (SA_gluc (ι := oz_R2clsl_2) oz_R2cls_16 hA10 eA10 (by decide +kernel)) (any_subA (lₚ := []) (by decide +kernel))
  have mA10 := SAm_of cA10 oz_R2cls_48
  refine w_ifeq (t := 19) rfl rfl (show inr (z10) from q_15 pz10_0) (fun b11 => ?_) (fun b11 => ?_)
  · refine Ew_of (pcₚ := 20) (fun _ => x_iconst rfl) ?_
    exact w_ireturn rfl (k ((-1)) _ _ _ H O (cF10) (cA10) (show inr ((-1)) from q_16))
  · refine Ew_of (pcₚ := 8) (fun _ => x_aload_n rfl rfl) ?_
    refine v_g H (o := 0) (v := .ref (D 1)) rfl rfl rfl rfl rfl (vrf ((mF10 0 0 rfl).trans (pf1))) ?_
    refine Ew_of (pcₚ := 12) (fun _ => x_iload_n rfl rfl) ?_
    rcases (show a1 = 0 ∨ a1 = 1 ∨ a1 = 2 ∨ a1 = 3 by omega) with b12 | b12 | b12 | b12
    · refine v_lR H (o := 1) rfl rfl rfl rfl rfl (n := n1) (en1) (show 0 ≤ a1 ∧ a1 < n1 from q_4225 (HIDe r5) b12 h1) (z := ((D 2 : Nat) : Int)) (v := .ref (D 2)) ((congrArg (A10 1) b12).trans ((mA10 1 rfl 0).trans (pf2))) (vrf rfl) ?_
      refine v_g H (o := 2) (v := I (u2_1)) rfl rfl rfl rfl rfl (congrArg (fun z : Int => I z) (((mF10 2 1 rfl).trans (eu2_1)) : F10 2 1 = u2_1)) ?_
      refine Ew_of (pcₚ := 20) (fun _ => x_goto rfl rfl) ?_
      exact w_ireturn rfl (k (u2_1) _ _ _ H O (cF10) (cA10) (show inr (u2_1) from q_884 h2))
    · refine v_lR H (o := 1) rfl rfl rfl rfl rfl (n := n1) (en1) (show 0 ≤ a1 ∧ a1 < n1 from q_4226 (HIDe r5) b12 h1) (z := ((D 4 : Nat) : Int)) (v := .ref (D 4)) ((congrArg (A10 1) b12).trans ((mA10 1 rfl 1).trans (pf4))) (vrf rfl) ?_
      refine v_g H (o := 4) (v := I (u4_1)) rfl rfl rfl rfl rfl (congrArg (fun z : Int => I z) (((mF10 4 1 rfl).trans (eu4_1)) : F10 4 1 = u4_1)) ?_
      refine Ew_of (pcₚ := 20) (fun _ => x_goto rfl rfl) ?_
      exact w_ireturn rfl (k (u4_1) _ _ _ H O (cF10) (cA10) (show inr (u4_1) from q_884 h3))
    · refine v_lR H (o := 1) rfl rfl rfl rfl rfl (n := n1) (en1) (show 0 ≤ a1 ∧ a1 < n1 from q_4227 (HIDe r5) b12 h1) (z := ((D 6 : Nat) : Int)) (v := .ref (D 6)) ((congrArg (A10 1) b12).trans ((mA10 1 rfl 2).trans (pf6))) (vrf rfl) ?_
      refine v_g H (o := 6) (v := I (u6_1)) rfl rfl rfl rfl rfl (congrArg (fun z : Int => I z) (((mF10 6 1 rfl).trans (eu6_1)) : F10 6 1 = u6_1)) ?_
      refine Ew_of (pcₚ := 20) (fun _ => x_goto rfl rfl) ?_
      exact w_ireturn rfl (k (u6_1) _ _ _ H O (cF10) (cA10) (show inr (u6_1) from q_884 h4))
    · refine v_lR H (o := 1) rfl rfl rfl rfl rfl (n := n1) (en1) (show 0 ≤ a1 ∧ a1 < n1 from q_4228 b12 h1) (z := ((D 8 : Nat) : Int)) (v := .ref (D 8)) ((congrArg (A10 1) b12).trans ((mA10 1 rfl 3).trans (pf8))) (vrf rfl) ?_
      refine v_g H (o := 8) (v := I (u8_1)) rfl rfl rfl rfl rfl (congrArg (fun z : Int => I z) (((mF10 8 1 rfl).trans (eu8_1)) : F10 8 1 = u8_1)) ?_
      refine Ew_of (pcₚ := 20) (fun _ => x_goto rfl rfl) ?_
      exact w_ireturn rfl (k (u8_1) _ _ _ H O (cF10) (cA10) (show inr (u8_1) from q_884 h5))
abbrev V7 : vV := [(0, 0, [(4, 0), (4, 0), (4, 0), (4, 0), (4, 0), (4, 0), (4, 0), (4, 0), (4, 0), (4, 0), (4, 0), (4, 0), (4, 0), (4, 0), (4, 0), (4, 0), (4, 0), (0, 0), (0, 0)]), (1, 4, []), (0, 7, [(4, 0), (0, 0), (1, 0), (0, 0), (0, 0)]), (1, 0, []), (0, 7, [(4, 0), (0, 0), (1, 0), (0, 0), (0, 0)]), (1, 0, []), (0, 7, [(4, 0), (0, 0), (1, 0), (0, 0), (0, 0)]), (1, 0, []), (0, 7, [(4, 0), (0, 0), (1, 0), (0, 0), (0, 0)]), (1, 0, [])]
theorem len_V7_oz_R2cls : (V7).length = 10 := by decide +kernel
theorem oz_R2cls_53 : vsub V7 V24 [] = true := by decide +kernel
/-- PackHouse.byteAt: this, this.rows, this.rows.0, this.rows.0.bytes, this.rows.1, this.rows.1.bytes, this.rows.2, this.rows.2.bytes, this.rows.3, this.rows.3.bytes -/
theorem C7 {σE : rS} {D N : Nat → Nat} {F : hF} {A : hA} {d c s : Nat} {Q : wQ} (H : HW V7 σE D N F A) {a1 a2 : Int} (pf1 : HID (F 0 0 = (D 1 : Int))) (pf2 : HID (A 1 0 = (D 2 : Int))) (pf3 : HID (F 2 0 = (D 3 : Int))) (pf4 : HID (A 1 1 = (D 4 : Int))) (pf5 : HID (F 4 0 = (D 5 : Int))) (pf6 : HID (A 1 2 = (D 6 : Int))) (pf7 : HID (F 6 0 = (D 7 : Int))) (pf8 : HID (A 1 3 = (D 8 : Int))) (pf9 : HID (F 8 0 = (D 9 : Int))) (n1 : Int) (en1 : HID ((N 1 : Int) = n1)) (n3 : Int) (en3 : HID ((N 3 : Int) = n3)) (n5 : Int) (en5 : HID ((N 5 : Int) = n5)) (n7 : Int) (en7 : HID ((N 7 : Int) = n7)) (n9 : Int) (en9 : HID ((N 9 : Int) = n9)) (u2_1 : Int) (eu2_1 : HID (F 2 1 = u2_1)) (u4_1 : Int) (eu4_1 : HID (F 4 1 = u4_1)) (u6_1 : Int) (eu6_1 : HID (F 6 1 = u6_1)) (u8_1 : Int) (eu8_1 : HID (F 8 1 = u8_1)) (h0 : inr (a1)) (h1 : inr (a2)) (h2 : (n1) = 4) (h3 : 0 ≤ (u2_1) ∧ (u2_1) ≤ (n3) ∧ (n3) ≤ 65536) (h4 : 0 ≤ (u4_1) ∧ (u4_1) ≤ (n5) ∧ (n5) ≤ 65536) (h5 : 0 ≤ (u6_1) ∧ (u6_1) ≤ (n7) ∧ (n7) ≤ 65536) (h6 : 0 ≤ (u8_1) ∧ (u8_1) ≤ (n9) ∧ (n9) ≤ 65536) (k : ∀ (z : Int) (σ : rS) (Fₚ : hF) (Aₚ : hA), HW V7 σ D N Fₚ Aₚ → OUT (V7).length D N σE c s D N σ c s → SF [] F Fₚ → SA [] A Aₚ → (inr (z)) → Q (some (I z)) σ c s) : Ew 7 (d + 1) 0 (rargs 0 [.ref (D 0), I a1, I a2]) [] σE c s Q := by
  have O := OUT_refl (n := (V7).length) (D := D) (N := N) (σ := σE) (c := c) (s := s)
  have HE := H
  have r5 : HID ((0 : Int) ≤ n1 ∧ n1 ≤ 1000000) := nrng (H.nle 1 (ltn len_V7_oz_R2cls rfl)) (show (N 1 : Int) = n1 from en1)
  refine Ew_of (pcₚ := 1) (fun _ => x_iload_n rfl rfl) ?_
  refine w_stat24 rfl rfl (by rfl) (C24 (D := puc 0 D) (N := puc 0 N) (HW_subc H oz_R2cls_53 oz_R2cls_16) (show inr (a1) from h0) (fun z10 σ10 F10ₚ A10ₚ Hₚ Oₚ hS10 hA10 pz10_0 pz10_1 => ⟨rretB rfl pz10_0, ?_⟩))
  refine v_backc (c := c) (s := s) H oz_R2cls_53 oz_R2cls_16 Hₚ Oₚ (fun F10 A10 H Oₚ eF10 eA10 => ?_)
  have O := OUT_trans O Oₚ
  -- PackHouse.isRow
  have cF10 : SF oz_R2clsl_8 F F10 := SF_trans (SF_refl) (SF_gluc (ι := oz_R2clsl_2) oz_R2cls_16 hS10 eF10 (by decide +kernel)) (any_sub (lₚ := []) (by decide +kernel))
  have mF10 := SFm_of cF10 oz_R2cls_51
  have cA10 : SA oz_R2clsl_2 A A10 := SA_trans (SA_refl) (SA_gluc (ι := oz_R2clsl_2) oz_R2cls_16 hA10 eA10 (by decide +kernel)) (any_subA (lₚ := []) (by decide +kernel))
  have mA10 := SAm_of cA10 oz_R2cls_48
  refine w_ifeq (t := 42) rfl rfl (show inr (z10) from q_15 pz10_0) (fun b11 => ?_) (fun b11 => ?_)
  · refine Ew_of (pcₚ := 43) (fun _ => x_iconst rfl) ?_
    exact w_ireturn rfl (k ((-1)) _ _ _ H O (cF10) (cA10) (show inr ((-1)) from q_16))
  · refine Ew_of (pcₚ := 8) (fun _ => x_iload_n rfl rfl) ?_
    refine w_iflt (t := 42) rfl rfl (show inr (a2) from h1) (fun b12 => ?_) (fun b12 => ?_)
    · refine Ew_of (pcₚ := 43) (fun _ => x_iconst rfl) ?_
      exact w_ireturn rfl (k ((-1)) _ _ _ H O (cF10) (cA10) (show inr ((-1)) from q_16))
    · refine Ew_of (pcₚ := 12) (fun _ => x_iload_n rfl rfl) ?_
      refine Ew_of (pcₚ := 13) (fun _ => x_aload_n rfl rfl) ?_
      refine v_g H (o := 0) (v := .ref (D 1)) rfl rfl rfl rfl rfl (vrf ((mF10 0 0 rfl).trans (pf1))) ?_
      refine Ew_of (pcₚ := 17) (fun _ => x_iload_n rfl rfl) ?_
      rcases (show a1 = 0 ∨ a1 = 1 ∨ a1 = 2 ∨ a1 = 3 by omega) with b13 | b13 | b13 | b13
      · refine v_lR H (o := 1) rfl rfl rfl rfl rfl (n := n1) (en1) (show 0 ≤ a1 ∧ a1 < n1 from q_4225 (HIDe r5) b13 h2) (z := ((D 2 : Nat) : Int)) (v := .ref (D 2)) ((congrArg (A10 1) b13).trans ((mA10 1 rfl 0).trans (pf2))) (vrf rfl) ?_
        refine v_g H (o := 2) (v := I (u2_1)) rfl rfl rfl rfl rfl (congrArg (fun z : Int => I z) (((mF10 2 1 rfl).trans (eu2_1)) : F10 2 1 = u2_1)) ?_
        refine w_icmpge (t := 42) rfl rfl (show inr (a2) from h1) (show inr (u2_1) from q_884 h3) (fun b14 => ?_) (fun b14 => ?_)
        · refine Ew_of (pcₚ := 43) (fun _ => x_iconst rfl) ?_
          exact w_ireturn rfl (k ((-1)) _ _ _ H O (cF10) (cA10) (show inr ((-1)) from q_16))
        · refine Ew_of (pcₚ := 25) (fun _ => x_aload_n rfl rfl) ?_
          refine v_g H (o := 0) (v := .ref (D 1)) rfl rfl rfl rfl rfl (vrf ((mF10 0 0 rfl).trans (pf1))) ?_
          refine Ew_of (pcₚ := 29) (fun _ => x_iload_n rfl rfl) ?_
          refine v_lR H (o := 1) rfl rfl rfl rfl rfl (n := n1) (en1) (show 0 ≤ a1 ∧ a1 < n1 from q_4225 (HIDe r5) b13 h2) (z := ((D 2 : Nat) : Int)) (v := .ref (D 2)) ((congrArg (A10 1) b13).trans ((mA10 1 rfl 0).trans (pf2))) (vrf rfl) ?_
          refine v_g H (o := 2) (v := .ref (D 3)) rfl rfl rfl rfl rfl (vrf ((mF10 2 0 rfl).trans (pf3))) ?_
          refine Ew_of (pcₚ := 34) (fun _ => x_iload_n rfl rfl) ?_
          refine v_lB H (o := 3) rfl rfl rfl rfl (n := n3) (en3) (show 0 ≤ a2 ∧ a2 < n3 from q_4232 b12 b14 h3) (fun v15 ev15 (qv15 : HID _) => ?_)
          have ev15 : (A 3) (a2) = v15 := (congrFun (funext (mA10 3 rfl)) (a2)).symm.trans ev15
          refine Ew_of (pcₚ := 38) (fun _ => x_sipush (z := 255) rfl (by decide)) ?_
          refine w_iand rfl (show inr (v15) from q_2536 (HIDe qv15)) (show inr (255) from q_36) (fun z16 gz16 gaz16 gbz16 => ?_)
          refine Ew_of (pcₚ := 43) (fun _ => x_goto rfl rfl) ?_
          exact w_ireturn rfl (k (z16) _ _ _ H O (cF10) (cA10) (show inr (z16) from gz16))
      · refine v_lR H (o := 1) rfl rfl rfl rfl rfl (n := n1) (en1) (show 0 ≤ a1 ∧ a1 < n1 from q_4226 (HIDe r5) b13 h2) (z := ((D 4 : Nat) : Int)) (v := .ref (D 4)) ((congrArg (A10 1) b13).trans ((mA10 1 rfl 1).trans (pf4))) (vrf rfl) ?_
        refine v_g H (o := 4) (v := I (u4_1)) rfl rfl rfl rfl rfl (congrArg (fun z : Int => I z) (((mF10 4 1 rfl).trans (eu4_1)) : F10 4 1 = u4_1)) ?_
        refine w_icmpge (t := 42) rfl rfl (show inr (a2) from h1) (show inr (u4_1) from q_884 h4) (fun b17 => ?_) (fun b17 => ?_)
        · refine Ew_of (pcₚ := 43) (fun _ => x_iconst rfl) ?_
          exact w_ireturn rfl (k ((-1)) _ _ _ H O (cF10) (cA10) (show inr ((-1)) from q_16))
        · refine Ew_of (pcₚ := 25) (fun _ => x_aload_n rfl rfl) ?_
          refine v_g H (o := 0) (v := .ref (D 1)) rfl rfl rfl rfl rfl (vrf ((mF10 0 0 rfl).trans (pf1))) ?_
          refine Ew_of (pcₚ := 29) (fun _ => x_iload_n rfl rfl) ?_
          refine v_lR H (o := 1) rfl rfl rfl rfl rfl (n := n1) (en1) (show 0 ≤ a1 ∧ a1 < n1 from q_4226 (HIDe r5) b13 h2) (z := ((D 4 : Nat) : Int)) (v := .ref (D 4)) ((congrArg (A10 1) b13).trans ((mA10 1 rfl 1).trans (pf4))) (vrf rfl) ?_
          refine v_g H (o := 4) (v := .ref (D 5)) rfl rfl rfl rfl rfl (vrf ((mF10 4 0 rfl).trans (pf5))) ?_
          refine Ew_of (pcₚ := 34) (fun _ => x_iload_n rfl rfl) ?_
          refine v_lB H (o := 5) rfl rfl rfl rfl (n := n5) (en5) (show 0 ≤ a2 ∧ a2 < n5 from q_4232 b12 b17 h4) (fun v18 ev18 (qv18 : HID _) => ?_)
          have ev18 : (A 5) (a2) = v18 := (congrFun (funext (mA10 5 rfl)) (a2)).symm.trans ev18
          refine Ew_of (pcₚ := 38) (fun _ => x_sipush (z := 255) rfl (by decide)) ?_
          refine w_iand rfl (show inr (v18) from q_2536 (HIDe qv18)) (show inr (255) from q_36) (fun z19 gz19 gaz19 gbz19 => ?_)
          refine Ew_of (pcₚ := 43) (fun _ => x_goto rfl rfl) ?_
          exact w_ireturn rfl (k (z19) _ _ _ H O (cF10) (cA10) (show inr (z19) from gz19))
      · refine v_lR H (o := 1) rfl rfl rfl rfl rfl (n := n1) (en1) (show 0 ≤ a1 ∧ a1 < n1 from q_4227 (HIDe r5) b13 h2) (z := ((D 6 : Nat) : Int)) (v := .ref (D 6)) ((congrArg (A10 1) b13).trans ((mA10 1 rfl 2).trans (pf6))) (vrf rfl) ?_
        refine v_g H (o := 6) (v := I (u6_1)) rfl rfl rfl rfl rfl (congrArg (fun z : Int => I z) (((mF10 6 1 rfl).trans (eu6_1)) : F10 6 1 = u6_1)) ?_
        refine w_icmpge (t := 42) rfl rfl (show inr (a2) from h1) (show inr (u6_1) from q_884 h5) (fun b20 => ?_) (fun b20 => ?_)
        · refine Ew_of (pcₚ := 43) (fun _ => x_iconst rfl) ?_
          exact w_ireturn rfl (k ((-1)) _ _ _ H O (cF10) (cA10) (show inr ((-1)) from q_16))
        · refine Ew_of (pcₚ := 25) (fun _ => x_aload_n rfl rfl) ?_
          refine v_g H (o := 0) (v := .ref (D 1)) rfl rfl rfl rfl rfl (vrf ((mF10 0 0 rfl).trans (pf1))) ?_
          refine Ew_of (pcₚ := 29) (fun _ => x_iload_n rfl rfl) ?_
          refine v_lR H (o := 1) rfl rfl rfl rfl rfl (n := n1) (en1) (show 0 ≤ a1 ∧ a1 < n1 from q_4227 (HIDe r5) b13 h2) (z := ((D 6 : Nat) : Int)) (v := .ref (D 6)) ((congrArg (A10 1) b13).trans ((mA10 1 rfl 2).trans (pf6))) (vrf rfl) ?_
          refine v_g H (o := 6) (v := .ref (D 7)) rfl rfl rfl rfl rfl (vrf ((mF10 6 0 rfl).trans (pf7))) ?_
          refine Ew_of (pcₚ := 34) (fun _ => x_iload_n rfl rfl) ?_
          refine v_lB H (o := 7) rfl rfl rfl rfl (n := n7) (en7) (show 0 ≤ a2 ∧ a2 < n7 from q_4232 b12 b20 h5) (fun v21 ev21 (qv21 : HID _) => ?_)
          have ev21 : (A 7) (a2) = v21 := (congrFun (funext (mA10 7 rfl)) (a2)).symm.trans ev21
          refine Ew_of (pcₚ := 38) (fun _ => x_sipush (z := 255) rfl (by decide)) ?_
          refine w_iand rfl (show inr (v21) from q_2536 (HIDe qv21)) (show inr (255) from q_36) (fun z22 gz22 gaz22 gbz22 => ?_)
          refine Ew_of (pcₚ := 43) (fun _ => x_goto rfl rfl) ?_
          exact w_ireturn rfl (k (z22) _ _ _ H O (cF10) (cA10) (show inr (z22) from gz22))
      · refine v_lR H (o := 1) rfl rfl rfl rfl rfl (n := n1) (en1) (show 0 ≤ a1 ∧ a1 < n1 from q_4228 b13 h2) (z := ((D 8 : Nat) : Int)) (v := .ref (D 8)) ((congrArg (A10 1) b13).trans ((mA10 1 rfl 3).trans (pf8))) (vrf rfl) ?_
        refine v_g H (o := 8) (v := I (u8_1)) rfl rfl rfl rfl rfl (congrArg (fun z : Int => I z) (((mF10 8 1 rfl).trans (eu8_1)) : F10 8 1 = u8_1)) ?_
        refine w_icmpge (t := 42) rfl rfl (show inr (a2) from h1) (show inr (u8_1) from q_884 h6) (fun b23 => ?_) (fun b23 => ?_)
        · refine Ew_of (pcₚ := 43) (fun _ => x_iconst rfl) ?_
          exact w_ireturn rfl (k ((-1)) _ _ _ H O (cF10) (cA10) (show inr ((-1)) from q_16))
        · refine Ew_of (pcₚ := 25) (fun _ => x_aload_n rfl rfl) ?_
          refine v_g H (o := 0) (v := .ref (D 1)) rfl rfl rfl rfl rfl (vrf ((mF10 0 0 rfl).trans (pf1))) ?_
          refine Ew_of (pcₚ := 29) (fun _ => x_iload_n rfl rfl) ?_
          refine v_lR H (o := 1) rfl rfl rfl rfl rfl (n := n1) (en1) (show 0 ≤ a1 ∧ a1 < n1 from q_4228 b13 h2) (z := ((D 8 : Nat) : Int)) (v := .ref (D 8)) ((congrArg (A10 1) b13).trans ((mA10 1 rfl 3).trans (pf8))) (vrf rfl) ?_
          refine v_g H (o := 8) (v := .ref (D 9)) rfl rfl rfl rfl rfl (vrf ((mF10 8 0 rfl).trans (pf9))) ?_
          refine Ew_of (pcₚ := 34) (fun _ => x_iload_n rfl rfl) ?_
          refine v_lB H (o := 9) rfl rfl rfl rfl (n := n9) (en9) (show 0 ≤ a2 ∧ a2 < n9 from q_4232 b12 b23 h6) (fun v24 ev24 (qv24 : HID _) => ?_)
          have ev24 : (A 9) (a2) = v24 := (congrFun (funext (mA10 9 rfl)) (a2)).symm.trans ev24
          refine Ew_of (pcₚ := 38) (fun _ => x_sipush (z := 255) rfl (by decide)) ?_
          refine w_iand rfl (show inr (v24) from q_2536 (HIDe qv24)) (show inr (255) from q_36) (fun z25 gz25 gaz25 gbz25 => ?_)
          refine Ew_of (pcₚ := 43) (fun _ => x_goto rfl rfl) ?_
          exact w_ireturn rfl (k (z25) _ _ _ H O (cF10) (cA10) (show inr (z25) from gz25))
abbrev V8 : vV := [(0, 0, [(4, 0), (4, 0), (4, 0), (4, 0), (4, 0), (4, 0), (4, 0), (4, 0), (4, 0), (4, 0), (4, 0), (4, 0), (4, 0), (4, 0), (4, 0), (4, 0), (4, 0), (0, 0), (0, 0)]), (1, 4, []), (0, 7, [(4, 0), (0, 0), (1, 0), (0, 0), (0, 0)]), (1, 0, []), (0, 7, [(4, 0), (0, 0), (1, 0), (0, 0), (0, 0)]), (1, 0, []), (0, 7, [(4, 0), (0, 0), (1, 0), (0, 0), (0, 0)]), (1, 0, []), (0, 7, [(4, 0), (0, 0), (1, 0), (0, 0), (0, 0)]), (1, 0, [])]
theorem len_V8_oz_R2cls : (V8).length = 10 := by decide +kernel
theorem oz_R2cls_55 : vsub V8 V24 [] = true := by decide +kernel
theorem oz_R2cls_56 : vsub V8 V29_Row_1a [2, 3] = true := by decide +kernel
theorem oz_R2cls_57 : vsub V8 V29_Row_Row [2, 4, 3, 5] = true := by decide +kernel
theorem oz_R2cls_58 : vsub V8 V29_Row_Row [2, 6, 3, 7] = true := by decide +kernel
theorem oz_R2cls_59 : vsub V8 V29_Row_Row [2, 8, 3, 9] = true := by decide +kernel
theorem oz_R2cls_60 : vsub V8 V29_Row_Row [4, 2, 5, 3] = true := by decide +kernel
theorem oz_R2cls_61 : vsub V8 V29_Row_1a [4, 5] = true := by decide +kernel
theorem oz_R2cls_62 : vsub V8 V29_Row_Row [4, 6, 5, 7] = true := by decide +kernel
theorem oz_R2cls_63 : vsub V8 V29_Row_Row [4, 8, 5, 9] = true := by decide +kernel
theorem oz_R2cls_64 : vsub V8 V29_Row_Row [6, 2, 7, 3] = true := by decide +kernel
theorem oz_R2cls_65 : vsub V8 V29_Row_Row [6, 4, 7, 5] = true := by decide +kernel
theorem oz_R2cls_66 : vsub V8 V29_Row_1a [6, 7] = true := by decide +kernel
theorem oz_R2cls_67 : vsub V8 V29_Row_Row [6, 8, 7, 9] = true := by decide +kernel
theorem oz_R2cls_68 : vsub V8 V29_Row_Row [8, 2, 9, 3] = true := by decide +kernel
theorem oz_R2cls_69 : vsub V8 V29_Row_Row [8, 4, 9, 5] = true := by decide +kernel
theorem oz_R2cls_70 : vsub V8 V29_Row_Row [8, 6, 9, 7] = true := by decide +kernel
theorem oz_R2cls_71 : vsub V8 V29_Row_1a [8, 9] = true := by decide +kernel
def oz_R2clsl_9 : List Nat := [2, 4, 3, 5]
theorem oz_R2cls_72 : okc oz_R2clsl_9 671877122 = true := by decide +kernel
def oz_R2clsl_10 : List Nat := [2, 6, 3, 7]
theorem oz_R2cls_73 : okc oz_R2clsl_10 940313602 = true := by decide +kernel
def oz_R2clsl_11 : List Nat := [2, 8, 3, 9]
theorem oz_R2cls_74 : okc oz_R2clsl_11 1208750082 = true := by decide +kernel
def oz_R2clsl_12 : List Nat := [4, 2, 5, 3]
theorem oz_R2cls_75 : okc oz_R2clsl_12 403964932 = true := by decide +kernel
def oz_R2clsl_13 : List Nat := [4, 6, 5, 7]
theorem oz_R2cls_76 : okc oz_R2clsl_13 940837892 = true := by decide +kernel
def oz_R2clsl_14 : List Nat := [4, 8, 5, 9]
theorem oz_R2cls_77 : okc oz_R2clsl_14 1209274372 = true := by decide +kernel
def oz_R2clsl_15 : List Nat := [6, 2, 7, 3]
theorem oz_R2cls_78 : okc oz_R2clsl_15 404489222 = true := by decide +kernel
def oz_R2clsl_16 : List Nat := [6, 4, 7, 5]
theorem oz_R2cls_79 : okc oz_R2clsl_16 672925702 = true := by decide +kernel
def oz_R2clsl_17 : List Nat := [6, 8, 7, 9]
theorem oz_R2cls_80 : okc oz_R2clsl_17 1209798662 = true := by decide +kernel
def oz_R2clsl_18 : List Nat := [8, 2, 9, 3]
theorem oz_R2cls_81 : okc oz_R2clsl_18 405013512 = true := by decide +kernel
def oz_R2clsl_19 : List Nat := [8, 4, 9, 5]
theorem oz_R2cls_82 : okc oz_R2clsl_19 673449992 = true := by decide +kernel
def oz_R2clsl_20 : List Nat := [8, 6, 9, 7]
theorem oz_R2cls_83 : okc oz_R2clsl_20 941886472 = true := by decide +kernel
/-- PackHouse.differ: this, this.rows, this.rows.0, this.rows.0.bytes, this.rows.1, this.rows.1.bytes, this.rows.2, this.rows.2.bytes, this.rows.3, this.rows.3.bytes -/
theorem C8 {σE : rS} {D N : Nat → Nat} {F : hF} {A : hA} {d c s : Nat} {Q : wQ} (H : HW V8 σE D N F A) {a1 a2 : Int} (pf1 : HID (F 0 0 = (D 1 : Int))) (pf2 : HID (A 1 0 = (D 2 : Int))) (pf3 : HID (F 2 0 = (D 3 : Int))) (pf4 : HID (A 1 1 = (D 4 : Int))) (pf5 : HID (F 4 0 = (D 5 : Int))) (pf6 : HID (A 1 2 = (D 6 : Int))) (pf7 : HID (F 6 0 = (D 7 : Int))) (pf8 : HID (A 1 3 = (D 8 : Int))) (pf9 : HID (F 8 0 = (D 9 : Int))) (n1 : Int) (en1 : HID ((N 1 : Int) = n1)) (n3 : Int) (en3 : HID ((N 3 : Int) = n3)) (n5 : Int) (en5 : HID ((N 5 : Int) = n5)) (n7 : Int) (en7 : HID ((N 7 : Int) = n7)) (n9 : Int) (en9 : HID ((N 9 : Int) = n9)) (u2_1 : Int) (eu2_1 : HID (F 2 1 = u2_1)) (u4_1 : Int) (eu4_1 : HID (F 4 1 = u4_1)) (u6_1 : Int) (eu6_1 : HID (F 6 1 = u6_1)) (u8_1 : Int) (eu8_1 : HID (F 8 1 = u8_1)) (h0 : inr (a1)) (h1 : inr (a2)) (h2 : (n1) = 4) (h3 : 0 ≤ (u2_1) ∧ (u2_1) ≤ (n3) ∧ (n3) ≤ 65536) (h4 : 0 ≤ (u4_1) ∧ (u4_1) ≤ (n5) ∧ (n5) ≤ 65536) (h5 : 0 ≤ (u6_1) ∧ (u6_1) ≤ (n7) ∧ (n7) ≤ 65536) (h6 : 0 ≤ (u8_1) ∧ (u8_1) ≤ (n9) ∧ (n9) ≤ 65536) (k : ∀ (z : Int) (σ : rS) (Fₚ : hF) (Aₚ : hA), HW V8 σ D N Fₚ Aₚ → OUT (V8).length D N σE c s D N σ c s → SF [] F Fₚ → SA [] A Aₚ → (inr (z)) → Q (some (I z)) σ c s) : Ew 8 (d + 1) 0 (rargs 0 [.ref (D 0), I a1, I a2]) [] σE c s Q := by
  have O := OUT_refl (n := (V8).length) (D := D) (N := N) (σ := σE) (c := c) (s := s)
  have HE := H
  have r5 : HID ((0 : Int) ≤ n1 ∧ n1 ≤ 1000000) := nrng (H.nle 1 (ltn len_V8_oz_R2cls rfl)) (show (N 1 : Int) = n1 from en1)
  refine Ew_of (pcₚ := 1) (fun _ => x_iload_n rfl rfl) ?_
  refine w_stat24 rfl rfl (by rfl) (C24 (D := puc 0 D) (N := puc 0 N) (HW_subc H oz_R2cls_55 oz_R2cls_16) (show inr (a1) from h0) (fun z10 σ10 F10ₚ A10ₚ Hₚ Oₚ hS10 hA10 pz10_0 pz10_1 => ⟨rretB rfl pz10_0, ?_⟩))
  refine v_backc (c := c) (s := s) H oz_R2cls_55 oz_R2cls_16 Hₚ Oₚ (fun F10 A10 H Oₚ eF10 eA10 => ?_)
  have O := OUT_trans O Oₚ
  -- PackHouse.isRow
  have cF10 : SF oz_R2clsl_8 F F10 := SF_trans (SF_refl) (SF_gluc (ι := oz_R2clsl_2) oz_R2cls_16 hS10 eF10 (by decide +kernel)) (any_sub (lₚ := []) (by decide +kernel))
  have mF10 := SFm_of cF10 oz_R2cls_51
  have cA10 : SA oz_R2clsl_2 A A10 := SA_trans (SA_refl) (SA_gluc (ι := oz_R2clsl_2) oz_R2cls_16 hA10 eA10 (by decide +kernel)) (any_subA (lₚ := []) (by decide +kernel))
  have mA10 := SAm_of cA10 oz_R2cls_48
  refine w_ifeq (t := 32) rfl rfl (show inr (z10) from q_15 pz10_0) (fun b11 => ?_) (fun b11 => ?_)
  · refine Ew_of (pcₚ := 34) (fun _ => x_bipush (z := -2) rfl (by decide)) ?_
    exact w_ireturn rfl (k ((-2)) _ _ _ H O (cF10) (cA10) (show inr ((-2)) from q_107))
  · refine Ew_of (pcₚ := 8) (fun _ => x_iload_n rfl rfl) ?_
    refine w_stat24 rfl rfl (by rfl) (C24 (D := puc 0 D) (N := puc 0 N) (HW_subc H oz_R2cls_55 oz_R2cls_16) (show inr (a2) from h1) (fun z12 σ12 F12ₚ A12ₚ Hₚ Oₚ hS12 hA12 pz12_0 pz12_1 => ⟨rretB rfl pz12_0, ?_⟩))
    refine v_backc (c := c) (s := s) H oz_R2cls_55 oz_R2cls_16 Hₚ Oₚ (fun F12 A12 H Oₚ eF12 eA12 => ?_)
    have O := OUT_trans O Oₚ
    -- PackHouse.isRow
    have cF12 : SF oz_R2clsl_8 F F12 := SF_trans (cF10) (SF_gluc (ι := oz_R2clsl_2) oz_R2cls_16 hS12 eF12 (by decide +kernel)) (any_sub (lₚ := []) (by decide +kernel))
    have mF12 := SFm_of cF12 oz_R2cls_51
    have cA12 : SA oz_R2clsl_2 A A12 := SA_trans (cA10) (SA_gluc (ι := oz_R2clsl_2) oz_R2cls_16 hA12 eA12 (by decide +kernel)) (any_subA (lₚ := []) (by decide +kernel))
    have mA12 := SAm_of cA12 oz_R2cls_48
    refine w_ifeq (t := 32) rfl rfl (show inr (z12) from q_15 pz12_0) (fun b13 => ?_) (fun b13 => ?_)
    · refine Ew_of (pcₚ := 34) (fun _ => x_bipush (z := -2) rfl (by decide)) ?_
      exact w_ireturn rfl (k ((-2)) _ _ _ H O (cF12) (cA12) (show inr ((-2)) from q_107))
    · refine Ew_of (pcₚ := 15) (fun _ => x_aload_n rfl rfl) ?_
      refine v_g H (o := 0) (v := .ref (D 1)) rfl rfl rfl rfl rfl (vrf ((mF12 0 0 rfl).trans (pf1))) ?_
      refine Ew_of (pcₚ := 19) (fun _ => x_iload_n rfl rfl) ?_
      rcases (show a1 = 0 ∨ a1 = 1 ∨ a1 = 2 ∨ a1 = 3 by omega) with b14 | b14 | b14 | b14
      · refine v_lR H (o := 1) rfl rfl rfl rfl rfl (n := n1) (en1) (show 0 ≤ a1 ∧ a1 < n1 from q_4225 (HIDe r5) b14 h2) (z := ((D 2 : Nat) : Int)) (v := .ref (D 2)) ((congrArg (A12 1) b14).trans ((mA12 1 rfl 0).trans (pf2))) (vrf rfl) ?_
        refine Ew_of (pcₚ := 21) (fun _ => x_aload_n rfl rfl) ?_
        refine v_g H (o := 0) (v := .ref (D 1)) rfl rfl rfl rfl rfl (vrf ((mF12 0 0 rfl).trans (pf1))) ?_
        refine Ew_of (pcₚ := 25) (fun _ => x_iload_n rfl rfl) ?_
        rcases (show a2 = 0 ∨ a2 = 1 ∨ a2 = 2 ∨ a2 = 3 by omega) with b15 | b15 | b15 | b15
        · refine v_lR H (o := 1) rfl rfl rfl rfl rfl (n := n1) (en1) (show 0 ≤ a2 ∧ a2 < n1 from q_4225 (HIDe r5) b15 h2) (z := ((D 2 : Nat) : Int)) (v := .ref (D 2)) ((congrArg (A12 1) b15).trans ((mA12 1 rfl 0).trans (pf2))) (vrf rfl) ?_
          refine w_stat24 rfl rfl (by rfl) (C29_Row_1a (D := puc 1538 D) (N := puc 1538 N) (HW_subc H oz_R2cls_56 oz_R2cls_17) ((mF12 2 0 rfl).trans (pf3)) (n3) (en3) (u2_1) (((mF12 2 1 rfl).trans (eu2_1))) (show 0 ≤ (u2_1) ∧ (u2_1) ≤ (n3) ∧ (n3) ≤ 65536 from h3) (show 0 ≤ (u2_1) ∧ (u2_1) ≤ (n3) ∧ (n3) ≤ 65536 from h3) (fun z16 σ16 F16ₚ A16ₚ Hₚ Oₚ hS16 hA16 pz16_0 => ⟨rfl, ?_⟩))
          refine v_backc (c := c) (s := s) H oz_R2cls_56 oz_R2cls_17 Hₚ Oₚ (fun F16 A16 H Oₚ eF16 eA16 => ?_)
          have O := OUT_trans O Oₚ
          -- PackHouse.firstUnlike
          have cF16 : SF oz_R2clsl_8 F F16 := SF_trans (cF12) (SF_gluc (ι := oz_R2clsl_3) oz_R2cls_17 hS16 eF16 (by decide +kernel)) (any_sub (lₚ := []) (by decide +kernel))
          have mF16 := SFm_of cF16 oz_R2cls_51
          have cA16 : SA oz_R2clsl_2 A A16 := SA_trans (cA12) (SA_gluc (ι := oz_R2clsl_3) oz_R2cls_17 hA16 eA16 (by decide +kernel)) (any_subA (lₚ := []) (by decide +kernel))
          have mA16 := SAm_of cA16 oz_R2cls_48
          refine Ew_of (pcₚ := 34) (fun _ => x_goto rfl rfl) ?_
          exact w_ireturn rfl (k (z16) _ _ _ H O (cF16) (cA16) (show inr (z16) from pz16_0))
        · refine v_lR H (o := 1) rfl rfl rfl rfl rfl (n := n1) (en1) (show 0 ≤ a2 ∧ a2 < n1 from q_4226 (HIDe r5) b15 h2) (z := ((D 4 : Nat) : Int)) (v := .ref (D 4)) ((congrArg (A12 1) b15).trans ((mA12 1 rfl 1).trans (pf4))) (vrf rfl) ?_
          refine w_stat24 rfl rfl (by rfl) (C29_Row_Row (D := puc 671877122 D) (N := puc 671877122 N) (HW_subc H oz_R2cls_57 oz_R2cls_72) ((mF12 2 0 rfl).trans (pf3)) ((mF12 4 0 rfl).trans (pf5)) (n3) (en3) (n5) (en5) (u2_1) (((mF12 2 1 rfl).trans (eu2_1))) (u4_1) (((mF12 4 1 rfl).trans (eu4_1))) (show 0 ≤ (u2_1) ∧ (u2_1) ≤ (n3) ∧ (n3) ≤ 65536 from h3) (show 0 ≤ (u4_1) ∧ (u4_1) ≤ (n5) ∧ (n5) ≤ 65536 from h4) (fun z17 σ17 F17ₚ A17ₚ Hₚ Oₚ hS17 hA17 pz17_0 => ⟨rfl, ?_⟩))
          refine v_backc (c := c) (s := s) H oz_R2cls_57 oz_R2cls_72 Hₚ Oₚ (fun F17 A17 H Oₚ eF17 eA17 => ?_)
          have O := OUT_trans O Oₚ
          -- PackHouse.firstUnlike
          have cF17 : SF oz_R2clsl_8 F F17 := SF_trans (cF12) (SF_gluc (ι := oz_R2clsl_9) oz_R2cls_72 hS17 eF17 (by decide +kernel)) (any_sub (lₚ := []) (by decide +kernel))
          have mF17 := SFm_of cF17 oz_R2cls_51
          have cA17 : SA oz_R2clsl_2 A A17 := SA_trans (cA12) (SA_gluc (ι := oz_R2clsl_9) oz_R2cls_72 hA17 eA17 (by decide +kernel)) (any_subA (lₚ := []) (by decide +kernel))
          have mA17 := SAm_of cA17 oz_R2cls_48
          refine Ew_of (pcₚ := 34) (fun _ => x_goto rfl rfl) ?_
          exact w_ireturn rfl (k (z17) _ _ _ H O (cF17) (cA17) (show inr (z17) from pz17_0))
        · refine v_lR H (o := 1) rfl rfl rfl rfl rfl (n := n1) (en1) (show 0 ≤ a2 ∧ a2 < n1 from q_4227 (HIDe r5) b15 h2) (z := ((D 6 : Nat) : Int)) (v := .ref (D 6)) ((congrArg (A12 1) b15).trans ((mA12 1 rfl 2).trans (pf6))) (vrf rfl) ?_
          refine w_stat24 rfl rfl (by rfl) (C29_Row_Row (D := puc 940313602 D) (N := puc 940313602 N) (HW_subc H oz_R2cls_58 oz_R2cls_73) ((mF12 2 0 rfl).trans (pf3)) ((mF12 6 0 rfl).trans (pf7)) (n3) (en3) (n7) (en7) (u2_1) (((mF12 2 1 rfl).trans (eu2_1))) (u6_1) (((mF12 6 1 rfl).trans (eu6_1))) (show 0 ≤ (u2_1) ∧ (u2_1) ≤ (n3) ∧ (n3) ≤ 65536 from h3) (show 0 ≤ (u6_1) ∧ (u6_1) ≤ (n7) ∧ (n7) ≤ 65536 from h5) (fun z18 σ18 F18ₚ A18ₚ Hₚ Oₚ hS18 hA18 pz18_0 => ⟨rfl, ?_⟩))
          refine v_backc (c := c) (s := s) H oz_R2cls_58 oz_R2cls_73 Hₚ Oₚ (fun F18 A18 H Oₚ eF18 eA18 => ?_)
          have O := OUT_trans O Oₚ
          -- PackHouse.firstUnlike
          have cF18 : SF oz_R2clsl_8 F F18 := SF_trans (cF12) (SF_gluc (ι := oz_R2clsl_10) oz_R2cls_73 hS18 eF18 (by decide +kernel)) (any_sub (lₚ := []) (by decide +kernel))
          have mF18 := SFm_of cF18 oz_R2cls_51
          have cA18 : SA oz_R2clsl_2 A A18 := SA_trans (cA12) (SA_gluc (ι := oz_R2clsl_10) oz_R2cls_73 hA18 eA18 (by decide +kernel)) (any_subA (lₚ := []) (by decide +kernel))
          have mA18 := SAm_of cA18 oz_R2cls_48
          refine Ew_of (pcₚ := 34) (fun _ => x_goto rfl rfl) ?_
          exact w_ireturn rfl (k (z18) _ _ _ H O (cF18) (cA18) (show inr (z18) from pz18_0))
        · refine v_lR H (o := 1) rfl rfl rfl rfl rfl (n := n1) (en1) (show 0 ≤ a2 ∧ a2 < n1 from q_4228 b15 h2) (z := ((D 8 : Nat) : Int)) (v := .ref (D 8)) ((congrArg (A12 1) b15).trans ((mA12 1 rfl 3).trans (pf8))) (vrf rfl) ?_
          refine w_stat24 rfl rfl (by rfl) (C29_Row_Row (D := puc 1208750082 D) (N := puc 1208750082 N) (HW_subc H oz_R2cls_59 oz_R2cls_74) ((mF12 2 0 rfl).trans (pf3)) ((mF12 8 0 rfl).trans (pf9)) (n3) (en3) (n9) (en9) (u2_1) (((mF12 2 1 rfl).trans (eu2_1))) (u8_1) (((mF12 8 1 rfl).trans (eu8_1))) (show 0 ≤ (u2_1) ∧ (u2_1) ≤ (n3) ∧ (n3) ≤ 65536 from h3) (show 0 ≤ (u8_1) ∧ (u8_1) ≤ (n9) ∧ (n9) ≤ 65536 from h6) (fun z19 σ19 F19ₚ A19ₚ Hₚ Oₚ hS19 hA19 pz19_0 => ⟨rfl, ?_⟩))
          refine v_backc (c := c) (s := s) H oz_R2cls_59 oz_R2cls_74 Hₚ Oₚ (fun F19 A19 H Oₚ eF19 eA19 => ?_)
          have O := OUT_trans O Oₚ
          -- PackHouse.firstUnlike
          have cF19 : SF oz_R2clsl_8 F F19 := SF_trans (cF12) (SF_gluc (ι := oz_R2clsl_11) oz_R2cls_74 hS19 eF19 (by decide +kernel)) (any_sub (lₚ := []) (by decide +kernel))
          have mF19 := SFm_of cF19 oz_R2cls_51
          have cA19 : SA oz_R2clsl_2 A A19 := SA_trans (cA12) (SA_gluc (ι := oz_R2clsl_11) oz_R2cls_74 hA19 eA19 (by decide +kernel)) (any_subA (lₚ := []) (by decide +kernel))
          have mA19 := SAm_of cA19 oz_R2cls_48
          refine Ew_of (pcₚ := 34) (fun _ => x_goto rfl rfl) ?_
          exact w_ireturn rfl (k (z19) _ _ _ H O (cF19) (cA19) (show inr (z19) from pz19_0))
      · refine v_lR H (o := 1) rfl rfl rfl rfl rfl (n := n1) (en1) (show 0 ≤ a1 ∧ a1 < n1 from q_4226 (HIDe r5) b14 h2) (z := ((D 4 : Nat) : Int)) (v := .ref (D 4)) ((congrArg (A12 1) b14).trans ((mA12 1 rfl 1).trans (pf4))) (vrf rfl) ?_
        refine Ew_of (pcₚ := 21) (fun _ => x_aload_n rfl rfl) ?_
        refine v_g H (o := 0) (v := .ref (D 1)) rfl rfl rfl rfl rfl (vrf ((mF12 0 0 rfl).trans (pf1))) ?_
        refine Ew_of (pcₚ := 25) (fun _ => x_iload_n rfl rfl) ?_
        rcases (show a2 = 0 ∨ a2 = 1 ∨ a2 = 2 ∨ a2 = 3 by omega) with b20 | b20 | b20 | b20
        · refine v_lR H (o := 1) rfl rfl rfl rfl rfl (n := n1) (en1) (show 0 ≤ a2 ∧ a2 < n1 from q_4225 (HIDe r5) b20 h2) (z := ((D 2 : Nat) : Int)) (v := .ref (D 2)) ((congrArg (A12 1) b20).trans ((mA12 1 rfl 0).trans (pf2))) (vrf rfl) ?_
          refine w_stat24 rfl rfl (by rfl) (C29_Row_Row (D := puc 403964932 D) (N := puc 403964932 N) (HW_subc H oz_R2cls_60 oz_R2cls_75) ((mF12 4 0 rfl).trans (pf5)) ((mF12 2 0 rfl).trans (pf3)) (n5) (en5) (n3) (en3) (u4_1) (((mF12 4 1 rfl).trans (eu4_1))) (u2_1) (((mF12 2 1 rfl).trans (eu2_1))) (show 0 ≤ (u4_1) ∧ (u4_1) ≤ (n5) ∧ (n5) ≤ 65536 from h4) (show 0 ≤ (u2_1) ∧ (u2_1) ≤ (n3) ∧ (n3) ≤ 65536 from h3) (fun z21 σ21 F21ₚ A21ₚ Hₚ Oₚ hS21 hA21 pz21_0 => ⟨rfl, ?_⟩))
          refine v_backc (c := c) (s := s) H oz_R2cls_60 oz_R2cls_75 Hₚ Oₚ (fun F21 A21 H Oₚ eF21 eA21 => ?_)
          have O := OUT_trans O Oₚ
          -- PackHouse.firstUnlike
          have cF21 : SF oz_R2clsl_8 F F21 := SF_trans (cF12) (SF_gluc (ι := oz_R2clsl_12) oz_R2cls_75 hS21 eF21 (by decide +kernel)) (any_sub (lₚ := []) (by decide +kernel))
          have mF21 := SFm_of cF21 oz_R2cls_51
          have cA21 : SA oz_R2clsl_2 A A21 := SA_trans (cA12) (SA_gluc (ι := oz_R2clsl_12) oz_R2cls_75 hA21 eA21 (by decide +kernel)) (any_subA (lₚ := []) (by decide +kernel))
          have mA21 := SAm_of cA21 oz_R2cls_48
          refine Ew_of (pcₚ := 34) (fun _ => x_goto rfl rfl) ?_
          exact w_ireturn rfl (k (z21) _ _ _ H O (cF21) (cA21) (show inr (z21) from pz21_0))
        · refine v_lR H (o := 1) rfl rfl rfl rfl rfl (n := n1) (en1) (show 0 ≤ a2 ∧ a2 < n1 from q_4226 (HIDe r5) b20 h2) (z := ((D 4 : Nat) : Int)) (v := .ref (D 4)) ((congrArg (A12 1) b20).trans ((mA12 1 rfl 1).trans (pf4))) (vrf rfl) ?_
          refine w_stat24 rfl rfl (by rfl) (C29_Row_1a (D := puc 2564 D) (N := puc 2564 N) (HW_subc H oz_R2cls_61 oz_R2cls_18) ((mF12 4 0 rfl).trans (pf5)) (n5) (en5) (u4_1) (((mF12 4 1 rfl).trans (eu4_1))) (show 0 ≤ (u4_1) ∧ (u4_1) ≤ (n5) ∧ (n5) ≤ 65536 from h4) (show 0 ≤ (u4_1) ∧ (u4_1) ≤ (n5) ∧ (n5) ≤ 65536 from h4) (fun z22 σ22 F22ₚ A22ₚ Hₚ Oₚ hS22 hA22 pz22_0 => ⟨rfl, ?_⟩))
          refine v_backc (c := c) (s := s) H oz_R2cls_61 oz_R2cls_18 Hₚ Oₚ (fun F22 A22 H Oₚ eF22 eA22 => ?_)
          have O := OUT_trans O Oₚ
          -- PackHouse.firstUnlike
          have cF22 : SF oz_R2clsl_8 F F22 := SF_trans (cF12) (SF_gluc (ι := oz_R2clsl_4) oz_R2cls_18 hS22 eF22 (by decide +kernel)) (any_sub (lₚ := []) (by decide +kernel))
          have mF22 := SFm_of cF22 oz_R2cls_51
          have cA22 : SA oz_R2clsl_2 A A22 := SA_trans (cA12) (SA_gluc (ι := oz_R2clsl_4) oz_R2cls_18 hA22 eA22 (by decide +kernel)) (any_subA (lₚ := []) (by decide +kernel))
          have mA22 := SAm_of cA22 oz_R2cls_48
          refine Ew_of (pcₚ := 34) (fun _ => x_goto rfl rfl) ?_
          exact w_ireturn rfl (k (z22) _ _ _ H O (cF22) (cA22) (show inr (z22) from pz22_0))
        · refine v_lR H (o := 1) rfl rfl rfl rfl rfl (n := n1) (en1) (show 0 ≤ a2 ∧ a2 < n1 from q_4227 (HIDe r5) b20 h2) (z := ((D 6 : Nat) : Int)) (v := .ref (D 6)) ((congrArg (A12 1) b20).trans ((mA12 1 rfl 2).trans (pf6))) (vrf rfl) ?_
          refine w_stat24 rfl rfl (by rfl) (C29_Row_Row (D := puc 940837892 D) (N := puc 940837892 N) (HW_subc H oz_R2cls_62 oz_R2cls_76) ((mF12 4 0 rfl).trans (pf5)) ((mF12 6 0 rfl).trans (pf7)) (n5) (en5) (n7) (en7) (u4_1) (((mF12 4 1 rfl).trans (eu4_1))) (u6_1) (((mF12 6 1 rfl).trans (eu6_1))) (show 0 ≤ (u4_1) ∧ (u4_1) ≤ (n5) ∧ (n5) ≤ 65536 from h4) (show 0 ≤ (u6_1) ∧ (u6_1) ≤ (n7) ∧ (n7) ≤ 65536 from h5) (fun z23 σ23 F23ₚ A23ₚ Hₚ Oₚ hS23 hA23 pz23_0 => ⟨rfl, ?_⟩))
          refine v_backc (c := c) (s := s) H oz_R2cls_62 oz_R2cls_76 Hₚ Oₚ (fun F23 A23 H Oₚ eF23 eA23 => ?_)
          have O := OUT_trans O Oₚ
          -- PackHouse.firstUnlike
          have cF23 : SF oz_R2clsl_8 F F23 := SF_trans (cF12) (SF_gluc (ι := oz_R2clsl_13) oz_R2cls_76 hS23 eF23 (by decide +kernel)) (any_sub (lₚ := []) (by decide +kernel))
          have mF23 := SFm_of cF23 oz_R2cls_51
          have cA23 : SA oz_R2clsl_2 A A23 := SA_trans (cA12) (SA_gluc (ι := oz_R2clsl_13) oz_R2cls_76 hA23 eA23 (by decide +kernel)) (any_subA (lₚ := []) (by decide +kernel))
          have mA23 := SAm_of cA23 oz_R2cls_48
          refine Ew_of (pcₚ := 34) (fun _ => x_goto rfl rfl) ?_
          exact w_ireturn rfl (k (z23) _ _ _ H O (cF23) (cA23) (show inr (z23) from pz23_0))
        · refine v_lR H (o := 1) rfl rfl rfl rfl rfl (n := n1) (en1) (show 0 ≤ a2 ∧ a2 < n1 from q_4228 b20 h2) (z := ((D 8 : Nat) : Int)) (v := .ref (D 8)) ((congrArg (A12 1) b20).trans ((mA12 1 rfl 3).trans (pf8))) (vrf rfl) ?_
          refine w_stat24 rfl rfl (by rfl) (C29_Row_Row (D := puc 1209274372 D) (N := puc 1209274372 N) (HW_subc H oz_R2cls_63 oz_R2cls_77) ((mF12 4 0 rfl).trans (pf5)) ((mF12 8 0 rfl).trans (pf9)) (n5) (en5) (n9) (en9) (u4_1) (((mF12 4 1 rfl).trans (eu4_1))) (u8_1) (((mF12 8 1 rfl).trans (eu8_1))) (show 0 ≤ (u4_1) ∧ (u4_1) ≤ (n5) ∧ (n5) ≤ 65536 from h4) (show 0 ≤ (u8_1) ∧ (u8_1) ≤ (n9) ∧ (n9) ≤ 65536 from h6) (fun z24 σ24 F24ₚ A24ₚ Hₚ Oₚ hS24 hA24 pz24_0 => ⟨rfl, ?_⟩))
          refine v_backc (c := c) (s := s) H oz_R2cls_63 oz_R2cls_77 Hₚ Oₚ (fun F24 A24 H Oₚ eF24 eA24 => ?_)
          have O := OUT_trans O Oₚ
          -- PackHouse.firstUnlike
          have cF24 : SF oz_R2clsl_8 F F24 := SF_trans (cF12) (SF_gluc (ι := oz_R2clsl_14) oz_R2cls_77 hS24 eF24 (by decide +kernel)) (any_sub (lₚ := []) (by decide +kernel))
          have mF24 := SFm_of cF24 oz_R2cls_51
          have cA24 : SA oz_R2clsl_2 A A24 := SA_trans (cA12) (SA_gluc (ι := oz_R2clsl_14) oz_R2cls_77 hA24 eA24 (by decide +kernel)) (any_subA (lₚ := []) (by decide +kernel))
          have mA24 := SAm_of cA24 oz_R2cls_48
          refine Ew_of (pcₚ := 34) (fun _ => x_goto rfl rfl) ?_
          exact w_ireturn rfl (k (z24) _ _ _ H O (cF24) (cA24) (show inr (z24) from pz24_0))
      · refine v_lR H (o := 1) rfl rfl rfl rfl rfl (n := n1) (en1) (show 0 ≤ a1 ∧ a1 < n1 from q_4227 (HIDe r5) b14 h2) (z := ((D 6 : Nat) : Int)) (v := .ref (D 6)) ((congrArg (A12 1) b14).trans ((mA12 1 rfl 2).trans (pf6))) (vrf rfl) ?_
        refine Ew_of (pcₚ := 21) (fun _ => x_aload_n rfl rfl) ?_
        refine v_g H (o := 0) (v := .ref (D 1)) rfl rfl rfl rfl rfl (vrf ((mF12 0 0 rfl).trans (pf1))) ?_
        refine Ew_of (pcₚ := 25) (fun _ => x_iload_n rfl rfl) ?_
        rcases (show a2 = 0 ∨ a2 = 1 ∨ a2 = 2 ∨ a2 = 3 by omega) with b25 | b25 | b25 | b25
        · refine v_lR H (o := 1) rfl rfl rfl rfl rfl (n := n1) (en1) (show 0 ≤ a2 ∧ a2 < n1 from q_4225 (HIDe r5) b25 h2) (z := ((D 2 : Nat) : Int)) (v := .ref (D 2)) ((congrArg (A12 1) b25).trans ((mA12 1 rfl 0).trans (pf2))) (vrf rfl) ?_
          refine w_stat24 rfl rfl (by rfl) (C29_Row_Row (D := puc 404489222 D) (N := puc 404489222 N) (HW_subc H oz_R2cls_64 oz_R2cls_78) ((mF12 6 0 rfl).trans (pf7)) ((mF12 2 0 rfl).trans (pf3)) (n7) (en7) (n3) (en3) (u6_1) (((mF12 6 1 rfl).trans (eu6_1))) (u2_1) (((mF12 2 1 rfl).trans (eu2_1))) (show 0 ≤ (u6_1) ∧ (u6_1) ≤ (n7) ∧ (n7) ≤ 65536 from h5) (show 0 ≤ (u2_1) ∧ (u2_1) ≤ (n3) ∧ (n3) ≤ 65536 from h3) (fun z26 σ26 F26ₚ A26ₚ Hₚ Oₚ hS26 hA26 pz26_0 => ⟨rfl, ?_⟩))
          refine v_backc (c := c) (s := s) H oz_R2cls_64 oz_R2cls_78 Hₚ Oₚ (fun F26 A26 H Oₚ eF26 eA26 => ?_)
          have O := OUT_trans O Oₚ
          -- PackHouse.firstUnlike
          have cF26 : SF oz_R2clsl_8 F F26 := SF_trans (cF12) (SF_gluc (ι := oz_R2clsl_15) oz_R2cls_78 hS26 eF26 (by decide +kernel)) (any_sub (lₚ := []) (by decide +kernel))
          have mF26 := SFm_of cF26 oz_R2cls_51
          have cA26 : SA oz_R2clsl_2 A A26 := SA_trans (cA12) (SA_gluc (ι := oz_R2clsl_15) oz_R2cls_78 hA26 eA26 (by decide +kernel)) (any_subA (lₚ := []) (by decide +kernel))
          have mA26 := SAm_of cA26 oz_R2cls_48
          refine Ew_of (pcₚ := 34) (fun _ => x_goto rfl rfl) ?_
          exact w_ireturn rfl (k (z26) _ _ _ H O (cF26) (cA26) (show inr (z26) from pz26_0))
        · refine v_lR H (o := 1) rfl rfl rfl rfl rfl (n := n1) (en1) (show 0 ≤ a2 ∧ a2 < n1 from q_4226 (HIDe r5) b25 h2) (z := ((D 4 : Nat) : Int)) (v := .ref (D 4)) ((congrArg (A12 1) b25).trans ((mA12 1 rfl 1).trans (pf4))) (vrf rfl) ?_
          refine w_stat24 rfl rfl (by rfl) (C29_Row_Row (D := puc 672925702 D) (N := puc 672925702 N) (HW_subc H oz_R2cls_65 oz_R2cls_79) ((mF12 6 0 rfl).trans (pf7)) ((mF12 4 0 rfl).trans (pf5)) (n7) (en7) (n5) (en5) (u6_1) (((mF12 6 1 rfl).trans (eu6_1))) (u4_1) (((mF12 4 1 rfl).trans (eu4_1))) (show 0 ≤ (u6_1) ∧ (u6_1) ≤ (n7) ∧ (n7) ≤ 65536 from h5) (show 0 ≤ (u4_1) ∧ (u4_1) ≤ (n5) ∧ (n5) ≤ 65536 from h4) (fun z27 σ27 F27ₚ A27ₚ Hₚ Oₚ hS27 hA27 pz27_0 => ⟨rfl, ?_⟩))
          refine v_backc (c := c) (s := s) H oz_R2cls_65 oz_R2cls_79 Hₚ Oₚ (fun F27 A27 H Oₚ eF27 eA27 => ?_)
          have O := OUT_trans O Oₚ
          -- PackHouse.firstUnlike
          have cF27 : SF oz_R2clsl_8 F F27 := SF_trans (cF12) (SF_gluc (ι := oz_R2clsl_16) oz_R2cls_79 hS27 eF27 (by decide +kernel)) (any_sub (lₚ := []) (by decide +kernel))
          have mF27 := SFm_of cF27 oz_R2cls_51
          have cA27 : SA oz_R2clsl_2 A A27 := SA_trans (cA12) (SA_gluc (ι := oz_R2clsl_16) oz_R2cls_79 hA27 eA27 (by decide +kernel)) (any_subA (lₚ := []) (by decide +kernel))
          have mA27 := SAm_of cA27 oz_R2cls_48
          refine Ew_of (pcₚ := 34) (fun _ => x_goto rfl rfl) ?_
          exact w_ireturn rfl (k (z27) _ _ _ H O (cF27) (cA27) (show inr (z27) from pz27_0))
        · refine v_lR H (o := 1) rfl rfl rfl rfl rfl (n := n1) (en1) (show 0 ≤ a2 ∧ a2 < n1 from q_4227 (HIDe r5) b25 h2) (z := ((D 6 : Nat) : Int)) (v := .ref (D 6)) ((congrArg (A12 1) b25).trans ((mA12 1 rfl 2).trans (pf6))) (vrf rfl) ?_
          refine w_stat24 rfl rfl (by rfl) (C29_Row_1a (D := puc 3590 D) (N := puc 3590 N) (HW_subc H oz_R2cls_66 oz_R2cls_19) ((mF12 6 0 rfl).trans (pf7)) (n7) (en7) (u6_1) (((mF12 6 1 rfl).trans (eu6_1))) (show 0 ≤ (u6_1) ∧ (u6_1) ≤ (n7) ∧ (n7) ≤ 65536 from h5) (show 0 ≤ (u6_1) ∧ (u6_1) ≤ (n7) ∧ (n7) ≤ 65536 from h5) (fun z28 σ28 F28ₚ A28ₚ Hₚ Oₚ hS28 hA28 pz28_0 => ⟨rfl, ?_⟩))
          refine v_backc (c := c) (s := s) H oz_R2cls_66 oz_R2cls_19 Hₚ Oₚ (fun F28 A28 H Oₚ eF28 eA28 => ?_)
          have O := OUT_trans O Oₚ
          -- PackHouse.firstUnlike
          have cF28 : SF oz_R2clsl_8 F F28 := SF_trans (cF12) (SF_gluc (ι := oz_R2clsl_5) oz_R2cls_19 hS28 eF28 (by decide +kernel)) (any_sub (lₚ := []) (by decide +kernel))
          have mF28 := SFm_of cF28 oz_R2cls_51
          have cA28 : SA oz_R2clsl_2 A A28 := SA_trans (cA12) (SA_gluc (ι := oz_R2clsl_5) oz_R2cls_19 hA28 eA28 (by decide +kernel)) (any_subA (lₚ := []) (by decide +kernel))
          have mA28 := SAm_of cA28 oz_R2cls_48
          refine Ew_of (pcₚ := 34) (fun _ => x_goto rfl rfl) ?_
          exact w_ireturn rfl (k (z28) _ _ _ H O (cF28) (cA28) (show inr (z28) from pz28_0))
        · refine v_lR H (o := 1) rfl rfl rfl rfl rfl (n := n1) (en1) (show 0 ≤ a2 ∧ a2 < n1 from q_4228 b25 h2) (z := ((D 8 : Nat) : Int)) (v := .ref (D 8)) ((congrArg (A12 1) b25).trans ((mA12 1 rfl 3).trans (pf8))) (vrf rfl) ?_
          refine w_stat24 rfl rfl (by rfl) (C29_Row_Row (D := puc 1209798662 D) (N := puc 1209798662 N) (HW_subc H oz_R2cls_67 oz_R2cls_80) ((mF12 6 0 rfl).trans (pf7)) ((mF12 8 0 rfl).trans (pf9)) (n7) (en7) (n9) (en9) (u6_1) (((mF12 6 1 rfl).trans (eu6_1))) (u8_1) (((mF12 8 1 rfl).trans (eu8_1))) (show 0 ≤ (u6_1) ∧ (u6_1) ≤ (n7) ∧ (n7) ≤ 65536 from h5) (show 0 ≤ (u8_1) ∧ (u8_1) ≤ (n9) ∧ (n9) ≤ 65536 from h6) (fun z29 σ29 F29ₚ A29ₚ Hₚ Oₚ hS29 hA29 pz29_0 => ⟨rfl, ?_⟩))
          refine v_backc (c := c) (s := s) H oz_R2cls_67 oz_R2cls_80 Hₚ Oₚ (fun F29 A29 H Oₚ eF29 eA29 => ?_)
          have O := OUT_trans O Oₚ
          -- PackHouse.firstUnlike
          have cF29 : SF oz_R2clsl_8 F F29 := SF_trans (cF12) (SF_gluc (ι := oz_R2clsl_17) oz_R2cls_80 hS29 eF29 (by decide +kernel)) (any_sub (lₚ := []) (by decide +kernel))
          have mF29 := SFm_of cF29 oz_R2cls_51
          have cA29 : SA oz_R2clsl_2 A A29 := SA_trans (cA12) (SA_gluc (ι := oz_R2clsl_17) oz_R2cls_80 hA29 eA29 (by decide +kernel)) (any_subA (lₚ := []) (by decide +kernel))
          have mA29 := SAm_of cA29 oz_R2cls_48
          refine Ew_of (pcₚ := 34) (fun _ => x_goto rfl rfl) ?_
          exact w_ireturn rfl (k (z29) _ _ _ H O (cF29) (cA29) (show inr (z29) from pz29_0))
      · refine v_lR H (o := 1) rfl rfl rfl rfl rfl (n := n1) (en1) (show 0 ≤ a1 ∧ a1 < n1 from q_4228 b14 h2) (z := ((D 8 : Nat) : Int)) (v := .ref (D 8)) ((congrArg (A12 1) b14).trans ((mA12 1 rfl 3).trans (pf8))) (vrf rfl) ?_
        refine Ew_of (pcₚ := 21) (fun _ => x_aload_n rfl rfl) ?_
        refine v_g H (o := 0) (v := .ref (D 1)) rfl rfl rfl rfl rfl (vrf ((mF12 0 0 rfl).trans (pf1))) ?_
        refine Ew_of (pcₚ := 25) (fun _ => x_iload_n rfl rfl) ?_
        rcases (show a2 = 0 ∨ a2 = 1 ∨ a2 = 2 ∨ a2 = 3 by omega) with b30 | b30 | b30 | b30
        · refine v_lR H (o := 1) rfl rfl rfl rfl rfl (n := n1) (en1) (show 0 ≤ a2 ∧ a2 < n1 from q_4225 (HIDe r5) b30 h2) (z := ((D 2 : Nat) : Int)) (v := .ref (D 2)) ((congrArg (A12 1) b30).trans ((mA12 1 rfl 0).trans (pf2))) (vrf rfl) ?_
          refine w_stat24 rfl rfl (by rfl) (C29_Row_Row (D := puc 405013512 D) (N := puc 405013512 N) (HW_subc H oz_R2cls_68 oz_R2cls_81) ((mF12 8 0 rfl).trans (pf9)) ((mF12 2 0 rfl).trans (pf3)) (n9) (en9) (n3) (en3) (u8_1) (((mF12 8 1 rfl).trans (eu8_1))) (u2_1) (((mF12 2 1 rfl).trans (eu2_1))) (show 0 ≤ (u8_1) ∧ (u8_1) ≤ (n9) ∧ (n9) ≤ 65536 from h6) (show 0 ≤ (u2_1) ∧ (u2_1) ≤ (n3) ∧ (n3) ≤ 65536 from h3) (fun z31 σ31 F31ₚ A31ₚ Hₚ Oₚ hS31 hA31 pz31_0 => ⟨rfl, ?_⟩))
          refine v_backc (c := c) (s := s) H oz_R2cls_68 oz_R2cls_81 Hₚ Oₚ (fun F31 A31 H Oₚ eF31 eA31 => ?_)
          have O := OUT_trans O Oₚ
          -- PackHouse.firstUnlike
          have cF31 : SF oz_R2clsl_8 F F31 := SF_trans (cF12) (SF_gluc (ι := oz_R2clsl_18) oz_R2cls_81 hS31 eF31 (by decide +kernel)) (any_sub (lₚ := []) (by decide +kernel))
          have mF31 := SFm_of cF31 oz_R2cls_51
          have cA31 : SA oz_R2clsl_2 A A31 := SA_trans (cA12) (SA_gluc (ι := oz_R2clsl_18) oz_R2cls_81 hA31 eA31 (by decide +kernel)) (any_subA (lₚ := []) (by decide +kernel))
          have mA31 := SAm_of cA31 oz_R2cls_48
          refine Ew_of (pcₚ := 34) (fun _ => x_goto rfl rfl) ?_
          exact w_ireturn rfl (k (z31) _ _ _ H O (cF31) (cA31) (show inr (z31) from pz31_0))
        · refine v_lR H (o := 1) rfl rfl rfl rfl rfl (n := n1) (en1) (show 0 ≤ a2 ∧ a2 < n1 from q_4226 (HIDe r5) b30 h2) (z := ((D 4 : Nat) : Int)) (v := .ref (D 4)) ((congrArg (A12 1) b30).trans ((mA12 1 rfl 1).trans (pf4))) (vrf rfl) ?_
          refine w_stat24 rfl rfl (by rfl) (C29_Row_Row (D := puc 673449992 D) (N := puc 673449992 N) (HW_subc H oz_R2cls_69 oz_R2cls_82) ((mF12 8 0 rfl).trans (pf9)) ((mF12 4 0 rfl).trans (pf5)) (n9) (en9) (n5) (en5) (u8_1) (((mF12 8 1 rfl).trans (eu8_1))) (u4_1) (((mF12 4 1 rfl).trans (eu4_1))) (show 0 ≤ (u8_1) ∧ (u8_1) ≤ (n9) ∧ (n9) ≤ 65536 from h6) (show 0 ≤ (u4_1) ∧ (u4_1) ≤ (n5) ∧ (n5) ≤ 65536 from h4) (fun z32 σ32 F32ₚ A32ₚ Hₚ Oₚ hS32 hA32 pz32_0 => ⟨rfl, ?_⟩))
          refine v_backc (c := c) (s := s) H oz_R2cls_69 oz_R2cls_82 Hₚ Oₚ (fun F32 A32 H Oₚ eF32 eA32 => ?_)
          have O := OUT_trans O Oₚ
          -- PackHouse.firstUnlike
          have cF32 : SF oz_R2clsl_8 F F32 := SF_trans (cF12) (SF_gluc (ι := oz_R2clsl_19) oz_R2cls_82 hS32 eF32 (by decide +kernel)) (any_sub (lₚ := []) (by decide +kernel))
          have mF32 := SFm_of cF32 oz_R2cls_51
          have cA32 : SA oz_R2clsl_2 A A32 := SA_trans (cA12) (SA_gluc (ι := oz_R2clsl_19) oz_R2cls_82 hA32 eA32 (by decide +kernel)) (any_subA (lₚ := []) (by decide +kernel))
          have mA32 := SAm_of cA32 oz_R2cls_48
          refine Ew_of (pcₚ := 34) (fun _ => x_goto rfl rfl) ?_
          exact w_ireturn rfl (k (z32) _ _ _ H O (cF32) (cA32) (show inr (z32) from pz32_0))
        · refine v_lR H (o := 1) rfl rfl rfl rfl rfl (n := n1) (en1) (show 0 ≤ a2 ∧ a2 < n1 from q_4227 (HIDe r5) b30 h2) (z := ((D 6 : Nat) : Int)) (v := .ref (D 6)) ((congrArg (A12 1) b30).trans ((mA12 1 rfl 2).trans (pf6))) (vrf rfl) ?_
          refine w_stat24 rfl rfl (by rfl) (C29_Row_Row (D := puc 941886472 D) (N := puc 941886472 N) (HW_subc H oz_R2cls_70 oz_R2cls_83) ((mF12 8 0 rfl).trans (pf9)) ((mF12 6 0 rfl).trans (pf7)) (n9) (en9) (n7) (en7) (u8_1) (((mF12 8 1 rfl).trans (eu8_1))) (u6_1) (((mF12 6 1 rfl).trans (eu6_1))) (show 0 ≤ (u8_1) ∧ (u8_1) ≤ (n9) ∧ (n9) ≤ 65536 from h6) (show 0 ≤ (u6_1) ∧ (u6_1) ≤ (n7) ∧ (n7) ≤ 65536 from h5) (fun z33 σ33 F33ₚ A33ₚ Hₚ Oₚ hS33 hA33 pz33_0 => ⟨rfl, ?_⟩))
          refine v_backc (c := c) (s := s) H oz_R2cls_70 oz_R2cls_83 Hₚ Oₚ (fun F33 A33 H Oₚ eF33 eA33 => ?_)
          have O := OUT_trans O Oₚ
          -- PackHouse.firstUnlike
          have cF33 : SF oz_R2clsl_8 F F33 := SF_trans (cF12) (SF_gluc (ι := oz_R2clsl_20) oz_R2cls_83 hS33 eF33 (by decide +kernel)) (any_sub (lₚ := []) (by decide +kernel))
          have mF33 := SFm_of cF33 oz_R2cls_51
          have cA33 : SA oz_R2clsl_2 A A33 := SA_trans (cA12) (SA_gluc (ι := oz_R2clsl_20) oz_R2cls_83 hA33 eA33 (by decide +kernel)) (any_subA (lₚ := []) (by decide +kernel))
          have mA33 := SAm_of cA33 oz_R2cls_48
          refine Ew_of (pcₚ := 34) (fun _ => x_goto rfl rfl) ?_
          exact w_ireturn rfl (k (z33) _ _ _ H O (cF33) (cA33) (show inr (z33) from pz33_0))
        · refine v_lR H (o := 1) rfl rfl rfl rfl rfl (n := n1) (en1) (show 0 ≤ a2 ∧ a2 < n1 from q_4228 b30 h2) (z := ((D 8 : Nat) : Int)) (v := .ref (D 8)) ((congrArg (A12 1) b30).trans ((mA12 1 rfl 3).trans (pf8))) (vrf rfl) ?_
          refine w_stat24 rfl rfl (by rfl) (C29_Row_1a (D := puc 4616 D) (N := puc 4616 N) (HW_subc H oz_R2cls_71 oz_R2cls_20) ((mF12 8 0 rfl).trans (pf9)) (n9) (en9) (u8_1) (((mF12 8 1 rfl).trans (eu8_1))) (show 0 ≤ (u8_1) ∧ (u8_1) ≤ (n9) ∧ (n9) ≤ 65536 from h6) (show 0 ≤ (u8_1) ∧ (u8_1) ≤ (n9) ∧ (n9) ≤ 65536 from h6) (fun z34 σ34 F34ₚ A34ₚ Hₚ Oₚ hS34 hA34 pz34_0 => ⟨rfl, ?_⟩))
          refine v_backc (c := c) (s := s) H oz_R2cls_71 oz_R2cls_20 Hₚ Oₚ (fun F34 A34 H Oₚ eF34 eA34 => ?_)
          have O := OUT_trans O Oₚ
          -- PackHouse.firstUnlike
          have cF34 : SF oz_R2clsl_8 F F34 := SF_trans (cF12) (SF_gluc (ι := oz_R2clsl_6) oz_R2cls_20 hS34 eF34 (by decide +kernel)) (any_sub (lₚ := []) (by decide +kernel))
          have mF34 := SFm_of cF34 oz_R2cls_51
          have cA34 : SA oz_R2clsl_2 A A34 := SA_trans (cA12) (SA_gluc (ι := oz_R2clsl_6) oz_R2cls_20 hA34 eA34 (by decide +kernel)) (any_subA (lₚ := []) (by decide +kernel))
          have mA34 := SAm_of cA34 oz_R2cls_48
          refine Ew_of (pcₚ := 34) (fun _ => x_goto rfl rfl) ?_
          exact w_ireturn rfl (k (z34) _ _ _ H O (cF34) (cA34) (show inr (z34) from pz34_0))
