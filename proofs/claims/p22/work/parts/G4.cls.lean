abbrev V216_thispackeda : vV := [(0, 11, [(4, 0), (4, 0), (4, 0), (4, 0), (4, 0), (0, 0), (4, 0), (0, 0), (0, 0), (0, 0), (0, 0), (0, 0), (0, 0)]), (0, 7, [(4, 0), (0, 0), (1, 0), (0, 0), (0, 0)]), (1, 0, []), (0, 5, [(4, 0), (4, 0), (4, 0), (4, 0), (0, 0), (0, 0), (0, 0), (4, 0), (4, 0), (0, 0), (0, 0), (0, 0), (0, 0), (0, 0), (0, 0), (0, 0), (0, 0), (0, 0), (0, 0)]), (0, 7, [(4, 0), (0, 0), (1, 0), (0, 0), (0, 0)]), (1, 0, [])]
theorem len_V216_thispackeda_oz_G4cls : (V216_thispackeda).length = 6 := by decide +kernel
theorem oz_G4cls_1 : vsub V216_thispackeda V159 [1, 2] = true := by decide +kernel
theorem oz_G4cls_2 : vmov V216_thispackeda [1, 2] [1] = true := by decide +kernel
theorem oz_G4cls_3 : vsub V216_thispackeda V217_Row [1, 2] = true := by decide +kernel
theorem oz_G4cls_4 : vsub V216_thispackeda V161_Br [1, 5, 2] = true := by decide +kernel
theorem oz_G4cls_5 : vmov V216_thispackeda [1, 5, 2] [2] = true := by decide +kernel
def oz_G4clsl_0 : List (Nat × Nat) := [(1, 0), (1, 1), (1, 2)]
theorem oz_G4cls_6 : (oz_G4clsl_0).all (fun p => !tbz 30064771072 (Nat.add (Nat.mul 32 p.1) p.2)) = true := by decide +kernel
def oz_G4clsl_1 : List Nat := [2]
theorem oz_G4cls_7 : (oz_G4clsl_1).all (fun p => !tbz 4 p) = true := by decide +kernel
def oz_G4clsl_2 : List Nat := [1, 2]
theorem oz_G4cls_8 : okc oz_G4clsl_2 1025 = true := by decide +kernel
def oz_G4clsl_3 : List Nat := [1, 5, 2]
theorem oz_G4cls_9 : okc oz_G4clsl_3 526849 = true := by decide +kernel
/-- Tokens.packLiterals: this, this.packed, this.packed.bytes, this.finder, this.finder.data, this.finder.data.bytes -/
theorem C216_thispackeda {σE : rS} {D N : Nat → Nat} {F : hF} {A : hA} {d c s : Nat} {Q : wQ} (H : HW V216_thispackeda σE D N F A) {a2 a3 a4 : Int} (pf1 : HID (F 0 3 = (D 1 : Int))) (pf2 : HID (F 1 0 = (D 2 : Int))) (pf3 : HID (F 0 2 = (D 3 : Int))) (pf4 : HID (F 3 0 = (D 4 : Int))) (pf5 : HID (F 4 0 = (D 5 : Int))) (n2 : Int) (en2 : HID ((N 2 : Int) = n2)) (n5 : Int) (en5 : HID ((N 5 : Int) = n5)) (u1_1 : Int) (eu1_1 : HID (F 1 1 = u1_1)) (u4_1 : Int) (eu4_1 : HID (F 4 1 = u4_1)) (h0 : inr (a2)) (h1 : inr (a3)) (h2 : inr (a4)) (h3 : 0 ≤ (u1_1) ∧ (u1_1) ≤ (n2) ∧ (n2) ≤ 65536) (h4 : 0 ≤ (u4_1) ∧ (u4_1) ≤ (n5) ∧ (n5) ≤ 65536) (h5 : 0 ≤ (a2) ∧ 0 ≤ (a3) ∧ (a2) + (a3) ≤ (n5)) (h6 : 0 ≤ (a4)) (k : ∀ (σ : rS) (Dₚ Nₚ : Nat → Nat) (Fₚ : hF) (Aₚ : hA) (cₚ sₚ : Nat), HW V216_thispackeda σ Dₚ Nₚ Fₚ Aₚ → OUT (V216_thispackeda).length D N σE c s Dₚ Nₚ σ cₚ sₚ → SD [2] D Dₚ → SD [2] N Nₚ → SF [(1, 0), (1, 1), (1, 2)] F Fₚ → SA [2] A Aₚ → Fₚ 1 0 = (Dₚ 2 : Int) → ∀ m2 : Int, (Nₚ 2 : Int) = m2 → ∀ y1_1 : Int, Fₚ 1 1 = y1_1 → (0 ≤ (y1_1) ∧ (y1_1) ≤ (m2) ∧ (m2) ≤ 65536) → Q none σ cₚ sₚ) : Ew 216 (d + 4) 0 (rargs 0 [.ref (D 0), .ref (D 1), I a2, I a3, I a4]) [] σE c s Q := by
  have O := OUT_refl (n := (V216_thispackeda).length) (D := D) (N := N) (σ := σE) (c := c) (s := s)
  have HE := H
  have r1 : (-2147483648 : Int) ≤ u1_1 ∧ u1_1 ≤ 2147483647 := rngE (show (-2147483648 : Int) ≤ F 1 1 ∧ F 1 1 ≤ 2147483647 from H.krg 1 1 (ltn len_V216_thispackeda_oz_G4cls rfl)) (show F 1 1 = u1_1 from (eu1_1))
  have r2 : (-2147483648 : Int) ≤ u4_1 ∧ u4_1 ≤ 2147483647 := rngE (show (-2147483648 : Int) ≤ F 4 1 ∧ F 4 1 ≤ 2147483647 from H.krg 4 1 (ltn len_V216_thispackeda_oz_G4cls rfl)) (show F 4 1 = u4_1 from (eu4_1))
  have r3 : (0 : Int) ≤ n2 ∧ n2 ≤ 1000000 := nleE (H.nle 2 (ltn len_V216_thispackeda_oz_G4cls rfl)) (show (N 2 : Int) = n2 from en2)
  have r4 : (0 : Int) ≤ n5 ∧ n5 ≤ 1000000 := nleE (H.nle 5 (ltn len_V216_thispackeda_oz_G4cls rfl)) (show (N 5 : Int) = n5 from en5)
  refine Ew_of (pcₚ := 1) (fun _ => x_aload_n rfl rfl) ?_
  refine Ew_of (pcₚ := 2) (fun _ => x_iload_n rfl rfl) ?_
  refine Ew_of (pcₚ := 4) (fun _ => x_bipush (z := 15) rfl (by decide)) ?_
  refine v_min rfl rfl (show inr (a3) from h1) (show inr (15) from q_143) (fun z5 gz5 => ?_)
  refine Ew_of (pcₚ := 8) (fun _ => x_iconst rfl) ?_
  refine w_ishlA rfl (fun z6 gz6 => ?_)
  refine Ew_of (pcₚ := 11) (fun _ => x_iload rfl rfl) ?_
  refine Ew_of (pcₚ := 13) (fun _ => x_bipush (z := 15) rfl (by decide)) ?_
  refine v_min rfl rfl (show inr (a4) from h2) (show inr (15) from q_143) (fun z7 gz7 => ?_)
  refine w_ior rfl (fun z8 gz8 => ?_)
  refine v_inv H (o := 1) rfl rfl rfl rfl rfl rfl (by rfl) (C159 (D := puc 1025 D) (N := puc 1025 N) (HW_subc H oz_G4cls_1 oz_G4cls_8) (pf2) (n2) (en2) (u1_1) ((eu1_1)) (show inr (z8) from gz8) (show 0 ≤ (u1_1) ∧ (u1_1) ≤ (n2) ∧ (n2) ≤ 65536 from h3) (fun σ9 D9ₚ N9ₚ F9ₚ A9ₚ c9 s9 Hₚ Oₚ hD9 hN9 hS9 hA9 (pm9_1 : HID _) m9_1 (em9_1 : HID _) y9_0_1 (ey9_0_1 : HID _) pz9_0 pz9_1 pz9_2 => ⟨rfl, ?_⟩))
  refine v_backMc (c := c) (s := s) H oz_G4cls_1 oz_G4cls_8 Hₚ Oₚ hD9 oz_G4cls_2 (fun D9 N9 F9 A9 H Oₚ eD9 eN9 eF9 eA9 => ?_)
  have O := OUT_trans O Oₚ
  -- Row.add
  have cF9 : SF oz_G4clsl_0 F F9 := SF_trans (SF_refl) (SF_gluc (ι := oz_G4clsl_2) oz_G4cls_8 hS9 eF9 (by decide +kernel)) (any_sub (lₚ := [(1, 0), (1, 1), (1, 2)]) (by decide +kernel))
  have mF9 := SFm_of cF9 oz_G4cls_6
  have cA9 : SA oz_G4clsl_1 A A9 := SA_trans (SA_refl) (SA_gluc (ι := oz_G4clsl_2) oz_G4cls_8 hA9 eA9 (by decide +kernel)) (any_subA (lₚ := [2]) (by decide +kernel))
  have mA9 := SAm_of cA9 oz_G4cls_7
  have cD9 : SD oz_G4clsl_1 D D9 := SD_trans (SD_refl) (SD_gluc (ι := oz_G4clsl_2) oz_G4cls_8 hD9 eD9 (by decide +kernel)) (any_subA (lₚ := [2]) (by decide +kernel))
  have mD9 := SDm_of cD9 oz_G4cls_7
  have cN9 : SD oz_G4clsl_1 N N9 := SD_trans (SD_refl) (SD_gluc (ι := oz_G4clsl_2) oz_G4cls_8 hN9 eN9 (by decide +kernel)) (any_subA (lₚ := [2]) (by decide +kernel))
  have mN9 := SDm_of cN9 oz_G4cls_7
  have pf9_1_0 : HID (F9 1 0 = (D9 2 : Int)) := (eF9 1 0).trans (pm9_1.trans (congrArg (fun q : Nat => (q : Int)) (eD9 2).symm))
  have r10 : (0 : Int) ≤ m9_1 ∧ m9_1 ≤ 1000000 := nleE (H.nle 2 (ltn len_V216_thispackeda_oz_G4cls rfl)) (show (N9 2 : Int) = m9_1 from (congrArg (fun q : Nat => (q : Int)) (eN9 2)).trans em9_1)
  have r11 : (-2147483648 : Int) ≤ y9_0_1 ∧ y9_0_1 ≤ 2147483647 := rngE (show (-2147483648 : Int) ≤ F9 1 1 ∧ F9 1 1 ≤ 2147483647 from H.krg 1 1 (ltn len_V216_thispackeda_oz_G4cls rfl)) (show F9 1 1 = y9_0_1 from ((eF9 1 1).trans ey9_0_1))
  refine Ew_of (pcₚ := 21) (fun _ => x_aload_n rfl rfl) ?_
  refine Ew_of (pcₚ := 22) (fun _ => x_iload_n rfl rfl) ?_
  refine Ew_stk (congrArg (fun qz : Nat => ([I (a3), .ref qz] : List Value)) (show D9 1 = D 1 from mD9 1 rfl).symm) ?_
  refine w_stat24 rfl rfl (by rfl) (C217_Row (D := puc 1025 D9) (N := puc 1025 N9) (HW_subc H oz_G4cls_3 oz_G4cls_8) (pf9_1_0) (m9_1) ((congrArg (fun q : Nat => (q : Int)) (eN9 2)).trans em9_1) (y9_0_1) (((eF9 1 1).trans ey9_0_1)) (show inr (a3) from h1) (show 0 ≤ (y9_0_1) ∧ (y9_0_1) ≤ (m9_1) ∧ (m9_1) ≤ 65536 from pz9_0) (show 0 ≤ (a3) from q_2763 h5) (fun σ12 D12ₚ N12ₚ F12ₚ A12ₚ c12 s12 Hₚ Oₚ hD12 hN12 hS12 hA12 (pm12_1 : HID _) m12_1 (em12_1 : HID _) y12_0_1 (ey12_0_1 : HID _) pz12_0 => ⟨rfl, ?_⟩))
  refine v_backMc (c := (c + c9)) (s := (s + s9)) H oz_G4cls_3 oz_G4cls_8 Hₚ Oₚ hD12 oz_G4cls_2 (fun D12 N12 F12 A12 H Oₚ eD12 eN12 eF12 eA12 => ?_)
  have O := OUT_trans O Oₚ
  -- Tokens.packRest
  have cF12 : SF oz_G4clsl_0 F F12 := SF_trans (cF9) (SF_gluc (ι := oz_G4clsl_2) oz_G4cls_8 hS12 eF12 (by decide +kernel)) (any_sub (lₚ := [(1, 0), (1, 1), (1, 2)]) (by decide +kernel))
  have mF12 := SFm_of cF12 oz_G4cls_6
  have cA12 : SA oz_G4clsl_1 A A12 := SA_trans (cA9) (SA_gluc (ι := oz_G4clsl_2) oz_G4cls_8 hA12 eA12 (by decide +kernel)) (any_subA (lₚ := [2]) (by decide +kernel))
  have mA12 := SAm_of cA12 oz_G4cls_7
  have cD12 : SD oz_G4clsl_1 D D12 := SD_trans (cD9) (SD_gluc (ι := oz_G4clsl_2) oz_G4cls_8 hD12 eD12 (by decide +kernel)) (any_subA (lₚ := [2]) (by decide +kernel))
  have mD12 := SDm_of cD12 oz_G4cls_7
  have cN12 : SD oz_G4clsl_1 N N12 := SD_trans (cN9) (SD_gluc (ι := oz_G4clsl_2) oz_G4cls_8 hN12 eN12 (by decide +kernel)) (any_subA (lₚ := [2]) (by decide +kernel))
  have mN12 := SDm_of cN12 oz_G4cls_7
  have pf12_1_0 : HID (F12 1 0 = (D12 2 : Int)) := (eF12 1 0).trans (pm12_1.trans (congrArg (fun q : Nat => (q : Int)) (eD12 2).symm))
  have r13 : (0 : Int) ≤ m12_1 ∧ m12_1 ≤ 1000000 := nleE (H.nle 2 (ltn len_V216_thispackeda_oz_G4cls rfl)) (show (N12 2 : Int) = m12_1 from (congrArg (fun q : Nat => (q : Int)) (eN12 2)).trans em12_1)
  have r14 : (-2147483648 : Int) ≤ y12_0_1 ∧ y12_0_1 ≤ 2147483647 := rngE (show (-2147483648 : Int) ≤ F12 1 1 ∧ F12 1 1 ≤ 2147483647 from H.krg 1 1 (ltn len_V216_thispackeda_oz_G4cls rfl)) (show F12 1 1 = y12_0_1 from ((eF12 1 1).trans ey12_0_1))
  refine Ew_of (pcₚ := 26) (fun _ => x_aload_n rfl rfl) ?_
  refine Ew_of (pcₚ := 27) (fun _ => x_aload_n rfl rfl) ?_
  refine Ew_stk (show ([.ref (D 0), .ref (D 1)] : List Value) = [.ref (D12 0), .ref (D12 1)] by rw [show D12 0 = D 0 from mD12 0 rfl, show D12 1 = D 1 from mD12 1 rfl]) ?_
  refine v_g H (o := 0) (v := .ref (D12 3)) rfl rfl rfl rfl rfl (vrf ((mF12 0 2 rfl).trans ((pf3).trans (congrArg (fun q : Nat => (q : Int)) (mD12 3 rfl).symm)))) ?_
  refine v_g H (o := 3) (v := .ref (D12 4)) rfl rfl rfl rfl rfl (vrf ((mF12 3 0 rfl).trans ((pf4).trans (congrArg (fun q : Nat => (q : Int)) (mD12 4 rfl).symm)))) ?_
  refine v_g H (o := 4) (v := .ref (D12 5)) rfl rfl rfl rfl rfl (vrf ((mF12 4 0 rfl).trans ((pf5).trans (congrArg (fun q : Nat => (q : Int)) (mD12 5 rfl).symm)))) ?_
  refine Ew_of (pcₚ := 37) (fun _ => x_iload_n rfl rfl) ?_
  refine Ew_of (pcₚ := 38) (fun _ => x_iload_n rfl rfl) ?_
  refine v_inv H (o := 1) rfl rfl rfl rfl rfl rfl (by rfl) (C161_Br (D := puc 526849 D12) (N := puc 526849 N12) (HW_subc H oz_G4cls_4 oz_G4cls_9) (pf12_1_0) (n5) ((congrArg (fun q : Nat => (q : Int)) (mN12 5 rfl)).trans (en5)) (m12_1) ((congrArg (fun q : Nat => (q : Int)) (eN12 2)).trans em12_1) (y12_0_1) (((eF12 1 1).trans ey12_0_1)) (A12 2) (rfl) (show inr (a2) from h0) (show inr (a3) from h1) (show 0 ≤ (y12_0_1) ∧ (y12_0_1) ≤ (m12_1) ∧ (m12_1) ≤ 65536 from pz12_0) (show (a3) < 0 ∨ 0 ≤ (a2) ∧ (a2) + (a3) ≤ (n5) from q_2764 h5) (fun σ15 D15ₚ N15ₚ F15ₚ A15ₚ c15 s15 Hₚ Oₚ hD15 hN15 hS15 hA15 (pm15_2 : HID _) m15_2 (em15_2 : HID _) y15_0_1 (ey15_0_1 : HID _) w15_2 ew15_2 pz15_0 pz15_1 pz15_2 => ⟨rfl, ?_⟩))
  refine v_backMc (c := ((c + c9) + c12)) (s := ((s + s9) + s12)) H oz_G4cls_4 oz_G4cls_9 Hₚ Oₚ hD15 oz_G4cls_5 (fun D15 N15 F15 A15 H Oₚ eD15 eN15 eF15 eA15 => ?_)
  have O := OUT_trans O Oₚ
  -- Row.addPart
  have cF15 : SF oz_G4clsl_0 F F15 := SF_trans (cF12) (SF_gluc (ι := oz_G4clsl_3) oz_G4cls_9 hS15 eF15 (by decide +kernel)) (any_sub (lₚ := [(1, 0), (1, 1), (1, 2)]) (by decide +kernel))
  have mF15 := SFm_of cF15 oz_G4cls_6
  have cA15 : SA oz_G4clsl_1 A A15 := SA_trans (cA12) (SA_gluc (ι := oz_G4clsl_3) oz_G4cls_9 hA15 eA15 (by decide +kernel)) (any_subA (lₚ := [2]) (by decide +kernel))
  have mA15 := SAm_of cA15 oz_G4cls_7
  have cD15 : SD oz_G4clsl_1 D D15 := SD_trans (cD12) (SD_gluc (ι := oz_G4clsl_3) oz_G4cls_9 hD15 eD15 (by decide +kernel)) (any_subA (lₚ := [2]) (by decide +kernel))
  have mD15 := SDm_of cD15 oz_G4cls_7
  have cN15 : SD oz_G4clsl_1 N N15 := SD_trans (cN12) (SD_gluc (ι := oz_G4clsl_3) oz_G4cls_9 hN15 eN15 (by decide +kernel)) (any_subA (lₚ := [2]) (by decide +kernel))
  have mN15 := SDm_of cN15 oz_G4cls_7
  have pf15_1_0 : HID (F15 1 0 = (D15 2 : Int)) := (eF15 1 0).trans (pm15_2.trans (congrArg (fun q : Nat => (q : Int)) (eD15 2).symm))
  have r16 : (0 : Int) ≤ m15_2 ∧ m15_2 ≤ 1000000 := nleE (H.nle 2 (ltn len_V216_thispackeda_oz_G4cls rfl)) (show (N15 2 : Int) = m15_2 from (congrArg (fun q : Nat => (q : Int)) (eN15 2)).trans em15_2)
  have r17 : (-2147483648 : Int) ≤ y15_0_1 ∧ y15_0_1 ≤ 2147483647 := rngE (show (-2147483648 : Int) ≤ F15 1 1 ∧ F15 1 1 ≤ 2147483647 from H.krg 1 1 (ltn len_V216_thispackeda_oz_G4cls rfl)) (show F15 1 1 = y15_0_1 from ((eF15 1 1).trans ey15_0_1))
  exact w_ret rfl (k _ _ _ _ _ _ _ H O (cD15) (cN15) (cF15) (cA15) (pf15_1_0) (m15_2) ((congrArg (fun q : Nat => (q : Int)) (eN15 2)).trans em15_2) (y15_0_1) (((eF15 1 1).trans ey15_0_1)) (show 0 ≤ (y15_0_1) ∧ (y15_0_1) ≤ (m15_2) ∧ (m15_2) ≤ 65536 from pz15_0))
abbrev V215_thispackeda : vV := [(0, 11, [(4, 0), (4, 0), (4, 0), (4, 0), (4, 0), (0, 0), (4, 0), (0, 0), (0, 0), (0, 0), (0, 0), (0, 0), (0, 0)]), (0, 7, [(4, 0), (0, 0), (1, 0), (0, 0), (0, 0)]), (1, 0, []), (0, 5, [(4, 0), (4, 0), (4, 0), (4, 0), (0, 0), (0, 0), (0, 0), (4, 0), (4, 0), (0, 0), (0, 0), (0, 0), (0, 0), (0, 0), (0, 0), (0, 0), (0, 0), (0, 0), (0, 0)]), (0, 7, [(4, 0), (0, 0), (1, 0), (0, 0), (0, 0)]), (1, 0, []), (1, 1, []), (1, 1, []), (1, 1, []), (1, 1, []), (1, 1, [])]
theorem len_V215_thispackeda_oz_G4cls : (V215_thispackeda).length = 11 := by decide +kernel
theorem oz_G4cls_11 : vsub V215_thispackeda V123 [3, 4, 5, 6, 7] = true := by decide +kernel
theorem oz_G4cls_12 : vmov V215_thispackeda [3, 4, 5, 6, 7] [3] = true := by decide +kernel
theorem oz_G4cls_13 : vsub V215_thispackeda V125 [3, 4, 5, 6, 8, 9, 10] = true := by decide +kernel
theorem oz_G4cls_14 : vmov V215_thispackeda [3, 4, 5, 6, 8, 9, 10] [4, 5, 6] = true := by decide +kernel
theorem oz_G4cls_15 : vsub V215_thispackeda V216_thispackeda [0, 1, 2, 3, 4, 5] = true := by decide +kernel
theorem oz_G4cls_16 : vmov V215_thispackeda [0, 1, 2, 3, 4, 5] [2] = true := by decide +kernel
theorem oz_G4cls_17 : vsub V215_thispackeda V160 [1, 2] = true := by decide +kernel
theorem oz_G4cls_18 : vmov V215_thispackeda [1, 2] [1] = true := by decide +kernel
theorem oz_G4cls_19 : vsub V215_thispackeda V217_Row [1, 2] = true := by decide +kernel
def oz_G4clsl_4 : List (Nat × Nat) := [(1, 0), (1, 1), (1, 2), (3, 1), (3, 2), (3, 3), (3, 4), (3, 5), (3, 6), (3, 8), (3, 12), (3, 13), (3, 14), (3, 15), (3, 16), (3, 17), (3, 18)]
theorem oz_G4cls_20 : (oz_G4clsl_4).all (fun p => !tbz 41244121472700643278421578466983936 (Nat.add (Nat.mul 32 p.1) p.2)) = true := by decide +kernel
def oz_G4clsl_5 : List Nat := [2, 6, 7, 8, 9, 10]
theorem oz_G4cls_21 : (oz_G4clsl_5).all (fun p => !tbz 1988 p) = true := by decide +kernel
def oz_G4clsl_6 : List Nat := [2, 6, 8, 9, 10]
theorem oz_G4cls_22 : (oz_G4clsl_6).all (fun p => !tbz 1860 p) = true := by decide +kernel
def oz_G4clsl_7 : List Nat := [3, 4, 5, 6, 7]
theorem oz_G4cls_23 : okc oz_G4clsl_7 481842956291 = true := by decide +kernel
def oz_G4clsl_8 : List Nat := [3, 4, 5, 6, 8, 9, 10]
theorem oz_G4cls_24 : okc oz_G4clsl_8 180461195006052355 = true := by decide +kernel
def oz_G4clsl_9 : List Nat := [0, 1, 2, 3, 4, 5]
theorem oz_G4cls_25 : okc oz_G4clsl_9 176197141529088 = true := by decide +kernel
/-- Tokens.packBlock: this, this.packed, this.packed.bytes, this.finder, this.finder.data, this.finder.data.bytes, this.finder.back, this.finder.heads, this.finder.literals, this.finder.lengths, this.finder.distances -/
theorem C215_thispackeda {σE : rS} {D N : Nat → Nat} {F : hF} {A : hA} {d c s : Nat} {Q : wQ} (H : HW V215_thispackeda σE D N F A) {a2 : Int} (pf1 : HID (F 0 3 = (D 1 : Int))) (pf2 : HID (F 1 0 = (D 2 : Int))) (pf3 : HID (F 0 2 = (D 3 : Int))) (pf4 : HID (F 3 0 = (D 4 : Int))) (pf5 : HID (F 4 0 = (D 5 : Int))) (pf6 : HID (F 3 8 = (D 6 : Int))) (pf7 : HID (F 3 7 = (D 7 : Int))) (pf8 : HID (F 3 1 = (D 8 : Int))) (pf9 : HID (F 3 2 = (D 9 : Int))) (pf10 : HID (F 3 3 = (D 10 : Int))) (n2 : Int) (en2 : HID ((N 2 : Int) = n2)) (n5 : Int) (en5 : HID ((N 5 : Int) = n5)) (n6 : Int) (en6 : HID ((N 6 : Int) = n6)) (n7 : Int) (en7 : HID ((N 7 : Int) = n7)) (n8 : Int) (en8 : HID ((N 8 : Int) = n8)) (n9 : Int) (en9 : HID ((N 9 : Int) = n9)) (n10 : Int) (en10 : HID ((N 10 : Int) = n10)) (u1_1 : Int) (eu1_1 : HID (F 1 1 = u1_1)) (u3_6 : Int) (eu3_6 : HID (F 3 6 = u3_6)) (u3_10 : Int) (eu3_10 : HID (F 3 10 = u3_10)) (u4_1 : Int) (eu4_1 : HID (F 4 1 = u4_1)) (w5 : Int → Int) (ew5 : A 5 = w5) (w6 : Int → Int) (ew6 : A 6 = w6) (w7 : Int → Int) (ew7 : A 7 = w7) (h0 : inr (a2)) (h1 : 0 ≤ (u1_1) ∧ (u1_1) ≤ (n2) ∧ (n2) ≤ 65536) (h2 : 0 ≤ (u4_1) ∧ (u4_1) ≤ (n5) ∧ (n5) ≤ 65536 ∧ (u4_1) ≤ 16384) (h3 : (u3_10) = 4) (h4 : 0 ≤ (a2) ∧ (a2) ≤ (u4_1)) (h5 : BKI ((w5)) ((w6)) ((u3_10)) ((u3_6))) (h6 : HDI ((w5)) ((w7)) ((u3_10)) ((u3_6))) (h7 : (n8) = (n9) ∧ (n10) = (n9) ∧ (n9) ≤ 65536 ∧ ((n9) = 0 ∨ 64 ≤ (n9)) ∧ lgq ((n9)) = 0) (h8 : (n7) = 2048) (h9 : 0 ≤ (u3_6) ∧ (u3_6) ≤ (n6) ∧ (n6) ≤ 16384) (k : ∀ (σ : rS) (Dₚ Nₚ : Nat → Nat) (Fₚ : hF) (Aₚ : hA) (cₚ sₚ : Nat), HW V215_thispackeda σ Dₚ Nₚ Fₚ Aₚ → OUT (V215_thispackeda).length D N σE c s Dₚ Nₚ σ cₚ sₚ → SD [2, 6, 8, 9, 10] D Dₚ → SD [2, 6, 8, 9, 10] N Nₚ → SF [(1, 0), (1, 1), (1, 2), (3, 1), (3, 2), (3, 3), (3, 4), (3, 5), (3, 6), (3, 8), (3, 12), (3, 13), (3, 14), (3, 15), (3, 16), (3, 17), (3, 18)] F Fₚ → SA [2, 6, 7, 8, 9, 10] A Aₚ → Fₚ 1 0 = (Dₚ 2 : Int) → Fₚ 3 8 = (Dₚ 6 : Int) → Fₚ 3 1 = (Dₚ 8 : Int) → Fₚ 3 2 = (Dₚ 9 : Int) → Fₚ 3 3 = (Dₚ 10 : Int) → ∀ m2 : Int, (Nₚ 2 : Int) = m2 → ∀ m6 : Int, (Nₚ 6 : Int) = m6 → ∀ m8 : Int, (Nₚ 8 : Int) = m8 → ∀ m9 : Int, (Nₚ 9 : Int) = m9 → ∀ m10 : Int, (Nₚ 10 : Int) = m10 → ∀ y1_1 : Int, Fₚ 1 1 = y1_1 → ∀ y3_6 : Int, Fₚ 3 6 = y3_6 → ∀ v6 : Int → Int, Aₚ 6 = v6 → ∀ v7 : Int → Int, Aₚ 7 = v7 → (0 ≤ (y1_1) ∧ (y1_1) ≤ (m2) ∧ (m2) ≤ 65536) → (0 ≤ (y3_6) ∧ (u3_6) ≤ (y3_6) ∧ (y3_6) ≤ (m6) ∧ (m6) ≤ 16384) → ((m8) = (m9) ∧ (m10) = (m9) ∧ (m9) ≤ 65536 ∧ ((m9) = 0 ∨ 64 ≤ (m9)) ∧ lgq ((m9)) = 0) → (BKI ((w5)) ((v6)) ((u3_10)) ((y3_6))) → (HDI ((w5)) ((v7)) ((u3_10)) ((y3_6))) → ((y3_6) = (u3_6) ∨ (y3_6) + 4 ≤ (u4_1) + 1) → Q none σ cₚ sₚ) : Ew 215 (d + 5) 0 (rargs 0 [.ref (D 0), .ref (D 1), I a2]) [] σE c s Q := by
  have O := OUT_refl (n := (V215_thispackeda).length) (D := D) (N := N) (σ := σE) (c := c) (s := s)
  have HE := H
  have r1 : (-2147483648 : Int) ≤ u1_1 ∧ u1_1 ≤ 2147483647 := rngE (show (-2147483648 : Int) ≤ F 1 1 ∧ F 1 1 ≤ 2147483647 from H.krg 1 1 (ltn len_V215_thispackeda_oz_G4cls rfl)) (show F 1 1 = u1_1 from (eu1_1))
  have r2 : (-2147483648 : Int) ≤ u3_6 ∧ u3_6 ≤ 2147483647 := rngE (show (-2147483648 : Int) ≤ F 3 6 ∧ F 3 6 ≤ 2147483647 from H.krg 3 6 (ltn len_V215_thispackeda_oz_G4cls rfl)) (show F 3 6 = u3_6 from (eu3_6))
  have r3 : (-2147483648 : Int) ≤ u3_10 ∧ u3_10 ≤ 2147483647 := rngE (show (-2147483648 : Int) ≤ F 3 10 ∧ F 3 10 ≤ 2147483647 from H.krg 3 10 (ltn len_V215_thispackeda_oz_G4cls rfl)) (show F 3 10 = u3_10 from (eu3_10))
  have r4 : (-2147483648 : Int) ≤ u4_1 ∧ u4_1 ≤ 2147483647 := rngE (show (-2147483648 : Int) ≤ F 4 1 ∧ F 4 1 ≤ 2147483647 from H.krg 4 1 (ltn len_V215_thispackeda_oz_G4cls rfl)) (show F 4 1 = u4_1 from (eu4_1))
  have r5 : (0 : Int) ≤ n2 ∧ n2 ≤ 1000000 := nleE (H.nle 2 (ltn len_V215_thispackeda_oz_G4cls rfl)) (show (N 2 : Int) = n2 from en2)
  have r6 : (0 : Int) ≤ n5 ∧ n5 ≤ 1000000 := nleE (H.nle 5 (ltn len_V215_thispackeda_oz_G4cls rfl)) (show (N 5 : Int) = n5 from en5)
  have r7 : (0 : Int) ≤ n6 ∧ n6 ≤ 1000000 := nleE (H.nle 6 (ltn len_V215_thispackeda_oz_G4cls rfl)) (show (N 6 : Int) = n6 from en6)
  have r8 : (0 : Int) ≤ n7 ∧ n7 ≤ 1000000 := nleE (H.nle 7 (ltn len_V215_thispackeda_oz_G4cls rfl)) (show (N 7 : Int) = n7 from en7)
  have r9 : (0 : Int) ≤ n8 ∧ n8 ≤ 1000000 := nleE (H.nle 8 (ltn len_V215_thispackeda_oz_G4cls rfl)) (show (N 8 : Int) = n8 from en8)
  have r10 : (0 : Int) ≤ n9 ∧ n9 ≤ 1000000 := nleE (H.nle 9 (ltn len_V215_thispackeda_oz_G4cls rfl)) (show (N 9 : Int) = n9 from en9)
  have r11 : (0 : Int) ≤ n10 ∧ n10 ≤ 1000000 := nleE (H.nle 10 (ltn len_V215_thispackeda_oz_G4cls rfl)) (show (N 10 : Int) = n10 from en10)
  refine Ew_of (pcₚ := 1) (fun _ => x_aload_n rfl rfl) ?_
  refine v_g H (o := 0) (v := .ref (D 3)) rfl rfl rfl rfl rfl (vrf (pf3)) ?_
  refine v_g H (o := 3) (v := .ref (D 4)) rfl rfl rfl rfl rfl (vrf (pf4)) ?_
  refine v_g H (o := 4) (v := I (u4_1)) rfl rfl rfl rfl rfl (congrArg (fun z : Int => I z) ((eu4_1) : F 4 1 = u4_1)) ?_
  refine Ew_of (pcₚ := 11) (fun _ => x_istore_n rfl) ?_
  refine Ew_of (pcₚ := 12) (fun _ => x_aload_n rfl (rk_o (rfl) rfl rfl)) ?_
  refine v_g H (o := 0) (v := .ref (D 3)) rfl rfl rfl rfl rfl (vrf (pf3)) ?_
  refine Ew_of (pcₚ := 16) (fun _ => x_iload_n rfl rk_s) ?_
  refine v_inv H (o := 3) rfl rfl rfl rfl rfl rfl (by rfl) (C123 (D := puc 481842956291 D) (N := puc 481842956291 N) (HW_subc H oz_G4cls_11 oz_G4cls_23) (pf4) (pf5) (pf6) (pf7) (n5) (en5) (n6) (en6) (n7) (en7) (u3_6) ((eu3_6)) (u3_10) ((eu3_10)) (u4_1) ((eu4_1)) (w5) (ew5) (w6) (ew6) (w7) (ew7) (show inr (u4_1) from q_2767 h2) (show 0 ≤ (u4_1) ∧ (u4_1) ≤ (n5) ∧ (n5) ≤ 65536 ∧ (u4_1) ≤ 16384 from h2) (show 1 ≤ (u3_10) ∧ (u3_10) ≤ 8 from q_2766 h3) (show 0 ≤ (u4_1) ∧ (u4_1) ≤ (u4_1) from q_2765 h2) (show BKI ((w5)) ((w6)) ((u3_10)) ((u3_6)) from h5) (show HDI ((w5)) ((w7)) ((u3_10)) ((u3_6)) from h6) (show (n7) = 2048 from h8) (show 0 ≤ (u3_6) ∧ (u3_6) ≤ (n6) ∧ (n6) ≤ 16384 from h9) (fun σ12 D12ₚ N12ₚ F12ₚ A12ₚ c12 s12 Hₚ Oₚ hD12 hN12 hS12 hA12 (pm12_3 : HID _) m12_3 (em12_3 : HID _) y12_0_6 (ey12_0_6 : HID _) w12_3 ew12_3 w12_4 ew12_4 pz12_0 pz12_1 pz12_2 pz12_3 pz12_4 => ⟨rfl, ?_⟩))
  refine v_backMc (c := c) (s := s) H oz_G4cls_11 oz_G4cls_23 Hₚ Oₚ hD12 oz_G4cls_12 (fun D12 N12 F12 A12 H Oₚ eD12 eN12 eF12 eA12 => ?_)
  have O := OUT_trans O Oₚ
  -- Finder.lay
  have cF12 : SF oz_G4clsl_4 F F12 := SF_trans (SF_refl) (SF_gluc (ι := oz_G4clsl_7) oz_G4cls_23 hS12 eF12 (by decide +kernel)) (any_sub (lₚ := [(3, 6), (3, 8)]) (by decide +kernel))
  have mF12 := SFm_of cF12 oz_G4cls_20
  have cA12 : SA oz_G4clsl_5 A A12 := SA_trans (SA_refl) (SA_gluc (ι := oz_G4clsl_7) oz_G4cls_23 hA12 eA12 (by decide +kernel)) (any_subA (lₚ := [6, 7]) (by decide +kernel))
  have mA12 := SAm_of cA12 oz_G4cls_21
  have cD12 : SD oz_G4clsl_6 D D12 := SD_trans (SD_refl) (SD_gluc (ι := oz_G4clsl_7) oz_G4cls_23 hD12 eD12 (by decide +kernel)) (any_subA (lₚ := [6]) (by decide +kernel))
  have mD12 := SDm_of cD12 oz_G4cls_22
  have cN12 : SD oz_G4clsl_6 N N12 := SD_trans (SD_refl) (SD_gluc (ι := oz_G4clsl_7) oz_G4cls_23 hN12 eN12 (by decide +kernel)) (any_subA (lₚ := [6]) (by decide +kernel))
  have mN12 := SDm_of cN12 oz_G4cls_22
  have pf12_1_0 : HID (F12 1 0 = (D12 2 : Int)) := ((show F12 1 0 = F 1 0 from (eF12 1 0))).trans ((pf2).trans (congrArg (fun q : Nat => (q : Int)) ((show D12 2 = D 2 from (eD12 2))).symm))
  have pf12_3_1 : HID (F12 3 1 = (D12 8 : Int)) := ((show F12 3 1 = F 3 1 from (eF12 3 1).trans (hS12 0 1 rfl))).trans ((pf8).trans (congrArg (fun q : Nat => (q : Int)) ((show D12 8 = D 8 from (eD12 8))).symm))
  have pf12_3_2 : HID (F12 3 2 = (D12 9 : Int)) := ((show F12 3 2 = F 3 2 from (eF12 3 2).trans (hS12 0 2 rfl))).trans ((pf9).trans (congrArg (fun q : Nat => (q : Int)) ((show D12 9 = D 9 from (eD12 9))).symm))
  have pf12_3_3 : HID (F12 3 3 = (D12 10 : Int)) := ((show F12 3 3 = F 3 3 from (eF12 3 3).trans (hS12 0 3 rfl))).trans ((pf10).trans (congrArg (fun q : Nat => (q : Int)) ((show D12 10 = D 10 from (eD12 10))).symm))
  have pf12_3_8 : HID (F12 3 8 = (D12 6 : Int)) := (eF12 3 8).trans (pm12_3.trans (congrArg (fun q : Nat => (q : Int)) (eD12 6).symm))
  have r13 : (0 : Int) ≤ m12_3 ∧ m12_3 ≤ 1000000 := nleE (H.nle 6 (ltn len_V215_thispackeda_oz_G4cls rfl)) (show (N12 6 : Int) = m12_3 from (congrArg (fun q : Nat => (q : Int)) (eN12 6)).trans em12_3)
  have r14 : (-2147483648 : Int) ≤ y12_0_6 ∧ y12_0_6 ≤ 2147483647 := rngE (show (-2147483648 : Int) ≤ F12 3 6 ∧ F12 3 6 ≤ 2147483647 from H.krg 3 6 (ltn len_V215_thispackeda_oz_G4cls rfl)) (show F12 3 6 = y12_0_6 from ((eF12 3 6).trans ey12_0_6))
  refine Ew_of (pcₚ := 20) (fun _ => x_aload_n rfl (rk_o (rfl) rfl rfl)) ?_
  refine Ew_stk (congrArg (fun qz : Nat => ([.ref qz] : List Value)) (show D12 0 = D 0 from mD12 0 rfl).symm) ?_
  refine v_g H (o := 0) (v := .ref (D12 3)) rfl rfl rfl rfl rfl (vrf ((mF12 0 2 rfl).trans ((pf3).trans (congrArg (fun q : Nat => (q : Int)) (mD12 3 rfl).symm)))) ?_
  refine Ew_of (pcₚ := 24) (fun _ => x_iload_n rfl (rk_o (rfl) rfl rfl)) ?_
  refine Ew_of (pcₚ := 25) (fun _ => x_iload_n rfl rk_s) ?_
  refine Ew_of (pcₚ := 26) (fun _ => x_iload_n rfl rk_s) ?_
  refine Ew_of (pcₚ := 27) (fun _ => x_iconst rfl) ?_
  refine w_isub rfl ?_
  refine Ew_of (pcₚ := 29) (fun _ => x_iload_n rfl rk_s) ?_
  refine Ew_of (pcₚ := 31) (fun _ => x_bipush (z := 12) rfl (by decide)) ?_
  refine w_isub rfl ?_
  have r15 : (-2147483648 : Int) ≤ F 3 4 ∧ F 3 4 ≤ 2147483647 := rngE (show (-2147483648 : Int) ≤ F12 3 4 ∧ F12 3 4 ≤ 2147483647 from H.krg 3 4 (ltn len_V215_thispackeda_oz_G4cls rfl)) (show F12 3 4 = F 3 4 from ((show F12 3 4 = F 3 4 from (eF12 3 4).trans (hS12 0 4 rfl))))
  have r16 : (-2147483648 : Int) ≤ F 3 5 ∧ F 3 5 ≤ 2147483647 := rngE (show (-2147483648 : Int) ≤ F12 3 5 ∧ F12 3 5 ≤ 2147483647 from H.krg 3 5 (ltn len_V215_thispackeda_oz_G4cls rfl)) (show F12 3 5 = F 3 5 from ((show F12 3 5 = F 3 5 from (eF12 3 5).trans (hS12 0 5 rfl))))
  refine v_inv H (o := 3) rfl rfl rfl rfl rfl rfl (by rfl) (C125 (D := puc 180461195006052355 D12) (N := puc 180461195006052355 N12) (HW_subc H oz_G4cls_13 oz_G4cls_24) ((mF12 3 0 rfl).trans ((pf4).trans (congrArg (fun q : Nat => (q : Int)) (mD12 4 rfl).symm))) ((mF12 4 0 rfl).trans ((pf5).trans (congrArg (fun q : Nat => (q : Int)) (mD12 5 rfl).symm))) (pf12_3_8) (pf12_3_1) (pf12_3_2) (pf12_3_3) (n5) ((congrArg (fun q : Nat => (q : Int)) (mN12 5 rfl)).trans (en5)) (m12_3) ((congrArg (fun q : Nat => (q : Int)) (eN12 6)).trans em12_3) (n8) ((congrArg (fun q : Nat => (q : Int)) (show N12 8 = N 8 from (eN12 8))).trans (en8)) (n9) ((congrArg (fun q : Nat => (q : Int)) (show N12 9 = N 9 from (eN12 9))).trans (en9)) (n10) ((congrArg (fun q : Nat => (q : Int)) (show N12 10 = N 10 from (eN12 10))).trans (en10)) (F 3 4) (((show F12 3 4 = F 3 4 from (eF12 3 4).trans (hS12 0 4 rfl)))) (F 3 5) (((show F12 3 5 = F 3 5 from (eF12 3 5).trans (hS12 0 5 rfl)))) (y12_0_6) (((eF12 3 6).trans ey12_0_6)) (u3_10) (((mF12 3 10 rfl).trans (eu3_10))) (u4_1) (((mF12 4 1 rfl).trans (eu4_1))) (w5) ((funext (mA12 5 rfl)).trans (ew5)) (w12_3) ((eA12 6).trans ew12_3) (A 8) ((show A12 8 = A 8 from (eA12 8))) (A 9) ((show A12 9 = A 9 from (eA12 9))) (A 10) ((show A12 10 = A 10 from (eA12 10))) (show inr (a2) from h0) (show inr (u4_1) from q_2767 h2) (show inr ((u4_1 - 5)) from q_2772 h2) (show inr ((u4_1 - 12)) from q_2771 h2) (show 0 ≤ (u4_1) ∧ (u4_1) ≤ (n5) ∧ (n5) ≤ 65536 ∧ (u4_1) ≤ 16384 from h2) (show 1 ≤ (u3_10) ∧ (u3_10) ≤ 8 from q_2766 h3) (show 0 ≤ (a2) ∧ (a2) ≤ (u4_1) ∧ (u4_1) ≤ (u4_1) from q_2770 h4) (show ((u4_1 - 5)) ≤ (u4_1) ∧ ((u4_1 - 12)) < (u4_1) ∧ ((u4_1 - 12)) < (y12_0_6) from q_2769 h3 pz12_1) (show 0 ≤ (y12_0_6) ∧ (y12_0_6) ≤ (m12_3) ∧ (m12_3) ≤ 16384 from q_2768 h9 pz12_0) (show BKI ((w5)) ((w12_3)) ((u3_10)) ((y12_0_6)) from pz12_3) (show (n8) = (n9) ∧ (n10) = (n9) ∧ (n9) ≤ 65536 ∧ ((n9) = 0 ∨ 64 ≤ (n9)) ∧ lgq ((n9)) = 0 from h7) (fun σ17 D17ₚ N17ₚ F17ₚ A17ₚ c17 s17 Hₚ Oₚ hD17 hN17 hS17 hA17 (pm17_4 : HID _) (pm17_5 : HID _) (pm17_6 : HID _) m17_4 (em17_4 : HID _) m17_5 (em17_5 : HID _) m17_6 (em17_6 : HID _) y17_0_4 (ey17_0_4 : HID _) y17_0_5 (ey17_0_5 : HID _) w17_4 ew17_4 w17_5 ew17_5 w17_6 ew17_6 pz17_0 pz17_1 pz17_2 pz17_3 => ⟨rfl, ?_⟩))
  refine v_backMc (c := (c + c12)) (s := (s + s12)) H oz_G4cls_13 oz_G4cls_24 Hₚ Oₚ hD17 oz_G4cls_14 (fun D17 N17 F17 A17 H Oₚ eD17 eN17 eF17 eA17 => ?_)
  have O := OUT_trans O Oₚ
  -- Finder.go
  have cF17 : SF oz_G4clsl_4 F F17 := SF_trans (cF12) (SF_gluc (ι := oz_G4clsl_8) oz_G4cls_24 hS17 eF17 (by decide +kernel)) (any_sub (lₚ := [(3, 1), (3, 2), (3, 3), (3, 4), (3, 5), (3, 12), (3, 13), (3, 14), (3, 15), (3, 16), (3, 17), (3, 18)]) (by decide +kernel))
  have mF17 := SFm_of cF17 oz_G4cls_20
  have cA17 : SA oz_G4clsl_5 A A17 := SA_trans (cA12) (SA_gluc (ι := oz_G4clsl_8) oz_G4cls_24 hA17 eA17 (by decide +kernel)) (any_subA (lₚ := [8, 9, 10]) (by decide +kernel))
  have mA17 := SAm_of cA17 oz_G4cls_21
  have cD17 : SD oz_G4clsl_6 D D17 := SD_trans (cD12) (SD_gluc (ι := oz_G4clsl_8) oz_G4cls_24 hD17 eD17 (by decide +kernel)) (any_subA (lₚ := [8, 9, 10]) (by decide +kernel))
  have mD17 := SDm_of cD17 oz_G4cls_22
  have cN17 : SD oz_G4clsl_6 N N17 := SD_trans (cN12) (SD_gluc (ι := oz_G4clsl_8) oz_G4cls_24 hN17 eN17 (by decide +kernel)) (any_subA (lₚ := [8, 9, 10]) (by decide +kernel))
  have mN17 := SDm_of cN17 oz_G4cls_22
  have pf17_1_0 : HID (F17 1 0 = (D17 2 : Int)) := ((show F17 1 0 = F12 1 0 from (eF17 1 0))).trans ((pf12_1_0).trans (congrArg (fun q : Nat => (q : Int)) ((show D17 2 = D12 2 from (eD17 2))).symm))
  have pf17_3_1 : HID (F17 3 1 = (D17 8 : Int)) := (eF17 3 1).trans (pm17_4.trans (congrArg (fun q : Nat => (q : Int)) (eD17 8).symm))
  have pf17_3_2 : HID (F17 3 2 = (D17 9 : Int)) := (eF17 3 2).trans (pm17_5.trans (congrArg (fun q : Nat => (q : Int)) (eD17 9).symm))
  have pf17_3_3 : HID (F17 3 3 = (D17 10 : Int)) := (eF17 3 3).trans (pm17_6.trans (congrArg (fun q : Nat => (q : Int)) (eD17 10).symm))
  have pf17_3_8 : HID (F17 3 8 = (D17 6 : Int)) := ((show F17 3 8 = F12 3 8 from (eF17 3 8).trans (hS17 0 8 rfl))).trans ((pf12_3_8).trans (congrArg (fun q : Nat => (q : Int)) ((show D17 6 = D12 6 from (eD17 6).trans (hD17 3 rfl))).symm))
  have r18 : (0 : Int) ≤ m17_4 ∧ m17_4 ≤ 1000000 := nleE (H.nle 8 (ltn len_V215_thispackeda_oz_G4cls rfl)) (show (N17 8 : Int) = m17_4 from (congrArg (fun q : Nat => (q : Int)) (eN17 8)).trans em17_4)
  have r19 : (0 : Int) ≤ m17_5 ∧ m17_5 ≤ 1000000 := nleE (H.nle 9 (ltn len_V215_thispackeda_oz_G4cls rfl)) (show (N17 9 : Int) = m17_5 from (congrArg (fun q : Nat => (q : Int)) (eN17 9)).trans em17_5)
  have r20 : (0 : Int) ≤ m17_6 ∧ m17_6 ≤ 1000000 := nleE (H.nle 10 (ltn len_V215_thispackeda_oz_G4cls rfl)) (show (N17 10 : Int) = m17_6 from (congrArg (fun q : Nat => (q : Int)) (eN17 10)).trans em17_6)
  have r21 : (-2147483648 : Int) ≤ y17_0_4 ∧ y17_0_4 ≤ 2147483647 := rngE (show (-2147483648 : Int) ≤ F17 3 4 ∧ F17 3 4 ≤ 2147483647 from H.krg 3 4 (ltn len_V215_thispackeda_oz_G4cls rfl)) (show F17 3 4 = y17_0_4 from ((eF17 3 4).trans ey17_0_4))
  have r22 : (-2147483648 : Int) ≤ y17_0_5 ∧ y17_0_5 ≤ 2147483647 := rngE (show (-2147483648 : Int) ≤ F17 3 5 ∧ F17 3 5 ≤ 2147483647 from H.krg 3 5 (ltn len_V215_thispackeda_oz_G4cls rfl)) (show F17 3 5 = y17_0_5 from ((eF17 3 5).trans ey17_0_5))
  refine Ew_of (pcₚ := 36) (fun _ => x_iload_n rfl (rk_o (rfl) rfl rfl)) ?_
  refine Ew_of (pcₚ := 38) (fun _ => x_istore rfl) ?_
  refine Ew_of (pcₚ := 39) (fun _ => x_iconst rfl) ?_
  refine Ew_of (pcₚ := 41) (fun _ => x_istore rfl) ?_
  have : su (fun j => ((w17_4)) j + ((w17_5)) j) (0 : Int).toNat = 0 := rfl
  have hfd : FDI ((w17_4)) ((w17_5)) ((w17_6)) ((y17_0_4)) ((u4_1) - (a2) - (y17_0_5)) ((u3_10)) := pz17_3
  suffices hl41 : ∀ (m : Nat), ∀ (ls : rO) (σ : rS) (D_41 N_41 : Nat → Nat) (c_41 s_41 : Nat) (F_41 : hF) (A_41 : hA) (x41_4 : Int) (x41_5 : Int), rlook ls 0 = some (.ref (D_41 0)) → rlook ls 1 = some (.ref (D_41 1)) → rlook ls 4 = some (I (x41_4)) → rlook ls 5 = some (I (x41_5)) → HW V215_thispackeda σ D_41 N_41 F_41 A_41 → OUT (V215_thispackeda).length D N σE c s D_41 N_41 σ c_41 s_41 → SD [2] D17 D_41 → SD [2] N17 N_41 → SF [(1, 0), (1, 1), (1, 2)] F17 F_41 → SA [2] A17 A_41 → F_41 1 0 = (D_41 2 : Int) → ∀ m41_2 : Int, (N_41 2 : Int) = m41_2 → ∀ y41_1_1 : Int, F_41 1 1 = y41_1_1 → (inr (x41_4)) → (inr (x41_5)) → ((0) ≤ (x41_5)) → ((x41_5) ≤ (0) ∨ (x41_5) ≤ ((y17_0_4))) → (0 ≤ (y41_1_1) ∧ (y41_1_1) ≤ (m41_2) ∧ (m41_2) ≤ 65536) → ((x41_4) = (a2) + su (fun j => ((w17_4)) j + ((w17_5)) j) ((x41_5) : Int).toNat) → (((y17_0_4)) - (x41_5)).toNat = m → Ew 215 (d + 5) 41 ls [] σ c_41 s_41 Q from
    hl41 _ _ _ _ _ _ _ _ _ (a2) (0) ((rk_o (rk_o (rk_o (rfl) rfl rfl) rfl rfl) rfl rfl).trans (congrArg (fun q : Nat => some (Value.ref q)) (mD17 0 rfl).symm)) ((rk_o (rk_o (rk_o (rfl) rfl rfl) rfl rfl) rfl rfl).trans (congrArg (fun q : Nat => some (Value.ref q)) (mD17 1 rfl).symm)) (rk_o (rk_s) rfl rfl) (rk_s) H O (SD_refl) (SD_refl) (SF_refl) (SA_refl) (pf17_1_0) (n2) ((congrArg (fun q : Nat => (q : Int)) (show N17 2 = N12 2 from (eN17 2))).trans ((congrArg (fun q : Nat => (q : Int)) (show N12 2 = N 2 from (eN12 2))).trans (en2))) (u1_1) (((((show F17 1 1 = F12 1 1 from (eF17 1 1))).trans ((show F12 1 1 = F 1 1 from (eF12 1 1)))).trans (eu1_1)))  (show inr (a2) from h0) (show inr (0) from q_20) (show (0) ≤ (0) from q_25) (show (0) ≤ (0) ∨ (0) ≤ ((y17_0_4)) from q_24) (show 0 ≤ (u1_1) ∧ (u1_1) ≤ (n2) ∧ (n2) ≤ 65536 from h1) (show (a2) = (a2) + su (fun j => ((w17_4)) j + ((w17_5)) j) ((0) : Int).toNat by omega) rfl
  as_aux_lemma =>
  intro m
  induction m using Nat.strongRecOn with
  | _ m ih41 =>
    intro ls σ D_41 N_41 c_41 s_41 F_41 A_41 x41_4 x41_5 l41_0 l41_1 l41_4 l41_5 H O hD_41 hN_41 hS_41 hA_41 pm41_2 m41_2 em41_2 y41_1_1 ey41_1_1  j41_0 j41_1 j41_2 j41_3 j41_4 j41_5 hm41
    have cF_41 : SF oz_G4clsl_4 F F_41 := SF_trans (cF17) hS_41 (any_sub (by decide +kernel))
    have mF_41 := SFm_of cF_41 oz_G4cls_20
    have cA_41 : SA oz_G4clsl_5 A A_41 := SA_trans (cA17) hA_41 (any_subA (by decide +kernel))
    have mA_41 := SAm_of cA_41 oz_G4cls_21
    have cD_41 : SD oz_G4clsl_6 D D_41 := SD_trans (cD17) hD_41 (any_subA (by decide +kernel))
    have mD_41 := SDm_of cD_41 oz_G4cls_22
    have cN_41 : SD oz_G4clsl_6 N N_41 := SD_trans (cN17) hN_41 (any_subA (by decide +kernel))
    have mN_41 := SDm_of cN_41 oz_G4cls_22
    replace pm41_2 := HIDm pm41_2
    replace em41_2 := HIDm em41_2
    replace ey41_1_1 := HIDm ey41_1_1
    have pf_41_3_1 : HID (F_41 3 1 = (D_41 8 : Int)) := (hS_41 3 1 rfl).trans ((pf17_3_1).trans (congrArg (fun q : Nat => (q : Int)) (hD_41 8 rfl).symm))
    have pf_41_3_2 : HID (F_41 3 2 = (D_41 9 : Int)) := (hS_41 3 2 rfl).trans ((pf17_3_2).trans (congrArg (fun q : Nat => (q : Int)) (hD_41 9 rfl).symm))
    have pf_41_3_3 : HID (F_41 3 3 = (D_41 10 : Int)) := (hS_41 3 3 rfl).trans ((pf17_3_3).trans (congrArg (fun q : Nat => (q : Int)) (hD_41 10 rfl).symm))
    have pf_41_3_8 : HID (F_41 3 8 = (D_41 6 : Int)) := (hS_41 3 8 rfl).trans ((pf17_3_8).trans (congrArg (fun q : Nat => (q : Int)) (hD_41 6 rfl).symm))
    have r23 : (0 : Int) ≤ m41_2 ∧ m41_2 ≤ 1000000 := nleE (H.nle 2 (ltn len_V215_thispackeda_oz_G4cls rfl)) (show (N_41 2 : Int) = m41_2 from em41_2)
    have r24 : (-2147483648 : Int) ≤ y41_1_1 ∧ y41_1_1 ≤ 2147483647 := rngE (show (-2147483648 : Int) ≤ F_41 1 1 ∧ F_41 1 1 ≤ 2147483647 from H.krg 1 1 (ltn len_V215_thispackeda_oz_G4cls rfl)) (show F_41 1 1 = y41_1_1 from (ey41_1_1))
    refine Ew_of (pcₚ := 43) (fun _ => x_iload rfl l41_5) ?_
    refine Ew_of (pcₚ := 44) (fun _ => x_aload_n rfl l41_0) ?_
    refine v_g H (o := 0) (v := .ref (D_41 3)) rfl rfl rfl rfl rfl (vrf ((mF_41 0 2 rfl).trans ((pf3).trans (congrArg (fun q : Nat => (q : Int)) (mD_41 3 rfl).symm)))) ?_
    refine v_g H (o := 3) (v := I (y17_0_4)) rfl rfl rfl rfl rfl (congrArg (fun z : Int => I z) (((hS_41 3 4 rfl).trans ((eF17 3 4).trans ey17_0_4)) : F_41 3 4 = y17_0_4)) ?_
    refine w_icmpge (t := 136) rfl rfl (show inr (x41_5) from j41_1) (show inr (y17_0_4) from q_2773 pz17_1 r21) (fun b25 => ?_) (fun b25 => ?_)
    · have hle : (x41_5) = (y17_0_4) := q_2774 b25 j41_3 pz17_1
      have hst : su (fun j => ((w17_4)) j + ((w17_5)) j) ((x41_5) : Int).toNat = (u4_1) - (a2) - (y17_0_5) := by rw [hle]; exact hfd.2
      refine Ew_of (pcₚ := 137) (fun _ => x_aload_n rfl l41_0) ?_
      refine Ew_of (pcₚ := 138) (fun _ => x_aload_n rfl l41_1) ?_
      refine Ew_of (pcₚ := 140) (fun _ => x_iload rfl l41_4) ?_
      refine Ew_of (pcₚ := 141) (fun _ => x_aload_n rfl l41_0) ?_
      refine v_g H (o := 0) (v := .ref (D_41 3)) rfl rfl rfl rfl rfl (vrf ((mF_41 0 2 rfl).trans ((pf3).trans (congrArg (fun q : Nat => (q : Int)) (mD_41 3 rfl).symm)))) ?_
      refine v_g H (o := 3) (v := I (y17_0_5)) rfl rfl rfl rfl rfl (congrArg (fun z : Int => I z) (((hS_41 3 5 rfl).trans ((eF17 3 5).trans ey17_0_5)) : F_41 3 5 = y17_0_5)) ?_
      refine Ew_of (pcₚ := 148) (fun _ => x_iconst rfl) ?_
      refine v_inv H (o := 0) rfl rfl rfl rfl rfl rfl (by rfl) (C216_thispackeda (D := puc 176197141529088 D_41) (N := puc 176197141529088 N_41) (HW_subc H oz_G4cls_15 oz_G4cls_25) ((mF_41 0 3 rfl).trans ((pf1).trans (congrArg (fun q : Nat => (q : Int)) (mD_41 1 rfl).symm))) (pm41_2) ((mF_41 0 2 rfl).trans ((pf3).trans (congrArg (fun q : Nat => (q : Int)) (mD_41 3 rfl).symm))) ((mF_41 3 0 rfl).trans ((pf4).trans (congrArg (fun q : Nat => (q : Int)) (mD_41 4 rfl).symm))) ((mF_41 4 0 rfl).trans ((pf5).trans (congrArg (fun q : Nat => (q : Int)) (mD_41 5 rfl).symm))) (m41_2) (em41_2) (n5) ((congrArg (fun q : Nat => (q : Int)) (mN_41 5 rfl)).trans (en5)) (y41_1_1) ((ey41_1_1)) (u4_1) (((mF_41 4 1 rfl).trans (eu4_1))) (show inr (x41_4) from j41_0) (show inr (y17_0_5) from q_2776 pz17_2 r22) (show inr (0) from q_20) (show 0 ≤ (y41_1_1) ∧ (y41_1_1) ≤ (m41_2) ∧ (m41_2) ≤ 65536 from j41_4) (show 0 ≤ (u4_1) ∧ (u4_1) ≤ (n5) ∧ (n5) ≤ 65536 from q_2775 h2) (show 0 ≤ (x41_4) ∧ 0 ≤ (y17_0_5) ∧ (x41_4) + (y17_0_5) ≤ (n5) by omega) (show 0 ≤ (0) from q_25) (fun σ26 D26ₚ N26ₚ F26ₚ A26ₚ c26 s26 Hₚ Oₚ hD26 hN26 hS26 hA26 (pm26_2 : HID _) m26_2 (em26_2 : HID _) y26_1_1 (ey26_1_1 : HID _) pz26_0 => ⟨rfl, ?_⟩))
      refine v_backMc (c := c_41) (s := s_41) H oz_G4cls_15 oz_G4cls_25 Hₚ Oₚ hD26 oz_G4cls_16 (fun D26 N26 F26 A26 H Oₚ eD26 eN26 eF26 eA26 => ?_)
      have O := OUT_trans O Oₚ
      -- Tokens.packLiterals
      have cF26 : SF oz_G4clsl_4 F F26 := SF_trans (cF_41) (SF_gluc (ι := oz_G4clsl_9) oz_G4cls_25 hS26 eF26 (by decide +kernel)) (any_sub (lₚ := [(1, 0), (1, 1), (1, 2)]) (by decide +kernel))
      have mF26 := SFm_of cF26 oz_G4cls_20
      have cA26 : SA oz_G4clsl_5 A A26 := SA_trans (cA_41) (SA_gluc (ι := oz_G4clsl_9) oz_G4cls_25 hA26 eA26 (by decide +kernel)) (any_subA (lₚ := [2]) (by decide +kernel))
      have mA26 := SAm_of cA26 oz_G4cls_21
      have cD26 : SD oz_G4clsl_6 D D26 := SD_trans (cD_41) (SD_gluc (ι := oz_G4clsl_9) oz_G4cls_25 hD26 eD26 (by decide +kernel)) (any_subA (lₚ := [2]) (by decide +kernel))
      have mD26 := SDm_of cD26 oz_G4cls_22
      have cN26 : SD oz_G4clsl_6 N N26 := SD_trans (cN_41) (SD_gluc (ι := oz_G4clsl_9) oz_G4cls_25 hN26 eN26 (by decide +kernel)) (any_subA (lₚ := [2]) (by decide +kernel))
      have mN26 := SDm_of cN26 oz_G4cls_22
      have pf26_1_0 : HID (F26 1 0 = (D26 2 : Int)) := (eF26 1 0).trans (pm26_2.trans (congrArg (fun q : Nat => (q : Int)) (eD26 2).symm))
      have pf26_3_1 : HID (F26 3 1 = (D26 8 : Int)) := ((show F26 3 1 = F_41 3 1 from (eF26 3 1).trans (hS26 3 1 rfl))).trans ((pf_41_3_1).trans (congrArg (fun q : Nat => (q : Int)) ((show D26 8 = D_41 8 from (eD26 8))).symm))
      have pf26_3_2 : HID (F26 3 2 = (D26 9 : Int)) := ((show F26 3 2 = F_41 3 2 from (eF26 3 2).trans (hS26 3 2 rfl))).trans ((pf_41_3_2).trans (congrArg (fun q : Nat => (q : Int)) ((show D26 9 = D_41 9 from (eD26 9))).symm))
      have pf26_3_3 : HID (F26 3 3 = (D26 10 : Int)) := ((show F26 3 3 = F_41 3 3 from (eF26 3 3).trans (hS26 3 3 rfl))).trans ((pf_41_3_3).trans (congrArg (fun q : Nat => (q : Int)) ((show D26 10 = D_41 10 from (eD26 10))).symm))
      have pf26_3_8 : HID (F26 3 8 = (D26 6 : Int)) := ((show F26 3 8 = F_41 3 8 from (eF26 3 8).trans (hS26 3 8 rfl))).trans ((pf_41_3_8).trans (congrArg (fun q : Nat => (q : Int)) ((show D26 6 = D_41 6 from (eD26 6))).symm))
      have r27 : (0 : Int) ≤ m26_2 ∧ m26_2 ≤ 1000000 := nleE (H.nle 2 (ltn len_V215_thispackeda_oz_G4cls rfl)) (show (N26 2 : Int) = m26_2 from (congrArg (fun q : Nat => (q : Int)) (eN26 2)).trans em26_2)
      have r28 : (-2147483648 : Int) ≤ y26_1_1 ∧ y26_1_1 ≤ 2147483647 := rngE (show (-2147483648 : Int) ≤ F26 1 1 ∧ F26 1 1 ≤ 2147483647 from H.krg 1 1 (ltn len_V215_thispackeda_oz_G4cls rfl)) (show F26 1 1 = y26_1_1 from ((eF26 1 1).trans ey26_1_1))
      exact w_ret rfl (k _ _ _ _ _ _ _ H O (cD26) (cN26) (cF26) (cA26) (pf26_1_0) (pf26_3_8) (pf26_3_1) (pf26_3_2) (pf26_3_3) (m26_2) ((congrArg (fun q : Nat => (q : Int)) (eN26 2)).trans em26_2) (m12_3) ((congrArg (fun q : Nat => (q : Int)) (show N26 6 = N_41 6 from (eN26 6))).trans ((congrArg (fun q : Nat => (q : Int)) (hN_41 6 rfl)).trans ((congrArg (fun q : Nat => (q : Int)) (show N17 6 = N12 6 from (eN17 6).trans (hN17 3 rfl))).trans ((congrArg (fun q : Nat => (q : Int)) (eN12 6)).trans em12_3)))) (m17_4) ((congrArg (fun q : Nat => (q : Int)) (show N26 8 = N_41 8 from (eN26 8))).trans ((congrArg (fun q : Nat => (q : Int)) (hN_41 8 rfl)).trans ((congrArg (fun q : Nat => (q : Int)) (eN17 8)).trans em17_4))) (m17_5) ((congrArg (fun q : Nat => (q : Int)) (show N26 9 = N_41 9 from (eN26 9))).trans ((congrArg (fun q : Nat => (q : Int)) (hN_41 9 rfl)).trans ((congrArg (fun q : Nat => (q : Int)) (eN17 9)).trans em17_5))) (m17_6) ((congrArg (fun q : Nat => (q : Int)) (show N26 10 = N_41 10 from (eN26 10))).trans ((congrArg (fun q : Nat => (q : Int)) (hN_41 10 rfl)).trans ((congrArg (fun q : Nat => (q : Int)) (eN17 10)).trans em17_6))) (y26_1_1) (((eF26 1 1).trans ey26_1_1)) (y12_0_6) ((((((show F26 3 6 = F_41 3 6 from (eF26 3 6).trans (hS26 3 6 rfl))).trans (hS_41 3 6 rfl)).trans ((show F17 3 6 = F12 3 6 from (eF17 3 6).trans (hS17 0 6 rfl)))).trans ((eF12 3 6).trans ey12_0_6))) (w12_3) (((show A26 6 = A_41 6 from (eA26 6))).trans ((funext (hA_41 6 rfl)).trans (((show A17 6 = A12 6 from (eA17 6).trans (funext (hA17 3 rfl)))).trans ((eA12 6).trans ew12_3)))) (w12_4) (((show A26 7 = A_41 7 from (eA26 7))).trans ((funext (hA_41 7 rfl)).trans (((show A17 7 = A12 7 from (eA17 7))).trans ((eA12 7).trans ew12_4)))) (show 0 ≤ (y26_1_1) ∧ (y26_1_1) ≤ (m26_2) ∧ (m26_2) ≤ 65536 from pz26_0) (show 0 ≤ (y12_0_6) ∧ (u3_6) ≤ (y12_0_6) ∧ (y12_0_6) ≤ (m12_3) ∧ (m12_3) ≤ 16384 from q_2777 h9 pz12_0) (show (m17_4) = (m17_5) ∧ (m17_6) = (m17_5) ∧ (m17_5) ≤ 65536 ∧ ((m17_5) = 0 ∨ 64 ≤ (m17_5)) ∧ lgq ((m17_5)) = 0 from pz17_0) (show BKI ((w5)) ((w12_3)) ((u3_10)) ((y12_0_6)) from pz12_3) (show HDI ((w5)) ((w12_4)) ((u3_10)) ((y12_0_6)) from pz12_4) (show (y12_0_6) = (u3_6) ∨ (y12_0_6) + 4 ≤ (u4_1) + 1 by omega))
    · have hfp := FDI_part (i := (x41_5)) hfd (by omega) (by omega) (by omega)
      have hfj := hfd.1 ((x41_5)) (by omega) (by omega)
      refine Ew_of (pcₚ := 54) (fun _ => x_aload_n rfl l41_0) ?_
      refine v_g H (o := 0) (v := .ref (D_41 3)) rfl rfl rfl rfl rfl (vrf ((mF_41 0 2 rfl).trans ((pf3).trans (congrArg (fun q : Nat => (q : Int)) (mD_41 3 rfl).symm)))) ?_
      refine v_g H (o := 3) (v := .ref (D_41 8)) rfl rfl rfl rfl rfl (vrf (pf_41_3_1)) ?_
      refine Ew_of (pcₚ := 62) (fun _ => x_iload rfl l41_5) ?_
      refine v_lI H (o := 8) rfl rfl rfl rfl (n := m17_4) ((congrArg (fun q : Nat => (q : Int)) (hN_41 8 rfl)).trans ((congrArg (fun q : Nat => (q : Int)) (eN17 8)).trans em17_4)) (show 0 ≤ x41_5 ∧ x41_5 < m17_4 from q_2778 b25 j41_2 pz17_0 pz17_1) (fun v29 ev29 qv29 => ?_)
      have ev29 : (w17_4) (x41_5) = v29 := (congrFun ((funext (hA_41 8 rfl)).trans ((eA17 8).trans ew17_4)) (x41_5)).symm.trans ev29
      refine Ew_of (pcₚ := 65) (fun _ => x_istore rfl) ?_
      have hl6 := ev29
      refine Ew_of (pcₚ := 66) (fun _ => x_aload_n rfl (rk_o (l41_0) rfl rfl)) ?_
      refine v_g H (o := 0) (v := .ref (D_41 3)) rfl rfl rfl rfl rfl (vrf ((mF_41 0 2 rfl).trans ((pf3).trans (congrArg (fun q : Nat => (q : Int)) (mD_41 3 rfl).symm)))) ?_
      refine v_g H (o := 3) (v := .ref (D_41 9)) rfl rfl rfl rfl rfl (vrf (pf_41_3_2)) ?_
      refine Ew_of (pcₚ := 74) (fun _ => x_iload rfl (rk_o (l41_5) rfl rfl)) ?_
      refine v_lI H (o := 9) rfl rfl rfl rfl (n := m17_5) ((congrArg (fun q : Nat => (q : Int)) (hN_41 9 rfl)).trans ((congrArg (fun q : Nat => (q : Int)) (eN17 9)).trans em17_5)) (show 0 ≤ x41_5 ∧ x41_5 < m17_5 from q_2779 b25 j41_2 pz17_1) (fun v30 ev30 qv30 => ?_)
      have ev30 : (w17_5) (x41_5) = v30 := (congrFun ((funext (hA_41 9 rfl)).trans ((eA17 9).trans ew17_5)) (x41_5)).symm.trans ev30
      refine Ew_of (pcₚ := 76) (fun _ => x_iconst rfl) ?_
      refine w_isub rfl ?_
      refine Ew_of (pcₚ := 79) (fun _ => x_istore rfl) ?_
      refine Ew_of (pcₚ := 80) (fun _ => x_aload_n rfl (rk_o (rk_o (l41_0) rfl rfl) rfl rfl)) ?_
      refine Ew_of (pcₚ := 81) (fun _ => x_aload_n rfl (rk_o (rk_o (l41_1) rfl rfl) rfl rfl)) ?_
      refine Ew_of (pcₚ := 83) (fun _ => x_iload rfl (rk_o (rk_o (l41_4) rfl rfl) rfl rfl)) ?_
      refine Ew_of (pcₚ := 85) (fun _ => x_iload rfl (rk_o (rk_s) rfl rfl)) ?_
      refine Ew_of (pcₚ := 87) (fun _ => x_iload rfl rk_s) ?_
      refine v_inv H (o := 0) rfl rfl rfl rfl rfl rfl (by rfl) (C216_thispackeda (D := puc 176197141529088 D_41) (N := puc 176197141529088 N_41) (HW_subc H oz_G4cls_15 oz_G4cls_25) ((mF_41 0 3 rfl).trans ((pf1).trans (congrArg (fun q : Nat => (q : Int)) (mD_41 1 rfl).symm))) (pm41_2) ((mF_41 0 2 rfl).trans ((pf3).trans (congrArg (fun q : Nat => (q : Int)) (mD_41 3 rfl).symm))) ((mF_41 3 0 rfl).trans ((pf4).trans (congrArg (fun q : Nat => (q : Int)) (mD_41 4 rfl).symm))) ((mF_41 4 0 rfl).trans ((pf5).trans (congrArg (fun q : Nat => (q : Int)) (mD_41 5 rfl).symm))) (m41_2) (em41_2) (n5) ((congrArg (fun q : Nat => (q : Int)) (mN_41 5 rfl)).trans (en5)) (y41_1_1) ((ey41_1_1)) (u4_1) (((mF_41 4 1 rfl).trans (eu4_1))) (show inr (x41_4) from j41_0) (show inr (v29) from qv29) (show inr ((v30 - 4)) by omega) (show 0 ≤ (y41_1_1) ∧ (y41_1_1) ≤ (m41_2) ∧ (m41_2) ≤ 65536 from j41_4) (show 0 ≤ (u4_1) ∧ (u4_1) ≤ (n5) ∧ (n5) ≤ 65536 from q_2775 h2) (show 0 ≤ (x41_4) ∧ 0 ≤ (v29) ∧ (x41_4) + (v29) ≤ (n5) by omega) (show 0 ≤ ((v30 - 4)) by omega) (fun σ31 D31ₚ N31ₚ F31ₚ A31ₚ c31 s31 Hₚ Oₚ hD31 hN31 hS31 hA31 (pm31_2 : HID _) m31_2 (em31_2 : HID _) y31_1_1 (ey31_1_1 : HID _) pz31_0 => ⟨rfl, ?_⟩))
      refine v_backMc (c := c_41) (s := s_41) H oz_G4cls_15 oz_G4cls_25 Hₚ Oₚ hD31 oz_G4cls_16 (fun D31 N31 F31 A31 H Oₚ eD31 eN31 eF31 eA31 => ?_)
      have O := OUT_trans O Oₚ
      -- Tokens.packLiterals
      have cF31 : SF oz_G4clsl_4 F F31 := SF_trans (cF_41) (SF_gluc (ι := oz_G4clsl_9) oz_G4cls_25 hS31 eF31 (by decide +kernel)) (any_sub (lₚ := [(1, 0), (1, 1), (1, 2)]) (by decide +kernel))
      have mF31 := SFm_of cF31 oz_G4cls_20
      have cA31 : SA oz_G4clsl_5 A A31 := SA_trans (cA_41) (SA_gluc (ι := oz_G4clsl_9) oz_G4cls_25 hA31 eA31 (by decide +kernel)) (any_subA (lₚ := [2]) (by decide +kernel))
      have mA31 := SAm_of cA31 oz_G4cls_21
      have cD31 : SD oz_G4clsl_6 D D31 := SD_trans (cD_41) (SD_gluc (ι := oz_G4clsl_9) oz_G4cls_25 hD31 eD31 (by decide +kernel)) (any_subA (lₚ := [2]) (by decide +kernel))
      have mD31 := SDm_of cD31 oz_G4cls_22
      have cN31 : SD oz_G4clsl_6 N N31 := SD_trans (cN_41) (SD_gluc (ι := oz_G4clsl_9) oz_G4cls_25 hN31 eN31 (by decide +kernel)) (any_subA (lₚ := [2]) (by decide +kernel))
      have mN31 := SDm_of cN31 oz_G4cls_22
      have pf31_1_0 : HID (F31 1 0 = (D31 2 : Int)) := (eF31 1 0).trans (pm31_2.trans (congrArg (fun q : Nat => (q : Int)) (eD31 2).symm))
      have pf31_3_1 : HID (F31 3 1 = (D31 8 : Int)) := ((show F31 3 1 = F_41 3 1 from (eF31 3 1).trans (hS31 3 1 rfl))).trans ((pf_41_3_1).trans (congrArg (fun q : Nat => (q : Int)) ((show D31 8 = D_41 8 from (eD31 8))).symm))
      have pf31_3_2 : HID (F31 3 2 = (D31 9 : Int)) := ((show F31 3 2 = F_41 3 2 from (eF31 3 2).trans (hS31 3 2 rfl))).trans ((pf_41_3_2).trans (congrArg (fun q : Nat => (q : Int)) ((show D31 9 = D_41 9 from (eD31 9))).symm))
      have pf31_3_3 : HID (F31 3 3 = (D31 10 : Int)) := ((show F31 3 3 = F_41 3 3 from (eF31 3 3).trans (hS31 3 3 rfl))).trans ((pf_41_3_3).trans (congrArg (fun q : Nat => (q : Int)) ((show D31 10 = D_41 10 from (eD31 10))).symm))
      have pf31_3_8 : HID (F31 3 8 = (D31 6 : Int)) := ((show F31 3 8 = F_41 3 8 from (eF31 3 8).trans (hS31 3 8 rfl))).trans ((pf_41_3_8).trans (congrArg (fun q : Nat => (q : Int)) ((show D31 6 = D_41 6 from (eD31 6))).symm))
      have r32 : (0 : Int) ≤ m31_2 ∧ m31_2 ≤ 1000000 := nleE (H.nle 2 (ltn len_V215_thispackeda_oz_G4cls rfl)) (show (N31 2 : Int) = m31_2 from (congrArg (fun q : Nat => (q : Int)) (eN31 2)).trans em31_2)
      have r33 : (-2147483648 : Int) ≤ y31_1_1 ∧ y31_1_1 ≤ 2147483647 := rngE (show (-2147483648 : Int) ≤ F31 1 1 ∧ F31 1 1 ≤ 2147483647 from H.krg 1 1 (ltn len_V215_thispackeda_oz_G4cls rfl)) (show F31 1 1 = y31_1_1 from ((eF31 1 1).trans ey31_1_1))
      refine Ew_of (pcₚ := 91) (fun _ => x_aload_n rfl (rk_o (rk_o (l41_1) rfl rfl) rfl rfl)) ?_
      refine Ew_of (pcₚ := 92) (fun _ => x_aload_n rfl (rk_o (rk_o (l41_0) rfl rfl) rfl rfl)) ?_
      refine Ew_stk (show ([.ref (D_41 0), .ref (D_41 1)] : List Value) = [.ref (D31 0), .ref (D31 1)] by rw [show D31 0 = D_41 0 from ((show D31 0 = D_41 0 from (eD31 0).trans (hD31 0 rfl))), show D31 1 = D_41 1 from ((show D31 1 = D_41 1 from (eD31 1).trans (hD31 1 rfl)))]) ?_
      refine v_g H (o := 0) (v := .ref (D31 3)) rfl rfl rfl rfl rfl (vrf ((mF31 0 2 rfl).trans ((pf3).trans (congrArg (fun q : Nat => (q : Int)) (mD31 3 rfl).symm)))) ?_
      refine v_g H (o := 3) (v := .ref (D31 10)) rfl rfl rfl rfl rfl (vrf (pf31_3_3)) ?_
      refine Ew_of (pcₚ := 100) (fun _ => x_iload rfl (rk_o (rk_o (l41_5) rfl rfl) rfl rfl)) ?_
      refine v_lI H (o := 10) rfl rfl rfl rfl (n := m17_6) ((congrArg (fun q : Nat => (q : Int)) (show N31 10 = N_41 10 from (eN31 10))).trans ((congrArg (fun q : Nat => (q : Int)) (hN_41 10 rfl)).trans ((congrArg (fun q : Nat => (q : Int)) (eN17 10)).trans em17_6))) (show 0 ≤ x41_5 ∧ x41_5 < m17_6 from q_2780 b25 j41_2 pz17_0 pz17_1) (fun v34 ev34 qv34 => ?_)
      have ev34 : (w17_6) (x41_5) = v34 := (congrFun (((show A31 10 = A_41 10 from (eA31 10))).trans ((funext (hA_41 10 rfl)).trans ((eA17 10).trans ew17_6))) (x41_5)).symm.trans ev34
      refine w_i2l rfl (show inr (v34) from qv34) ?_
      refine Ew_of (pcₚ := 103) (fun _ => x_iconst rfl) ?_
      refine v_inv H (o := 1) rfl rfl rfl rfl rfl rfl (by rfl) (C160 (D := puc 1025 D31) (N := puc 1025 N31) (HW_subc H oz_G4cls_17 oz_G4cls_8) (pf31_1_0) (m31_2) ((congrArg (fun q : Nat => (q : Int)) (eN31 2)).trans em31_2) (y31_1_1) (((eF31 1 1).trans ey31_1_1)) (show inrJ (v34) from q_428 qv34) (show inr (2) from q_55) (show 0 ≤ (y31_1_1) ∧ (y31_1_1) ≤ (m31_2) ∧ (m31_2) ≤ 65536 from pz31_0) (fun σ35 D35ₚ N35ₚ F35ₚ A35ₚ c35 s35 Hₚ Oₚ hD35 hN35 hS35 hA35 (pm35_1 : HID _) m35_1 (em35_1 : HID _) y35_0_1 (ey35_0_1 : HID _) pz35_0 pz35_1 => ⟨rfl, ?_⟩))
      refine v_backMc (c := (c_41 + c31)) (s := (s_41 + s31)) H oz_G4cls_17 oz_G4cls_8 Hₚ Oₚ hD35 oz_G4cls_18 (fun D35 N35 F35 A35 H Oₚ eD35 eN35 eF35 eA35 => ?_)
      have O := OUT_trans O Oₚ
      -- Row.addNumber
      have cF35 : SF oz_G4clsl_4 F F35 := SF_trans (cF31) (SF_gluc (ι := oz_G4clsl_2) oz_G4cls_8 hS35 eF35 (by decide +kernel)) (any_sub (lₚ := [(1, 0), (1, 1), (1, 2)]) (by decide +kernel))
      have mF35 := SFm_of cF35 oz_G4cls_20
      have cA35 : SA oz_G4clsl_5 A A35 := SA_trans (cA31) (SA_gluc (ι := oz_G4clsl_2) oz_G4cls_8 hA35 eA35 (by decide +kernel)) (any_subA (lₚ := [2]) (by decide +kernel))
      have mA35 := SAm_of cA35 oz_G4cls_21
      have cD35 : SD oz_G4clsl_6 D D35 := SD_trans (cD31) (SD_gluc (ι := oz_G4clsl_2) oz_G4cls_8 hD35 eD35 (by decide +kernel)) (any_subA (lₚ := [2]) (by decide +kernel))
      have mD35 := SDm_of cD35 oz_G4cls_22
      have cN35 : SD oz_G4clsl_6 N N35 := SD_trans (cN31) (SD_gluc (ι := oz_G4clsl_2) oz_G4cls_8 hN35 eN35 (by decide +kernel)) (any_subA (lₚ := [2]) (by decide +kernel))
      have mN35 := SDm_of cN35 oz_G4cls_22
      have pf35_1_0 : HID (F35 1 0 = (D35 2 : Int)) := (eF35 1 0).trans (pm35_1.trans (congrArg (fun q : Nat => (q : Int)) (eD35 2).symm))
      have pf35_3_1 : HID (F35 3 1 = (D35 8 : Int)) := ((show F35 3 1 = F31 3 1 from (eF35 3 1))).trans ((pf31_3_1).trans (congrArg (fun q : Nat => (q : Int)) ((show D35 8 = D31 8 from (eD35 8))).symm))
      have pf35_3_2 : HID (F35 3 2 = (D35 9 : Int)) := ((show F35 3 2 = F31 3 2 from (eF35 3 2))).trans ((pf31_3_2).trans (congrArg (fun q : Nat => (q : Int)) ((show D35 9 = D31 9 from (eD35 9))).symm))
      have pf35_3_3 : HID (F35 3 3 = (D35 10 : Int)) := ((show F35 3 3 = F31 3 3 from (eF35 3 3))).trans ((pf31_3_3).trans (congrArg (fun q : Nat => (q : Int)) ((show D35 10 = D31 10 from (eD35 10))).symm))
      have pf35_3_8 : HID (F35 3 8 = (D35 6 : Int)) := ((show F35 3 8 = F31 3 8 from (eF35 3 8))).trans ((pf31_3_8).trans (congrArg (fun q : Nat => (q : Int)) ((show D35 6 = D31 6 from (eD35 6))).symm))
      have r36 : (0 : Int) ≤ m35_1 ∧ m35_1 ≤ 1000000 := nleE (H.nle 2 (ltn len_V215_thispackeda_oz_G4cls rfl)) (show (N35 2 : Int) = m35_1 from (congrArg (fun q : Nat => (q : Int)) (eN35 2)).trans em35_1)
      have r37 : (-2147483648 : Int) ≤ y35_0_1 ∧ y35_0_1 ≤ 2147483647 := rngE (show (-2147483648 : Int) ≤ F35 1 1 ∧ F35 1 1 ≤ 2147483647 from H.krg 1 1 (ltn len_V215_thispackeda_oz_G4cls rfl)) (show F35 1 1 = y35_0_1 from ((eF35 1 1).trans ey35_0_1))
      refine Ew_of (pcₚ := 107) (fun _ => x_aload_n rfl (rk_o (rk_o (l41_1) rfl rfl) rfl rfl)) ?_
      refine Ew_of (pcₚ := 109) (fun _ => x_iload rfl rk_s) ?_
      refine Ew_stk (congrArg (fun qz : Nat => ([I ((v30 - 4)), .ref qz] : List Value)) (show D35 1 = D_41 1 from (((show D35 1 = D31 1 from (eD35 1).trans (hD35 0 rfl))).trans ((show D31 1 = D_41 1 from (eD31 1).trans (hD31 1 rfl))))).symm) ?_
      refine w_stat24 rfl rfl (by rfl) (C217_Row (D := puc 1025 D35) (N := puc 1025 N35) (HW_subc H oz_G4cls_19 oz_G4cls_8) (pf35_1_0) (m35_1) ((congrArg (fun q : Nat => (q : Int)) (eN35 2)).trans em35_1) (y35_0_1) (((eF35 1 1).trans ey35_0_1)) (show inr ((v30 - 4)) by omega) (show 0 ≤ (y35_0_1) ∧ (y35_0_1) ≤ (m35_1) ∧ (m35_1) ≤ 65536 from pz35_0) (show 0 ≤ ((v30 - 4)) by omega) (fun σ38 D38ₚ N38ₚ F38ₚ A38ₚ c38 s38 Hₚ Oₚ hD38 hN38 hS38 hA38 (pm38_1 : HID _) m38_1 (em38_1 : HID _) y38_0_1 (ey38_0_1 : HID _) pz38_0 => ⟨rfl, ?_⟩))
      refine v_backMc (c := ((c_41 + c31) + c35)) (s := ((s_41 + s31) + s35)) H oz_G4cls_19 oz_G4cls_8 Hₚ Oₚ hD38 oz_G4cls_18 (fun D38 N38 F38 A38 H Oₚ eD38 eN38 eF38 eA38 => ?_)
      have O := OUT_trans O Oₚ
      -- Tokens.packRest
      have cF38 : SF oz_G4clsl_4 F F38 := SF_trans (cF35) (SF_gluc (ι := oz_G4clsl_2) oz_G4cls_8 hS38 eF38 (by decide +kernel)) (any_sub (lₚ := [(1, 0), (1, 1), (1, 2)]) (by decide +kernel))
      have mF38 := SFm_of cF38 oz_G4cls_20
      have cA38 : SA oz_G4clsl_5 A A38 := SA_trans (cA35) (SA_gluc (ι := oz_G4clsl_2) oz_G4cls_8 hA38 eA38 (by decide +kernel)) (any_subA (lₚ := [2]) (by decide +kernel))
      have mA38 := SAm_of cA38 oz_G4cls_21
      have cD38 : SD oz_G4clsl_6 D D38 := SD_trans (cD35) (SD_gluc (ι := oz_G4clsl_2) oz_G4cls_8 hD38 eD38 (by decide +kernel)) (any_subA (lₚ := [2]) (by decide +kernel))
      have mD38 := SDm_of cD38 oz_G4cls_22
      have cN38 : SD oz_G4clsl_6 N N38 := SD_trans (cN35) (SD_gluc (ι := oz_G4clsl_2) oz_G4cls_8 hN38 eN38 (by decide +kernel)) (any_subA (lₚ := [2]) (by decide +kernel))
      have mN38 := SDm_of cN38 oz_G4cls_22
      have pf38_1_0 : HID (F38 1 0 = (D38 2 : Int)) := (eF38 1 0).trans (pm38_1.trans (congrArg (fun q : Nat => (q : Int)) (eD38 2).symm))
      have pf38_3_1 : HID (F38 3 1 = (D38 8 : Int)) := ((show F38 3 1 = F35 3 1 from (eF38 3 1))).trans ((pf35_3_1).trans (congrArg (fun q : Nat => (q : Int)) ((show D38 8 = D35 8 from (eD38 8))).symm))
      have pf38_3_2 : HID (F38 3 2 = (D38 9 : Int)) := ((show F38 3 2 = F35 3 2 from (eF38 3 2))).trans ((pf35_3_2).trans (congrArg (fun q : Nat => (q : Int)) ((show D38 9 = D35 9 from (eD38 9))).symm))
      have pf38_3_3 : HID (F38 3 3 = (D38 10 : Int)) := ((show F38 3 3 = F35 3 3 from (eF38 3 3))).trans ((pf35_3_3).trans (congrArg (fun q : Nat => (q : Int)) ((show D38 10 = D35 10 from (eD38 10))).symm))
      have pf38_3_8 : HID (F38 3 8 = (D38 6 : Int)) := ((show F38 3 8 = F35 3 8 from (eF38 3 8))).trans ((pf35_3_8).trans (congrArg (fun q : Nat => (q : Int)) ((show D38 6 = D35 6 from (eD38 6))).symm))
      have r39 : (0 : Int) ≤ m38_1 ∧ m38_1 ≤ 1000000 := nleE (H.nle 2 (ltn len_V215_thispackeda_oz_G4cls rfl)) (show (N38 2 : Int) = m38_1 from (congrArg (fun q : Nat => (q : Int)) (eN38 2)).trans em38_1)
      have r40 : (-2147483648 : Int) ≤ y38_0_1 ∧ y38_0_1 ≤ 2147483647 := rngE (show (-2147483648 : Int) ≤ F38 1 1 ∧ F38 1 1 ≤ 2147483647 from H.krg 1 1 (ltn len_V215_thispackeda_oz_G4cls rfl)) (show F38 1 1 = y38_0_1 from ((eF38 1 1).trans ey38_0_1))
      refine Ew_of (pcₚ := 114) (fun _ => x_iload rfl (rk_o (rk_o (l41_4) rfl rfl) rfl rfl)) ?_
      refine Ew_of (pcₚ := 116) (fun _ => x_iload rfl (rk_o (rk_s) rfl rfl)) ?_
      refine Ew_of (pcₚ := 117) (fun _ => x_aload_n rfl (rk_o (rk_o (l41_0) rfl rfl) rfl rfl)) ?_
      refine Ew_stk (congrArg (fun qz : Nat => ([.ref qz, I (v29), I (x41_4)] : List Value)) (show D38 0 = D_41 0 from ((((show D38 0 = D35 0 from (eD38 0))).trans ((show D35 0 = D31 0 from (eD35 0)))).trans ((show D31 0 = D_41 0 from (eD31 0).trans (hD31 0 rfl))))).symm) ?_
      refine v_g H (o := 0) (v := .ref (D38 3)) rfl rfl rfl rfl rfl (vrf ((mF38 0 2 rfl).trans ((pf3).trans (congrArg (fun q : Nat => (q : Int)) (mD38 3 rfl).symm)))) ?_
      refine v_g H (o := 3) (v := .ref (D38 9)) rfl rfl rfl rfl rfl (vrf (pf38_3_2)) ?_
      refine Ew_of (pcₚ := 125) (fun _ => x_iload rfl (rk_o (rk_o (l41_5) rfl rfl) rfl rfl)) ?_
      refine v_lI H (o := 9) rfl rfl rfl rfl (n := m17_5) ((congrArg (fun q : Nat => (q : Int)) (show N38 9 = N35 9 from (eN38 9))).trans ((congrArg (fun q : Nat => (q : Int)) (show N35 9 = N31 9 from (eN35 9))).trans ((congrArg (fun q : Nat => (q : Int)) (show N31 9 = N_41 9 from (eN31 9))).trans ((congrArg (fun q : Nat => (q : Int)) (hN_41 9 rfl)).trans ((congrArg (fun q : Nat => (q : Int)) (eN17 9)).trans em17_5))))) (show 0 ≤ x41_5 ∧ x41_5 < m17_5 from q_2779 b25 j41_2 pz17_1) (fun v41 ev41 qv41 => ?_)
      have ev41 : (w17_5) (x41_5) = v41 := (congrFun (((show A38 9 = A35 9 from (eA38 9))).trans (((show A35 9 = A31 9 from (eA35 9))).trans (((show A31 9 = A_41 9 from (eA31 9))).trans ((funext (hA_41 9 rfl)).trans ((eA17 9).trans ew17_5))))) (x41_5)).symm.trans ev41
      refine w_iadd rfl ?_
      refine w_iadd rfl ?_
      refine Ew_of (pcₚ := 130) (fun _ => x_istore rfl) ?_
      refine Ew_of (pcₚ := 133) (fun _ => x_iinc (len := 3) rfl (rk_o (rk_o (rk_o (l41_5) rfl rfl) rfl rfl) rfl rfl)) ?_
      refine Ew_of (pcₚ := 41) (fun _ => x_goto rfl rfl) ?_
      exact ih41 _ (msE hm41 q_31 (q_34 b25)) _ _ _ _ _ _ _ _ ((x41_4 + (v29 + v41))) ((x41_5 + 1)) ((rk_o (rk_o (rk_o (rk_o (l41_0) rfl rfl) rfl rfl) rfl rfl) rfl rfl).trans (congrArg (fun q : Nat => some (Value.ref q)) (((((show D38 0 = D35 0 from (eD38 0))).trans ((show D35 0 = D31 0 from (eD35 0)))).trans ((show D31 0 = D_41 0 from (eD31 0).trans (hD31 0 rfl))))).symm)) ((rk_o (rk_o (rk_o (rk_o (l41_1) rfl rfl) rfl rfl) rfl rfl) rfl rfl).trans (congrArg (fun q : Nat => some (Value.ref q)) (((((show D38 1 = D35 1 from (eD38 1).trans (hD38 0 rfl))).trans ((show D35 1 = D31 1 from (eD35 1).trans (hD35 0 rfl)))).trans ((show D31 1 = D_41 1 from (eD31 1).trans (hD31 1 rfl))))).symm)) (rk_o (rk_s) rfl rfl) (rk_s) H O (SD_trans (SD_trans (SD_trans (hD_41) (SD_gluc (ι := oz_G4clsl_9) oz_G4cls_25 hD31 eD31 (by decide +kernel)) (any_subA (lₚ := [2]) (by decide +kernel))) (SD_gluc (ι := oz_G4clsl_2) oz_G4cls_8 hD35 eD35 (by decide +kernel)) (any_subA (lₚ := [2]) (by decide +kernel))) (SD_gluc (ι := oz_G4clsl_2) oz_G4cls_8 hD38 eD38 (by decide +kernel)) (any_subA (lₚ := [2]) (by decide +kernel))) (SD_trans (SD_trans (SD_trans (hN_41) (SD_gluc (ι := oz_G4clsl_9) oz_G4cls_25 hN31 eN31 (by decide +kernel)) (any_subA (lₚ := [2]) (by decide +kernel))) (SD_gluc (ι := oz_G4clsl_2) oz_G4cls_8 hN35 eN35 (by decide +kernel)) (any_subA (lₚ := [2]) (by decide +kernel))) (SD_gluc (ι := oz_G4clsl_2) oz_G4cls_8 hN38 eN38 (by decide +kernel)) (any_subA (lₚ := [2]) (by decide +kernel))) (SF_trans (SF_trans (SF_trans (hS_41) (SF_gluc (ι := oz_G4clsl_9) oz_G4cls_25 hS31 eF31 (by decide +kernel)) (any_sub (lₚ := [(1, 0), (1, 1), (1, 2)]) (by decide +kernel))) (SF_gluc (ι := oz_G4clsl_2) oz_G4cls_8 hS35 eF35 (by decide +kernel)) (any_sub (lₚ := [(1, 0), (1, 1), (1, 2)]) (by decide +kernel))) (SF_gluc (ι := oz_G4clsl_2) oz_G4cls_8 hS38 eF38 (by decide +kernel)) (any_sub (lₚ := [(1, 0), (1, 1), (1, 2)]) (by decide +kernel))) (SA_trans (SA_trans (SA_trans (hA_41) (SA_gluc (ι := oz_G4clsl_9) oz_G4cls_25 hA31 eA31 (by decide +kernel)) (any_subA (lₚ := [2]) (by decide +kernel))) (SA_gluc (ι := oz_G4clsl_2) oz_G4cls_8 hA35 eA35 (by decide +kernel)) (any_subA (lₚ := [2]) (by decide +kernel))) (SA_gluc (ι := oz_G4clsl_2) oz_G4cls_8 hA38 eA38 (by decide +kernel)) (any_subA (lₚ := [2]) (by decide +kernel))) (pf38_1_0) (m38_1) ((congrArg (fun q : Nat => (q : Int)) (eN38 2)).trans em38_1) (y38_0_1) (((eF38 1 1).trans ey38_0_1))  (show inr ((x41_4 + (v29 + v41))) by omega) (show inr ((x41_5 + 1)) from q_2781 b25 j41_2 pz17_1 r19) (show (0) ≤ ((x41_5 + 1)) from q_29 j41_2) (show ((x41_5 + 1)) ≤ (0) ∨ ((x41_5 + 1)) ≤ ((y17_0_4)) from q_33 b25) (show 0 ≤ (y38_0_1) ∧ (y38_0_1) ≤ (m38_1) ∧ (m38_1) ≤ 65536 from pz38_0) (show ((x41_4 + (v29 + v41))) = (a2) + su (fun j => ((w17_4)) j + ((w17_5)) j) (((x41_5 + 1)) : Int).toNat by omega) rfl
abbrev V220_Row_thisfinderdataa : vV := [(0, 11, [(4, 0), (4, 0), (4, 0), (4, 0), (4, 0), (0, 0), (4, 0), (0, 0), (0, 0), (0, 0), (0, 0), (0, 0), (0, 0)]), (0, 7, [(4, 0), (0, 0), (1, 0), (0, 0), (0, 0)]), (1, 0, []), (0, 5, [(4, 0), (4, 0), (4, 0), (4, 0), (0, 0), (0, 0), (0, 0), (4, 0), (4, 0), (0, 0), (0, 0), (0, 0), (0, 0), (0, 0), (0, 0), (0, 0), (0, 0), (0, 0), (0, 0)]), (0, 7, [(4, 0), (0, 0), (1, 0), (0, 0), (0, 0)]), (1, 0, [])]
theorem len_V220_Row_thisfinderdataa_oz_G4cls : (V220_Row_thisfinderdataa).length = 6 := by decide +kernel
theorem oz_G4cls_27 : vsub V220_Row_thisfinderdataa V160 [1, 2] = true := by decide +kernel
theorem oz_G4cls_28 : vmov V220_Row_thisfinderdataa [1, 2] [1] = true := by decide +kernel
theorem oz_G4cls_29 : vsub V220_Row_thisfinderdataa V161_Br [1, 5, 2] = true := by decide +kernel
theorem oz_G4cls_30 : vmov V220_Row_thisfinderdataa [1, 5, 2] [2] = true := by decide +kernel
theorem oz_G4cls_31 : vsub V220_Row_thisfinderdataa V49_Br [5] = true := by decide +kernel
def oz_G4clsl_10 : List Nat := [5]
theorem oz_G4cls_32 : okc oz_G4clsl_10 5 = true := by decide +kernel
/-- Tokens.addBlock: this, #1, #1.bytes, this.finder, this.finder.data, this.finder.data.bytes -/
theorem C220_Row_thisfinderdataa {σE : rS} {D N : Nat → Nat} {F : hF} {A : hA} {d c s : Nat} {Q : wQ} (H : HW V220_Row_thisfinderdataa σE D N F A) {a3 a4 : Int} (pf2 : HID (F 1 0 = (D 2 : Int))) (pf3 : HID (F 0 2 = (D 3 : Int))) (pf4 : HID (F 3 0 = (D 4 : Int))) (pf5 : HID (F 4 0 = (D 5 : Int))) (n2 : Int) (en2 : HID ((N 2 : Int) = n2)) (n5 : Int) (en5 : HID ((N 5 : Int) = n5)) (u1_1 : Int) (eu1_1 : HID (F 1 1 = u1_1)) (u4_1 : Int) (eu4_1 : HID (F 4 1 = u4_1)) (h0 : inr (a3)) (h1 : inr (a4)) (h2 : (a4) = 0 ∨ (a4) = 1) (h3 : 0 ≤ (u1_1) ∧ (u1_1) ≤ (n2) ∧ (n2) ≤ 65536) (h4 : 0 ≤ (u4_1) ∧ (u4_1) ≤ (n5) ∧ (n5) ≤ 65536) (h5 : 0 ≤ (a3) ∧ (a3) ≤ (u4_1)) (k : ∀ (σ : rS) (Dₚ Nₚ : Nat → Nat) (Fₚ : hF) (Aₚ : hA) (cₚ sₚ : Nat), HW V220_Row_thisfinderdataa σ Dₚ Nₚ Fₚ Aₚ → OUT (V220_Row_thisfinderdataa).length D N σE c s Dₚ Nₚ σ cₚ sₚ → SD [2] D Dₚ → SD [2] N Nₚ → SF [(1, 0), (1, 1), (1, 2)] F Fₚ → SA [2] A Aₚ → Fₚ 1 0 = (Dₚ 2 : Int) → ∀ m2 : Int, (Nₚ 2 : Int) = m2 → ∀ y1_1 : Int, Fₚ 1 1 = y1_1 → (0 ≤ (y1_1) ∧ (y1_1) ≤ (m2) ∧ (m2) ≤ 65536) → Q none σ cₚ sₚ) : Ew 220 (d + 3) 0 (rargs 0 [.ref (D 0), .ref (D 1), .ref (D 4), I a3, I a4]) [] σE c s Q := by
  have O := OUT_refl (n := (V220_Row_thisfinderdataa).length) (D := D) (N := N) (σ := σE) (c := c) (s := s)
  have HE := H
  have r1 : (-2147483648 : Int) ≤ u1_1 ∧ u1_1 ≤ 2147483647 := rngE (show (-2147483648 : Int) ≤ F 1 1 ∧ F 1 1 ≤ 2147483647 from H.krg 1 1 (ltn len_V220_Row_thisfinderdataa_oz_G4cls rfl)) (show F 1 1 = u1_1 from (eu1_1))
  have r2 : (-2147483648 : Int) ≤ u4_1 ∧ u4_1 ≤ 2147483647 := rngE (show (-2147483648 : Int) ≤ F 4 1 ∧ F 4 1 ≤ 2147483647 from H.krg 4 1 (ltn len_V220_Row_thisfinderdataa_oz_G4cls rfl)) (show F 4 1 = u4_1 from (eu4_1))
  have r3 : (0 : Int) ≤ n2 ∧ n2 ≤ 1000000 := nleE (H.nle 2 (ltn len_V220_Row_thisfinderdataa_oz_G4cls rfl)) (show (N 2 : Int) = n2 from en2)
  have r4 : (0 : Int) ≤ n5 ∧ n5 ≤ 1000000 := nleE (H.nle 5 (ltn len_V220_Row_thisfinderdataa_oz_G4cls rfl)) (show (N 5 : Int) = n5 from en5)
  refine Ew_of (pcₚ := 1) (fun _ => x_aload_n rfl rfl) ?_
  refine v_g H (o := 4) (v := I (u4_1)) rfl rfl rfl rfl rfl (congrArg (fun z : Int => I z) ((eu4_1) : F 4 1 = u4_1)) ?_
  refine Ew_of (pcₚ := 5) (fun _ => x_iload_n rfl rfl) ?_
  refine w_isub rfl ?_
  refine Ew_of (pcₚ := 8) (fun _ => x_istore rfl) ?_
  refine Ew_of (pcₚ := 9) (fun _ => x_aload_n rfl (rk_o (rfl) rfl rfl)) ?_
  have hc26 : ∀ (tc26_0 : Int), ∀ (ls : rO) (σ : rS) (F_c26 : hF) (A_c26 : hA) , rlook ls 0 = some (.ref (D 0)) → rlook ls 1 = some (.ref (D 1)) → rlook ls 2 = some (.ref (D 4)) → rlook ls 3 = some (I (a3)) → rlook ls 5 = some (I ((u4_1 - a3))) → HW V220_Row_thisfinderdataa σ D N F_c26 A_c26 → OUT (V220_Row_thisfinderdataa).length D N σE c s D N σ c s → SF [] F F_c26 → SA [] A A_c26 → (inrJ (tc26_0)) → Ew 220 (d + 3) 26 ls [J (tc26_0), .ref (D 1)] σ c s Q := by
   as_aux_lemma =>
    intro tc26_0 ls σ F_c26 A_c26  lc26_0 lc26_1 lc26_2 lc26_3 lc26_5 H O hS_c26 hA_c26     jc26_0
    have cF_c26 : SF oz_G4clsl_0 F F_c26 := SF_trans (SF_refl) hS_c26 (any_sub (by decide +kernel))
    have mF_c26 := SFm_of cF_c26 oz_G4cls_6
    have cA_c26 : SA oz_G4clsl_1 A A_c26 := SA_trans (SA_refl) hA_c26 (any_subA (by decide +kernel))
    have mA_c26 := SAm_of cA_c26 oz_G4cls_7
    refine Ew_of (pcₚ := 27) (fun _ => x_iconst rfl) ?_
    refine v_inv H (o := 1) rfl rfl rfl rfl rfl rfl (by rfl) (C160 (D := puc 1025 D) (N := puc 1025 N) (HW_subc H oz_G4cls_27 oz_G4cls_8) (((hS_c26 1 0 rfl)).trans (pf2)) (n2) (en2) (u1_1) (((hS_c26 1 1 rfl).trans (eu1_1))) (show inrJ (tc26_0) from jc26_0) (show inr (4) from q_2) (show 0 ≤ (u1_1) ∧ (u1_1) ≤ (n2) ∧ (n2) ≤ 65536 from h3) (fun σ5 D5ₚ N5ₚ F5ₚ A5ₚ c5 s5 Hₚ Oₚ hD5 hN5 hS5 hA5 (pm5_1 : HID _) m5_1 (em5_1 : HID _) y5_0_1 (ey5_0_1 : HID _) pz5_0 pz5_1 => ⟨rfl, ?_⟩))
    refine v_backMc (c := c) (s := s) H oz_G4cls_27 oz_G4cls_8 Hₚ Oₚ hD5 oz_G4cls_28 (fun D5 N5 F5 A5 H Oₚ eD5 eN5 eF5 eA5 => ?_)
    have O := OUT_trans O Oₚ
    -- Row.addNumber
    have cF5 : SF oz_G4clsl_0 F F5 := SF_trans (cF_c26) (SF_gluc (ι := oz_G4clsl_2) oz_G4cls_8 hS5 eF5 (by decide +kernel)) (any_sub (lₚ := [(1, 0), (1, 1), (1, 2)]) (by decide +kernel))
    have mF5 := SFm_of cF5 oz_G4cls_6
    have cA5 : SA oz_G4clsl_1 A A5 := SA_trans (cA_c26) (SA_gluc (ι := oz_G4clsl_2) oz_G4cls_8 hA5 eA5 (by decide +kernel)) (any_subA (lₚ := [2]) (by decide +kernel))
    have mA5 := SAm_of cA5 oz_G4cls_7
    have cD5 : SD oz_G4clsl_1 D D5 := SD_trans (SD_refl) (SD_gluc (ι := oz_G4clsl_2) oz_G4cls_8 hD5 eD5 (by decide +kernel)) (any_subA (lₚ := [2]) (by decide +kernel))
    have mD5 := SDm_of cD5 oz_G4cls_7
    have cN5 : SD oz_G4clsl_1 N N5 := SD_trans (SD_refl) (SD_gluc (ι := oz_G4clsl_2) oz_G4cls_8 hN5 eN5 (by decide +kernel)) (any_subA (lₚ := [2]) (by decide +kernel))
    have mN5 := SDm_of cN5 oz_G4cls_7
    have pf5_1_0 : HID (F5 1 0 = (D5 2 : Int)) := (eF5 1 0).trans (pm5_1.trans (congrArg (fun q : Nat => (q : Int)) (eD5 2).symm))
    have r6 : (0 : Int) ≤ m5_1 ∧ m5_1 ≤ 1000000 := nleE (H.nle 2 (ltn len_V220_Row_thisfinderdataa_oz_G4cls rfl)) (show (N5 2 : Int) = m5_1 from (congrArg (fun q : Nat => (q : Int)) (eN5 2)).trans em5_1)
    have r7 : (-2147483648 : Int) ≤ y5_0_1 ∧ y5_0_1 ≤ 2147483647 := rngE (show (-2147483648 : Int) ≤ F5 1 1 ∧ F5 1 1 ≤ 2147483647 from H.krg 1 1 (ltn len_V220_Row_thisfinderdataa_oz_G4cls rfl)) (show F5 1 1 = y5_0_1 from ((eF5 1 1).trans ey5_0_1))
    refine Ew_of (pcₚ := 31) (fun _ => x_aload_n rfl lc26_1) ?_
    refine Ew_of (pcₚ := 32) (fun _ => x_aload_n rfl lc26_2) ?_
    refine Ew_stk (show ([.ref (D 4), .ref (D 1)] : List Value) = [.ref (D5 4), .ref (D5 1)] by rw [show D5 1 = D 1 from mD5 1 rfl, show D5 4 = D 4 from mD5 4 rfl]) ?_
    refine v_g H (o := 4) (v := .ref (D5 5)) rfl rfl rfl rfl rfl (vrf ((mF5 4 0 rfl).trans ((pf5).trans (congrArg (fun q : Nat => (q : Int)) (mD5 5 rfl).symm)))) ?_
    refine Ew_of (pcₚ := 36) (fun _ => x_iload_n rfl lc26_3) ?_
    refine Ew_of (pcₚ := 38) (fun _ => x_iload rfl lc26_5) ?_
    refine v_inv H (o := 1) rfl rfl rfl rfl rfl rfl (by rfl) (C161_Br (D := puc 526849 D5) (N := puc 526849 N5) (HW_subc H oz_G4cls_29 oz_G4cls_9) (pf5_1_0) (n5) ((congrArg (fun q : Nat => (q : Int)) (mN5 5 rfl)).trans (en5)) (m5_1) ((congrArg (fun q : Nat => (q : Int)) (eN5 2)).trans em5_1) (y5_0_1) (((eF5 1 1).trans ey5_0_1)) (A5 2) (rfl) (show inr (a3) from h0) (show inr ((u4_1 - a3)) from q_2616 h4 h5) (show 0 ≤ (y5_0_1) ∧ (y5_0_1) ≤ (m5_1) ∧ (m5_1) ≤ 65536 from pz5_0) (show ((u4_1 - a3)) < 0 ∨ 0 ≤ (a3) ∧ (a3) + ((u4_1 - a3)) ≤ (n5) from q_3031 h4 h5) (fun σ8 D8ₚ N8ₚ F8ₚ A8ₚ c8 s8 Hₚ Oₚ hD8 hN8 hS8 hA8 (pm8_2 : HID _) m8_2 (em8_2 : HID _) y8_0_1 (ey8_0_1 : HID _) w8_2 ew8_2 pz8_0 pz8_1 pz8_2 => ⟨rfl, ?_⟩))
    refine v_backMc (c := (c + c5)) (s := (s + s5)) H oz_G4cls_29 oz_G4cls_9 Hₚ Oₚ hD8 oz_G4cls_30 (fun D8 N8 F8 A8 H Oₚ eD8 eN8 eF8 eA8 => ?_)
    have O := OUT_trans O Oₚ
    -- Row.addPart
    have cF8 : SF oz_G4clsl_0 F F8 := SF_trans (cF5) (SF_gluc (ι := oz_G4clsl_3) oz_G4cls_9 hS8 eF8 (by decide +kernel)) (any_sub (lₚ := [(1, 0), (1, 1), (1, 2)]) (by decide +kernel))
    have mF8 := SFm_of cF8 oz_G4cls_6
    have cA8 : SA oz_G4clsl_1 A A8 := SA_trans (cA5) (SA_gluc (ι := oz_G4clsl_3) oz_G4cls_9 hA8 eA8 (by decide +kernel)) (any_subA (lₚ := [2]) (by decide +kernel))
    have mA8 := SAm_of cA8 oz_G4cls_7
    have cD8 : SD oz_G4clsl_1 D D8 := SD_trans (cD5) (SD_gluc (ι := oz_G4clsl_3) oz_G4cls_9 hD8 eD8 (by decide +kernel)) (any_subA (lₚ := [2]) (by decide +kernel))
    have mD8 := SDm_of cD8 oz_G4cls_7
    have cN8 : SD oz_G4clsl_1 N N8 := SD_trans (cN5) (SD_gluc (ι := oz_G4clsl_3) oz_G4cls_9 hN8 eN8 (by decide +kernel)) (any_subA (lₚ := [2]) (by decide +kernel))
    have mN8 := SDm_of cN8 oz_G4cls_7
    have pf8_1_0 : HID (F8 1 0 = (D8 2 : Int)) := (eF8 1 0).trans (pm8_2.trans (congrArg (fun q : Nat => (q : Int)) (eD8 2).symm))
    have r9 : (0 : Int) ≤ m8_2 ∧ m8_2 ≤ 1000000 := nleE (H.nle 2 (ltn len_V220_Row_thisfinderdataa_oz_G4cls rfl)) (show (N8 2 : Int) = m8_2 from (congrArg (fun q : Nat => (q : Int)) (eN8 2)).trans em8_2)
    have r10 : (-2147483648 : Int) ≤ y8_0_1 ∧ y8_0_1 ≤ 2147483647 := rngE (show (-2147483648 : Int) ≤ F8 1 1 ∧ F8 1 1 ≤ 2147483647 from H.krg 1 1 (ltn len_V220_Row_thisfinderdataa_oz_G4cls rfl)) (show F8 1 1 = y8_0_1 from ((eF8 1 1).trans ey8_0_1))
    have hc70 : ∀ (ls : rO) (σ : rS) (D_c70 N_c70 : Nat → Nat) (c_c70 s_c70 : Nat) (F_c70 : hF) (A_c70 : hA) , HW V220_Row_thisfinderdataa σ D_c70 N_c70 F_c70 A_c70 → OUT (V220_Row_thisfinderdataa).length D N σE c s D_c70 N_c70 σ c_c70 s_c70 → SD [2] D8 D_c70 → SD [2] N8 N_c70 → SF [(1, 0), (1, 1), (1, 2)] F8 F_c70 → SA [2] A8 A_c70 → F_c70 1 0 = (D_c70 2 : Int) → ∀ mc70_2 : Int, (N_c70 2 : Int) = mc70_2 → ∀ yc70_1_1 : Int, F_c70 1 1 = yc70_1_1 → (0 ≤ (yc70_1_1) ∧ (yc70_1_1) ≤ (mc70_2) ∧ (mc70_2) ≤ 65536) → Ew 220 (d + 3) 70 ls [] σ c_c70 s_c70 Q := by
     as_aux_lemma =>
      intro  ls σ D_c70 N_c70 c_c70 s_c70 F_c70 A_c70   H O hD_c70 hN_c70 hS_c70 hA_c70 pmc70_2 mc70_2 emc70_2 yc70_1_1 eyc70_1_1  jc70_0
      have cF_c70 : SF oz_G4clsl_0 F F_c70 := SF_trans (cF8) hS_c70 (any_sub (by decide +kernel))
      have mF_c70 := SFm_of cF_c70 oz_G4cls_6
      have cA_c70 : SA oz_G4clsl_1 A A_c70 := SA_trans (cA8) hA_c70 (any_subA (by decide +kernel))
      have mA_c70 := SAm_of cA_c70 oz_G4cls_7
      have cD_c70 : SD oz_G4clsl_1 D D_c70 := SD_trans (cD8) hD_c70 (any_subA (by decide +kernel))
      have mD_c70 := SDm_of cD_c70 oz_G4cls_7
      have cN_c70 : SD oz_G4clsl_1 N N_c70 := SD_trans (cN8) hN_c70 (any_subA (by decide +kernel))
      have mN_c70 := SDm_of cN_c70 oz_G4cls_7
      replace pmc70_2 := HIDm pmc70_2
      replace emc70_2 := HIDm emc70_2
      replace eyc70_1_1 := HIDm eyc70_1_1
      have r11 : (0 : Int) ≤ mc70_2 ∧ mc70_2 ≤ 1000000 := nleE (H.nle 2 (ltn len_V220_Row_thisfinderdataa_oz_G4cls rfl)) (show (N_c70 2 : Int) = mc70_2 from emc70_2)
      have r12 : (-2147483648 : Int) ≤ yc70_1_1 ∧ yc70_1_1 ≤ 2147483647 := rngE (show (-2147483648 : Int) ≤ F_c70 1 1 ∧ F_c70 1 1 ≤ 2147483647 from H.krg 1 1 (ltn len_V220_Row_thisfinderdataa_oz_G4cls rfl)) (show F_c70 1 1 = yc70_1_1 from (eyc70_1_1))
      exact w_ret rfl (k _ _ _ _ _ _ _ H O (cD_c70) (cN_c70) (cF_c70) (cA_c70) (pmc70_2) (mc70_2) (emc70_2) (yc70_1_1) ((eyc70_1_1)) (show 0 ≤ (yc70_1_1) ∧ (yc70_1_1) ≤ (mc70_2) ∧ (mc70_2) ≤ 65536 from jc70_0))
    refine Ew_of (pcₚ := 42) (fun _ => x_aload_n rfl lc26_0) ?_
    refine Ew_stk (congrArg (fun qz : Nat => ([.ref qz] : List Value)) (show D8 0 = D 0 from mD8 0 rfl).symm) ?_
    have r13 : (-2147483648 : Int) ≤ F 0 8 ∧ F 0 8 ≤ 2147483647 := rngE (show (-2147483648 : Int) ≤ F8 0 8 ∧ F8 0 8 ≤ 2147483647 from H.krg 0 8 (ltn len_V220_Row_thisfinderdataa_oz_G4cls rfl)) (show F8 0 8 = F 0 8 from (mF8 0 8 rfl))
    refine v_g H (o := 0) (v := I (F 0 8)) rfl rfl rfl rfl rfl (congrArg (fun z : Int => I z) ((mF8 0 8 rfl) : F8 0 8 = F 0 8)) ?_
    refine Ew_of (pcₚ := 47) (fun _ => x_bipush (z := 16) rfl (by decide)) ?_
    refine w_iand rfl (show inr (F 0 8) from q_22 r13) (show inr (16) from q_86) (fun z14 gz14 gaz14 gbz14 => ?_)
    refine w_ifeq (t := 70) rfl rfl (show inr (z14) from gz14) (fun b15 => ?_) (fun b15 => ?_)
    · exact hc70  _ _ _ _ _ _ _ _   H O (SD_refl) (SD_refl) (SF_refl) (SA_refl) (pf8_1_0) (m8_2) ((congrArg (fun q : Nat => (q : Int)) (eN8 2)).trans em8_2) (y8_0_1) (((eF8 1 1).trans ey8_0_1))  (show 0 ≤ (y8_0_1) ∧ (y8_0_1) ≤ (m8_2) ∧ (m8_2) ≤ 65536 from pz8_0)
    · refine Ew_of (pcₚ := 52) (fun _ => x_aload_n rfl lc26_1) ?_
      refine Ew_of (pcₚ := 53) (fun _ => x_aload_n rfl lc26_2) ?_
      refine Ew_stk (show ([.ref (D 4), .ref (D 1)] : List Value) = [.ref (D8 4), .ref (D8 1)] by rw [show D8 1 = D 1 from mD8 1 rfl, show D8 4 = D 4 from mD8 4 rfl]) ?_
      refine v_g H (o := 4) (v := .ref (D8 5)) rfl rfl rfl rfl rfl (vrf ((mF8 4 0 rfl).trans ((pf5).trans (congrArg (fun q : Nat => (q : Int)) (mD8 5 rfl).symm)))) ?_
      refine Ew_of (pcₚ := 57) (fun _ => x_iload_n rfl lc26_3) ?_
      refine Ew_of (pcₚ := 58) (fun _ => x_aload_n rfl lc26_2) ?_
      refine Ew_stk (congrArg (fun qz : Nat => ([.ref qz, I (a3), .ref (D8 5), .ref (D8 1)] : List Value)) (show D8 4 = D 4 from mD8 4 rfl).symm) ?_
      refine v_g H (o := 4) (v := I (u4_1)) rfl rfl rfl rfl rfl (congrArg (fun z : Int => I z) (((mF8 4 1 rfl).trans (eu4_1)) : F8 4 1 = u4_1)) ?_
      refine Ew_of (pcₚ := 62) (fun _ => x_iconst rfl) ?_
      refine w_stat25 rfl rfl (by rfl) (C49_Br (D := puc 5 D8) (N := puc 5 N8) (HW_subc H oz_G4cls_31 oz_G4cls_32) (n5) ((congrArg (fun q : Nat => (q : Int)) (mN8 5 rfl)).trans (en5)) (show inr (a3) from h0) (show inr (u4_1) from q_884 h4) (show inr (0) from q_20) (show 0 ≤ (a3) ∧ (a3) ≤ (u4_1) ∧ (u4_1) ≤ (n5) from q_2999 h4 h5) (fun z16 σ16 F16ₚ A16ₚ Hₚ Oₚ hS16 hA16 pz16_0 => ⟨rfl, ?_⟩))
      refine v_backc (c := ((c + c5) + c8)) (s := ((s + s5) + s8)) H oz_G4cls_31 oz_G4cls_32 Hₚ Oₚ (fun F16 A16 H Oₚ eF16 eA16 => ?_)
      have O := OUT_trans O Oₚ
      -- PackHouse.narrowSum
      have cF16 : SF oz_G4clsl_0 F F16 := SF_trans (cF8) (SF_gluc (ι := oz_G4clsl_10) oz_G4cls_32 hS16 eF16 (by decide +kernel)) (any_sub (lₚ := []) (by decide +kernel))
      have mF16 := SFm_of cF16 oz_G4cls_6
      have cA16 : SA oz_G4clsl_1 A A16 := SA_trans (cA8) (SA_gluc (ι := oz_G4clsl_10) oz_G4cls_32 hA16 eA16 (by decide +kernel)) (any_subA (lₚ := []) (by decide +kernel))
      have mA16 := SAm_of cA16 oz_G4cls_7
      refine w_i2l rfl (show inr (z16) from pz16_0) ?_
      refine Ew_of (pcₚ := 67) (fun _ => x_iconst rfl) ?_
      refine v_inv H (o := 1) rfl rfl rfl rfl rfl rfl (by rfl) (C160 (D := puc 1025 D8) (N := puc 1025 N8) (HW_subc H oz_G4cls_27 oz_G4cls_8) ((((show F16 1 0 = F8 1 0 from (eF16 1 0)))).trans (pf8_1_0)) (m8_2) ((congrArg (fun q : Nat => (q : Int)) (eN8 2)).trans em8_2) (y8_0_1) ((((show F16 1 1 = F8 1 1 from (eF16 1 1))).trans ((eF8 1 1).trans ey8_0_1))) (show inrJ (z16) from q_428 pz16_0) (show inr (4) from q_2) (show 0 ≤ (y8_0_1) ∧ (y8_0_1) ≤ (m8_2) ∧ (m8_2) ≤ 65536 from pz8_0) (fun σ17 D17ₚ N17ₚ F17ₚ A17ₚ c17 s17 Hₚ Oₚ hD17 hN17 hS17 hA17 (pm17_1 : HID _) m17_1 (em17_1 : HID _) y17_0_1 (ey17_0_1 : HID _) pz17_0 pz17_1 => ⟨rfl, ?_⟩))
      refine v_backMc (c := ((c + c5) + c8)) (s := ((s + s5) + s8)) H oz_G4cls_27 oz_G4cls_8 Hₚ Oₚ hD17 oz_G4cls_28 (fun D17 N17 F17 A17 H Oₚ eD17 eN17 eF17 eA17 => ?_)
      have O := OUT_trans O Oₚ
      -- Row.addNumber
      have cF17 : SF oz_G4clsl_0 F F17 := SF_trans (cF16) (SF_gluc (ι := oz_G4clsl_2) oz_G4cls_8 hS17 eF17 (by decide +kernel)) (any_sub (lₚ := [(1, 0), (1, 1), (1, 2)]) (by decide +kernel))
      have mF17 := SFm_of cF17 oz_G4cls_6
      have cA17 : SA oz_G4clsl_1 A A17 := SA_trans (cA16) (SA_gluc (ι := oz_G4clsl_2) oz_G4cls_8 hA17 eA17 (by decide +kernel)) (any_subA (lₚ := [2]) (by decide +kernel))
      have mA17 := SAm_of cA17 oz_G4cls_7
      have cD17 : SD oz_G4clsl_1 D D17 := SD_trans (cD8) (SD_gluc (ι := oz_G4clsl_2) oz_G4cls_8 hD17 eD17 (by decide +kernel)) (any_subA (lₚ := [2]) (by decide +kernel))
      have mD17 := SDm_of cD17 oz_G4cls_7
      have cN17 : SD oz_G4clsl_1 N N17 := SD_trans (cN8) (SD_gluc (ι := oz_G4clsl_2) oz_G4cls_8 hN17 eN17 (by decide +kernel)) (any_subA (lₚ := [2]) (by decide +kernel))
      have mN17 := SDm_of cN17 oz_G4cls_7
      have pf17_1_0 : HID (F17 1 0 = (D17 2 : Int)) := (eF17 1 0).trans (pm17_1.trans (congrArg (fun q : Nat => (q : Int)) (eD17 2).symm))
      have r18 : (0 : Int) ≤ m17_1 ∧ m17_1 ≤ 1000000 := nleE (H.nle 2 (ltn len_V220_Row_thisfinderdataa_oz_G4cls rfl)) (show (N17 2 : Int) = m17_1 from (congrArg (fun q : Nat => (q : Int)) (eN17 2)).trans em17_1)
      have r19 : (-2147483648 : Int) ≤ y17_0_1 ∧ y17_0_1 ≤ 2147483647 := rngE (show (-2147483648 : Int) ≤ F17 1 1 ∧ F17 1 1 ≤ 2147483647 from H.krg 1 1 (ltn len_V220_Row_thisfinderdataa_oz_G4cls rfl)) (show F17 1 1 = y17_0_1 from ((eF17 1 1).trans ey17_0_1))
      exact hc70  _ _ _ _ _ _ _ _   H O (SD_trans (SD_refl) (SD_gluc (ι := oz_G4clsl_2) oz_G4cls_8 hD17 eD17 (by decide +kernel)) (any_subA (lₚ := [2]) (by decide +kernel))) (SD_trans (SD_refl) (SD_gluc (ι := oz_G4clsl_2) oz_G4cls_8 hN17 eN17 (by decide +kernel)) (any_subA (lₚ := [2]) (by decide +kernel))) (SF_trans (SF_trans (SF_refl) (SF_gluc (ι := oz_G4clsl_10) oz_G4cls_32 hS16 eF16 (by decide +kernel)) (any_sub (lₚ := []) (by decide +kernel))) (SF_gluc (ι := oz_G4clsl_2) oz_G4cls_8 hS17 eF17 (by decide +kernel)) (any_sub (lₚ := [(1, 0), (1, 1), (1, 2)]) (by decide +kernel))) (SA_trans (SA_trans (SA_refl) (SA_gluc (ι := oz_G4clsl_10) oz_G4cls_32 hA16 eA16 (by decide +kernel)) (any_subA (lₚ := []) (by decide +kernel))) (SA_gluc (ι := oz_G4clsl_2) oz_G4cls_8 hA17 eA17 (by decide +kernel)) (any_subA (lₚ := [2]) (by decide +kernel))) (pf17_1_0) (m17_1) ((congrArg (fun q : Nat => (q : Int)) (eN17 2)).trans em17_1) (y17_0_1) (((eF17 1 1).trans ey17_0_1))  (show 0 ≤ (y17_0_1) ∧ (y17_0_1) ≤ (m17_1) ∧ (m17_1) ≤ 65536 from pz17_0)
  refine Ew_of (pcₚ := 11) (fun _ => x_iload rfl (rk_o (rfl) rfl rfl)) ?_
  refine w_ifeq (t := 23) rfl rfl (show inr (a4) from h1) (fun b20 => ?_) (fun b20 => ?_)
  · refine Ew_of (pcₚ := 25) (fun _ => x_iload rfl rk_s) ?_
    refine w_i2l rfl (show inr ((u4_1 - a3)) from q_2616 h4 h5) ?_
    exact hc26 ((u4_1 - a3)) _ _ _ _  (rk_o (rfl) rfl rfl) (rk_o (rfl) rfl rfl) (rk_o (rfl) rfl rfl) (rk_o (rfl) rfl rfl) (rk_s) H O (SF_refl) (SA_refl)     (show inrJ ((u4_1 - a3)) from q_2995 h4 h5)
  · refine Ew_of (pcₚ := 16) (fun _ => x_iload rfl rk_s) ?_
    refine Ew_of (pcₚ := 18) (fun _ => x_ldc (z := -2147483648) rfl (by decide)) ?_
    refine w_ior rfl (fun z21 gz21 => ?_)
    refine w_i2l rfl (show inr (z21) from gz21) ?_
    refine Ew_of (pcₚ := 26) (fun _ => x_goto rfl rfl) ?_
    exact hc26 (z21) _ _ _ _  (rk_o (rfl) rfl rfl) (rk_o (rfl) rfl rfl) (rk_o (rfl) rfl rfl) (rk_o (rfl) rfl rfl) (rk_s) H O (SF_refl) (SA_refl)     (show inrJ (z21) from q_428 gz21)
abbrev V220_Row_thispackeda : vV := [(0, 11, [(4, 0), (4, 0), (4, 0), (4, 0), (4, 0), (0, 0), (4, 0), (0, 0), (0, 0), (0, 0), (0, 0), (0, 0), (0, 0)]), (0, 7, [(4, 0), (0, 0), (1, 0), (0, 0), (0, 0)]), (1, 0, []), (0, 7, [(4, 0), (0, 0), (1, 0), (0, 0), (0, 0)]), (1, 0, [])]
theorem len_V220_Row_thispackeda_oz_G4cls : (V220_Row_thispackeda).length = 5 := by decide +kernel
theorem oz_G4cls_34 : vsub V220_Row_thispackeda V160 [1, 2] = true := by decide +kernel
theorem oz_G4cls_35 : vmov V220_Row_thispackeda [1, 2] [1] = true := by decide +kernel
theorem oz_G4cls_36 : vsub V220_Row_thispackeda V161_Br [1, 4, 2] = true := by decide +kernel
theorem oz_G4cls_37 : vmov V220_Row_thispackeda [1, 4, 2] [2] = true := by decide +kernel
theorem oz_G4cls_38 : vsub V220_Row_thispackeda V49_Br [4] = true := by decide +kernel
def oz_G4clsl_11 : List Nat := [1, 4, 2]
theorem oz_G4cls_39 : okc oz_G4clsl_11 526337 = true := by decide +kernel
def oz_G4clsl_12 : List Nat := [4]
theorem oz_G4cls_40 : okc oz_G4clsl_12 4 = true := by decide +kernel
/-- Tokens.addBlock: this, #1, #1.bytes, this.packed, this.packed.bytes -/
theorem C220_Row_thispackeda {σE : rS} {D N : Nat → Nat} {F : hF} {A : hA} {d c s : Nat} {Q : wQ} (H : HW V220_Row_thispackeda σE D N F A) {a3 a4 : Int} (pf2 : HID (F 1 0 = (D 2 : Int))) (pf3 : HID (F 0 3 = (D 3 : Int))) (pf4 : HID (F 3 0 = (D 4 : Int))) (n2 : Int) (en2 : HID ((N 2 : Int) = n2)) (n4 : Int) (en4 : HID ((N 4 : Int) = n4)) (u1_1 : Int) (eu1_1 : HID (F 1 1 = u1_1)) (u3_1 : Int) (eu3_1 : HID (F 3 1 = u3_1)) (h0 : inr (a3)) (h1 : inr (a4)) (h2 : (a4) = 0 ∨ (a4) = 1) (h3 : 0 ≤ (u1_1) ∧ (u1_1) ≤ (n2) ∧ (n2) ≤ 65536) (h4 : 0 ≤ (u3_1) ∧ (u3_1) ≤ (n4) ∧ (n4) ≤ 65536) (h5 : 0 ≤ (a3) ∧ (a3) ≤ (u3_1)) (k : ∀ (σ : rS) (Dₚ Nₚ : Nat → Nat) (Fₚ : hF) (Aₚ : hA) (cₚ sₚ : Nat), HW V220_Row_thispackeda σ Dₚ Nₚ Fₚ Aₚ → OUT (V220_Row_thispackeda).length D N σE c s Dₚ Nₚ σ cₚ sₚ → SD [2] D Dₚ → SD [2] N Nₚ → SF [(1, 0), (1, 1), (1, 2)] F Fₚ → SA [2] A Aₚ → Fₚ 1 0 = (Dₚ 2 : Int) → ∀ m2 : Int, (Nₚ 2 : Int) = m2 → ∀ y1_1 : Int, Fₚ 1 1 = y1_1 → (0 ≤ (y1_1) ∧ (y1_1) ≤ (m2) ∧ (m2) ≤ 65536) → Q none σ cₚ sₚ) : Ew 220 (d + 3) 0 (rargs 0 [.ref (D 0), .ref (D 1), .ref (D 3), I a3, I a4]) [] σE c s Q := by
  have O := OUT_refl (n := (V220_Row_thispackeda).length) (D := D) (N := N) (σ := σE) (c := c) (s := s)
  have HE := H
  have r1 : (-2147483648 : Int) ≤ u1_1 ∧ u1_1 ≤ 2147483647 := rngE (show (-2147483648 : Int) ≤ F 1 1 ∧ F 1 1 ≤ 2147483647 from H.krg 1 1 (ltn len_V220_Row_thispackeda_oz_G4cls rfl)) (show F 1 1 = u1_1 from (eu1_1))
  have r2 : (-2147483648 : Int) ≤ u3_1 ∧ u3_1 ≤ 2147483647 := rngE (show (-2147483648 : Int) ≤ F 3 1 ∧ F 3 1 ≤ 2147483647 from H.krg 3 1 (ltn len_V220_Row_thispackeda_oz_G4cls rfl)) (show F 3 1 = u3_1 from (eu3_1))
  have r3 : (0 : Int) ≤ n2 ∧ n2 ≤ 1000000 := nleE (H.nle 2 (ltn len_V220_Row_thispackeda_oz_G4cls rfl)) (show (N 2 : Int) = n2 from en2)
  have r4 : (0 : Int) ≤ n4 ∧ n4 ≤ 1000000 := nleE (H.nle 4 (ltn len_V220_Row_thispackeda_oz_G4cls rfl)) (show (N 4 : Int) = n4 from en4)
  refine Ew_of (pcₚ := 1) (fun _ => x_aload_n rfl rfl) ?_
  refine v_g H (o := 3) (v := I (u3_1)) rfl rfl rfl rfl rfl (congrArg (fun z : Int => I z) ((eu3_1) : F 3 1 = u3_1)) ?_
  refine Ew_of (pcₚ := 5) (fun _ => x_iload_n rfl rfl) ?_
  refine w_isub rfl ?_
  refine Ew_of (pcₚ := 8) (fun _ => x_istore rfl) ?_
  refine Ew_of (pcₚ := 9) (fun _ => x_aload_n rfl (rk_o (rfl) rfl rfl)) ?_
  have hc26 : ∀ (tc26_0 : Int), ∀ (ls : rO) (σ : rS) (F_c26 : hF) (A_c26 : hA) , rlook ls 0 = some (.ref (D 0)) → rlook ls 1 = some (.ref (D 1)) → rlook ls 2 = some (.ref (D 3)) → rlook ls 3 = some (I (a3)) → rlook ls 5 = some (I ((u3_1 - a3))) → HW V220_Row_thispackeda σ D N F_c26 A_c26 → OUT (V220_Row_thispackeda).length D N σE c s D N σ c s → SF [] F F_c26 → SA [] A A_c26 → (inrJ (tc26_0)) → Ew 220 (d + 3) 26 ls [J (tc26_0), .ref (D 1)] σ c s Q := by
   as_aux_lemma =>
    intro tc26_0 ls σ F_c26 A_c26  lc26_0 lc26_1 lc26_2 lc26_3 lc26_5 H O hS_c26 hA_c26     jc26_0
    have cF_c26 : SF oz_G4clsl_0 F F_c26 := SF_trans (SF_refl) hS_c26 (any_sub (by decide +kernel))
    have mF_c26 := SFm_of cF_c26 oz_G4cls_6
    have cA_c26 : SA oz_G4clsl_1 A A_c26 := SA_trans (SA_refl) hA_c26 (any_subA (by decide +kernel))
    have mA_c26 := SAm_of cA_c26 oz_G4cls_7
    refine Ew_of (pcₚ := 27) (fun _ => x_iconst rfl) ?_
    refine v_inv H (o := 1) rfl rfl rfl rfl rfl rfl (by rfl) (C160 (D := puc 1025 D) (N := puc 1025 N) (HW_subc H oz_G4cls_34 oz_G4cls_8) (((hS_c26 1 0 rfl)).trans (pf2)) (n2) (en2) (u1_1) (((hS_c26 1 1 rfl).trans (eu1_1))) (show inrJ (tc26_0) from jc26_0) (show inr (4) from q_2) (show 0 ≤ (u1_1) ∧ (u1_1) ≤ (n2) ∧ (n2) ≤ 65536 from h3) (fun σ5 D5ₚ N5ₚ F5ₚ A5ₚ c5 s5 Hₚ Oₚ hD5 hN5 hS5 hA5 (pm5_1 : HID _) m5_1 (em5_1 : HID _) y5_0_1 (ey5_0_1 : HID _) pz5_0 pz5_1 => ⟨rfl, ?_⟩))
    refine v_backMc (c := c) (s := s) H oz_G4cls_34 oz_G4cls_8 Hₚ Oₚ hD5 oz_G4cls_35 (fun D5 N5 F5 A5 H Oₚ eD5 eN5 eF5 eA5 => ?_)
    have O := OUT_trans O Oₚ
    -- Row.addNumber
    have cF5 : SF oz_G4clsl_0 F F5 := SF_trans (cF_c26) (SF_gluc (ι := oz_G4clsl_2) oz_G4cls_8 hS5 eF5 (by decide +kernel)) (any_sub (lₚ := [(1, 0), (1, 1), (1, 2)]) (by decide +kernel))
    have mF5 := SFm_of cF5 oz_G4cls_6
    have cA5 : SA oz_G4clsl_1 A A5 := SA_trans (cA_c26) (SA_gluc (ι := oz_G4clsl_2) oz_G4cls_8 hA5 eA5 (by decide +kernel)) (any_subA (lₚ := [2]) (by decide +kernel))
    have mA5 := SAm_of cA5 oz_G4cls_7
    have cD5 : SD oz_G4clsl_1 D D5 := SD_trans (SD_refl) (SD_gluc (ι := oz_G4clsl_2) oz_G4cls_8 hD5 eD5 (by decide +kernel)) (any_subA (lₚ := [2]) (by decide +kernel))
    have mD5 := SDm_of cD5 oz_G4cls_7
    have cN5 : SD oz_G4clsl_1 N N5 := SD_trans (SD_refl) (SD_gluc (ι := oz_G4clsl_2) oz_G4cls_8 hN5 eN5 (by decide +kernel)) (any_subA (lₚ := [2]) (by decide +kernel))
    have mN5 := SDm_of cN5 oz_G4cls_7
    have pf5_1_0 : HID (F5 1 0 = (D5 2 : Int)) := (eF5 1 0).trans (pm5_1.trans (congrArg (fun q : Nat => (q : Int)) (eD5 2).symm))
    have r6 : (0 : Int) ≤ m5_1 ∧ m5_1 ≤ 1000000 := nleE (H.nle 2 (ltn len_V220_Row_thispackeda_oz_G4cls rfl)) (show (N5 2 : Int) = m5_1 from (congrArg (fun q : Nat => (q : Int)) (eN5 2)).trans em5_1)
    have r7 : (-2147483648 : Int) ≤ y5_0_1 ∧ y5_0_1 ≤ 2147483647 := rngE (show (-2147483648 : Int) ≤ F5 1 1 ∧ F5 1 1 ≤ 2147483647 from H.krg 1 1 (ltn len_V220_Row_thispackeda_oz_G4cls rfl)) (show F5 1 1 = y5_0_1 from ((eF5 1 1).trans ey5_0_1))
    refine Ew_of (pcₚ := 31) (fun _ => x_aload_n rfl lc26_1) ?_
    refine Ew_of (pcₚ := 32) (fun _ => x_aload_n rfl lc26_2) ?_
    refine Ew_stk (show ([.ref (D 3), .ref (D 1)] : List Value) = [.ref (D5 3), .ref (D5 1)] by rw [show D5 1 = D 1 from mD5 1 rfl, show D5 3 = D 3 from mD5 3 rfl]) ?_
    refine v_g H (o := 3) (v := .ref (D5 4)) rfl rfl rfl rfl rfl (vrf ((mF5 3 0 rfl).trans ((pf4).trans (congrArg (fun q : Nat => (q : Int)) (mD5 4 rfl).symm)))) ?_
    refine Ew_of (pcₚ := 36) (fun _ => x_iload_n rfl lc26_3) ?_
    refine Ew_of (pcₚ := 38) (fun _ => x_iload rfl lc26_5) ?_
    refine v_inv H (o := 1) rfl rfl rfl rfl rfl rfl (by rfl) (C161_Br (D := puc 526337 D5) (N := puc 526337 N5) (HW_subc H oz_G4cls_36 oz_G4cls_39) (pf5_1_0) (n4) ((congrArg (fun q : Nat => (q : Int)) (mN5 4 rfl)).trans (en4)) (m5_1) ((congrArg (fun q : Nat => (q : Int)) (eN5 2)).trans em5_1) (y5_0_1) (((eF5 1 1).trans ey5_0_1)) (A5 2) (rfl) (show inr (a3) from h0) (show inr ((u3_1 - a3)) from q_2616 h4 h5) (show 0 ≤ (y5_0_1) ∧ (y5_0_1) ≤ (m5_1) ∧ (m5_1) ≤ 65536 from pz5_0) (show ((u3_1 - a3)) < 0 ∨ 0 ≤ (a3) ∧ (a3) + ((u3_1 - a3)) ≤ (n4) from q_3031 h4 h5) (fun σ8 D8ₚ N8ₚ F8ₚ A8ₚ c8 s8 Hₚ Oₚ hD8 hN8 hS8 hA8 (pm8_2 : HID _) m8_2 (em8_2 : HID _) y8_0_1 (ey8_0_1 : HID _) w8_2 ew8_2 pz8_0 pz8_1 pz8_2 => ⟨rfl, ?_⟩))
    refine v_backMc (c := (c + c5)) (s := (s + s5)) H oz_G4cls_36 oz_G4cls_39 Hₚ Oₚ hD8 oz_G4cls_37 (fun D8 N8 F8 A8 H Oₚ eD8 eN8 eF8 eA8 => ?_)
    have O := OUT_trans O Oₚ
    -- Row.addPart
    have cF8 : SF oz_G4clsl_0 F F8 := SF_trans (cF5) (SF_gluc (ι := oz_G4clsl_11) oz_G4cls_39 hS8 eF8 (by decide +kernel)) (any_sub (lₚ := [(1, 0), (1, 1), (1, 2)]) (by decide +kernel))
    have mF8 := SFm_of cF8 oz_G4cls_6
    have cA8 : SA oz_G4clsl_1 A A8 := SA_trans (cA5) (SA_gluc (ι := oz_G4clsl_11) oz_G4cls_39 hA8 eA8 (by decide +kernel)) (any_subA (lₚ := [2]) (by decide +kernel))
    have mA8 := SAm_of cA8 oz_G4cls_7
    have cD8 : SD oz_G4clsl_1 D D8 := SD_trans (cD5) (SD_gluc (ι := oz_G4clsl_11) oz_G4cls_39 hD8 eD8 (by decide +kernel)) (any_subA (lₚ := [2]) (by decide +kernel))
    have mD8 := SDm_of cD8 oz_G4cls_7
    have cN8 : SD oz_G4clsl_1 N N8 := SD_trans (cN5) (SD_gluc (ι := oz_G4clsl_11) oz_G4cls_39 hN8 eN8 (by decide +kernel)) (any_subA (lₚ := [2]) (by decide +kernel))
    have mN8 := SDm_of cN8 oz_G4cls_7
    have pf8_1_0 : HID (F8 1 0 = (D8 2 : Int)) := (eF8 1 0).trans (pm8_2.trans (congrArg (fun q : Nat => (q : Int)) (eD8 2).symm))
    have r9 : (0 : Int) ≤ m8_2 ∧ m8_2 ≤ 1000000 := nleE (H.nle 2 (ltn len_V220_Row_thispackeda_oz_G4cls rfl)) (show (N8 2 : Int) = m8_2 from (congrArg (fun q : Nat => (q : Int)) (eN8 2)).trans em8_2)
    have r10 : (-2147483648 : Int) ≤ y8_0_1 ∧ y8_0_1 ≤ 2147483647 := rngE (show (-2147483648 : Int) ≤ F8 1 1 ∧ F8 1 1 ≤ 2147483647 from H.krg 1 1 (ltn len_V220_Row_thispackeda_oz_G4cls rfl)) (show F8 1 1 = y8_0_1 from ((eF8 1 1).trans ey8_0_1))
    have hc70 : ∀ (ls : rO) (σ : rS) (D_c70 N_c70 : Nat → Nat) (c_c70 s_c70 : Nat) (F_c70 : hF) (A_c70 : hA) , HW V220_Row_thispackeda σ D_c70 N_c70 F_c70 A_c70 → OUT (V220_Row_thispackeda).length D N σE c s D_c70 N_c70 σ c_c70 s_c70 → SD [2] D8 D_c70 → SD [2] N8 N_c70 → SF [(1, 0), (1, 1), (1, 2)] F8 F_c70 → SA [2] A8 A_c70 → F_c70 1 0 = (D_c70 2 : Int) → ∀ mc70_2 : Int, (N_c70 2 : Int) = mc70_2 → ∀ yc70_1_1 : Int, F_c70 1 1 = yc70_1_1 → (0 ≤ (yc70_1_1) ∧ (yc70_1_1) ≤ (mc70_2) ∧ (mc70_2) ≤ 65536) → Ew 220 (d + 3) 70 ls [] σ c_c70 s_c70 Q := by
     as_aux_lemma =>
      intro  ls σ D_c70 N_c70 c_c70 s_c70 F_c70 A_c70   H O hD_c70 hN_c70 hS_c70 hA_c70 pmc70_2 mc70_2 emc70_2 yc70_1_1 eyc70_1_1  jc70_0
      have cF_c70 : SF oz_G4clsl_0 F F_c70 := SF_trans (cF8) hS_c70 (any_sub (by decide +kernel))
      have mF_c70 := SFm_of cF_c70 oz_G4cls_6
      have cA_c70 : SA oz_G4clsl_1 A A_c70 := SA_trans (cA8) hA_c70 (any_subA (by decide +kernel))
      have mA_c70 := SAm_of cA_c70 oz_G4cls_7
      have cD_c70 : SD oz_G4clsl_1 D D_c70 := SD_trans (cD8) hD_c70 (any_subA (by decide +kernel))
      have mD_c70 := SDm_of cD_c70 oz_G4cls_7
      have cN_c70 : SD oz_G4clsl_1 N N_c70 := SD_trans (cN8) hN_c70 (any_subA (by decide +kernel))
      have mN_c70 := SDm_of cN_c70 oz_G4cls_7
      replace pmc70_2 := HIDm pmc70_2
      replace emc70_2 := HIDm emc70_2
      replace eyc70_1_1 := HIDm eyc70_1_1
      have r11 : (0 : Int) ≤ mc70_2 ∧ mc70_2 ≤ 1000000 := nleE (H.nle 2 (ltn len_V220_Row_thispackeda_oz_G4cls rfl)) (show (N_c70 2 : Int) = mc70_2 from emc70_2)
      have r12 : (-2147483648 : Int) ≤ yc70_1_1 ∧ yc70_1_1 ≤ 2147483647 := rngE (show (-2147483648 : Int) ≤ F_c70 1 1 ∧ F_c70 1 1 ≤ 2147483647 from H.krg 1 1 (ltn len_V220_Row_thispackeda_oz_G4cls rfl)) (show F_c70 1 1 = yc70_1_1 from (eyc70_1_1))
      exact w_ret rfl (k _ _ _ _ _ _ _ H O (cD_c70) (cN_c70) (cF_c70) (cA_c70) (pmc70_2) (mc70_2) (emc70_2) (yc70_1_1) ((eyc70_1_1)) (show 0 ≤ (yc70_1_1) ∧ (yc70_1_1) ≤ (mc70_2) ∧ (mc70_2) ≤ 65536 from jc70_0))
    refine Ew_of (pcₚ := 42) (fun _ => x_aload_n rfl lc26_0) ?_
    refine Ew_stk (congrArg (fun qz : Nat => ([.ref qz] : List Value)) (show D8 0 = D 0 from mD8 0 rfl).symm) ?_
    have r13 : (-2147483648 : Int) ≤ F 0 8 ∧ F 0 8 ≤ 2147483647 := rngE (show (-2147483648 : Int) ≤ F8 0 8 ∧ F8 0 8 ≤ 2147483647 from H.krg 0 8 (ltn len_V220_Row_thispackeda_oz_G4cls rfl)) (show F8 0 8 = F 0 8 from (mF8 0 8 rfl))
    refine v_g H (o := 0) (v := I (F 0 8)) rfl rfl rfl rfl rfl (congrArg (fun z : Int => I z) ((mF8 0 8 rfl) : F8 0 8 = F 0 8)) ?_
    refine Ew_of (pcₚ := 47) (fun _ => x_bipush (z := 16) rfl (by decide)) ?_
    refine w_iand rfl (show inr (F 0 8) from q_22 r13) (show inr (16) from q_86) (fun z14 gz14 gaz14 gbz14 => ?_)
    refine w_ifeq (t := 70) rfl rfl (show inr (z14) from gz14) (fun b15 => ?_) (fun b15 => ?_)
    · exact hc70  _ _ _ _ _ _ _ _   H O (SD_refl) (SD_refl) (SF_refl) (SA_refl) (pf8_1_0) (m8_2) ((congrArg (fun q : Nat => (q : Int)) (eN8 2)).trans em8_2) (y8_0_1) (((eF8 1 1).trans ey8_0_1))  (show 0 ≤ (y8_0_1) ∧ (y8_0_1) ≤ (m8_2) ∧ (m8_2) ≤ 65536 from pz8_0)
    · refine Ew_of (pcₚ := 52) (fun _ => x_aload_n rfl lc26_1) ?_
      refine Ew_of (pcₚ := 53) (fun _ => x_aload_n rfl lc26_2) ?_
      refine Ew_stk (show ([.ref (D 3), .ref (D 1)] : List Value) = [.ref (D8 3), .ref (D8 1)] by rw [show D8 1 = D 1 from mD8 1 rfl, show D8 3 = D 3 from mD8 3 rfl]) ?_
      refine v_g H (o := 3) (v := .ref (D8 4)) rfl rfl rfl rfl rfl (vrf ((mF8 3 0 rfl).trans ((pf4).trans (congrArg (fun q : Nat => (q : Int)) (mD8 4 rfl).symm)))) ?_
      refine Ew_of (pcₚ := 57) (fun _ => x_iload_n rfl lc26_3) ?_
      refine Ew_of (pcₚ := 58) (fun _ => x_aload_n rfl lc26_2) ?_
      refine Ew_stk (congrArg (fun qz : Nat => ([.ref qz, I (a3), .ref (D8 4), .ref (D8 1)] : List Value)) (show D8 3 = D 3 from mD8 3 rfl).symm) ?_
      refine v_g H (o := 3) (v := I (u3_1)) rfl rfl rfl rfl rfl (congrArg (fun z : Int => I z) (((mF8 3 1 rfl).trans (eu3_1)) : F8 3 1 = u3_1)) ?_
      refine Ew_of (pcₚ := 62) (fun _ => x_iconst rfl) ?_
      refine w_stat25 rfl rfl (by rfl) (C49_Br (D := puc 4 D8) (N := puc 4 N8) (HW_subc H oz_G4cls_38 oz_G4cls_40) (n4) ((congrArg (fun q : Nat => (q : Int)) (mN8 4 rfl)).trans (en4)) (show inr (a3) from h0) (show inr (u3_1) from q_884 h4) (show inr (0) from q_20) (show 0 ≤ (a3) ∧ (a3) ≤ (u3_1) ∧ (u3_1) ≤ (n4) from q_2999 h4 h5) (fun z16 σ16 F16ₚ A16ₚ Hₚ Oₚ hS16 hA16 pz16_0 => ⟨rfl, ?_⟩))
      refine v_backc (c := ((c + c5) + c8)) (s := ((s + s5) + s8)) H oz_G4cls_38 oz_G4cls_40 Hₚ Oₚ (fun F16 A16 H Oₚ eF16 eA16 => ?_)
      have O := OUT_trans O Oₚ
      -- PackHouse.narrowSum
      have cF16 : SF oz_G4clsl_0 F F16 := SF_trans (cF8) (SF_gluc (ι := oz_G4clsl_12) oz_G4cls_40 hS16 eF16 (by decide +kernel)) (any_sub (lₚ := []) (by decide +kernel))
      have mF16 := SFm_of cF16 oz_G4cls_6
      have cA16 : SA oz_G4clsl_1 A A16 := SA_trans (cA8) (SA_gluc (ι := oz_G4clsl_12) oz_G4cls_40 hA16 eA16 (by decide +kernel)) (any_subA (lₚ := []) (by decide +kernel))
      have mA16 := SAm_of cA16 oz_G4cls_7
      refine w_i2l rfl (show inr (z16) from pz16_0) ?_
      refine Ew_of (pcₚ := 67) (fun _ => x_iconst rfl) ?_
      refine v_inv H (o := 1) rfl rfl rfl rfl rfl rfl (by rfl) (C160 (D := puc 1025 D8) (N := puc 1025 N8) (HW_subc H oz_G4cls_34 oz_G4cls_8) ((((show F16 1 0 = F8 1 0 from (eF16 1 0)))).trans (pf8_1_0)) (m8_2) ((congrArg (fun q : Nat => (q : Int)) (eN8 2)).trans em8_2) (y8_0_1) ((((show F16 1 1 = F8 1 1 from (eF16 1 1))).trans ((eF8 1 1).trans ey8_0_1))) (show inrJ (z16) from q_428 pz16_0) (show inr (4) from q_2) (show 0 ≤ (y8_0_1) ∧ (y8_0_1) ≤ (m8_2) ∧ (m8_2) ≤ 65536 from pz8_0) (fun σ17 D17ₚ N17ₚ F17ₚ A17ₚ c17 s17 Hₚ Oₚ hD17 hN17 hS17 hA17 (pm17_1 : HID _) m17_1 (em17_1 : HID _) y17_0_1 (ey17_0_1 : HID _) pz17_0 pz17_1 => ⟨rfl, ?_⟩))
      refine v_backMc (c := ((c + c5) + c8)) (s := ((s + s5) + s8)) H oz_G4cls_34 oz_G4cls_8 Hₚ Oₚ hD17 oz_G4cls_35 (fun D17 N17 F17 A17 H Oₚ eD17 eN17 eF17 eA17 => ?_)
      have O := OUT_trans O Oₚ
      -- Row.addNumber
      have cF17 : SF oz_G4clsl_0 F F17 := SF_trans (cF16) (SF_gluc (ι := oz_G4clsl_2) oz_G4cls_8 hS17 eF17 (by decide +kernel)) (any_sub (lₚ := [(1, 0), (1, 1), (1, 2)]) (by decide +kernel))
      have mF17 := SFm_of cF17 oz_G4cls_6
      have cA17 : SA oz_G4clsl_1 A A17 := SA_trans (cA16) (SA_gluc (ι := oz_G4clsl_2) oz_G4cls_8 hA17 eA17 (by decide +kernel)) (any_subA (lₚ := [2]) (by decide +kernel))
      have mA17 := SAm_of cA17 oz_G4cls_7
      have cD17 : SD oz_G4clsl_1 D D17 := SD_trans (cD8) (SD_gluc (ι := oz_G4clsl_2) oz_G4cls_8 hD17 eD17 (by decide +kernel)) (any_subA (lₚ := [2]) (by decide +kernel))
      have mD17 := SDm_of cD17 oz_G4cls_7
      have cN17 : SD oz_G4clsl_1 N N17 := SD_trans (cN8) (SD_gluc (ι := oz_G4clsl_2) oz_G4cls_8 hN17 eN17 (by decide +kernel)) (any_subA (lₚ := [2]) (by decide +kernel))
      have mN17 := SDm_of cN17 oz_G4cls_7
      have pf17_1_0 : HID (F17 1 0 = (D17 2 : Int)) := (eF17 1 0).trans (pm17_1.trans (congrArg (fun q : Nat => (q : Int)) (eD17 2).symm))
      have r18 : (0 : Int) ≤ m17_1 ∧ m17_1 ≤ 1000000 := nleE (H.nle 2 (ltn len_V220_Row_thispackeda_oz_G4cls rfl)) (show (N17 2 : Int) = m17_1 from (congrArg (fun q : Nat => (q : Int)) (eN17 2)).trans em17_1)
      have r19 : (-2147483648 : Int) ≤ y17_0_1 ∧ y17_0_1 ≤ 2147483647 := rngE (show (-2147483648 : Int) ≤ F17 1 1 ∧ F17 1 1 ≤ 2147483647 from H.krg 1 1 (ltn len_V220_Row_thispackeda_oz_G4cls rfl)) (show F17 1 1 = y17_0_1 from ((eF17 1 1).trans ey17_0_1))
      exact hc70  _ _ _ _ _ _ _ _   H O (SD_trans (SD_refl) (SD_gluc (ι := oz_G4clsl_2) oz_G4cls_8 hD17 eD17 (by decide +kernel)) (any_subA (lₚ := [2]) (by decide +kernel))) (SD_trans (SD_refl) (SD_gluc (ι := oz_G4clsl_2) oz_G4cls_8 hN17 eN17 (by decide +kernel)) (any_subA (lₚ := [2]) (by decide +kernel))) (SF_trans (SF_trans (SF_refl) (SF_gluc (ι := oz_G4clsl_12) oz_G4cls_40 hS16 eF16 (by decide +kernel)) (any_sub (lₚ := []) (by decide +kernel))) (SF_gluc (ι := oz_G4clsl_2) oz_G4cls_8 hS17 eF17 (by decide +kernel)) (any_sub (lₚ := [(1, 0), (1, 1), (1, 2)]) (by decide +kernel))) (SA_trans (SA_trans (SA_refl) (SA_gluc (ι := oz_G4clsl_12) oz_G4cls_40 hA16 eA16 (by decide +kernel)) (any_subA (lₚ := []) (by decide +kernel))) (SA_gluc (ι := oz_G4clsl_2) oz_G4cls_8 hA17 eA17 (by decide +kernel)) (any_subA (lₚ := [2]) (by decide +kernel))) (pf17_1_0) (m17_1) ((congrArg (fun q : Nat => (q : Int)) (eN17 2)).trans em17_1) (y17_0_1) (((eF17 1 1).trans ey17_0_1))  (show 0 ≤ (y17_0_1) ∧ (y17_0_1) ≤ (m17_1) ∧ (m17_1) ≤ 65536 from pz17_0)
  refine Ew_of (pcₚ := 11) (fun _ => x_iload rfl (rk_o (rfl) rfl rfl)) ?_
  refine w_ifeq (t := 23) rfl rfl (show inr (a4) from h1) (fun b20 => ?_) (fun b20 => ?_)
  · refine Ew_of (pcₚ := 25) (fun _ => x_iload rfl rk_s) ?_
    refine w_i2l rfl (show inr ((u3_1 - a3)) from q_2616 h4 h5) ?_
    exact hc26 ((u3_1 - a3)) _ _ _ _  (rk_o (rfl) rfl rfl) (rk_o (rfl) rfl rfl) (rk_o (rfl) rfl rfl) (rk_o (rfl) rfl rfl) (rk_s) H O (SF_refl) (SA_refl)     (show inrJ ((u3_1 - a3)) from q_2995 h4 h5)
  · refine Ew_of (pcₚ := 16) (fun _ => x_iload rfl rk_s) ?_
    refine Ew_of (pcₚ := 18) (fun _ => x_ldc (z := -2147483648) rfl (by decide)) ?_
    refine w_ior rfl (fun z21 gz21 => ?_)
    refine w_i2l rfl (show inr (z21) from gz21) ?_
    refine Ew_of (pcₚ := 26) (fun _ => x_goto rfl rfl) ?_
    exact hc26 (z21) _ _ _ _  (rk_o (rfl) rfl rfl) (rk_o (rfl) rfl rfl) (rk_o (rfl) rfl rfl) (rk_o (rfl) rfl rfl) (rk_s) H O (SF_refl) (SA_refl)     (show inrJ (z21) from q_428 gz21)
abbrev V218_Row_Row : vV := [(0, 11, [(4, 0), (4, 0), (4, 0), (4, 0), (4, 0), (0, 0), (4, 0), (0, 0), (0, 0), (0, 0), (0, 0), (0, 0), (0, 0)]), (0, 7, [(4, 0), (0, 0), (1, 0), (0, 0), (0, 0)]), (0, 7, [(4, 0), (0, 0), (1, 0), (0, 0), (0, 0)]), (1, 0, []), (1, 0, []), (0, 7, [(4, 0), (0, 0), (1, 0), (0, 0), (0, 0)]), (1, 0, []), (0, 5, [(4, 0), (4, 0), (4, 0), (4, 0), (0, 0), (0, 0), (0, 0), (4, 0), (4, 0), (0, 0), (0, 0), (0, 0), (0, 0), (0, 0), (0, 0), (0, 0), (0, 0), (0, 0), (0, 0)]), (0, 7, [(4, 0), (0, 0), (1, 0), (0, 0), (0, 0)]), (1, 0, []), (0, 7, [(4, 0), (0, 0), (1, 0), (0, 0), (0, 0)]), (1, 0, []), (1, 1, []), (1, 1, []), (1, 1, []), (1, 1, []), (1, 1, []), (1, 1, [])]
theorem len_V218_Row_Row_oz_G4cls : (V218_Row_Row).length = 18 := by decide +kernel
theorem oz_G4cls_42 : vsub V218_Row_Row V219_Row [0, 1, 3, 12] = true := by decide +kernel
theorem oz_G4cls_43 : vmov V218_Row_Row [0, 1, 3, 12] [2] = true := by decide +kernel
theorem oz_G4cls_44 : vsub V218_Row_Row V158_Row [8, 5, 9, 6] = true := by decide +kernel
theorem oz_G4cls_45 : vmov V218_Row_Row [8, 5, 9, 6] [2] = true := by decide +kernel
theorem oz_G4cls_46 : vsub V218_Row_Row V121 [7, 13] = true := by decide +kernel
theorem oz_G4cls_47 : vmov V218_Row_Row [7, 13] [1] = true := by decide +kernel
theorem oz_G4cls_48 : vsub V218_Row_Row V123 [7, 8, 9, 14, 13] = true := by decide +kernel
theorem oz_G4cls_49 : vmov V218_Row_Row [7, 8, 9, 14, 13] [3] = true := by decide +kernel
theorem oz_G4cls_50 : vsub V218_Row_Row V160 [1, 3] = true := by decide +kernel
theorem oz_G4cls_51 : vmov V218_Row_Row [1, 3] [1] = true := by decide +kernel
theorem oz_G4cls_52 : vsub V218_Row_Row V49_Br [4] = true := by decide +kernel
theorem oz_G4cls_53 : vsub V218_Row_Row V161_Br [8, 4, 9] = true := by decide +kernel
theorem oz_G4cls_54 : vmov V218_Row_Row [8, 4, 9] [2] = true := by decide +kernel
theorem oz_G4cls_55 : vsub V218_Row_Row V156 [10] = true := by decide +kernel
theorem oz_G4cls_56 : vsub V218_Row_Row V215_thispackeda [0, 10, 11, 7, 8, 9, 14, 13, 15, 16, 17] = true := by decide +kernel
theorem oz_G4cls_57 : vmov V218_Row_Row [0, 10, 11, 7, 8, 9, 14, 13, 15, 16, 17] [2, 6, 8, 9, 10] = true := by decide +kernel
theorem oz_G4cls_58 : vsub V218_Row_Row V220_Row_thispackeda [0, 1, 3, 10, 11] = true := by decide +kernel
theorem oz_G4cls_59 : vmov V218_Row_Row [0, 1, 3, 10, 11] [2] = true := by decide +kernel
theorem oz_G4cls_60 : vsub V218_Row_Row V220_Row_thisfinderdataa [0, 1, 3, 7, 8, 9] = true := by decide +kernel
theorem oz_G4cls_61 : vmov V218_Row_Row [0, 1, 3, 7, 8, 9] [2] = true := by decide +kernel
theorem oz_G4cls_62 : vsub V218_Row_Row V124 [7, 8, 9, 14, 13] = true := by decide +kernel
def oz_G4clsl_13 : List (Nat × Nat) := [(0, 8), (1, 0), (1, 1), (1, 2), (7, 1), (7, 2), (7, 3), (7, 4), (7, 5), (7, 6), (7, 7), (7, 8), (7, 9), (7, 10), (7, 11), (7, 12), (7, 13), (7, 14), (7, 15), (7, 16), (7, 17), (7, 18), (8, 0), (8, 1), (8, 2), (8, 3), (8, 4), (10, 0), (10, 1), (10, 2), (10, 3), (10, 4)]
theorem oz_G4cls_63 : (oz_G4clsl_13).all (fun p => !tbz 66215598113548212557835241792335515944554876115116232924983746725647569700529625982844564899102976 (Nat.add (Nat.mul 32 p.1) p.2)) = true := by decide +kernel
def oz_G4clsl_14 : List Nat := [3, 9, 11, 13, 14, 15, 16, 17]
theorem oz_G4cls_64 : (oz_G4clsl_14).all (fun p => !tbz 256520 p) = true := by decide +kernel
def oz_G4clsl_15 : List Nat := [0, 1, 3, 12]
theorem oz_G4cls_65 : okc oz_G4clsl_15 1611399680 = true := by decide +kernel
def oz_G4clsl_16 : List Nat := [8, 5, 9, 6]
theorem oz_G4cls_66 : okc oz_G4clsl_16 807668232 = true := by decide +kernel
def oz_G4clsl_17 : List Nat := [7, 13]
theorem oz_G4cls_67 : okc oz_G4clsl_17 6663 = true := by decide +kernel
def oz_G4clsl_18 : List Nat := [7, 8, 9, 14, 13]
theorem oz_G4cls_68 : okc oz_G4clsl_18 895234609159 = true := by decide +kernel
def oz_G4clsl_19 : List Nat := [1, 3]
theorem oz_G4cls_69 : okc oz_G4clsl_19 1537 = true := by decide +kernel
def oz_G4clsl_20 : List Nat := [8, 4, 9]
theorem oz_G4cls_70 : okc oz_G4clsl_20 2361352 = true := by decide +kernel
def oz_G4clsl_21 : List Nat := [10]
theorem oz_G4cls_71 : okc oz_G4clsl_21 10 = true := by decide +kernel
def oz_G4clsl_22 : List Nat := [0, 10, 11, 7, 8, 9, 14, 13, 15, 16, 17]
theorem oz_G4cls_72 : okc oz_G4clsl_22 21083737249732731119845774336 = true := by decide +kernel
def oz_G4clsl_23 : List Nat := [0, 1, 3, 10, 11]
theorem oz_G4cls_73 : okc oz_G4clsl_23 757257208320 = true := by decide +kernel
def oz_G4clsl_24 : List Nat := [0, 1, 3, 7, 8, 9]
theorem oz_G4cls_74 : okc oz_G4clsl_24 317210044924416 = true := by decide +kernel
set_option maxHeartbeats 16000000 in
/-- Tokens.packFrame: this, #1, #2, #1.bytes, #2.bytes, this.past, this.past.bytes, this.finder, this.finder.data, this.finder.data.bytes, this.packed, this.packed.bytes, this.settings, this.finder.heads, this.finder.back, this.finder.literals, this.finder.lengths, this.finder.distances -/
theorem C218_Row_Row {σE : rS} {D N : Nat → Nat} {F : hF} {A : hA} {d c s : Nat} {Q : wQ} (H : HW V218_Row_Row σE D N F A)  (pf3 : HID (F 1 0 = (D 3 : Int))) (pf4 : HID (F 2 0 = (D 4 : Int))) (pf5 : HID (F 0 1 = (D 5 : Int))) (pf6 : HID (F 5 0 = (D 6 : Int))) (pf7 : HID (F 0 2 = (D 7 : Int))) (pf8 : HID (F 7 0 = (D 8 : Int))) (pf9 : HID (F 8 0 = (D 9 : Int))) (pf10 : HID (F 0 3 = (D 10 : Int))) (pf11 : HID (F 10 0 = (D 11 : Int))) (pf12 : HID (F 0 0 = (D 12 : Int))) (pf13 : HID (F 7 7 = (D 13 : Int))) (pf14 : HID (F 7 8 = (D 14 : Int))) (pf15 : HID (F 7 1 = (D 15 : Int))) (pf16 : HID (F 7 2 = (D 16 : Int))) (pf17 : HID (F 7 3 = (D 17 : Int))) (n3 : Int) (en3 : HID ((N 3 : Int) = n3)) (n4 : Int) (en4 : HID ((N 4 : Int) = n4)) (n6 : Int) (en6 : HID ((N 6 : Int) = n6)) (n9 : Int) (en9 : HID ((N 9 : Int) = n9)) (n11 : Int) (en11 : HID ((N 11 : Int) = n11)) (n12 : Int) (en12 : HID ((N 12 : Int) = n12)) (n13 : Int) (en13 : HID ((N 13 : Int) = n13)) (n14 : Int) (en14 : HID ((N 14 : Int) = n14)) (n15 : Int) (en15 : HID ((N 15 : Int) = n15)) (n16 : Int) (en16 : HID ((N 16 : Int) = n16)) (n17 : Int) (en17 : HID ((N 17 : Int) = n17)) (u1_1 : Int) (eu1_1 : HID (F 1 1 = u1_1)) (u2_1 : Int) (eu2_1 : HID (F 2 1 = u2_1)) (u5_1 : Int) (eu5_1 : HID (F 5 1 = u5_1)) (u8_1 : Int) (eu8_1 : HID (F 8 1 = u8_1)) (u10_1 : Int) (eu10_1 : HID (F 10 1 = u10_1)) (w12 : Int → Int) (ew12 : A 12 = w12) (h0 : 0 ≤ (u1_1) ∧ (u1_1) ≤ (n3) ∧ (n3) ≤ 65536) (h1 : (u1_1) ≤ 1000) (h2 : 0 ≤ (u2_1) ∧ (u2_1) ≤ (n4) ∧ (n4) ≤ 65536) (h3 : 0 ≤ (u5_1) ∧ (u5_1) ≤ (n6) ∧ (n6) ≤ 65536) (h4 : 0 ≤ (u8_1) ∧ (u8_1) ≤ (n9) ∧ (n9) ≤ 65536) (h5 : 0 ≤ (u10_1) ∧ (u10_1) ≤ (n11) ∧ (n11) ≤ 65536) (h6 : (n12) = 10) (h7 : (u5_1) + (u2_1) ≤ 16384) (h8 : 1 ≤ ((w12)) 2 ∧ ((w12)) 2 ≤ 65536) (h9 : (n13) = 0 ∨ (n13) = 2048) (h10 : (n14) ≤ 16384) (h11 : (n15) = (n16) ∧ (n17) = (n16) ∧ (n16) ≤ 65536 ∧ ((n16) = 0 ∨ 64 ≤ (n16)) ∧ lgq ((n16)) = 0) (k : ∀ (σ : rS) (Dₚ Nₚ : Nat → Nat) (Fₚ : hF) (Aₚ : hA) (cₚ sₚ : Nat), HW V218_Row_Row σ Dₚ Nₚ Fₚ Aₚ → OUT (V218_Row_Row).length D N σE c s Dₚ Nₚ σ cₚ sₚ → SD [3, 9, 11, 13, 14, 15, 16, 17] D Dₚ → SD [3, 9, 11, 13, 14, 15, 16, 17] N Nₚ → SF [(0, 8), (1, 0), (1, 1), (1, 2), (7, 1), (7, 2), (7, 3), (7, 4), (7, 5), (7, 6), (7, 7), (7, 8), (7, 9), (7, 10), (7, 11), (7, 12), (7, 13), (7, 14), (7, 15), (7, 16), (7, 17), (7, 18), (8, 0), (8, 1), (8, 2), (8, 3), (8, 4), (10, 0), (10, 1), (10, 2), (10, 3), (10, 4)] F Fₚ → SA [3, 9, 11, 13, 14, 15, 16, 17] A Aₚ → Fₚ 1 0 = (Dₚ 3 : Int) → Fₚ 8 0 = (Dₚ 9 : Int) → Fₚ 10 0 = (Dₚ 11 : Int) → Fₚ 7 7 = (Dₚ 13 : Int) → Fₚ 7 8 = (Dₚ 14 : Int) → Fₚ 7 1 = (Dₚ 15 : Int) → Fₚ 7 2 = (Dₚ 16 : Int) → Fₚ 7 3 = (Dₚ 17 : Int) → ∀ m3 : Int, (Nₚ 3 : Int) = m3 → ∀ m9 : Int, (Nₚ 9 : Int) = m9 → ∀ m11 : Int, (Nₚ 11 : Int) = m11 → ∀ m13 : Int, (Nₚ 13 : Int) = m13 → ∀ m14 : Int, (Nₚ 14 : Int) = m14 → ∀ m15 : Int, (Nₚ 15 : Int) = m15 → ∀ m16 : Int, (Nₚ 16 : Int) = m16 → ∀ m17 : Int, (Nₚ 17 : Int) = m17 → ∀ y1_1 : Int, Fₚ 1 1 = y1_1 → ∀ y8_1 : Int, Fₚ 8 1 = y8_1 → ∀ y10_1 : Int, Fₚ 10 1 = y10_1 → (0 ≤ (y1_1) ∧ (y1_1) ≤ (m3) ∧ (m3) ≤ 65536) → (0 ≤ (y8_1) ∧ (y8_1) ≤ (m9) ∧ (m9) ≤ 65536) → (0 ≤ (y10_1) ∧ (y10_1) ≤ (m11) ∧ (m11) ≤ 65536) → ((m13) = 0 ∨ (m13) = 2048) → ((m14) ≤ 16384) → ((m15) = (m16) ∧ (m17) = (m16) ∧ (m16) ≤ 65536 ∧ ((m16) = 0 ∨ 64 ≤ (m16)) ∧ lgq ((m16)) = 0) → Q none σ cₚ sₚ) : Ew 218 (d + 6) 0 (rargs 0 [.ref (D 0), .ref (D 1), .ref (D 2)]) [] σE c s Q := by
  have O := OUT_refl (n := (V218_Row_Row).length) (D := D) (N := N) (σ := σE) (c := c) (s := s)
  have HE := H
  have r1 : (-2147483648 : Int) ≤ u1_1 ∧ u1_1 ≤ 2147483647 := rngE (show (-2147483648 : Int) ≤ F 1 1 ∧ F 1 1 ≤ 2147483647 from H.krg 1 1 (ltn len_V218_Row_Row_oz_G4cls rfl)) (show F 1 1 = u1_1 from (eu1_1))
  have r2 : (-2147483648 : Int) ≤ u2_1 ∧ u2_1 ≤ 2147483647 := rngE (show (-2147483648 : Int) ≤ F 2 1 ∧ F 2 1 ≤ 2147483647 from H.krg 2 1 (ltn len_V218_Row_Row_oz_G4cls rfl)) (show F 2 1 = u2_1 from (eu2_1))
  have r3 : (-2147483648 : Int) ≤ u5_1 ∧ u5_1 ≤ 2147483647 := rngE (show (-2147483648 : Int) ≤ F 5 1 ∧ F 5 1 ≤ 2147483647 from H.krg 5 1 (ltn len_V218_Row_Row_oz_G4cls rfl)) (show F 5 1 = u5_1 from (eu5_1))
  have r4 : (-2147483648 : Int) ≤ u8_1 ∧ u8_1 ≤ 2147483647 := rngE (show (-2147483648 : Int) ≤ F 8 1 ∧ F 8 1 ≤ 2147483647 from H.krg 8 1 (ltn len_V218_Row_Row_oz_G4cls rfl)) (show F 8 1 = u8_1 from (eu8_1))
  have r5 : (-2147483648 : Int) ≤ u10_1 ∧ u10_1 ≤ 2147483647 := rngE (show (-2147483648 : Int) ≤ F 10 1 ∧ F 10 1 ≤ 2147483647 from H.krg 10 1 (ltn len_V218_Row_Row_oz_G4cls rfl)) (show F 10 1 = u10_1 from (eu10_1))
  have r6 : (0 : Int) ≤ n3 ∧ n3 ≤ 1000000 := nleE (H.nle 3 (ltn len_V218_Row_Row_oz_G4cls rfl)) (show (N 3 : Int) = n3 from en3)
  have r7 : (0 : Int) ≤ n4 ∧ n4 ≤ 1000000 := nleE (H.nle 4 (ltn len_V218_Row_Row_oz_G4cls rfl)) (show (N 4 : Int) = n4 from en4)
  have r8 : (0 : Int) ≤ n6 ∧ n6 ≤ 1000000 := nleE (H.nle 6 (ltn len_V218_Row_Row_oz_G4cls rfl)) (show (N 6 : Int) = n6 from en6)
  have r9 : (0 : Int) ≤ n9 ∧ n9 ≤ 1000000 := nleE (H.nle 9 (ltn len_V218_Row_Row_oz_G4cls rfl)) (show (N 9 : Int) = n9 from en9)
  have r10 : (0 : Int) ≤ n11 ∧ n11 ≤ 1000000 := nleE (H.nle 11 (ltn len_V218_Row_Row_oz_G4cls rfl)) (show (N 11 : Int) = n11 from en11)
  have r11 : (0 : Int) ≤ n12 ∧ n12 ≤ 1000000 := nleE (H.nle 12 (ltn len_V218_Row_Row_oz_G4cls rfl)) (show (N 12 : Int) = n12 from en12)
  have r12 : (0 : Int) ≤ n13 ∧ n13 ≤ 1000000 := nleE (H.nle 13 (ltn len_V218_Row_Row_oz_G4cls rfl)) (show (N 13 : Int) = n13 from en13)
  have r13 : (0 : Int) ≤ n14 ∧ n14 ≤ 1000000 := nleE (H.nle 14 (ltn len_V218_Row_Row_oz_G4cls rfl)) (show (N 14 : Int) = n14 from en14)
  have r14 : (0 : Int) ≤ n15 ∧ n15 ≤ 1000000 := nleE (H.nle 15 (ltn len_V218_Row_Row_oz_G4cls rfl)) (show (N 15 : Int) = n15 from en15)
  have r15 : (0 : Int) ≤ n16 ∧ n16 ≤ 1000000 := nleE (H.nle 16 (ltn len_V218_Row_Row_oz_G4cls rfl)) (show (N 16 : Int) = n16 from en16)
  have r16 : (0 : Int) ≤ n17 ∧ n17 ≤ 1000000 := nleE (H.nle 17 (ltn len_V218_Row_Row_oz_G4cls rfl)) (show (N 17 : Int) = n17 from en17)
  refine Ew_of (pcₚ := 1) (fun _ => x_aload_n rfl rfl) ?_
  refine Ew_of (pcₚ := 2) (fun _ => x_aload_n rfl rfl) ?_
  refine v_g H (o := 0) (v := .ref (D 12)) rfl rfl rfl rfl rfl (vrf (pf12)) ?_
  refine Ew_of (pcₚ := 6) (fun _ => x_iconst rfl) ?_
  refine v_lI H (o := 12) rfl rfl rfl rfl (n := n12) (en12) (show 0 ≤ 3 ∧ 3 < n12 from q_3549 h6 r11) (fun v17 ev17 qv17 => ?_)
  have ev17 : (w12) (3) = v17 := (congrFun (ew12) (3)).symm.trans ev17
  refine v_p H (o := 0) (z := v17) (v := I (v17)) rfl rfl rfl rfl rfl rfl rfl rfl (show (-2147483648 : Int) ≤ v17 ∧ v17 ≤ 2147483647 from q_61 qv17) (fun σ H Oₚ => ?_)
  have O := OUT_trans O Oₚ
  have cFu18 : SF oz_G4clsl_13 F (updF F 0 8 (v17)) := SF_upd (SF_refl) rfl
  have mFu18 := SFm_of cFu18 oz_G4cls_63
  refine Ew_of (pcₚ := 11) (fun _ => x_aload_n rfl rfl) ?_
  refine Ew_of (pcₚ := 12) (fun _ => x_aload_n rfl rfl) ?_
  refine Ew_of (pcₚ := 13) (fun _ => x_aload_n rfl rfl) ?_
  refine v_g H (o := 2) (v := I (u2_1)) rfl rfl rfl rfl rfl (congrArg (fun z : Int => I z) (((mFu18 2 1 rfl).trans (eu2_1)) : (updF F 0 8 (v17)) 2 1 = u2_1)) ?_
  refine v_inv H (o := 0) rfl rfl rfl rfl rfl rfl (by rfl) (C219_Row (D := puc 1611399680 D) (N := puc 1611399680 N) (HW_subc H oz_G4cls_42 oz_G4cls_65) (pf3) ((mFu18 0 0 rfl).trans (pf12)) (n3) (en3) (n12) (en12) (u1_1) ((eu1_1)) (show inr (u2_1) from q_884 h2) (show 0 ≤ (u1_1) ∧ (u1_1) ≤ (n3) ∧ (n3) ≤ 65536 from h0) (show (u1_1) ≤ 1000 from h1) (show (n12) = 10 from h6) (fun σ19 D19ₚ N19ₚ F19ₚ A19ₚ c19 s19 Hₚ Oₚ hD19 hN19 hS19 hA19 (pm19_2 : HID _) m19_2 (em19_2 : HID _) y19_1_1 (ey19_1_1 : HID _) pz19_0 => ⟨rfl, ?_⟩))
  refine v_backMc (c := c) (s := s) H oz_G4cls_42 oz_G4cls_65 Hₚ Oₚ hD19 oz_G4cls_43 (fun D19 N19 F19 A19 H Oₚ eD19 eN19 eF19 eA19 => ?_)
  have O := OUT_trans O Oₚ
  -- Tokens.packHead
  have cF19 : SF oz_G4clsl_13 F F19 := SF_trans (cFu18) (SF_gluc (ι := oz_G4clsl_15) oz_G4cls_65 hS19 eF19 (by decide +kernel)) (any_sub (lₚ := [(1, 0), (1, 1), (1, 2)]) (by decide +kernel))
  have mF19 := SFm_of cF19 oz_G4cls_63
  have cA19 : SA oz_G4clsl_14 A A19 := SA_trans (SA_refl) (SA_gluc (ι := oz_G4clsl_15) oz_G4cls_65 hA19 eA19 (by decide +kernel)) (any_subA (lₚ := [3]) (by decide +kernel))
  have mA19 := SAm_of cA19 oz_G4cls_64
  have cD19 : SD oz_G4clsl_14 D D19 := SD_trans (SD_refl) (SD_gluc (ι := oz_G4clsl_15) oz_G4cls_65 hD19 eD19 (by decide +kernel)) (any_subA (lₚ := [3]) (by decide +kernel))
  have mD19 := SDm_of cD19 oz_G4cls_64
  have cN19 : SD oz_G4clsl_14 N N19 := SD_trans (SD_refl) (SD_gluc (ι := oz_G4clsl_15) oz_G4cls_65 hN19 eN19 (by decide +kernel)) (any_subA (lₚ := [3]) (by decide +kernel))
  have mN19 := SDm_of cN19 oz_G4cls_64
  have pf19_1_0 : HID (F19 1 0 = (D19 3 : Int)) := (eF19 1 0).trans (pm19_2.trans (congrArg (fun q : Nat => (q : Int)) (eD19 3).symm))
  have pf19_10_0 : HID (F19 10 0 = (D19 11 : Int)) := ((show F19 10 0 = (updF F 0 8 (v17)) 10 0 from (eF19 10 0))).trans ((pf11).trans (congrArg (fun q : Nat => (q : Int)) ((show D19 11 = D 11 from (eD19 11))).symm))
  have pf19_7_1 : HID (F19 7 1 = (D19 15 : Int)) := ((show F19 7 1 = (updF F 0 8 (v17)) 7 1 from (eF19 7 1))).trans ((pf15).trans (congrArg (fun q : Nat => (q : Int)) ((show D19 15 = D 15 from (eD19 15))).symm))
  have pf19_7_2 : HID (F19 7 2 = (D19 16 : Int)) := ((show F19 7 2 = (updF F 0 8 (v17)) 7 2 from (eF19 7 2))).trans ((pf16).trans (congrArg (fun q : Nat => (q : Int)) ((show D19 16 = D 16 from (eD19 16))).symm))
  have pf19_7_3 : HID (F19 7 3 = (D19 17 : Int)) := ((show F19 7 3 = (updF F 0 8 (v17)) 7 3 from (eF19 7 3))).trans ((pf17).trans (congrArg (fun q : Nat => (q : Int)) ((show D19 17 = D 17 from (eD19 17))).symm))
  have pf19_7_7 : HID (F19 7 7 = (D19 13 : Int)) := ((show F19 7 7 = (updF F 0 8 (v17)) 7 7 from (eF19 7 7))).trans ((pf13).trans (congrArg (fun q : Nat => (q : Int)) ((show D19 13 = D 13 from (eD19 13))).symm))
  have pf19_7_8 : HID (F19 7 8 = (D19 14 : Int)) := ((show F19 7 8 = (updF F 0 8 (v17)) 7 8 from (eF19 7 8))).trans ((pf14).trans (congrArg (fun q : Nat => (q : Int)) ((show D19 14 = D 14 from (eD19 14))).symm))
  have pf19_8_0 : HID (F19 8 0 = (D19 9 : Int)) := ((show F19 8 0 = (updF F 0 8 (v17)) 8 0 from (eF19 8 0))).trans ((pf9).trans (congrArg (fun q : Nat => (q : Int)) ((show D19 9 = D 9 from (eD19 9))).symm))
  have r20 : (0 : Int) ≤ m19_2 ∧ m19_2 ≤ 1000000 := nleE (H.nle 3 (ltn len_V218_Row_Row_oz_G4cls rfl)) (show (N19 3 : Int) = m19_2 from (congrArg (fun q : Nat => (q : Int)) (eN19 3)).trans em19_2)
  have r21 : (-2147483648 : Int) ≤ y19_1_1 ∧ y19_1_1 ≤ 2147483647 := rngE (show (-2147483648 : Int) ≤ F19 1 1 ∧ F19 1 1 ≤ 2147483647 from H.krg 1 1 (ltn len_V218_Row_Row_oz_G4cls rfl)) (show F19 1 1 = y19_1_1 from ((eF19 1 1).trans ey19_1_1))
  refine Ew_of (pcₚ := 20) (fun _ => x_aload_n rfl rfl) ?_
  refine Ew_stk (congrArg (fun qz : Nat => ([.ref qz] : List Value)) (show D19 0 = D 0 from mD19 0 rfl).symm) ?_
  refine v_g H (o := 0) (v := .ref (D19 7)) rfl rfl rfl rfl rfl (vrf ((mF19 0 2 rfl).trans ((pf7).trans (congrArg (fun q : Nat => (q : Int)) (mD19 7 rfl).symm)))) ?_
  refine v_g H (o := 7) (v := .ref (D19 8)) rfl rfl rfl rfl rfl (vrf ((mF19 7 0 rfl).trans ((pf8).trans (congrArg (fun q : Nat => (q : Int)) (mD19 8 rfl).symm)))) ?_
  refine Ew_of (pcₚ := 27) (fun _ => x_astore_n rfl) ?_
  refine Ew_of (pcₚ := 28) (fun _ => x_aload_n rfl rk_s) ?_
  refine Ew_of (pcₚ := 29) (fun _ => x_aload_n rfl (rk_o (rfl) rfl rfl)) ?_
  refine Ew_stk (congrArg (fun qz : Nat => ([.ref qz, .ref (D19 8)] : List Value)) (show D19 0 = D 0 from mD19 0 rfl).symm) ?_
  refine v_g H (o := 0) (v := .ref (D19 5)) rfl rfl rfl rfl rfl (vrf ((mF19 0 1 rfl).trans ((pf5).trans (congrArg (fun q : Nat => (q : Int)) (mD19 5 rfl).symm)))) ?_
  refine v_inv H (o := 8) rfl rfl rfl rfl rfl rfl (by rfl) (C158_Row (D := puc 807668232 D19) (N := puc 807668232 N19) (HW_subc H oz_G4cls_44 oz_G4cls_66) (pf19_8_0) ((mF19 5 0 rfl).trans ((pf6).trans (congrArg (fun q : Nat => (q : Int)) (mD19 6 rfl).symm))) (n9) ((congrArg (fun q : Nat => (q : Int)) (show N19 9 = N 9 from (eN19 9))).trans (en9)) (n6) ((congrArg (fun q : Nat => (q : Int)) (mN19 6 rfl)).trans (en6)) (u8_1) ((((show F19 8 1 = (updF F 0 8 (v17)) 8 1 from (eF19 8 1))).trans (eu8_1))) (u5_1) (((mF19 5 1 rfl).trans (eu5_1))) (show 0 ≤ (u8_1) ∧ (u8_1) ≤ (n9) ∧ (n9) ≤ 65536 from h4) (show 0 ≤ (u5_1) ∧ (u5_1) ≤ (n6) ∧ (n6) ≤ 65536 from h3) (fun σ22 D22ₚ N22ₚ F22ₚ A22ₚ c22 s22 Hₚ Oₚ hD22 hN22 hS22 hA22 (pm22_2 : HID _) m22_2 (em22_2 : HID _) y22_0_1 (ey22_0_1 : HID _) pz22_0 pz22_1 => ⟨rfl, ?_⟩))
  refine v_backMc (c := (c + c19)) (s := (s + s19)) H oz_G4cls_44 oz_G4cls_66 Hₚ Oₚ hD22 oz_G4cls_45 (fun D22 N22 F22 A22 H Oₚ eD22 eN22 eF22 eA22 => ?_)
  have O := OUT_trans O Oₚ
  -- Row.become
  have cF22 : SF oz_G4clsl_13 F F22 := SF_trans (cF19) (SF_gluc (ι := oz_G4clsl_16) oz_G4cls_66 hS22 eF22 (by decide +kernel)) (any_sub (lₚ := [(8, 0), (8, 1), (8, 2), (8, 3), (8, 4)]) (by decide +kernel))
  have mF22 := SFm_of cF22 oz_G4cls_63
  have cA22 : SA oz_G4clsl_14 A A22 := SA_trans (cA19) (SA_gluc (ι := oz_G4clsl_16) oz_G4cls_66 hA22 eA22 (by decide +kernel)) (any_subA (lₚ := [9]) (by decide +kernel))
  have mA22 := SAm_of cA22 oz_G4cls_64
  have cD22 : SD oz_G4clsl_14 D D22 := SD_trans (cD19) (SD_gluc (ι := oz_G4clsl_16) oz_G4cls_66 hD22 eD22 (by decide +kernel)) (any_subA (lₚ := [9]) (by decide +kernel))
  have mD22 := SDm_of cD22 oz_G4cls_64
  have cN22 : SD oz_G4clsl_14 N N22 := SD_trans (cN19) (SD_gluc (ι := oz_G4clsl_16) oz_G4cls_66 hN22 eN22 (by decide +kernel)) (any_subA (lₚ := [9]) (by decide +kernel))
  have mN22 := SDm_of cN22 oz_G4cls_64
  have pf22_1_0 : HID (F22 1 0 = (D22 3 : Int)) := ((show F22 1 0 = F19 1 0 from (eF22 1 0))).trans ((pf19_1_0).trans (congrArg (fun q : Nat => (q : Int)) ((show D22 3 = D19 3 from (eD22 3))).symm))
  have pf22_10_0 : HID (F22 10 0 = (D22 11 : Int)) := ((show F22 10 0 = F19 10 0 from (eF22 10 0))).trans ((pf19_10_0).trans (congrArg (fun q : Nat => (q : Int)) ((show D22 11 = D19 11 from (eD22 11))).symm))
  have pf22_7_1 : HID (F22 7 1 = (D22 15 : Int)) := ((show F22 7 1 = F19 7 1 from (eF22 7 1))).trans ((pf19_7_1).trans (congrArg (fun q : Nat => (q : Int)) ((show D22 15 = D19 15 from (eD22 15))).symm))
  have pf22_7_2 : HID (F22 7 2 = (D22 16 : Int)) := ((show F22 7 2 = F19 7 2 from (eF22 7 2))).trans ((pf19_7_2).trans (congrArg (fun q : Nat => (q : Int)) ((show D22 16 = D19 16 from (eD22 16))).symm))
  have pf22_7_3 : HID (F22 7 3 = (D22 17 : Int)) := ((show F22 7 3 = F19 7 3 from (eF22 7 3))).trans ((pf19_7_3).trans (congrArg (fun q : Nat => (q : Int)) ((show D22 17 = D19 17 from (eD22 17))).symm))
  have pf22_7_7 : HID (F22 7 7 = (D22 13 : Int)) := ((show F22 7 7 = F19 7 7 from (eF22 7 7))).trans ((pf19_7_7).trans (congrArg (fun q : Nat => (q : Int)) ((show D22 13 = D19 13 from (eD22 13))).symm))
  have pf22_7_8 : HID (F22 7 8 = (D22 14 : Int)) := ((show F22 7 8 = F19 7 8 from (eF22 7 8))).trans ((pf19_7_8).trans (congrArg (fun q : Nat => (q : Int)) ((show D22 14 = D19 14 from (eD22 14))).symm))
  have pf22_8_0 : HID (F22 8 0 = (D22 9 : Int)) := (eF22 8 0).trans (pm22_2.trans (congrArg (fun q : Nat => (q : Int)) (eD22 9).symm))
  have r23 : (0 : Int) ≤ m22_2 ∧ m22_2 ≤ 1000000 := nleE (H.nle 9 (ltn len_V218_Row_Row_oz_G4cls rfl)) (show (N22 9 : Int) = m22_2 from (congrArg (fun q : Nat => (q : Int)) (eN22 9)).trans em22_2)
  have r24 : (-2147483648 : Int) ≤ y22_0_1 ∧ y22_0_1 ≤ 2147483647 := rngE (show (-2147483648 : Int) ≤ F22 8 1 ∧ F22 8 1 ≤ 2147483647 from H.krg 8 1 (ltn len_V218_Row_Row_oz_G4cls rfl)) (show F22 8 1 = y22_0_1 from ((eF22 8 1).trans ey22_0_1))
  refine Ew_of (pcₚ := 36) (fun _ => x_aload_n rfl (rk_o (rfl) rfl rfl)) ?_
  refine Ew_stk (congrArg (fun qz : Nat => ([.ref qz] : List Value)) (show D22 0 = D 0 from mD22 0 rfl).symm) ?_
  refine v_g H (o := 0) (v := .ref (D22 7)) rfl rfl rfl rfl rfl (vrf ((mF22 0 2 rfl).trans ((pf7).trans (congrArg (fun q : Nat => (q : Int)) (mD22 7 rfl).symm)))) ?_
  refine Ew_of (pcₚ := 40) (fun _ => x_aload_n rfl (rk_o (rfl) rfl rfl)) ?_
  refine Ew_stk (congrArg (fun qz : Nat => ([.ref qz, .ref (D22 7)] : List Value)) (show D22 0 = D 0 from mD22 0 rfl).symm) ?_
  refine v_g H (o := 0) (v := .ref (D22 12)) rfl rfl rfl rfl rfl (vrf ((mF22 0 0 rfl).trans ((pf12).trans (congrArg (fun q : Nat => (q : Int)) (mD22 12 rfl).symm)))) ?_
  refine Ew_of (pcₚ := 44) (fun _ => x_iconst rfl) ?_
  refine v_lI H (o := 12) rfl rfl rfl rfl (n := n12) ((congrArg (fun q : Nat => (q : Int)) (mN22 12 rfl)).trans (en12)) (show 0 ≤ 0 ∧ 0 < n12 from q_2782 h6 r11) (fun v25 ev25 qv25 => ?_)
  have ev25 : (w12) (0) = v25 := (congrFun ((funext (mA22 12 rfl)).trans (ew12)) (0)).symm.trans ev25
  refine Ew_of (pcₚ := 46) (fun _ => x_iconst rfl) ?_
  refine Ew_of (pcₚ := 48) (fun _ => x_ldc (z := 65535) rfl (by decide)) ?_
  have r26 : (-2147483648 : Int) ≤ F 7 6 ∧ F 7 6 ≤ 2147483647 := rngE (show (-2147483648 : Int) ≤ F22 7 6 ∧ F22 7 6 ≤ 2147483647 from H.krg 7 6 (ltn len_V218_Row_Row_oz_G4cls rfl)) (show F22 7 6 = F 7 6 from (((show F22 7 6 = F19 7 6 from (eF22 7 6))).trans ((show F19 7 6 = (updF F 0 8 (v17)) 7 6 from (eF19 7 6)))))
  have r27 : (-2147483648 : Int) ≤ F 7 9 ∧ F 7 9 ≤ 2147483647 := rngE (show (-2147483648 : Int) ≤ F22 7 9 ∧ F22 7 9 ≤ 2147483647 from H.krg 7 9 (ltn len_V218_Row_Row_oz_G4cls rfl)) (show F22 7 9 = F 7 9 from (((show F22 7 9 = F19 7 9 from (eF22 7 9))).trans ((show F19 7 9 = (updF F 0 8 (v17)) 7 9 from (eF19 7 9)))))
  have r28 : (-2147483648 : Int) ≤ F 7 10 ∧ F 7 10 ≤ 2147483647 := rngE (show (-2147483648 : Int) ≤ F22 7 10 ∧ F22 7 10 ≤ 2147483647 from H.krg 7 10 (ltn len_V218_Row_Row_oz_G4cls rfl)) (show F22 7 10 = F 7 10 from (((show F22 7 10 = F19 7 10 from (eF22 7 10))).trans ((show F19 7 10 = (updF F 0 8 (v17)) 7 10 from (eF19 7 10)))))
  have r29 : (-2147483648 : Int) ≤ F 7 11 ∧ F 7 11 ≤ 2147483647 := rngE (show (-2147483648 : Int) ≤ F22 7 11 ∧ F22 7 11 ≤ 2147483647 from H.krg 7 11 (ltn len_V218_Row_Row_oz_G4cls rfl)) (show F22 7 11 = F 7 11 from (((show F22 7 11 = F19 7 11 from (eF22 7 11))).trans ((show F19 7 11 = (updF F 0 8 (v17)) 7 11 from (eF19 7 11)))))
  refine v_inv H (o := 7) rfl rfl rfl rfl rfl rfl (by rfl) (C121 (D := puc 6663 D22) (N := puc 6663 N22) (HW_subc H oz_G4cls_46 oz_G4cls_67) (pf22_7_7) (n13) ((congrArg (fun q : Nat => (q : Int)) (show N22 13 = N19 13 from (eN22 13))).trans ((congrArg (fun q : Nat => (q : Int)) (show N19 13 = N 13 from (eN19 13))).trans (en13))) (F 7 6) ((((show F22 7 6 = F19 7 6 from (eF22 7 6))).trans ((show F19 7 6 = (updF F 0 8 (v17)) 7 6 from (eF19 7 6))))) (F 7 9) ((((show F22 7 9 = F19 7 9 from (eF22 7 9))).trans ((show F19 7 9 = (updF F 0 8 (v17)) 7 9 from (eF19 7 9))))) (F 7 10) ((((show F22 7 10 = F19 7 10 from (eF22 7 10))).trans ((show F19 7 10 = (updF F 0 8 (v17)) 7 10 from (eF19 7 10))))) (F 7 11) ((((show F22 7 11 = F19 7 11 from (eF22 7 11))).trans ((show F19 7 11 = (updF F 0 8 (v17)) 7 11 from (eF19 7 11))))) (A 13) (((show A22 13 = A19 13 from (eA22 13))).trans ((show A19 13 = A 13 from (eA19 13)))) (show inr (v25) from qv25) (show inr (4) from q_2) (show inr (65535) from q_166) (show (n13) = 0 ∨ (n13) = 2048 from h9) (fun σ30 D30ₚ N30ₚ F30ₚ A30ₚ c30 s30 Hₚ Oₚ hD30 hN30 hS30 hA30 (pm30_1 : HID _) m30_1 (em30_1 : HID _) y30_0_6 (ey30_0_6 : HID _) y30_0_9 (ey30_0_9 : HID _) y30_0_10 (ey30_0_10 : HID _) y30_0_11 (ey30_0_11 : HID _) w30_1 ew30_1 pz30_0 pz30_1 pz30_2 pz30_3 => ⟨rfl, ?_⟩))
  refine v_backMc (c := ((c + c19) + c22)) (s := ((s + s19) + s22)) H oz_G4cls_46 oz_G4cls_67 Hₚ Oₚ hD30 oz_G4cls_47 (fun D30 N30 F30 A30 H Oₚ eD30 eN30 eF30 eA30 => ?_)
  have O := OUT_trans O Oₚ
  -- Finder.begin
  have cF30 : SF oz_G4clsl_13 F F30 := SF_trans (cF22) (SF_gluc (ι := oz_G4clsl_17) oz_G4cls_67 hS30 eF30 (by decide +kernel)) (any_sub (lₚ := [(7, 6), (7, 7), (7, 9), (7, 10), (7, 11)]) (by decide +kernel))
  have mF30 := SFm_of cF30 oz_G4cls_63
  have cA30 : SA oz_G4clsl_14 A A30 := SA_trans (cA22) (SA_gluc (ι := oz_G4clsl_17) oz_G4cls_67 hA30 eA30 (by decide +kernel)) (any_subA (lₚ := [13]) (by decide +kernel))
  have mA30 := SAm_of cA30 oz_G4cls_64
  have cD30 : SD oz_G4clsl_14 D D30 := SD_trans (cD22) (SD_gluc (ι := oz_G4clsl_17) oz_G4cls_67 hD30 eD30 (by decide +kernel)) (any_subA (lₚ := [13]) (by decide +kernel))
  have mD30 := SDm_of cD30 oz_G4cls_64
  have cN30 : SD oz_G4clsl_14 N N30 := SD_trans (cN22) (SD_gluc (ι := oz_G4clsl_17) oz_G4cls_67 hN30 eN30 (by decide +kernel)) (any_subA (lₚ := [13]) (by decide +kernel))
  have mN30 := SDm_of cN30 oz_G4cls_64
  have pf30_1_0 : HID (F30 1 0 = (D30 3 : Int)) := ((show F30 1 0 = F22 1 0 from (eF30 1 0))).trans ((pf22_1_0).trans (congrArg (fun q : Nat => (q : Int)) ((show D30 3 = D22 3 from (eD30 3))).symm))
  have pf30_10_0 : HID (F30 10 0 = (D30 11 : Int)) := ((show F30 10 0 = F22 10 0 from (eF30 10 0))).trans ((pf22_10_0).trans (congrArg (fun q : Nat => (q : Int)) ((show D30 11 = D22 11 from (eD30 11))).symm))
  have pf30_7_1 : HID (F30 7 1 = (D30 15 : Int)) := ((show F30 7 1 = F22 7 1 from (eF30 7 1).trans (hS30 0 1 rfl))).trans ((pf22_7_1).trans (congrArg (fun q : Nat => (q : Int)) ((show D30 15 = D22 15 from (eD30 15))).symm))
  have pf30_7_2 : HID (F30 7 2 = (D30 16 : Int)) := ((show F30 7 2 = F22 7 2 from (eF30 7 2).trans (hS30 0 2 rfl))).trans ((pf22_7_2).trans (congrArg (fun q : Nat => (q : Int)) ((show D30 16 = D22 16 from (eD30 16))).symm))
  have pf30_7_3 : HID (F30 7 3 = (D30 17 : Int)) := ((show F30 7 3 = F22 7 3 from (eF30 7 3).trans (hS30 0 3 rfl))).trans ((pf22_7_3).trans (congrArg (fun q : Nat => (q : Int)) ((show D30 17 = D22 17 from (eD30 17))).symm))
  have pf30_7_7 : HID (F30 7 7 = (D30 13 : Int)) := (eF30 7 7).trans (pm30_1.trans (congrArg (fun q : Nat => (q : Int)) (eD30 13).symm))
  have pf30_7_8 : HID (F30 7 8 = (D30 14 : Int)) := ((show F30 7 8 = F22 7 8 from (eF30 7 8).trans (hS30 0 8 rfl))).trans ((pf22_7_8).trans (congrArg (fun q : Nat => (q : Int)) ((show D30 14 = D22 14 from (eD30 14))).symm))
  have pf30_8_0 : HID (F30 8 0 = (D30 9 : Int)) := ((show F30 8 0 = F22 8 0 from (eF30 8 0))).trans ((pf22_8_0).trans (congrArg (fun q : Nat => (q : Int)) ((show D30 9 = D22 9 from (eD30 9))).symm))
  have r31 : (0 : Int) ≤ m30_1 ∧ m30_1 ≤ 1000000 := nleE (H.nle 13 (ltn len_V218_Row_Row_oz_G4cls rfl)) (show (N30 13 : Int) = m30_1 from (congrArg (fun q : Nat => (q : Int)) (eN30 13)).trans em30_1)
  have r32 : (-2147483648 : Int) ≤ y30_0_6 ∧ y30_0_6 ≤ 2147483647 := rngE (show (-2147483648 : Int) ≤ F30 7 6 ∧ F30 7 6 ≤ 2147483647 from H.krg 7 6 (ltn len_V218_Row_Row_oz_G4cls rfl)) (show F30 7 6 = y30_0_6 from ((eF30 7 6).trans ey30_0_6))
  have r33 : (-2147483648 : Int) ≤ y30_0_9 ∧ y30_0_9 ≤ 2147483647 := rngE (show (-2147483648 : Int) ≤ F30 7 9 ∧ F30 7 9 ≤ 2147483647 from H.krg 7 9 (ltn len_V218_Row_Row_oz_G4cls rfl)) (show F30 7 9 = y30_0_9 from ((eF30 7 9).trans ey30_0_9))
  have r34 : (-2147483648 : Int) ≤ y30_0_10 ∧ y30_0_10 ≤ 2147483647 := rngE (show (-2147483648 : Int) ≤ F30 7 10 ∧ F30 7 10 ≤ 2147483647 from H.krg 7 10 (ltn len_V218_Row_Row_oz_G4cls rfl)) (show F30 7 10 = y30_0_10 from ((eF30 7 10).trans ey30_0_10))
  have r35 : (-2147483648 : Int) ≤ y30_0_11 ∧ y30_0_11 ≤ 2147483647 := rngE (show (-2147483648 : Int) ≤ F30 7 11 ∧ F30 7 11 ≤ 2147483647 from H.krg 7 11 (ltn len_V218_Row_Row_oz_G4cls rfl)) (show F30 7 11 = y30_0_11 from ((eF30 7 11).trans ey30_0_11))
  have hb0 : BKI ((A22 9)) ((A 14)) ((y30_0_10)) ((y30_0_6)) := by rw [pz30_1]; exact BKI_0
  have hh0 : HDI ((A22 9)) ((w30_1)) ((y30_0_10)) ((y30_0_6)) := by rw [pz30_1]; exact HDI_0 pz30_3
  refine Ew_of (pcₚ := 52) (fun _ => x_aload_n rfl (rk_o (rfl) rfl rfl)) ?_
  refine Ew_stk (congrArg (fun qz : Nat => ([.ref qz] : List Value)) (show D30 0 = D 0 from mD30 0 rfl).symm) ?_
  refine v_g H (o := 0) (v := .ref (D30 7)) rfl rfl rfl rfl rfl (vrf ((mF30 0 2 rfl).trans ((pf7).trans (congrArg (fun q : Nat => (q : Int)) (mD30 7 rfl).symm)))) ?_
  refine Ew_of (pcₚ := 56) (fun _ => x_aload_n rfl rk_s) ?_
  refine Ew_stk (congrArg (fun qz : Nat => ([.ref qz, .ref (D30 7)] : List Value)) (show D30 8 = D19 8 from (((show D30 8 = D22 8 from (eD30 8))).trans ((show D22 8 = D19 8 from (eD22 8).trans (hD22 0 rfl))))).symm) ?_
  refine v_g H (o := 8) (v := I (y22_0_1)) rfl rfl rfl rfl rfl (congrArg (fun z : Int => I z) ((((show F30 8 1 = F22 8 1 from (eF30 8 1))).trans ((eF22 8 1).trans ey22_0_1)) : F30 8 1 = y22_0_1)) ?_
  refine v_inv H (o := 7) rfl rfl rfl rfl rfl rfl (by rfl) (C123 (D := puc 895234609159 D30) (N := puc 895234609159 N30) (HW_subc H oz_G4cls_48 oz_G4cls_68) ((mF30 7 0 rfl).trans ((pf8).trans (congrArg (fun q : Nat => (q : Int)) (mD30 8 rfl).symm))) (pf30_8_0) (pf30_7_8) (pf30_7_7) (m22_2) ((congrArg (fun q : Nat => (q : Int)) (show N30 9 = N22 9 from (eN30 9))).trans ((congrArg (fun q : Nat => (q : Int)) (eN22 9)).trans em22_2)) (n14) ((congrArg (fun q : Nat => (q : Int)) (show N30 14 = N22 14 from (eN30 14))).trans ((congrArg (fun q : Nat => (q : Int)) (show N22 14 = N19 14 from (eN22 14))).trans ((congrArg (fun q : Nat => (q : Int)) (show N19 14 = N 14 from (eN19 14))).trans (en14)))) (m30_1) ((congrArg (fun q : Nat => (q : Int)) (eN30 13)).trans em30_1) (y30_0_6) (((eF30 7 6).trans ey30_0_6)) (y30_0_10) (((eF30 7 10).trans ey30_0_10)) (y22_0_1) ((((show F30 8 1 = F22 8 1 from (eF30 8 1))).trans ((eF22 8 1).trans ey22_0_1))) (A22 9) ((show A30 9 = A22 9 from (eA30 9))) (A 14) (((show A30 14 = A22 14 from (eA30 14))).trans (((show A22 14 = A19 14 from (eA22 14))).trans ((show A19 14 = A 14 from (eA19 14))))) (w30_1) ((eA30 13).trans ew30_1) (show inr (y22_0_1) from q_884 pz22_0) (show 0 ≤ (y22_0_1) ∧ (y22_0_1) ≤ (m22_2) ∧ (m22_2) ≤ 65536 ∧ (y22_0_1) ≤ 16384 from q_3551 h2 h7 pz22_0 pz22_1) (show 1 ≤ (y30_0_10) ∧ (y30_0_10) ≤ 8 from q_3080 pz30_2) (show 0 ≤ (y22_0_1) ∧ (y22_0_1) ≤ (y22_0_1) from q_3550 pz22_0) (show BKI ((A22 9)) ((A 14)) ((y30_0_10)) ((y30_0_6)) from hb0) (show HDI ((A22 9)) ((w30_1)) ((y30_0_10)) ((y30_0_6)) from hh0) (show (m30_1) = 2048 from pz30_0) (show 0 ≤ (y30_0_6) ∧ (y30_0_6) ≤ (n14) ∧ (n14) ≤ 16384 from q_2783 h10 pz30_1 r13) (fun σ36 D36ₚ N36ₚ F36ₚ A36ₚ c36 s36 Hₚ Oₚ hD36 hN36 hS36 hA36 (pm36_3 : HID _) m36_3 (em36_3 : HID _) y36_0_6 (ey36_0_6 : HID _) w36_3 ew36_3 w36_4 ew36_4 pz36_0 pz36_1 pz36_2 pz36_3 pz36_4 => ⟨rfl, ?_⟩))
  refine v_backMc (c := (((c + c19) + c22) + c30)) (s := (((s + s19) + s22) + s30)) H oz_G4cls_48 oz_G4cls_68 Hₚ Oₚ hD36 oz_G4cls_49 (fun D36 N36 F36 A36 H Oₚ eD36 eN36 eF36 eA36 => ?_)
  have O := OUT_trans O Oₚ
  -- Finder.lay
  have cF36 : SF oz_G4clsl_13 F F36 := SF_trans (cF30) (SF_gluc (ι := oz_G4clsl_18) oz_G4cls_68 hS36 eF36 (by decide +kernel)) (any_sub (lₚ := [(7, 6), (7, 8)]) (by decide +kernel))
  have mF36 := SFm_of cF36 oz_G4cls_63
  have cA36 : SA oz_G4clsl_14 A A36 := SA_trans (cA30) (SA_gluc (ι := oz_G4clsl_18) oz_G4cls_68 hA36 eA36 (by decide +kernel)) (any_subA (lₚ := [13, 14]) (by decide +kernel))
  have mA36 := SAm_of cA36 oz_G4cls_64
  have cD36 : SD oz_G4clsl_14 D D36 := SD_trans (cD30) (SD_gluc (ι := oz_G4clsl_18) oz_G4cls_68 hD36 eD36 (by decide +kernel)) (any_subA (lₚ := [14]) (by decide +kernel))
  have mD36 := SDm_of cD36 oz_G4cls_64
  have cN36 : SD oz_G4clsl_14 N N36 := SD_trans (cN30) (SD_gluc (ι := oz_G4clsl_18) oz_G4cls_68 hN36 eN36 (by decide +kernel)) (any_subA (lₚ := [14]) (by decide +kernel))
  have mN36 := SDm_of cN36 oz_G4cls_64
  have pf36_1_0 : HID (F36 1 0 = (D36 3 : Int)) := ((show F36 1 0 = F30 1 0 from (eF36 1 0))).trans ((pf30_1_0).trans (congrArg (fun q : Nat => (q : Int)) ((show D36 3 = D30 3 from (eD36 3))).symm))
  have pf36_10_0 : HID (F36 10 0 = (D36 11 : Int)) := ((show F36 10 0 = F30 10 0 from (eF36 10 0))).trans ((pf30_10_0).trans (congrArg (fun q : Nat => (q : Int)) ((show D36 11 = D30 11 from (eD36 11))).symm))
  have pf36_7_1 : HID (F36 7 1 = (D36 15 : Int)) := ((show F36 7 1 = F30 7 1 from (eF36 7 1).trans (hS36 0 1 rfl))).trans ((pf30_7_1).trans (congrArg (fun q : Nat => (q : Int)) ((show D36 15 = D30 15 from (eD36 15))).symm))
  have pf36_7_2 : HID (F36 7 2 = (D36 16 : Int)) := ((show F36 7 2 = F30 7 2 from (eF36 7 2).trans (hS36 0 2 rfl))).trans ((pf30_7_2).trans (congrArg (fun q : Nat => (q : Int)) ((show D36 16 = D30 16 from (eD36 16))).symm))
  have pf36_7_3 : HID (F36 7 3 = (D36 17 : Int)) := ((show F36 7 3 = F30 7 3 from (eF36 7 3).trans (hS36 0 3 rfl))).trans ((pf30_7_3).trans (congrArg (fun q : Nat => (q : Int)) ((show D36 17 = D30 17 from (eD36 17))).symm))
  have pf36_7_7 : HID (F36 7 7 = (D36 13 : Int)) := ((show F36 7 7 = F30 7 7 from (eF36 7 7).trans (hS36 0 7 rfl))).trans ((pf30_7_7).trans (congrArg (fun q : Nat => (q : Int)) ((show D36 13 = D30 13 from (eD36 13).trans (hD36 4 rfl))).symm))
  have pf36_7_8 : HID (F36 7 8 = (D36 14 : Int)) := (eF36 7 8).trans (pm36_3.trans (congrArg (fun q : Nat => (q : Int)) (eD36 14).symm))
  have pf36_8_0 : HID (F36 8 0 = (D36 9 : Int)) := ((show F36 8 0 = F30 8 0 from (eF36 8 0).trans (hS36 1 0 rfl))).trans ((pf30_8_0).trans (congrArg (fun q : Nat => (q : Int)) ((show D36 9 = D30 9 from (eD36 9).trans (hD36 2 rfl))).symm))
  have r37 : (0 : Int) ≤ m36_3 ∧ m36_3 ≤ 1000000 := nleE (H.nle 14 (ltn len_V218_Row_Row_oz_G4cls rfl)) (show (N36 14 : Int) = m36_3 from (congrArg (fun q : Nat => (q : Int)) (eN36 14)).trans em36_3)
  have r38 : (-2147483648 : Int) ≤ y36_0_6 ∧ y36_0_6 ≤ 2147483647 := rngE (show (-2147483648 : Int) ≤ F36 7 6 ∧ F36 7 6 ≤ 2147483647 from H.krg 7 6 (ltn len_V218_Row_Row_oz_G4cls rfl)) (show F36 7 6 = y36_0_6 from ((eF36 7 6).trans ey36_0_6))
  have hld : (y36_0_6) = 0 ∨ (y36_0_6) + 4 ≤ (y22_0_1) + 1 := by omega
  try clear pz36_2
  refine Ew_of (pcₚ := 63) (fun _ => x_aload_n rfl (rk_o (rfl) rfl rfl)) ?_
  refine Ew_stk (congrArg (fun qz : Nat => ([.ref qz] : List Value)) (show D36 0 = D 0 from mD36 0 rfl).symm) ?_
  refine v_g H (o := 0) (v := .ref (D36 7)) rfl rfl rfl rfl rfl (vrf ((mF36 0 2 rfl).trans ((pf7).trans (congrArg (fun q : Nat => (q : Int)) (mD36 7 rfl).symm)))) ?_
  refine v_g H (o := 7) (v := I (y36_0_6)) rfl rfl rfl rfl rfl (congrArg (fun z : Int => I z) (((eF36 7 6).trans ey36_0_6) : F36 7 6 = y36_0_6)) ?_
  refine Ew_of (pcₚ := 71) (fun _ => x_istore rfl) ?_
  refine Ew_of (pcₚ := 72) (fun _ => x_aload_n rfl (rk_o (rk_o (rfl) rfl rfl) rfl rfl)) ?_
  refine Ew_stk (congrArg (fun qz : Nat => ([.ref qz] : List Value)) (show D36 0 = D 0 from mD36 0 rfl).symm) ?_
  refine v_g H (o := 0) (v := .ref (D36 12)) rfl rfl rfl rfl rfl (vrf ((mF36 0 0 rfl).trans ((pf12).trans (congrArg (fun q : Nat => (q : Int)) (mD36 12 rfl).symm)))) ?_
  refine Ew_of (pcₚ := 76) (fun _ => x_iconst rfl) ?_
  refine v_lI H (o := 12) rfl rfl rfl rfl (n := n12) ((congrArg (fun q : Nat => (q : Int)) (mN36 12 rfl)).trans (en12)) (show 0 ≤ 2 ∧ 2 < n12 from q_3071 h6 r11) (fun v39 ev39 qv39 => ?_)
  have ev39 : (w12) (2) = v39 := (congrFun ((funext (mA36 12 rfl)).trans (ew12)) (2)).symm.trans ev39
  have hs2 := ev39
  have hs3 : 1 ≤ (v39) ∧ (v39) ≤ 65536 := q_3072 ev39 h8
  refine Ew_of (pcₚ := 79) (fun _ => x_istore rfl) ?_
  refine Ew_of (pcₚ := 80) (fun _ => x_iconst rfl) ?_
  refine Ew_of (pcₚ := 82) (fun _ => x_istore rfl) ?_
  suffices hl82 : ∀ (m : Nat), ∀ (ls : rO) (σ : rS) (D_82 N_82 : Nat → Nat) (c_82 s_82 : Nat) (F_82 : hF) (A_82 : hA) (x82_6 : Int), rlook ls 0 = some (.ref (D_82 0)) → rlook ls 1 = some (.ref (D_82 1)) → rlook ls 2 = some (.ref (D_82 2)) → rlook ls 3 = some (.ref (D_82 8)) → rlook ls 4 = some (I (y36_0_6)) → rlook ls 5 = some (I (v39)) → rlook ls 6 = some (I (x82_6)) → HW V218_Row_Row σ D_82 N_82 F_82 A_82 → OUT (V218_Row_Row).length D N σE c s D_82 N_82 σ c_82 s_82 → SD [3, 9, 11, 14, 15, 16, 17] D36 D_82 → SD [3, 9, 11, 14, 15, 16, 17] N36 N_82 → SF [(1, 0), (1, 1), (1, 2), (7, 1), (7, 2), (7, 3), (7, 4), (7, 5), (7, 6), (7, 8), (7, 12), (7, 13), (7, 14), (7, 15), (7, 16), (7, 17), (7, 18), (8, 0), (8, 1), (8, 2), (10, 0), (10, 1), (10, 2), (10, 3), (10, 4)] F36 F_82 → SA [3, 9, 11, 13, 14, 15, 16, 17] A36 A_82 → F_82 1 0 = (D_82 3 : Int) → F_82 8 0 = (D_82 9 : Int) → F_82 10 0 = (D_82 11 : Int) → F_82 7 8 = (D_82 14 : Int) → F_82 7 1 = (D_82 15 : Int) → F_82 7 2 = (D_82 16 : Int) → F_82 7 3 = (D_82 17 : Int) → ∀ m82_3 : Int, (N_82 3 : Int) = m82_3 → ∀ m82_9 : Int, (N_82 9 : Int) = m82_9 → ∀ m82_11 : Int, (N_82 11 : Int) = m82_11 → ∀ m82_14 : Int, (N_82 14 : Int) = m82_14 → ∀ m82_15 : Int, (N_82 15 : Int) = m82_15 → ∀ m82_16 : Int, (N_82 16 : Int) = m82_16 → ∀ m82_17 : Int, (N_82 17 : Int) = m82_17 → ∀ y82_1_1 : Int, F_82 1 1 = y82_1_1 → ∀ y82_7_6 : Int, F_82 7 6 = y82_7_6 → ∀ y82_8_1 : Int, F_82 8 1 = y82_8_1 → ∀ y82_10_1 : Int, F_82 10 1 = y82_10_1 → ∀ w82_9 : Int → Int, A_82 9 = w82_9 → ∀ w82_13 : Int → Int, A_82 13 = w82_13 → ∀ w82_14 : Int → Int, A_82 14 = w82_14 → (inr (x82_6)) → (0 ≤ (y82_1_1) ∧ (y82_1_1) ≤ (m82_3) ∧ (m82_3) ≤ 65536) → (0 ≤ (x82_6) ∧ (x82_6) ≤ (u2_1) + 65536) → (0 ≤ (y82_8_1) ∧ (y82_8_1) ≤ (m82_9) ∧ (m82_9) ≤ 65536 ∧ (y82_8_1) ≤ 16384) → (0 ≤ (y82_10_1) ∧ (y82_10_1) ≤ (m82_11) ∧ (m82_11) ≤ 65536) → ((m30_1) = 2048) → (0 ≤ (y82_7_6) ∧ (y82_7_6) ≤ (m82_14) ∧ (m82_14) ≤ 16384) → ((y82_7_6) = 0 ∨ (y82_7_6) + 4 ≤ (y82_8_1) + 1) → (BKI ((w82_9)) ((w82_14)) ((y30_0_10)) ((y82_7_6))) → (HDI ((w82_9)) ((w82_13)) ((y30_0_10)) ((y82_7_6))) → ((m82_15) = (m82_16) ∧ (m82_17) = (m82_16) ∧ (m82_16) ≤ 65536 ∧ ((m82_16) = 0 ∨ 64 ≤ (m82_16)) ∧ lgq ((m82_16)) = 0) → (0 ≤ (y36_0_6) ∧ (y36_0_6) ≤ (y82_7_6)) → ((y36_0_6) = 0 ∨ (y36_0_6) + 4 ≤ (u5_1) + 1) → ((u5_1) ≤ (y82_8_1) ∧ (y82_8_1) ≤ (u5_1) + (x82_6)) → ((u2_1) + 65536 - (x82_6)).toNat = m → Ew 218 (d + 6) 82 ls [] σ c_82 s_82 Q from
    hl82 _ _ _ _ _ _ _ _ _ (0) ((rk_o (rk_o (rk_o (rk_o (rfl) rfl rfl) rfl rfl) rfl rfl) rfl rfl).trans (congrArg (fun q : Nat => some (Value.ref q)) (mD36 0 rfl).symm)) ((rk_o (rk_o (rk_o (rk_o (rfl) rfl rfl) rfl rfl) rfl rfl) rfl rfl).trans (congrArg (fun q : Nat => some (Value.ref q)) (mD36 1 rfl).symm)) ((rk_o (rk_o (rk_o (rk_o (rfl) rfl rfl) rfl rfl) rfl rfl) rfl rfl).trans (congrArg (fun q : Nat => some (Value.ref q)) (mD36 2 rfl).symm)) ((rk_o (rk_o (rk_o (rk_s) rfl rfl) rfl rfl) rfl rfl).trans (congrArg (fun q : Nat => some (Value.ref q)) (((((show D36 8 = D30 8 from (eD36 8).trans (hD36 1 rfl))).trans ((show D30 8 = D22 8 from (eD30 8)))).trans ((show D22 8 = D19 8 from (eD22 8).trans (hD22 0 rfl))))).symm)) (rk_o (rk_o (rk_s) rfl rfl) rfl rfl) (rk_o (rk_s) rfl rfl) (rk_s) H O (SD_refl) (SD_refl) (SF_refl) (SA_refl) (pf36_1_0) (pf36_8_0) (pf36_10_0) (pf36_7_8) (pf36_7_1) (pf36_7_2) (pf36_7_3) (m19_2) ((congrArg (fun q : Nat => (q : Int)) (show N36 3 = N30 3 from (eN36 3))).trans ((congrArg (fun q : Nat => (q : Int)) (show N30 3 = N22 3 from (eN30 3))).trans ((congrArg (fun q : Nat => (q : Int)) (show N22 3 = N19 3 from (eN22 3))).trans ((congrArg (fun q : Nat => (q : Int)) (eN19 3)).trans em19_2)))) (m22_2) ((congrArg (fun q : Nat => (q : Int)) (show N36 9 = N30 9 from (eN36 9).trans (hN36 2 rfl))).trans ((congrArg (fun q : Nat => (q : Int)) (show N30 9 = N22 9 from (eN30 9))).trans ((congrArg (fun q : Nat => (q : Int)) (eN22 9)).trans em22_2))) (n11) ((congrArg (fun q : Nat => (q : Int)) (show N36 11 = N30 11 from (eN36 11))).trans ((congrArg (fun q : Nat => (q : Int)) (show N30 11 = N22 11 from (eN30 11))).trans ((congrArg (fun q : Nat => (q : Int)) (show N22 11 = N19 11 from (eN22 11))).trans ((congrArg (fun q : Nat => (q : Int)) (show N19 11 = N 11 from (eN19 11))).trans (en11))))) (m36_3) ((congrArg (fun q : Nat => (q : Int)) (eN36 14)).trans em36_3) (n15) ((congrArg (fun q : Nat => (q : Int)) (show N36 15 = N30 15 from (eN36 15))).trans ((congrArg (fun q : Nat => (q : Int)) (show N30 15 = N22 15 from (eN30 15))).trans ((congrArg (fun q : Nat => (q : Int)) (show N22 15 = N19 15 from (eN22 15))).trans ((congrArg (fun q : Nat => (q : Int)) (show N19 15 = N 15 from (eN19 15))).trans (en15))))) (n16) ((congrArg (fun q : Nat => (q : Int)) (show N36 16 = N30 16 from (eN36 16))).trans ((congrArg (fun q : Nat => (q : Int)) (show N30 16 = N22 16 from (eN30 16))).trans ((congrArg (fun q : Nat => (q : Int)) (show N22 16 = N19 16 from (eN22 16))).trans ((congrArg (fun q : Nat => (q : Int)) (show N19 16 = N 16 from (eN19 16))).trans (en16))))) (n17) ((congrArg (fun q : Nat => (q : Int)) (show N36 17 = N30 17 from (eN36 17))).trans ((congrArg (fun q : Nat => (q : Int)) (show N30 17 = N22 17 from (eN30 17))).trans ((congrArg (fun q : Nat => (q : Int)) (show N22 17 = N19 17 from (eN22 17))).trans ((congrArg (fun q : Nat => (q : Int)) (show N19 17 = N 17 from (eN19 17))).trans (en17))))) (y19_1_1) ((((((show F36 1 1 = F30 1 1 from (eF36 1 1))).trans ((show F30 1 1 = F22 1 1 from (eF30 1 1)))).trans ((show F22 1 1 = F19 1 1 from (eF22 1 1)))).trans ((eF19 1 1).trans ey19_1_1))) (y36_0_6) (((eF36 7 6).trans ey36_0_6)) (y22_0_1) (((((show F36 8 1 = F30 8 1 from (eF36 8 1).trans (hS36 1 1 rfl))).trans ((show F30 8 1 = F22 8 1 from (eF30 8 1)))).trans ((eF22 8 1).trans ey22_0_1))) (u10_1) (((((((show F36 10 1 = F30 10 1 from (eF36 10 1))).trans ((show F30 10 1 = F22 10 1 from (eF30 10 1)))).trans ((show F22 10 1 = F19 10 1 from (eF22 10 1)))).trans ((show F19 10 1 = (updF F 0 8 (v17)) 10 1 from (eF19 10 1)))).trans (eu10_1))) (A22 9) (((show A36 9 = A30 9 from (eA36 9).trans (funext (hA36 2 rfl)))).trans ((show A30 9 = A22 9 from (eA30 9)))) (w36_4) ((eA36 13).trans ew36_4) (w36_3) ((eA36 14).trans ew36_3) (show inr (0) from q_20) (show 0 ≤ (y19_1_1) ∧ (y19_1_1) ≤ (m19_2) ∧ (m19_2) ≤ 65536 from pz19_0) (show 0 ≤ (0) ∧ (0) ≤ (u2_1) + 65536 from q_3075 h2) (show 0 ≤ (y22_0_1) ∧ (y22_0_1) ≤ (m22_2) ∧ (m22_2) ≤ 65536 ∧ (y22_0_1) ≤ 16384 from q_3551 h2 h7 pz22_0 pz22_1) (show 0 ≤ (u10_1) ∧ (u10_1) ≤ (n11) ∧ (n11) ≤ 65536 from h5) (show (m30_1) = 2048 from pz30_0) (show 0 ≤ (y36_0_6) ∧ (y36_0_6) ≤ (m36_3) ∧ (m36_3) ≤ 16384 from q_3554 pz30_1 pz36_0) (show (y36_0_6) = 0 ∨ (y36_0_6) + 4 ≤ (y22_0_1) + 1 from hld) (show BKI ((A22 9)) ((w36_3)) ((y30_0_10)) ((y36_0_6)) from pz36_3) (show HDI ((A22 9)) ((w36_4)) ((y30_0_10)) ((y36_0_6)) from pz36_4) (show (n15) = (n16) ∧ (n17) = (n16) ∧ (n16) ≤ 65536 ∧ ((n16) = 0 ∨ 64 ≤ (n16)) ∧ lgq ((n16)) = 0 from h11) (show 0 ≤ (y36_0_6) ∧ (y36_0_6) ≤ (y36_0_6) from q_3553 pz30_1 pz36_0) (show (y36_0_6) = 0 ∨ (y36_0_6) + 4 ≤ (u5_1) + 1 by omega) (show (u5_1) ≤ (y22_0_1) ∧ (y22_0_1) ≤ (u5_1) + (0) from q_3552 pz22_1) rfl
  as_aux_lemma =>
  intro m
  induction m using Nat.strongRecOn with
  | _ m ih82 =>
    intro ls σ D_82 N_82 c_82 s_82 F_82 A_82 x82_6 l82_0 l82_1 l82_2 l82_3 l82_4 l82_5 l82_6 H O hD_82 hN_82 hS_82 hA_82 pm82_3 pm82_9 pm82_11 pm82_14 pm82_15 pm82_16 pm82_17 m82_3 em82_3 m82_9 em82_9 m82_11 em82_11 m82_14 em82_14 m82_15 em82_15 m82_16 em82_16 m82_17 em82_17 y82_1_1 ey82_1_1 y82_7_6 ey82_7_6 y82_8_1 ey82_8_1 y82_10_1 ey82_10_1 w82_9 ew82_9 w82_13 ew82_13 w82_14 ew82_14 j82_0 j82_1 j82_2 j82_3 j82_4 j82_5 j82_6 j82_7 j82_8 j82_9 j82_10 j82_11 j82_12 j82_13 hm82
    have cF_82 : SF oz_G4clsl_13 F F_82 := SF_trans (cF36) hS_82 (any_sub (by decide +kernel))
    have mF_82 := SFm_of cF_82 oz_G4cls_63
    have cA_82 : SA oz_G4clsl_14 A A_82 := SA_trans (cA36) hA_82 (any_subA (by decide +kernel))
    have mA_82 := SAm_of cA_82 oz_G4cls_64
    have cD_82 : SD oz_G4clsl_14 D D_82 := SD_trans (cD36) hD_82 (any_subA (by decide +kernel))
    have mD_82 := SDm_of cD_82 oz_G4cls_64
    have cN_82 : SD oz_G4clsl_14 N N_82 := SD_trans (cN36) hN_82 (any_subA (by decide +kernel))
    have mN_82 := SDm_of cN_82 oz_G4cls_64
    replace pm82_3 := HIDm pm82_3
    replace pm82_9 := HIDm pm82_9
    replace pm82_11 := HIDm pm82_11
    replace pm82_14 := HIDm pm82_14
    replace pm82_15 := HIDm pm82_15
    replace pm82_16 := HIDm pm82_16
    replace pm82_17 := HIDm pm82_17
    replace em82_3 := HIDm em82_3
    replace em82_9 := HIDm em82_9
    replace em82_11 := HIDm em82_11
    replace em82_14 := HIDm em82_14
    replace em82_15 := HIDm em82_15
    replace em82_16 := HIDm em82_16
    replace em82_17 := HIDm em82_17
    replace ey82_1_1 := HIDm ey82_1_1
    replace ey82_7_6 := HIDm ey82_7_6
    replace ey82_8_1 := HIDm ey82_8_1
    replace ey82_10_1 := HIDm ey82_10_1
    try clear pz36_2
    have pf_82_7_7 : HID (F_82 7 7 = (D_82 13 : Int)) := (hS_82 7 7 rfl).trans ((pf36_7_7).trans (congrArg (fun q : Nat => (q : Int)) (hD_82 13 rfl).symm))
    have r40 : (0 : Int) ≤ m82_3 ∧ m82_3 ≤ 1000000 := nleE (H.nle 3 (ltn len_V218_Row_Row_oz_G4cls rfl)) (show (N_82 3 : Int) = m82_3 from em82_3)
    have r41 : (0 : Int) ≤ m82_9 ∧ m82_9 ≤ 1000000 := nleE (H.nle 9 (ltn len_V218_Row_Row_oz_G4cls rfl)) (show (N_82 9 : Int) = m82_9 from em82_9)
    have r42 : (0 : Int) ≤ m82_11 ∧ m82_11 ≤ 1000000 := nleE (H.nle 11 (ltn len_V218_Row_Row_oz_G4cls rfl)) (show (N_82 11 : Int) = m82_11 from em82_11)
    have r43 : (0 : Int) ≤ m82_14 ∧ m82_14 ≤ 1000000 := nleE (H.nle 14 (ltn len_V218_Row_Row_oz_G4cls rfl)) (show (N_82 14 : Int) = m82_14 from em82_14)
    have r44 : (0 : Int) ≤ m82_15 ∧ m82_15 ≤ 1000000 := nleE (H.nle 15 (ltn len_V218_Row_Row_oz_G4cls rfl)) (show (N_82 15 : Int) = m82_15 from em82_15)
    have r45 : (0 : Int) ≤ m82_16 ∧ m82_16 ≤ 1000000 := nleE (H.nle 16 (ltn len_V218_Row_Row_oz_G4cls rfl)) (show (N_82 16 : Int) = m82_16 from em82_16)
    have r46 : (0 : Int) ≤ m82_17 ∧ m82_17 ≤ 1000000 := nleE (H.nle 17 (ltn len_V218_Row_Row_oz_G4cls rfl)) (show (N_82 17 : Int) = m82_17 from em82_17)
    have r47 : (-2147483648 : Int) ≤ y82_1_1 ∧ y82_1_1 ≤ 2147483647 := rngE (show (-2147483648 : Int) ≤ F_82 1 1 ∧ F_82 1 1 ≤ 2147483647 from H.krg 1 1 (ltn len_V218_Row_Row_oz_G4cls rfl)) (show F_82 1 1 = y82_1_1 from (ey82_1_1))
    have r48 : (-2147483648 : Int) ≤ y82_7_6 ∧ y82_7_6 ≤ 2147483647 := rngE (show (-2147483648 : Int) ≤ F_82 7 6 ∧ F_82 7 6 ≤ 2147483647 from H.krg 7 6 (ltn len_V218_Row_Row_oz_G4cls rfl)) (show F_82 7 6 = y82_7_6 from (ey82_7_6))
    have r49 : (-2147483648 : Int) ≤ y82_8_1 ∧ y82_8_1 ≤ 2147483647 := rngE (show (-2147483648 : Int) ≤ F_82 8 1 ∧ F_82 8 1 ≤ 2147483647 from H.krg 8 1 (ltn len_V218_Row_Row_oz_G4cls rfl)) (show F_82 8 1 = y82_8_1 from (ey82_8_1))
    have r50 : (-2147483648 : Int) ≤ y82_10_1 ∧ y82_10_1 ≤ 2147483647 := rngE (show (-2147483648 : Int) ≤ F_82 10 1 ∧ F_82 10 1 ≤ 2147483647 from H.krg 10 1 (ltn len_V218_Row_Row_oz_G4cls rfl)) (show F_82 10 1 = y82_10_1 from (ey82_10_1))
    refine Ew_of (pcₚ := 84) (fun _ => x_iload rfl l82_5) ?_
    have hc242 : ∀ (ls : rO) (σ : rS) (F_c242 : hF) (A_c242 : hA) , rlook ls 0 = some (.ref (D_82 0)) → rlook ls 1 = some (.ref (D_82 1)) → rlook ls 2 = some (.ref (D_82 2)) → HW V218_Row_Row σ D_82 N_82 F_c242 A_c242 → OUT (V218_Row_Row).length D N σE c s D_82 N_82 σ c_82 s_82 → SF [] F_82 F_c242 → SA [] A_82 A_c242 → (((v39) ≤ (0)) ∨ ((v39) > (0) ∧ (x82_6) ≥ (u2_1)) ∨ ((v39) > (0) ∧ (x82_6) < (u2_1) ∧ 0 ≤ (F_82 1 2) ∧ (F_82 1 2) ≤ 1 ∧ (F_82 1 2) ≠ (0))) → Ew 218 (d + 6) 242 ls [] σ c_82 s_82 Q := by
     as_aux_lemma =>
      intro  ls σ F_c242 A_c242  lc242_0 lc242_1 lc242_2 H O hS_c242 hA_c242     jc242_0
      have cF_c242 : SF oz_G4clsl_13 F F_c242 := SF_trans (cF_82) hS_c242 (any_sub (by decide +kernel))
      have mF_c242 := SFm_of cF_c242 oz_G4cls_63
      have cA_c242 : SA oz_G4clsl_14 A A_c242 := SA_trans (cA_82) hA_c242 (any_subA (by decide +kernel))
      have mA_c242 := SAm_of cA_c242 oz_G4cls_64
      refine Ew_of (pcₚ := 243) (fun _ => x_aload_n rfl lc242_1) ?_
      refine Ew_of (pcₚ := 244) (fun _ => x_lconst (z := 0) rfl (by decide)) ?_
      refine Ew_of (pcₚ := 245) (fun _ => x_iconst rfl) ?_
      refine v_inv H (o := 1) rfl rfl rfl rfl rfl rfl (by rfl) (C160 (D := puc 1537 D_82) (N := puc 1537 N_82) (HW_subc H oz_G4cls_50 oz_G4cls_69) (((hS_c242 1 0 rfl)).trans (pm82_3)) (m82_3) (em82_3) (y82_1_1) (((hS_c242 1 1 rfl).trans (ey82_1_1))) (show inrJ (0) from q_81) (show inr (4) from q_2) (show 0 ≤ (y82_1_1) ∧ (y82_1_1) ≤ (m82_3) ∧ (m82_3) ≤ 65536 from j82_1) (fun σ51 D51ₚ N51ₚ F51ₚ A51ₚ c51 s51 Hₚ Oₚ hD51 hN51 hS51 hA51 (pm51_1 : HID _) m51_1 (em51_1 : HID _) y51_0_1 (ey51_0_1 : HID _) pz51_0 pz51_1 => ⟨rfl, ?_⟩))
      refine v_backMc (c := c_82) (s := s_82) H oz_G4cls_50 oz_G4cls_69 Hₚ Oₚ hD51 oz_G4cls_51 (fun D51 N51 F51 A51 H Oₚ eD51 eN51 eF51 eA51 => ?_)
      have O := OUT_trans O Oₚ
      -- Row.addNumber
      have cF51 : SF oz_G4clsl_13 F F51 := SF_trans (cF_c242) (SF_gluc (ι := oz_G4clsl_19) oz_G4cls_69 hS51 eF51 (by decide +kernel)) (any_sub (lₚ := [(1, 0), (1, 1), (1, 2)]) (by decide +kernel))
      have mF51 := SFm_of cF51 oz_G4cls_63
      have cA51 : SA oz_G4clsl_14 A A51 := SA_trans (cA_c242) (SA_gluc (ι := oz_G4clsl_19) oz_G4cls_69 hA51 eA51 (by decide +kernel)) (any_subA (lₚ := [3]) (by decide +kernel))
      have mA51 := SAm_of cA51 oz_G4cls_64
      have cD51 : SD oz_G4clsl_14 D D51 := SD_trans (cD_82) (SD_gluc (ι := oz_G4clsl_19) oz_G4cls_69 hD51 eD51 (by decide +kernel)) (any_subA (lₚ := [3]) (by decide +kernel))
      have mD51 := SDm_of cD51 oz_G4cls_64
      have cN51 : SD oz_G4clsl_14 N N51 := SD_trans (cN_82) (SD_gluc (ι := oz_G4clsl_19) oz_G4cls_69 hN51 eN51 (by decide +kernel)) (any_subA (lₚ := [3]) (by decide +kernel))
      have mN51 := SDm_of cN51 oz_G4cls_64
      have pf51_1_0 : HID (F51 1 0 = (D51 3 : Int)) := (eF51 1 0).trans (pm51_1.trans (congrArg (fun q : Nat => (q : Int)) (eD51 3).symm))
      have pf51_10_0 : HID (F51 10 0 = (D51 11 : Int)) := ((show F51 10 0 = F_c242 10 0 from (eF51 10 0))).trans ((((hS_c242 10 0 rfl)).trans (pm82_11)).trans (congrArg (fun q : Nat => (q : Int)) ((show D51 11 = D_82 11 from (eD51 11))).symm))
      have pf51_7_1 : HID (F51 7 1 = (D51 15 : Int)) := ((show F51 7 1 = F_c242 7 1 from (eF51 7 1))).trans ((((hS_c242 7 1 rfl)).trans (pm82_15)).trans (congrArg (fun q : Nat => (q : Int)) ((show D51 15 = D_82 15 from (eD51 15))).symm))
      have pf51_7_2 : HID (F51 7 2 = (D51 16 : Int)) := ((show F51 7 2 = F_c242 7 2 from (eF51 7 2))).trans ((((hS_c242 7 2 rfl)).trans (pm82_16)).trans (congrArg (fun q : Nat => (q : Int)) ((show D51 16 = D_82 16 from (eD51 16))).symm))
      have pf51_7_3 : HID (F51 7 3 = (D51 17 : Int)) := ((show F51 7 3 = F_c242 7 3 from (eF51 7 3))).trans ((((hS_c242 7 3 rfl)).trans (pm82_17)).trans (congrArg (fun q : Nat => (q : Int)) ((show D51 17 = D_82 17 from (eD51 17))).symm))
      have pf51_7_7 : HID (F51 7 7 = (D51 13 : Int)) := ((show F51 7 7 = F_c242 7 7 from (eF51 7 7))).trans ((((hS_c242 7 7 rfl)).trans (pf_82_7_7)).trans (congrArg (fun q : Nat => (q : Int)) ((show D51 13 = D_82 13 from (eD51 13))).symm))
      have pf51_7_8 : HID (F51 7 8 = (D51 14 : Int)) := ((show F51 7 8 = F_c242 7 8 from (eF51 7 8))).trans ((((hS_c242 7 8 rfl)).trans (pm82_14)).trans (congrArg (fun q : Nat => (q : Int)) ((show D51 14 = D_82 14 from (eD51 14))).symm))
      have pf51_8_0 : HID (F51 8 0 = (D51 9 : Int)) := ((show F51 8 0 = F_c242 8 0 from (eF51 8 0))).trans ((((hS_c242 8 0 rfl)).trans (pm82_9)).trans (congrArg (fun q : Nat => (q : Int)) ((show D51 9 = D_82 9 from (eD51 9))).symm))
      have r52 : (0 : Int) ≤ m51_1 ∧ m51_1 ≤ 1000000 := nleE (H.nle 3 (ltn len_V218_Row_Row_oz_G4cls rfl)) (show (N51 3 : Int) = m51_1 from (congrArg (fun q : Nat => (q : Int)) (eN51 3)).trans em51_1)
      have r53 : (-2147483648 : Int) ≤ y51_0_1 ∧ y51_0_1 ≤ 2147483647 := rngE (show (-2147483648 : Int) ≤ F51 1 1 ∧ F51 1 1 ≤ 2147483647 from H.krg 1 1 (ltn len_V218_Row_Row_oz_G4cls rfl)) (show F51 1 1 = y51_0_1 from ((eF51 1 1).trans ey51_0_1))
      have hc276 : ∀ (ls : rO) (σ : rS) (D_c276 N_c276 : Nat → Nat) (c_c276 s_c276 : Nat) (F_c276 : hF) (A_c276 : hA) , HW V218_Row_Row σ D_c276 N_c276 F_c276 A_c276 → OUT (V218_Row_Row).length D N σE c s D_c276 N_c276 σ c_c276 s_c276 → SD [3] D51 D_c276 → SD [3] N51 N_c276 → SF [(1, 0), (1, 1), (1, 2)] F51 F_c276 → SA [3] A51 A_c276 → F_c276 1 0 = (D_c276 3 : Int) → ∀ mc276_3 : Int, (N_c276 3 : Int) = mc276_3 → ∀ yc276_1_1 : Int, F_c276 1 1 = yc276_1_1 → (0 ≤ (yc276_1_1) ∧ (yc276_1_1) ≤ (mc276_3) ∧ (mc276_3) ≤ 65536) → Ew 218 (d + 6) 276 ls [] σ c_c276 s_c276 Q := by
       as_aux_lemma =>
        intro  ls σ D_c276 N_c276 c_c276 s_c276 F_c276 A_c276   H O hD_c276 hN_c276 hS_c276 hA_c276 pmc276_3 mc276_3 emc276_3 yc276_1_1 eyc276_1_1  jc276_0
        have cF_c276 : SF oz_G4clsl_13 F F_c276 := SF_trans (cF51) hS_c276 (any_sub (by decide +kernel))
        have mF_c276 := SFm_of cF_c276 oz_G4cls_63
        have cA_c276 : SA oz_G4clsl_14 A A_c276 := SA_trans (cA51) hA_c276 (any_subA (by decide +kernel))
        have mA_c276 := SAm_of cA_c276 oz_G4cls_64
        have cD_c276 : SD oz_G4clsl_14 D D_c276 := SD_trans (cD51) hD_c276 (any_subA (by decide +kernel))
        have mD_c276 := SDm_of cD_c276 oz_G4cls_64
        have cN_c276 : SD oz_G4clsl_14 N N_c276 := SD_trans (cN51) hN_c276 (any_subA (by decide +kernel))
        have mN_c276 := SDm_of cN_c276 oz_G4cls_64
        replace pmc276_3 := HIDm pmc276_3
        replace emc276_3 := HIDm emc276_3
        replace eyc276_1_1 := HIDm eyc276_1_1
        try clear pz51_1
        have pf_c276_10_0 : HID (F_c276 10 0 = (D_c276 11 : Int)) := (hS_c276 10 0 rfl).trans ((pf51_10_0).trans (congrArg (fun q : Nat => (q : Int)) (hD_c276 11 rfl).symm))
        have pf_c276_7_1 : HID (F_c276 7 1 = (D_c276 15 : Int)) := (hS_c276 7 1 rfl).trans ((pf51_7_1).trans (congrArg (fun q : Nat => (q : Int)) (hD_c276 15 rfl).symm))
        have pf_c276_7_2 : HID (F_c276 7 2 = (D_c276 16 : Int)) := (hS_c276 7 2 rfl).trans ((pf51_7_2).trans (congrArg (fun q : Nat => (q : Int)) (hD_c276 16 rfl).symm))
        have pf_c276_7_3 : HID (F_c276 7 3 = (D_c276 17 : Int)) := (hS_c276 7 3 rfl).trans ((pf51_7_3).trans (congrArg (fun q : Nat => (q : Int)) (hD_c276 17 rfl).symm))
        have pf_c276_7_7 : HID (F_c276 7 7 = (D_c276 13 : Int)) := (hS_c276 7 7 rfl).trans ((pf51_7_7).trans (congrArg (fun q : Nat => (q : Int)) (hD_c276 13 rfl).symm))
        have pf_c276_7_8 : HID (F_c276 7 8 = (D_c276 14 : Int)) := (hS_c276 7 8 rfl).trans ((pf51_7_8).trans (congrArg (fun q : Nat => (q : Int)) (hD_c276 14 rfl).symm))
        have pf_c276_8_0 : HID (F_c276 8 0 = (D_c276 9 : Int)) := (hS_c276 8 0 rfl).trans ((pf51_8_0).trans (congrArg (fun q : Nat => (q : Int)) (hD_c276 9 rfl).symm))
        have r54 : (0 : Int) ≤ mc276_3 ∧ mc276_3 ≤ 1000000 := nleE (H.nle 3 (ltn len_V218_Row_Row_oz_G4cls rfl)) (show (N_c276 3 : Int) = mc276_3 from emc276_3)
        have r55 : (-2147483648 : Int) ≤ yc276_1_1 ∧ yc276_1_1 ≤ 2147483647 := rngE (show (-2147483648 : Int) ≤ F_c276 1 1 ∧ F_c276 1 1 ≤ 2147483647 from H.krg 1 1 (ltn len_V218_Row_Row_oz_G4cls rfl)) (show F_c276 1 1 = yc276_1_1 from (eyc276_1_1))
        try clear pz51_1
        exact w_ret rfl (k _ _ _ _ _ _ _ H O (cD_c276) (cN_c276) (cF_c276) (cA_c276) (pmc276_3) (pf_c276_8_0) (pf_c276_10_0) (pf_c276_7_7) (pf_c276_7_8) (pf_c276_7_1) (pf_c276_7_2) (pf_c276_7_3) (mc276_3) (emc276_3) (m82_9) ((congrArg (fun q : Nat => (q : Int)) (hN_c276 9 rfl)).trans ((congrArg (fun q : Nat => (q : Int)) (show N51 9 = N_82 9 from (eN51 9))).trans (em82_9))) (m82_11) ((congrArg (fun q : Nat => (q : Int)) (hN_c276 11 rfl)).trans ((congrArg (fun q : Nat => (q : Int)) (show N51 11 = N_82 11 from (eN51 11))).trans (em82_11))) (m30_1) ((congrArg (fun q : Nat => (q : Int)) (hN_c276 13 rfl)).trans ((congrArg (fun q : Nat => (q : Int)) (show N51 13 = N_82 13 from (eN51 13))).trans ((congrArg (fun q : Nat => (q : Int)) (hN_82 13 rfl)).trans ((congrArg (fun q : Nat => (q : Int)) (show N36 13 = N30 13 from (eN36 13).trans (hN36 4 rfl))).trans ((congrArg (fun q : Nat => (q : Int)) (eN30 13)).trans em30_1))))) (m82_14) ((congrArg (fun q : Nat => (q : Int)) (hN_c276 14 rfl)).trans ((congrArg (fun q : Nat => (q : Int)) (show N51 14 = N_82 14 from (eN51 14))).trans (em82_14))) (m82_15) ((congrArg (fun q : Nat => (q : Int)) (hN_c276 15 rfl)).trans ((congrArg (fun q : Nat => (q : Int)) (show N51 15 = N_82 15 from (eN51 15))).trans (em82_15))) (m82_16) ((congrArg (fun q : Nat => (q : Int)) (hN_c276 16 rfl)).trans ((congrArg (fun q : Nat => (q : Int)) (show N51 16 = N_82 16 from (eN51 16))).trans (em82_16))) (m82_17) ((congrArg (fun q : Nat => (q : Int)) (hN_c276 17 rfl)).trans ((congrArg (fun q : Nat => (q : Int)) (show N51 17 = N_82 17 from (eN51 17))).trans (em82_17))) (yc276_1_1) ((eyc276_1_1)) (y82_8_1) (((((hS_c276 8 1 rfl).trans ((show F51 8 1 = F_c242 8 1 from (eF51 8 1)))).trans (hS_c242 8 1 rfl)).trans (ey82_8_1))) (y82_10_1) (((((hS_c276 10 1 rfl).trans ((show F51 10 1 = F_c242 10 1 from (eF51 10 1)))).trans (hS_c242 10 1 rfl)).trans (ey82_10_1))) (show 0 ≤ (yc276_1_1) ∧ (yc276_1_1) ≤ (mc276_3) ∧ (mc276_3) ≤ 65536 from jc276_0) (show 0 ≤ (y82_8_1) ∧ (y82_8_1) ≤ (m82_9) ∧ (m82_9) ≤ 65536 from q_2775 j82_3) (show 0 ≤ (y82_10_1) ∧ (y82_10_1) ≤ (m82_11) ∧ (m82_11) ≤ 65536 from j82_4) (show (m30_1) = 0 ∨ (m30_1) = 2048 from q_2788 j82_5) (show (m82_14) ≤ 16384 from q_3076 j82_6) (show (m82_15) = (m82_16) ∧ (m82_17) = (m82_16) ∧ (m82_16) ≤ 65536 ∧ ((m82_16) = 0 ∨ 64 ≤ (m82_16)) ∧ lgq ((m82_16)) = 0 from j82_10))
      try clear pz51_1
      refine Ew_of (pcₚ := 249) (fun _ => x_aload_n rfl lc242_0) ?_
      refine Ew_stk (congrArg (fun qz : Nat => ([.ref qz] : List Value)) (show D51 0 = D_82 0 from ((show D51 0 = D_82 0 from (eD51 0)))).symm) ?_
      refine v_g H (o := 0) (v := I (v17)) rfl rfl rfl rfl rfl (congrArg (fun z : Int => I z) (((((((((show F51 0 8 = F_c242 0 8 from (eF51 0 8))).trans (hS_c242 0 8 rfl)).trans (hS_82 0 8 rfl)).trans ((show F36 0 8 = F30 0 8 from (eF36 0 8)))).trans ((show F30 0 8 = F22 0 8 from (eF30 0 8)))).trans ((show F22 0 8 = F19 0 8 from (eF22 0 8)))).trans ((show F19 0 8 = (updF F 0 8 (v17)) 0 8 from (eF19 0 8).trans (hS19 0 8 rfl)))) : F51 0 8 = v17)) ?_
      refine Ew_of (pcₚ := 253) (fun _ => x_iconst rfl) ?_
      refine w_iand rfl (show inr (v17) from qv17) (show inr (4) from q_2) (fun z56 gz56 gaz56 gbz56 => ?_)
      refine w_ifeq (t := 276) rfl rfl (show inr (z56) from gz56) (fun b57 => ?_) (fun b57 => ?_)
      · exact hc276  _ _ _ _ _ _ _ _   H O (SD_refl) (SD_refl) (SF_refl) (SA_refl) (pf51_1_0) (m51_1) ((congrArg (fun q : Nat => (q : Int)) (eN51 3)).trans em51_1) (y51_0_1) (((eF51 1 1).trans ey51_0_1))  (show 0 ≤ (y51_0_1) ∧ (y51_0_1) ≤ (m51_1) ∧ (m51_1) ≤ 65536 from pz51_0)
      · refine Ew_of (pcₚ := 258) (fun _ => x_aload_n rfl lc242_1) ?_
        refine Ew_of (pcₚ := 259) (fun _ => x_aload_n rfl lc242_2) ?_
        refine Ew_stk (show ([.ref (D_82 2), .ref (D_82 1)] : List Value) = [.ref (D51 2), .ref (D51 1)] by rw [show D51 1 = D_82 1 from ((show D51 1 = D_82 1 from (eD51 1).trans (hD51 0 rfl))), show D51 2 = D_82 2 from ((show D51 2 = D_82 2 from (eD51 2)))]) ?_
        refine v_g H (o := 2) (v := .ref (D51 4)) rfl rfl rfl rfl rfl (vrf ((mF51 2 0 rfl).trans ((pf4).trans (congrArg (fun q : Nat => (q : Int)) (mD51 4 rfl).symm)))) ?_
        refine Ew_of (pcₚ := 263) (fun _ => x_iconst rfl) ?_
        refine Ew_of (pcₚ := 264) (fun _ => x_aload_n rfl lc242_2) ?_
        refine Ew_stk (congrArg (fun qz : Nat => ([.ref qz, I (0), .ref (D51 4), .ref (D51 1)] : List Value)) (show D51 2 = D_82 2 from ((show D51 2 = D_82 2 from (eD51 2)))).symm) ?_
        refine v_g H (o := 2) (v := I (u2_1)) rfl rfl rfl rfl rfl (congrArg (fun z : Int => I z) (((mF51 2 1 rfl).trans (eu2_1)) : F51 2 1 = u2_1)) ?_
        refine Ew_of (pcₚ := 268) (fun _ => x_iconst rfl) ?_
        refine w_stat25 rfl rfl (by rfl) (C49_Br (D := puc 4 D51) (N := puc 4 N51) (HW_subc H oz_G4cls_52 oz_G4cls_40) (n4) ((congrArg (fun q : Nat => (q : Int)) (mN51 4 rfl)).trans (en4)) (show inr (0) from q_20) (show inr (u2_1) from q_884 h2) (show inr (0) from q_20) (show 0 ≤ (0) ∧ (0) ≤ (u2_1) ∧ (u2_1) ≤ (n4) from q_2877 h2) (fun z58 σ58 F58ₚ A58ₚ Hₚ Oₚ hS58 hA58 pz58_0 => ⟨rfl, ?_⟩))
        refine v_backc (c := (c_82 + c51)) (s := (s_82 + s51)) H oz_G4cls_52 oz_G4cls_40 Hₚ Oₚ (fun F58 A58 H Oₚ eF58 eA58 => ?_)
        have O := OUT_trans O Oₚ
        -- PackHouse.narrowSum
        have cF58 : SF oz_G4clsl_13 F F58 := SF_trans (cF51) (SF_gluc (ι := oz_G4clsl_12) oz_G4cls_40 hS58 eF58 (by decide +kernel)) (any_sub (lₚ := []) (by decide +kernel))
        have mF58 := SFm_of cF58 oz_G4cls_63
        have cA58 : SA oz_G4clsl_14 A A58 := SA_trans (cA51) (SA_gluc (ι := oz_G4clsl_12) oz_G4cls_40 hA58 eA58 (by decide +kernel)) (any_subA (lₚ := []) (by decide +kernel))
        have mA58 := SAm_of cA58 oz_G4cls_64
        refine w_i2l rfl (show inr (z58) from pz58_0) ?_
        refine Ew_of (pcₚ := 273) (fun _ => x_iconst rfl) ?_
        refine v_inv H (o := 1) rfl rfl rfl rfl rfl rfl (by rfl) (C160 (D := puc 1537 D51) (N := puc 1537 N51) (HW_subc H oz_G4cls_50 oz_G4cls_69) ((((show F58 1 0 = F51 1 0 from (eF58 1 0)))).trans (pf51_1_0)) (m51_1) ((congrArg (fun q : Nat => (q : Int)) (eN51 3)).trans em51_1) (y51_0_1) ((((show F58 1 1 = F51 1 1 from (eF58 1 1))).trans ((eF51 1 1).trans ey51_0_1))) (show inrJ (z58) from q_428 pz58_0) (show inr (4) from q_2) (show 0 ≤ (y51_0_1) ∧ (y51_0_1) ≤ (m51_1) ∧ (m51_1) ≤ 65536 from pz51_0) (fun σ59 D59ₚ N59ₚ F59ₚ A59ₚ c59 s59 Hₚ Oₚ hD59 hN59 hS59 hA59 (pm59_1 : HID _) m59_1 (em59_1 : HID _) y59_0_1 (ey59_0_1 : HID _) pz59_0 pz59_1 => ⟨rfl, ?_⟩))
        refine v_backMc (c := (c_82 + c51)) (s := (s_82 + s51)) H oz_G4cls_50 oz_G4cls_69 Hₚ Oₚ hD59 oz_G4cls_51 (fun D59 N59 F59 A59 H Oₚ eD59 eN59 eF59 eA59 => ?_)
        have O := OUT_trans O Oₚ
        -- Row.addNumber
        have cF59 : SF oz_G4clsl_13 F F59 := SF_trans (cF58) (SF_gluc (ι := oz_G4clsl_19) oz_G4cls_69 hS59 eF59 (by decide +kernel)) (any_sub (lₚ := [(1, 0), (1, 1), (1, 2)]) (by decide +kernel))
        have mF59 := SFm_of cF59 oz_G4cls_63
        have cA59 : SA oz_G4clsl_14 A A59 := SA_trans (cA58) (SA_gluc (ι := oz_G4clsl_19) oz_G4cls_69 hA59 eA59 (by decide +kernel)) (any_subA (lₚ := [3]) (by decide +kernel))
        have mA59 := SAm_of cA59 oz_G4cls_64
        have cD59 : SD oz_G4clsl_14 D D59 := SD_trans (cD51) (SD_gluc (ι := oz_G4clsl_19) oz_G4cls_69 hD59 eD59 (by decide +kernel)) (any_subA (lₚ := [3]) (by decide +kernel))
        have mD59 := SDm_of cD59 oz_G4cls_64
        have cN59 : SD oz_G4clsl_14 N N59 := SD_trans (cN51) (SD_gluc (ι := oz_G4clsl_19) oz_G4cls_69 hN59 eN59 (by decide +kernel)) (any_subA (lₚ := [3]) (by decide +kernel))
        have mN59 := SDm_of cN59 oz_G4cls_64
        have pf59_1_0 : HID (F59 1 0 = (D59 3 : Int)) := (eF59 1 0).trans (pm59_1.trans (congrArg (fun q : Nat => (q : Int)) (eD59 3).symm))
        have pf59_10_0 : HID (F59 10 0 = (D59 11 : Int)) := ((show F59 10 0 = F58 10 0 from (eF59 10 0))).trans (((((show F58 10 0 = F51 10 0 from (eF58 10 0)))).trans (pf51_10_0)).trans (congrArg (fun q : Nat => (q : Int)) ((show D59 11 = D51 11 from (eD59 11))).symm))
        have pf59_7_1 : HID (F59 7 1 = (D59 15 : Int)) := ((show F59 7 1 = F58 7 1 from (eF59 7 1))).trans (((((show F58 7 1 = F51 7 1 from (eF58 7 1)))).trans (pf51_7_1)).trans (congrArg (fun q : Nat => (q : Int)) ((show D59 15 = D51 15 from (eD59 15))).symm))
        have pf59_7_2 : HID (F59 7 2 = (D59 16 : Int)) := ((show F59 7 2 = F58 7 2 from (eF59 7 2))).trans (((((show F58 7 2 = F51 7 2 from (eF58 7 2)))).trans (pf51_7_2)).trans (congrArg (fun q : Nat => (q : Int)) ((show D59 16 = D51 16 from (eD59 16))).symm))
        have pf59_7_3 : HID (F59 7 3 = (D59 17 : Int)) := ((show F59 7 3 = F58 7 3 from (eF59 7 3))).trans (((((show F58 7 3 = F51 7 3 from (eF58 7 3)))).trans (pf51_7_3)).trans (congrArg (fun q : Nat => (q : Int)) ((show D59 17 = D51 17 from (eD59 17))).symm))
        have pf59_7_7 : HID (F59 7 7 = (D59 13 : Int)) := ((show F59 7 7 = F58 7 7 from (eF59 7 7))).trans (((((show F58 7 7 = F51 7 7 from (eF58 7 7)))).trans (pf51_7_7)).trans (congrArg (fun q : Nat => (q : Int)) ((show D59 13 = D51 13 from (eD59 13))).symm))
        have pf59_7_8 : HID (F59 7 8 = (D59 14 : Int)) := ((show F59 7 8 = F58 7 8 from (eF59 7 8))).trans (((((show F58 7 8 = F51 7 8 from (eF58 7 8)))).trans (pf51_7_8)).trans (congrArg (fun q : Nat => (q : Int)) ((show D59 14 = D51 14 from (eD59 14))).symm))
        have pf59_8_0 : HID (F59 8 0 = (D59 9 : Int)) := ((show F59 8 0 = F58 8 0 from (eF59 8 0))).trans (((((show F58 8 0 = F51 8 0 from (eF58 8 0)))).trans (pf51_8_0)).trans (congrArg (fun q : Nat => (q : Int)) ((show D59 9 = D51 9 from (eD59 9))).symm))
        have r60 : (0 : Int) ≤ m59_1 ∧ m59_1 ≤ 1000000 := nleE (H.nle 3 (ltn len_V218_Row_Row_oz_G4cls rfl)) (show (N59 3 : Int) = m59_1 from (congrArg (fun q : Nat => (q : Int)) (eN59 3)).trans em59_1)
        have r61 : (-2147483648 : Int) ≤ y59_0_1 ∧ y59_0_1 ≤ 2147483647 := rngE (show (-2147483648 : Int) ≤ F59 1 1 ∧ F59 1 1 ≤ 2147483647 from H.krg 1 1 (ltn len_V218_Row_Row_oz_G4cls rfl)) (show F59 1 1 = y59_0_1 from ((eF59 1 1).trans ey59_0_1))
        exact hc276  _ _ _ _ _ _ _ _   H O (SD_trans (SD_refl) (SD_gluc (ι := oz_G4clsl_19) oz_G4cls_69 hD59 eD59 (by decide +kernel)) (any_subA (lₚ := [3]) (by decide +kernel))) (SD_trans (SD_refl) (SD_gluc (ι := oz_G4clsl_19) oz_G4cls_69 hN59 eN59 (by decide +kernel)) (any_subA (lₚ := [3]) (by decide +kernel))) (SF_trans (SF_trans (SF_refl) (SF_gluc (ι := oz_G4clsl_12) oz_G4cls_40 hS58 eF58 (by decide +kernel)) (any_sub (lₚ := []) (by decide +kernel))) (SF_gluc (ι := oz_G4clsl_19) oz_G4cls_69 hS59 eF59 (by decide +kernel)) (any_sub (lₚ := [(1, 0), (1, 1), (1, 2)]) (by decide +kernel))) (SA_trans (SA_trans (SA_refl) (SA_gluc (ι := oz_G4clsl_12) oz_G4cls_40 hA58 eA58 (by decide +kernel)) (any_subA (lₚ := []) (by decide +kernel))) (SA_gluc (ι := oz_G4clsl_19) oz_G4cls_69 hA59 eA59 (by decide +kernel)) (any_subA (lₚ := [3]) (by decide +kernel))) (pf59_1_0) (m59_1) ((congrArg (fun q : Nat => (q : Int)) (eN59 3)).trans em59_1) (y59_0_1) (((eF59 1 1).trans ey59_0_1))  (show 0 ≤ (y59_0_1) ∧ (y59_0_1) ≤ (m59_1) ∧ (m59_1) ≤ 65536 from pz59_0)
    refine w_ifle (t := 242) rfl rfl (show inr (v39) from qv39) (fun b62 => ?_) (fun b62 => ?_)
    · exact hc242  _ _ _ _  (l82_0) (l82_1) (l82_2) H O (SF_refl) (SA_refl)     (show ((v39) ≤ (0)) ∨ ((v39) > (0) ∧ (x82_6) ≥ (u2_1)) ∨ ((v39) > (0) ∧ (x82_6) < (u2_1) ∧ 0 ≤ (F_82 1 2) ∧ (F_82 1 2) ≤ 1 ∧ (F_82 1 2) ≠ (0)) from q_3555 b62)
    · refine Ew_of (pcₚ := 89) (fun _ => x_iload rfl l82_6) ?_
      refine Ew_of (pcₚ := 90) (fun _ => x_aload_n rfl l82_2) ?_
      refine v_g H (o := 2) (v := I (u2_1)) rfl rfl rfl rfl rfl (congrArg (fun z : Int => I z) (((mF_82 2 1 rfl).trans (eu2_1)) : F_82 2 1 = u2_1)) ?_
      refine w_icmpge (t := 242) rfl rfl (show inr (x82_6) from j82_0) (show inr (u2_1) from q_884 h2) (fun b63 => ?_) (fun b63 => ?_)
      · exact hc242  _ _ _ _  (l82_0) (l82_1) (l82_2) H O (SF_refl) (SA_refl)     (show ((v39) ≤ (0)) ∨ ((v39) > (0) ∧ (x82_6) ≥ (u2_1)) ∨ ((v39) > (0) ∧ (x82_6) < (u2_1) ∧ 0 ≤ (F_82 1 2) ∧ (F_82 1 2) ≤ 1 ∧ (F_82 1 2) ≠ (0)) from q_3556 b62 b63)
      · refine Ew_of (pcₚ := 97) (fun _ => x_aload_n rfl l82_1) ?_
        have r64 : (0 : Int) ≤ F_82 1 2 ∧ F_82 1 2 ≤ 1 := H.krg 1 2 (ltn len_V218_Row_Row_oz_G4cls rfl)
        refine v_g H (o := 1) (v := I (F_82 1 2)) rfl rfl rfl rfl rfl (congrArg (fun z : Int => I z) (rfl : F_82 1 2 = F_82 1 2)) ?_
        refine w_ifne (t := 242) rfl rfl (show inr (F_82 1 2) from q_1535 r64) (fun b65 => ?_) (fun b65 => ?_)
        · exact hc242  _ _ _ _  (l82_0) (l82_1) (l82_2) H O (SF_refl) (SA_refl)     (show ((v39) ≤ (0)) ∨ ((v39) > (0) ∧ (x82_6) ≥ (u2_1)) ∨ ((v39) > (0) ∧ (x82_6) < (u2_1) ∧ 0 ≤ (F_82 1 2) ∧ (F_82 1 2) ≤ 1 ∧ (F_82 1 2) ≠ (0)) from q_3557 b62 b63 b65 r64)
        · refine Ew_of (pcₚ := 105) (fun _ => x_iload rfl l82_5) ?_
          refine Ew_of (pcₚ := 106) (fun _ => x_aload_n rfl l82_2) ?_
          refine v_g H (o := 2) (v := I (u2_1)) rfl rfl rfl rfl rfl (congrArg (fun z : Int => I z) (((mF_82 2 1 rfl).trans (eu2_1)) : F_82 2 1 = u2_1)) ?_
          refine Ew_of (pcₚ := 111) (fun _ => x_iload rfl l82_6) ?_
          refine w_isub rfl ?_
          refine v_min rfl rfl (show inr (v39) from qv39) (show inr ((u2_1 - x82_6)) from q_3558 b63 h2 j82_2) (fun z66 gz66 => ?_)
          have hl7 : 0 ≤ ((z66) : Int) ∧ (x82_6) + (z66) ≤ (u2_1) ∧ (z66) ≤ 16384 ∧ (z66) ≤ (v39) := by omega
          refine Ew_of (pcₚ := 117) (fun _ => x_istore rfl) ?_
          have hc147 : ∀ (ls : rO) (σ : rS) (F_c147 : hF) (A_c147 : hA) , rlook ls 0 = some (.ref (D_82 0)) → rlook ls 1 = some (.ref (D_82 1)) → rlook ls 2 = some (.ref (D_82 2)) → rlook ls 3 = some (.ref (D_82 8)) → rlook ls 4 = some (I (y36_0_6)) → rlook ls 5 = some (I (v39)) → rlook ls 6 = some (I (x82_6)) → rlook ls 7 = some (I (z66)) → HW V218_Row_Row σ D_82 N_82 F_c147 A_c147 → OUT (V218_Row_Row).length D N σE c s D_82 N_82 σ c_82 s_82 → SF [(7, 6), (8, 1)] F_82 F_c147 → SA [13] A_82 A_c147 → ∀ yc147_7_6 : Int, F_c147 7 6 = yc147_7_6 → ∀ yc147_8_1 : Int, F_c147 8 1 = yc147_8_1 → ∀ wc147_13 : Int → Int, A_c147 13 = wc147_13 → (0 ≤ (yc147_8_1) ∧ (yc147_8_1) ≤ (m82_9) ∧ (m82_9) ≤ 65536 ∧ (yc147_8_1) ≤ 16384) → (0 ≤ (y82_10_1) ∧ (y82_10_1) ≤ (m82_11) ∧ (m82_11) ≤ 65536) → ((m30_1) = 2048) → (0 ≤ (yc147_7_6) ∧ (yc147_7_6) ≤ (m82_14) ∧ (m82_14) ≤ 16384) → ((yc147_7_6) = 0 ∨ (yc147_7_6) + 4 ≤ (yc147_8_1) + 1) → (BKI ((w82_9)) ((w82_14)) ((y30_0_10)) ((yc147_7_6))) → (HDI ((w82_9)) ((wc147_13)) ((y30_0_10)) ((yc147_7_6))) → ((m82_15) = (m82_16) ∧ (m82_17) = (m82_16) ∧ (m82_16) ≤ 65536 ∧ ((m82_16) = 0 ∨ 64 ≤ (m82_16)) ∧ lgq ((m82_16)) = 0) → (0 ≤ (y36_0_6) ∧ (y36_0_6) ≤ (yc147_7_6)) → ((y36_0_6) = 0 ∨ (y36_0_6) + 4 ≤ (u5_1) + 1) → ((u5_1) ≤ (yc147_8_1) ∧ (yc147_8_1) ≤ (u5_1) + (x82_6)) → Ew 218 (d + 6) 147 ls [] σ c_82 s_82 Q := by
           as_aux_lemma =>
            intro  ls σ F_c147 A_c147  lc147_0 lc147_1 lc147_2 lc147_3 lc147_4 lc147_5 lc147_6 lc147_7 H O hS_c147 hA_c147   yc147_7_6 eyc147_7_6 yc147_8_1 eyc147_8_1 wc147_13 ewc147_13 jc147_0 jc147_1 jc147_2 jc147_3 jc147_4 jc147_5 jc147_6 jc147_7 jc147_8 jc147_9 jc147_10
            have cF_c147 : SF oz_G4clsl_13 F F_c147 := SF_trans (cF_82) hS_c147 (any_sub (by decide +kernel))
            have mF_c147 := SFm_of cF_c147 oz_G4cls_63
            have cA_c147 : SA oz_G4clsl_14 A A_c147 := SA_trans (cA_82) hA_c147 (any_subA (by decide +kernel))
            have mA_c147 := SAm_of cA_c147 oz_G4cls_64
            replace eyc147_7_6 := HIDm eyc147_7_6
            replace eyc147_8_1 := HIDm eyc147_8_1
            try clear gz66
            have r67 : (-2147483648 : Int) ≤ yc147_7_6 ∧ yc147_7_6 ≤ 2147483647 := rngE (show (-2147483648 : Int) ≤ F_c147 7 6 ∧ F_c147 7 6 ≤ 2147483647 from H.krg 7 6 (ltn len_V218_Row_Row_oz_G4cls rfl)) (show F_c147 7 6 = yc147_7_6 from (eyc147_7_6))
            have r68 : (-2147483648 : Int) ≤ yc147_8_1 ∧ yc147_8_1 ≤ 2147483647 := rngE (show (-2147483648 : Int) ≤ F_c147 8 1 ∧ F_c147 8 1 ≤ 2147483647 from H.krg 8 1 (ltn len_V218_Row_Row_oz_G4cls rfl)) (show F_c147 8 1 = yc147_8_1 from (eyc147_8_1))
            have hbk147 : BKI ((w82_9)) ((w82_14)) ((y30_0_10)) ((yc147_7_6)) := jc147_5
            have hhd147 : HDI ((w82_9)) ((wc147_13)) ((y30_0_10)) ((yc147_7_6)) := jc147_6
            refine Ew_of (pcₚ := 148) (fun _ => x_aload_n rfl lc147_3) ?_
            refine v_g H (o := 8) (v := I (yc147_8_1)) rfl rfl rfl rfl rfl (congrArg (fun z : Int => I z) ((eyc147_8_1) : F_c147 8 1 = yc147_8_1)) ?_
            refine Ew_of (pcₚ := 153) (fun _ => x_istore rfl) ?_
            refine Ew_of (pcₚ := 154) (fun _ => x_aload_n rfl (rk_o (lc147_3) rfl rfl)) ?_
            refine Ew_of (pcₚ := 155) (fun _ => x_aload_n rfl (rk_o (lc147_2) rfl rfl)) ?_
            refine v_g H (o := 2) (v := .ref (D_82 4)) rfl rfl rfl rfl rfl (vrf ((mF_c147 2 0 rfl).trans ((pf4).trans (congrArg (fun q : Nat => (q : Int)) (mD_82 4 rfl).symm)))) ?_
            refine Ew_of (pcₚ := 160) (fun _ => x_iload rfl (rk_o (lc147_6) rfl rfl)) ?_
            refine Ew_of (pcₚ := 162) (fun _ => x_iload rfl (rk_o (lc147_7) rfl rfl)) ?_
            refine v_inv H (o := 8) rfl rfl rfl rfl rfl rfl (by rfl) (C161_Br (D := puc 2361352 D_82) (N := puc 2361352 N_82) (HW_subc H oz_G4cls_53 oz_G4cls_70) (((hS_c147 8 0 rfl)).trans (pm82_9)) (n4) ((congrArg (fun q : Nat => (q : Int)) (mN_82 4 rfl)).trans (en4)) (m82_9) (em82_9) (yc147_8_1) ((eyc147_8_1)) (w82_9) ((funext (hA_c147 9 rfl)).trans (ew82_9)) (show inr (x82_6) from j82_0) (show inr (z66) from q_3560 hl7) (show 0 ≤ (yc147_8_1) ∧ (yc147_8_1) ≤ (m82_9) ∧ (m82_9) ≤ 65536 from q_2775 jc147_0) (show (z66) < 0 ∨ 0 ≤ (x82_6) ∧ (x82_6) + (z66) ≤ (n4) from q_3559 h2 hl7 j82_2) (fun σ69 D69ₚ N69ₚ F69ₚ A69ₚ c69 s69 Hₚ Oₚ hD69 hN69 hS69 hA69 (pm69_2 : HID _) m69_2 (em69_2 : HID _) y69_0_1 (ey69_0_1 : HID _) w69_2 ew69_2 pz69_0 pz69_1 pz69_2 => ⟨rfl, ?_⟩))
            refine v_backMc (c := c_82) (s := s_82) H oz_G4cls_53 oz_G4cls_70 Hₚ Oₚ hD69 oz_G4cls_54 (fun D69 N69 F69 A69 H Oₚ eD69 eN69 eF69 eA69 => ?_)
            have O := OUT_trans O Oₚ
            -- Row.addPart
            have cF69 : SF oz_G4clsl_13 F F69 := SF_trans (cF_c147) (SF_gluc (ι := oz_G4clsl_20) oz_G4cls_70 hS69 eF69 (by decide +kernel)) (any_sub (lₚ := [(8, 0), (8, 1), (8, 2)]) (by decide +kernel))
            have mF69 := SFm_of cF69 oz_G4cls_63
            have cA69 : SA oz_G4clsl_14 A A69 := SA_trans (cA_c147) (SA_gluc (ι := oz_G4clsl_20) oz_G4cls_70 hA69 eA69 (by decide +kernel)) (any_subA (lₚ := [9]) (by decide +kernel))
            have mA69 := SAm_of cA69 oz_G4cls_64
            have cD69 : SD oz_G4clsl_14 D D69 := SD_trans (cD_82) (SD_gluc (ι := oz_G4clsl_20) oz_G4cls_70 hD69 eD69 (by decide +kernel)) (any_subA (lₚ := [9]) (by decide +kernel))
            have mD69 := SDm_of cD69 oz_G4cls_64
            have cN69 : SD oz_G4clsl_14 N N69 := SD_trans (cN_82) (SD_gluc (ι := oz_G4clsl_20) oz_G4cls_70 hN69 eN69 (by decide +kernel)) (any_subA (lₚ := [9]) (by decide +kernel))
            have mN69 := SDm_of cN69 oz_G4cls_64
            have pf69_1_0 : HID (F69 1 0 = (D69 3 : Int)) := ((show F69 1 0 = F_c147 1 0 from (eF69 1 0))).trans ((((hS_c147 1 0 rfl)).trans (pm82_3)).trans (congrArg (fun q : Nat => (q : Int)) ((show D69 3 = D_82 3 from (eD69 3))).symm))
            have pf69_10_0 : HID (F69 10 0 = (D69 11 : Int)) := ((show F69 10 0 = F_c147 10 0 from (eF69 10 0))).trans ((((hS_c147 10 0 rfl)).trans (pm82_11)).trans (congrArg (fun q : Nat => (q : Int)) ((show D69 11 = D_82 11 from (eD69 11))).symm))
            have pf69_7_1 : HID (F69 7 1 = (D69 15 : Int)) := ((show F69 7 1 = F_c147 7 1 from (eF69 7 1))).trans ((((hS_c147 7 1 rfl)).trans (pm82_15)).trans (congrArg (fun q : Nat => (q : Int)) ((show D69 15 = D_82 15 from (eD69 15))).symm))
            have pf69_7_2 : HID (F69 7 2 = (D69 16 : Int)) := ((show F69 7 2 = F_c147 7 2 from (eF69 7 2))).trans ((((hS_c147 7 2 rfl)).trans (pm82_16)).trans (congrArg (fun q : Nat => (q : Int)) ((show D69 16 = D_82 16 from (eD69 16))).symm))
            have pf69_7_3 : HID (F69 7 3 = (D69 17 : Int)) := ((show F69 7 3 = F_c147 7 3 from (eF69 7 3))).trans ((((hS_c147 7 3 rfl)).trans (pm82_17)).trans (congrArg (fun q : Nat => (q : Int)) ((show D69 17 = D_82 17 from (eD69 17))).symm))
            have pf69_7_7 : HID (F69 7 7 = (D69 13 : Int)) := ((show F69 7 7 = F_c147 7 7 from (eF69 7 7))).trans ((((hS_c147 7 7 rfl)).trans (pf_82_7_7)).trans (congrArg (fun q : Nat => (q : Int)) ((show D69 13 = D_82 13 from (eD69 13))).symm))
            have pf69_7_8 : HID (F69 7 8 = (D69 14 : Int)) := ((show F69 7 8 = F_c147 7 8 from (eF69 7 8))).trans ((((hS_c147 7 8 rfl)).trans (pm82_14)).trans (congrArg (fun q : Nat => (q : Int)) ((show D69 14 = D_82 14 from (eD69 14))).symm))
            have pf69_8_0 : HID (F69 8 0 = (D69 9 : Int)) := (eF69 8 0).trans (pm69_2.trans (congrArg (fun q : Nat => (q : Int)) (eD69 9).symm))
            have r70 : (0 : Int) ≤ m69_2 ∧ m69_2 ≤ 1000000 := nleE (H.nle 9 (ltn len_V218_Row_Row_oz_G4cls rfl)) (show (N69 9 : Int) = m69_2 from (congrArg (fun q : Nat => (q : Int)) (eN69 9)).trans em69_2)
            have r71 : (-2147483648 : Int) ≤ y69_0_1 ∧ y69_0_1 ≤ 2147483647 := rngE (show (-2147483648 : Int) ≤ F69 8 1 ∧ F69 8 1 ≤ 2147483647 from H.krg 8 1 (ltn len_V218_Row_Row_oz_G4cls rfl)) (show F69 8 1 = y69_0_1 from ((eF69 8 1).trans ey69_0_1))
            have hdc : (y69_0_1) = (yc147_8_1) + (z66) := q_3561 hl7 jc147_0 pz69_1
            have hb2 : BKI ((w69_2)) ((w82_14)) ((y30_0_10)) ((yc147_7_6)) := BKI_data hbk147 pz69_2 (by omega)
            have hh2 : HDI ((w69_2)) ((wc147_13)) ((y30_0_10)) ((yc147_7_6)) := HDI_data hhd147 pz69_2 (by omega)
            try clear pz69_1
            refine Ew_of (pcₚ := 166) (fun _ => x_aload_n rfl (rk_o (lc147_0) rfl rfl)) ?_
            refine Ew_stk (congrArg (fun qz : Nat => ([.ref qz] : List Value)) (show D69 0 = D_82 0 from ((show D69 0 = D_82 0 from (eD69 0)))).symm) ?_
            refine v_g H (o := 0) (v := .ref (D69 10)) rfl rfl rfl rfl rfl (vrf ((mF69 0 3 rfl).trans ((pf10).trans (congrArg (fun q : Nat => (q : Int)) (mD69 10 rfl).symm)))) ?_
            have r72 : (0 : Int) ≤ F_82 10 2 ∧ F_82 10 2 ≤ 1 := rngE (show (0 : Int) ≤ F69 10 2 ∧ F69 10 2 ≤ 1 from H.krg 10 2 (ltn len_V218_Row_Row_oz_G4cls rfl)) (show F69 10 2 = F_82 10 2 from (((show F69 10 2 = F_c147 10 2 from (eF69 10 2))).trans (hS_c147 10 2 rfl)))
            have r73 : (-2147483648 : Int) ≤ F_82 10 4 ∧ F_82 10 4 ≤ 2147483647 := rngE (show (-2147483648 : Int) ≤ F69 10 4 ∧ F69 10 4 ≤ 2147483647 from H.krg 10 4 (ltn len_V218_Row_Row_oz_G4cls rfl)) (show F69 10 4 = F_82 10 4 from (((show F69 10 4 = F_c147 10 4 from (eF69 10 4))).trans (hS_c147 10 4 rfl)))
            refine v_inv H (o := 10) rfl rfl rfl rfl rfl rfl (by rfl) (C156h (D := puc 10 D69) (N := puc 10 N69) (HW_subc H oz_G4cls_55 oz_G4cls_71) (y82_10_1) (((((show F69 10 1 = F_c147 10 1 from (eF69 10 1))).trans (hS_c147 10 1 rfl)).trans (ey82_10_1))) (F_82 10 2) ((((show F69 10 2 = F_c147 10 2 from (eF69 10 2))).trans (hS_c147 10 2 rfl))) (F_82 10 4) ((((show F69 10 4 = F_c147 10 4 from (eF69 10 4))).trans (hS_c147 10 4 rfl)))  (fun σ74 F74ₚ A74ₚ Hₚ Oₚ hS74 hA74 y74_0_1 (ey74_0_1 : HID _) y74_0_2 (ey74_0_2 : HID _) y74_0_4 (ey74_0_4 : HID _) pz74_0 => ⟨rfl, ?_⟩))
            refine v_backc (c := (c_82 + c69)) (s := (s_82 + s69)) H oz_G4cls_55 oz_G4cls_71 Hₚ Oₚ (fun F74 A74 H Oₚ eF74 eA74 => ?_)
            have O := OUT_trans O Oₚ
            -- Row.clear
            have cF74 : SF oz_G4clsl_13 F F74 := SF_trans (cF69) (SF_gluc (ι := oz_G4clsl_21) oz_G4cls_71 hS74 eF74 (by decide +kernel)) (any_sub (lₚ := [(10, 1), (10, 2), (10, 3), (10, 4)]) (by decide +kernel))
            have mF74 := SFm_of cF74 oz_G4cls_63
            have cA74 : SA oz_G4clsl_14 A A74 := SA_trans (cA69) (SA_gluc (ι := oz_G4clsl_21) oz_G4cls_71 hA74 eA74 (by decide +kernel)) (any_subA (lₚ := []) (by decide +kernel))
            have mA74 := SAm_of cA74 oz_G4cls_64
            have r75 : (-2147483648 : Int) ≤ y74_0_1 ∧ y74_0_1 ≤ 2147483647 := rngE (show (-2147483648 : Int) ≤ F74 10 1 ∧ F74 10 1 ≤ 2147483647 from H.krg 10 1 (ltn len_V218_Row_Row_oz_G4cls rfl)) (show F74 10 1 = y74_0_1 from ((eF74 10 1).trans ey74_0_1))
            have r76 : (0 : Int) ≤ y74_0_2 ∧ y74_0_2 ≤ 1 := rngE (show (0 : Int) ≤ F74 10 2 ∧ F74 10 2 ≤ 1 from H.krg 10 2 (ltn len_V218_Row_Row_oz_G4cls rfl)) (show F74 10 2 = y74_0_2 from ((eF74 10 2).trans ey74_0_2))
            have r77 : (-2147483648 : Int) ≤ y74_0_4 ∧ y74_0_4 ≤ 2147483647 := rngE (show (-2147483648 : Int) ≤ F74 10 4 ∧ F74 10 4 ≤ 2147483647 from H.krg 10 4 (ltn len_V218_Row_Row_oz_G4cls rfl)) (show F74 10 4 = y74_0_4 from ((eF74 10 4).trans ey74_0_4))
            refine Ew_of (pcₚ := 173) (fun _ => x_aload_n rfl (rk_o (lc147_0) rfl rfl)) ?_
            refine Ew_of (pcₚ := 174) (fun _ => x_aload_n rfl (rk_o (lc147_0) rfl rfl)) ?_
            refine Ew_stk (show ([.ref (D_82 0), .ref (D_82 0)] : List Value) = [.ref (D69 0), .ref (D69 0)] by rw [show D69 0 = D_82 0 from ((show D69 0 = D_82 0 from (eD69 0)))]) ?_
            refine v_g H (o := 0) (v := .ref (D69 10)) rfl rfl rfl rfl rfl (vrf ((mF74 0 3 rfl).trans ((pf10).trans (congrArg (fun q : Nat => (q : Int)) (mD69 10 rfl).symm)))) ?_
            refine Ew_of (pcₚ := 179) (fun _ => x_iload rfl rk_s) ?_
            refine v_inv H (o := 0) rfl rfl rfl rfl rfl rfl (by rfl) (C215_thispackeda (D := puc 21083737249732731119845774336 D69) (N := puc 21083737249732731119845774336 N69) (HW_subc H oz_G4cls_56 oz_G4cls_72) ((mF74 0 3 rfl).trans ((pf10).trans (congrArg (fun q : Nat => (q : Int)) (mD69 10 rfl).symm))) ((((show F74 10 0 = F69 10 0 from (eF74 10 0).trans (hS74 0 0 rfl)))).trans (pf69_10_0)) ((mF74 0 2 rfl).trans ((pf7).trans (congrArg (fun q : Nat => (q : Int)) (mD69 7 rfl).symm))) ((mF74 7 0 rfl).trans ((pf8).trans (congrArg (fun q : Nat => (q : Int)) (mD69 8 rfl).symm))) ((((show F74 8 0 = F69 8 0 from (eF74 8 0)))).trans (pf69_8_0)) ((((show F74 7 8 = F69 7 8 from (eF74 7 8)))).trans (pf69_7_8)) ((((show F74 7 7 = F69 7 7 from (eF74 7 7)))).trans (pf69_7_7)) ((((show F74 7 1 = F69 7 1 from (eF74 7 1)))).trans (pf69_7_1)) ((((show F74 7 2 = F69 7 2 from (eF74 7 2)))).trans (pf69_7_2)) ((((show F74 7 3 = F69 7 3 from (eF74 7 3)))).trans (pf69_7_3)) (m82_11) ((congrArg (fun q : Nat => (q : Int)) (show N69 11 = N_82 11 from (eN69 11))).trans (em82_11)) (m69_2) ((congrArg (fun q : Nat => (q : Int)) (eN69 9)).trans em69_2) (m82_14) ((congrArg (fun q : Nat => (q : Int)) (show N69 14 = N_82 14 from (eN69 14))).trans (em82_14)) (m30_1) ((congrArg (fun q : Nat => (q : Int)) (show N69 13 = N_82 13 from (eN69 13))).trans ((congrArg (fun q : Nat => (q : Int)) (hN_82 13 rfl)).trans ((congrArg (fun q : Nat => (q : Int)) (show N36 13 = N30 13 from (eN36 13).trans (hN36 4 rfl))).trans ((congrArg (fun q : Nat => (q : Int)) (eN30 13)).trans em30_1)))) (m82_15) ((congrArg (fun q : Nat => (q : Int)) (show N69 15 = N_82 15 from (eN69 15))).trans (em82_15)) (m82_16) ((congrArg (fun q : Nat => (q : Int)) (show N69 16 = N_82 16 from (eN69 16))).trans (em82_16)) (m82_17) ((congrArg (fun q : Nat => (q : Int)) (show N69 17 = N_82 17 from (eN69 17))).trans (em82_17)) (y74_0_1) (((eF74 10 1).trans ey74_0_1)) (yc147_7_6) (((((show F74 7 6 = F69 7 6 from (eF74 7 6))).trans ((show F69 7 6 = F_c147 7 6 from (eF69 7 6)))).trans (eyc147_7_6))) (y30_0_10) ((((((((show F74 7 10 = F69 7 10 from (eF74 7 10))).trans ((show F69 7 10 = F_c147 7 10 from (eF69 7 10)))).trans (hS_c147 7 10 rfl)).trans (hS_82 7 10 rfl)).trans ((show F36 7 10 = F30 7 10 from (eF36 7 10).trans (hS36 0 10 rfl)))).trans ((eF30 7 10).trans ey30_0_10))) (y69_0_1) ((((show F74 8 1 = F69 8 1 from (eF74 8 1))).trans ((eF69 8 1).trans ey69_0_1))) (w69_2) (((show A74 9 = A69 9 from (eA74 9))).trans ((eA69 9).trans ew69_2)) (w82_14) (((show A74 14 = A69 14 from (eA74 14))).trans (((show A69 14 = A_c147 14 from (eA69 14))).trans ((funext (hA_c147 14 rfl)).trans (ew82_14)))) (wc147_13) (((show A74 13 = A69 13 from (eA74 13))).trans (((show A69 13 = A_c147 13 from (eA69 13))).trans (ewc147_13))) (show inr (yc147_8_1) from q_2767 jc147_0) (show 0 ≤ (y74_0_1) ∧ (y74_0_1) ≤ (m82_11) ∧ (m82_11) ≤ 65536 from q_3428 jc147_1 pz74_0 r42) (show 0 ≤ (y69_0_1) ∧ (y69_0_1) ≤ (m69_2) ∧ (m69_2) ≤ 65536 ∧ (y69_0_1) ≤ 16384 from q_3563 h7 hdc hl7 jc147_10 pz69_0) (show (y30_0_10) = 4 from q_2785 pz30_2) (show 0 ≤ (yc147_8_1) ∧ (yc147_8_1) ≤ (y69_0_1) from q_3562 hdc hl7 jc147_0) (show BKI ((w69_2)) ((w82_14)) ((y30_0_10)) ((yc147_7_6)) from hb2) (show HDI ((w69_2)) ((wc147_13)) ((y30_0_10)) ((yc147_7_6)) from hh2) (show (m82_15) = (m82_16) ∧ (m82_17) = (m82_16) ∧ (m82_16) ≤ 65536 ∧ ((m82_16) = 0 ∨ 64 ≤ (m82_16)) ∧ lgq ((m82_16)) = 0 from jc147_7) (show (m30_1) = 2048 from jc147_2) (show 0 ≤ (yc147_7_6) ∧ (yc147_7_6) ≤ (m82_14) ∧ (m82_14) ≤ 16384 from jc147_3) (fun σ78 D78ₚ N78ₚ F78ₚ A78ₚ c78 s78 Hₚ Oₚ hD78 hN78 hS78 hA78 (pm78_2 : HID _) (pm78_6 : HID _) (pm78_8 : HID _) (pm78_9 : HID _) (pm78_10 : HID _) m78_2 (em78_2 : HID _) m78_6 (em78_6 : HID _) m78_8 (em78_8 : HID _) m78_9 (em78_9 : HID _) m78_10 (em78_10 : HID _) y78_1_1 (ey78_1_1 : HID _) y78_3_6 (ey78_3_6 : HID _) w78_6 ew78_6 w78_7 ew78_7 pz78_0 pz78_1 pz78_2 pz78_3 pz78_4 pz78_5 => ⟨rfl, ?_⟩))
            refine v_backMc (c := (c_82 + c69)) (s := (s_82 + s69)) H oz_G4cls_56 oz_G4cls_72 Hₚ Oₚ hD78 oz_G4cls_57 (fun D78 N78 F78 A78 H Oₚ eD78 eN78 eF78 eA78 => ?_)
            have O := OUT_trans O Oₚ
            -- Tokens.packBlock
            have cF78 : SF oz_G4clsl_13 F F78 := SF_trans (cF74) (SF_gluc (ι := oz_G4clsl_22) oz_G4cls_72 hS78 eF78 (by decide +kernel)) (any_sub (lₚ := [(7, 1), (7, 2), (7, 3), (7, 4), (7, 5), (7, 6), (7, 8), (7, 12), (7, 13), (7, 14), (7, 15), (7, 16), (7, 17), (7, 18), (10, 0), (10, 1), (10, 2)]) (by decide +kernel))
            have mF78 := SFm_of cF78 oz_G4cls_63
            have cA78 : SA oz_G4clsl_14 A A78 := SA_trans (cA74) (SA_gluc (ι := oz_G4clsl_22) oz_G4cls_72 hA78 eA78 (by decide +kernel)) (any_subA (lₚ := [11, 13, 14, 15, 16, 17]) (by decide +kernel))
            have mA78 := SAm_of cA78 oz_G4cls_64
            have cD78 : SD oz_G4clsl_14 D D78 := SD_trans (cD69) (SD_gluc (ι := oz_G4clsl_22) oz_G4cls_72 hD78 eD78 (by decide +kernel)) (any_subA (lₚ := [11, 14, 15, 16, 17]) (by decide +kernel))
            have mD78 := SDm_of cD78 oz_G4cls_64
            have cN78 : SD oz_G4clsl_14 N N78 := SD_trans (cN69) (SD_gluc (ι := oz_G4clsl_22) oz_G4cls_72 hN78 eN78 (by decide +kernel)) (any_subA (lₚ := [11, 14, 15, 16, 17]) (by decide +kernel))
            have mN78 := SDm_of cN78 oz_G4cls_64
            have pf78_1_0 : HID (F78 1 0 = (D78 3 : Int)) := ((show F78 1 0 = F74 1 0 from (eF78 1 0))).trans (((((show F74 1 0 = F69 1 0 from (eF74 1 0)))).trans (pf69_1_0)).trans (congrArg (fun q : Nat => (q : Int)) ((show D78 3 = D69 3 from (eD78 3))).symm))
            have pf78_10_0 : HID (F78 10 0 = (D78 11 : Int)) := (eF78 10 0).trans (pm78_2.trans (congrArg (fun q : Nat => (q : Int)) (eD78 11).symm))
            have pf78_7_1 : HID (F78 7 1 = (D78 15 : Int)) := (eF78 7 1).trans (pm78_8.trans (congrArg (fun q : Nat => (q : Int)) (eD78 15).symm))
            have pf78_7_2 : HID (F78 7 2 = (D78 16 : Int)) := (eF78 7 2).trans (pm78_9.trans (congrArg (fun q : Nat => (q : Int)) (eD78 16).symm))
            have pf78_7_3 : HID (F78 7 3 = (D78 17 : Int)) := (eF78 7 3).trans (pm78_10.trans (congrArg (fun q : Nat => (q : Int)) (eD78 17).symm))
            have pf78_7_7 : HID (F78 7 7 = (D78 13 : Int)) := ((show F78 7 7 = F74 7 7 from (eF78 7 7).trans (hS78 3 7 rfl))).trans (((((show F74 7 7 = F69 7 7 from (eF74 7 7)))).trans (pf69_7_7)).trans (congrArg (fun q : Nat => (q : Int)) ((show D78 13 = D69 13 from (eD78 13).trans (hD78 7 rfl))).symm))
            have pf78_7_8 : HID (F78 7 8 = (D78 14 : Int)) := (eF78 7 8).trans (pm78_6.trans (congrArg (fun q : Nat => (q : Int)) (eD78 14).symm))
            have pf78_8_0 : HID (F78 8 0 = (D78 9 : Int)) := ((show F78 8 0 = F74 8 0 from (eF78 8 0).trans (hS78 4 0 rfl))).trans (((((show F74 8 0 = F69 8 0 from (eF74 8 0)))).trans (pf69_8_0)).trans (congrArg (fun q : Nat => (q : Int)) ((show D78 9 = D69 9 from (eD78 9).trans (hD78 5 rfl))).symm))
            have r79 : (0 : Int) ≤ m78_2 ∧ m78_2 ≤ 1000000 := nleE (H.nle 11 (ltn len_V218_Row_Row_oz_G4cls rfl)) (show (N78 11 : Int) = m78_2 from (congrArg (fun q : Nat => (q : Int)) (eN78 11)).trans em78_2)
            have r80 : (0 : Int) ≤ m78_6 ∧ m78_6 ≤ 1000000 := nleE (H.nle 14 (ltn len_V218_Row_Row_oz_G4cls rfl)) (show (N78 14 : Int) = m78_6 from (congrArg (fun q : Nat => (q : Int)) (eN78 14)).trans em78_6)
            have r81 : (0 : Int) ≤ m78_8 ∧ m78_8 ≤ 1000000 := nleE (H.nle 15 (ltn len_V218_Row_Row_oz_G4cls rfl)) (show (N78 15 : Int) = m78_8 from (congrArg (fun q : Nat => (q : Int)) (eN78 15)).trans em78_8)
            have r82 : (0 : Int) ≤ m78_9 ∧ m78_9 ≤ 1000000 := nleE (H.nle 16 (ltn len_V218_Row_Row_oz_G4cls rfl)) (show (N78 16 : Int) = m78_9 from (congrArg (fun q : Nat => (q : Int)) (eN78 16)).trans em78_9)
            have r83 : (0 : Int) ≤ m78_10 ∧ m78_10 ≤ 1000000 := nleE (H.nle 17 (ltn len_V218_Row_Row_oz_G4cls rfl)) (show (N78 17 : Int) = m78_10 from (congrArg (fun q : Nat => (q : Int)) (eN78 17)).trans em78_10)
            have r84 : (-2147483648 : Int) ≤ y78_1_1 ∧ y78_1_1 ≤ 2147483647 := rngE (show (-2147483648 : Int) ≤ F78 10 1 ∧ F78 10 1 ≤ 2147483647 from H.krg 10 1 (ltn len_V218_Row_Row_oz_G4cls rfl)) (show F78 10 1 = y78_1_1 from ((eF78 10 1).trans ey78_1_1))
            have r85 : (-2147483648 : Int) ≤ y78_3_6 ∧ y78_3_6 ≤ 2147483647 := rngE (show (-2147483648 : Int) ≤ F78 7 6 ∧ F78 7 6 ≤ 2147483647 from H.krg 7 6 (ltn len_V218_Row_Row_oz_G4cls rfl)) (show F78 7 6 = y78_3_6 from ((eF78 7 6).trans ey78_3_6))
            have hlq : (y78_3_6) = 0 ∨ (y78_3_6) + 4 ≤ (y69_0_1) + 1 := by omega
            have hln : (m78_8) = (m78_9) ∧ (m78_10) = (m78_9) ∧ (m78_9) ≤ 65536 ∧ ((m78_9) = 0 ∨ 64 ≤ (m78_9)) ∧ lgq ((m78_9)) = 0 := pz78_2
            have hla : (y36_0_6) ≤ (y78_3_6) := q_3564 jc147_8 pz78_1
            try clear pz78_2
            try clear pz78_5
            refine Ew_of (pcₚ := 183) (fun _ => x_aload_n rfl (rk_o (lc147_0) rfl rfl)) ?_
            refine Ew_stk (congrArg (fun qz : Nat => ([.ref qz] : List Value)) (show D78 0 = D_82 0 from (((show D78 0 = D69 0 from (eD78 0).trans (hD78 0 rfl))).trans ((show D69 0 = D_82 0 from (eD69 0))))).symm) ?_
            refine v_g H (o := 0) (v := .ref (D78 10)) rfl rfl rfl rfl rfl (vrf ((mF78 0 3 rfl).trans ((pf10).trans (congrArg (fun q : Nat => (q : Int)) (mD78 10 rfl).symm)))) ?_
            refine v_g H (o := 10) (v := I (y78_1_1)) rfl rfl rfl rfl rfl (congrArg (fun z : Int => I z) (((eF78 10 1).trans ey78_1_1) : F78 10 1 = y78_1_1)) ?_
            refine Ew_of (pcₚ := 191) (fun _ => x_iload rfl (rk_o (lc147_7) rfl rfl)) ?_
            have hc199 : ∀ (tc199_0 : Int), ∀ (ls : rO) (σ : rS) (F_c199 : hF) (A_c199 : hA) , rlook ls 0 = some (.ref (D78 0)) → rlook ls 1 = some (.ref (D78 1)) → rlook ls 2 = some (.ref (D78 2)) → rlook ls 3 = some (.ref (D78 8)) → rlook ls 4 = some (I (y36_0_6)) → rlook ls 5 = some (I (v39)) → rlook ls 6 = some (I (x82_6)) → rlook ls 8 = some (I (yc147_8_1)) → HW V218_Row_Row σ D78 N78 F_c199 A_c199 → OUT (V218_Row_Row).length D N σE c s D78 N78 σ ((c_82 + c69) + c78) ((s_82 + s69) + s78) → SF [] F78 F_c199 → SA [] A78 A_c199 → (inr (tc199_0)) → (((y78_1_1) < (z66) ∧ (tc199_0) = (0)) ∨ ((y78_1_1) ≥ (z66) ∧ (tc199_0) = (1))) → Ew 218 (d + 6) 199 ls [I (tc199_0)] σ ((c_82 + c69) + c78) ((s_82 + s69) + s78) Q := by
             as_aux_lemma =>
              intro tc199_0 ls σ F_c199 A_c199  lc199_0 lc199_1 lc199_2 lc199_3 lc199_4 lc199_5 lc199_6 lc199_8 H O hS_c199 hA_c199     jc199_0 jc199_1
              have cF_c199 : SF oz_G4clsl_13 F F_c199 := SF_trans (cF78) hS_c199 (any_sub (by decide +kernel))
              have mF_c199 := SFm_of cF_c199 oz_G4cls_63
              have cA_c199 : SA oz_G4clsl_14 A A_c199 := SA_trans (cA78) hA_c199 (any_subA (by decide +kernel))
              have mA_c199 := SAm_of cA_c199 oz_G4cls_64
              try clear pz69_1
              try clear pz78_2
              try clear pz78_5
              refine Ew_of (pcₚ := 201) (fun _ => x_istore rfl) ?_
              refine Ew_of (pcₚ := 202) (fun _ => x_aload_n rfl (rk_o (lc199_0) rfl rfl)) ?_
              refine Ew_of (pcₚ := 203) (fun _ => x_aload_n rfl (rk_o (lc199_1) rfl rfl)) ?_
              refine Ew_of (pcₚ := 205) (fun _ => x_iload rfl rk_s) ?_
              refine w_ifeq (t := 212) rfl rfl (show inr (tc199_0) from jc199_0) (fun b86 => ?_) (fun b86 => ?_)
              · refine Ew_of (pcₚ := 213) (fun _ => x_aload_n rfl (rk_o (lc199_0) rfl rfl)) ?_
                refine v_g H (o := 0) (v := .ref (D78 10)) rfl rfl rfl rfl rfl (vrf ((mF_c199 0 3 rfl).trans ((pf10).trans (congrArg (fun q : Nat => (q : Int)) (mD78 10 rfl).symm)))) ?_
                refine Ew_of (pcₚ := 218) (fun _ => x_iload rfl rk_s) ?_
                have hc227 : ∀ (tc227_0 : Int), ∀ (ls : rO) (σ : rS) (F_c227 : hF) (A_c227 : hA) , rlook ls 0 = some (.ref (D78 0)) → rlook ls 1 = some (.ref (D78 1)) → rlook ls 2 = some (.ref (D78 2)) → rlook ls 3 = some (.ref (D78 8)) → rlook ls 4 = some (I (y36_0_6)) → rlook ls 5 = some (I (v39)) → rlook ls 6 = some (I (x82_6)) → rlook ls 9 = some (I (tc199_0)) → HW V218_Row_Row σ D78 N78 F_c227 A_c227 → OUT (V218_Row_Row).length D N σE c s D78 N78 σ ((c_82 + c69) + c78) ((s_82 + s69) + s78) → SF [] F_c199 F_c227 → SA [] A_c199 A_c227 → (inr (tc227_0)) → (((tc199_0) = (0) ∧ (tc227_0) = (0)) ∨ ((tc199_0) ≠ (0) ∧ (tc227_0) = (yc147_8_1))) → Ew 218 (d + 6) 227 ls [I (tc227_0), .ref (D78 10), .ref (D78 1), .ref (D78 0)] σ ((c_82 + c69) + c78) ((s_82 + s69) + s78) Q := by
                 as_aux_lemma =>
                  intro tc227_0 ls σ F_c227 A_c227  lc227_0 lc227_1 lc227_2 lc227_3 lc227_4 lc227_5 lc227_6 lc227_9 H O hS_c227 hA_c227     jc227_0 jc227_1
                  have cF_c227 : SF oz_G4clsl_13 F F_c227 := SF_trans (cF_c199) hS_c227 (any_sub (by decide +kernel))
                  have mF_c227 := SFm_of cF_c227 oz_G4cls_63
                  have cA_c227 : SA oz_G4clsl_14 A A_c227 := SA_trans (cA_c199) hA_c227 (any_subA (by decide +kernel))
                  have mA_c227 := SAm_of cA_c227 oz_G4cls_64
                  refine Ew_of (pcₚ := 229) (fun _ => x_iload rfl lc227_9) ?_
                  refine v_inv H (o := 0) rfl rfl rfl rfl rfl rfl (by rfl) (C220_Row_thispackeda (D := puc 757257208320 D78) (N := puc 757257208320 N78) (HW_subc H oz_G4cls_58 oz_G4cls_73) ((((hS_c227 1 0 rfl).trans (hS_c199 1 0 rfl))).trans (pf78_1_0)) ((mF_c227 0 3 rfl).trans ((pf10).trans (congrArg (fun q : Nat => (q : Int)) (mD78 10 rfl).symm))) ((((hS_c227 10 0 rfl).trans (hS_c199 10 0 rfl))).trans (pf78_10_0)) (m82_3) ((congrArg (fun q : Nat => (q : Int)) (show N78 3 = N69 3 from (eN78 3))).trans ((congrArg (fun q : Nat => (q : Int)) (show N69 3 = N_82 3 from (eN69 3))).trans (em82_3))) (m78_2) ((congrArg (fun q : Nat => (q : Int)) (eN78 11)).trans em78_2) (y82_1_1) ((((((((hS_c227 1 1 rfl).trans (hS_c199 1 1 rfl)).trans ((show F78 1 1 = F74 1 1 from (eF78 1 1)))).trans ((show F74 1 1 = F69 1 1 from (eF74 1 1)))).trans ((show F69 1 1 = F_c147 1 1 from (eF69 1 1)))).trans (hS_c147 1 1 rfl)).trans (ey82_1_1))) (y78_1_1) ((((hS_c227 10 1 rfl).trans (hS_c199 10 1 rfl)).trans ((eF78 10 1).trans ey78_1_1))) (show inr (tc227_0) from jc227_0) (show inr (tc199_0) from jc199_0) (show (tc199_0) = 0 ∨ (tc199_0) = 1 from q_536 b86) (show 0 ≤ (y82_1_1) ∧ (y82_1_1) ≤ (m82_3) ∧ (m82_3) ≤ 65536 from j82_1) (show 0 ≤ (y78_1_1) ∧ (y78_1_1) ≤ (m78_2) ∧ (m78_2) ≤ 65536 from pz78_0) (show 0 ≤ (tc227_0) ∧ (tc227_0) ≤ (y78_1_1) by omega) (fun σ87 D87ₚ N87ₚ F87ₚ A87ₚ c87 s87 Hₚ Oₚ hD87 hN87 hS87 hA87 (pm87_2 : HID _) m87_2 (em87_2 : HID _) y87_1_1 (ey87_1_1 : HID _) pz87_0 => ⟨rfl, ?_⟩))
                  refine v_backMc (c := ((c_82 + c69) + c78)) (s := ((s_82 + s69) + s78)) H oz_G4cls_58 oz_G4cls_73 Hₚ Oₚ hD87 oz_G4cls_59 (fun D87 N87 F87 A87 H Oₚ eD87 eN87 eF87 eA87 => ?_)
                  have O := OUT_trans O Oₚ
                  -- Tokens.addBlock
                  have cF87 : SF oz_G4clsl_13 F F87 := SF_trans (cF_c227) (SF_gluc (ι := oz_G4clsl_23) oz_G4cls_73 hS87 eF87 (by decide +kernel)) (any_sub (lₚ := [(1, 0), (1, 1), (1, 2)]) (by decide +kernel))
                  have mF87 := SFm_of cF87 oz_G4cls_63
                  have cA87 : SA oz_G4clsl_14 A A87 := SA_trans (cA_c227) (SA_gluc (ι := oz_G4clsl_23) oz_G4cls_73 hA87 eA87 (by decide +kernel)) (any_subA (lₚ := [3]) (by decide +kernel))
                  have mA87 := SAm_of cA87 oz_G4cls_64
                  have cD87 : SD oz_G4clsl_14 D D87 := SD_trans (cD78) (SD_gluc (ι := oz_G4clsl_23) oz_G4cls_73 hD87 eD87 (by decide +kernel)) (any_subA (lₚ := [3]) (by decide +kernel))
                  have mD87 := SDm_of cD87 oz_G4cls_64
                  have cN87 : SD oz_G4clsl_14 N N87 := SD_trans (cN78) (SD_gluc (ι := oz_G4clsl_23) oz_G4cls_73 hN87 eN87 (by decide +kernel)) (any_subA (lₚ := [3]) (by decide +kernel))
                  have mN87 := SDm_of cN87 oz_G4cls_64
                  have pf87_1_0 : HID (F87 1 0 = (D87 3 : Int)) := (eF87 1 0).trans (pm87_2.trans (congrArg (fun q : Nat => (q : Int)) (eD87 3).symm))
                  have pf87_10_0 : HID (F87 10 0 = (D87 11 : Int)) := ((show F87 10 0 = F_c227 10 0 from (eF87 10 0).trans (hS87 3 0 rfl))).trans (((((hS_c227 10 0 rfl).trans (hS_c199 10 0 rfl))).trans (pf78_10_0)).trans (congrArg (fun q : Nat => (q : Int)) ((show D87 11 = D78 11 from (eD87 11).trans (hD87 4 rfl))).symm))
                  have pf87_7_1 : HID (F87 7 1 = (D87 15 : Int)) := ((show F87 7 1 = F_c227 7 1 from (eF87 7 1))).trans (((((hS_c227 7 1 rfl).trans (hS_c199 7 1 rfl))).trans (pf78_7_1)).trans (congrArg (fun q : Nat => (q : Int)) ((show D87 15 = D78 15 from (eD87 15))).symm))
                  have pf87_7_2 : HID (F87 7 2 = (D87 16 : Int)) := ((show F87 7 2 = F_c227 7 2 from (eF87 7 2))).trans (((((hS_c227 7 2 rfl).trans (hS_c199 7 2 rfl))).trans (pf78_7_2)).trans (congrArg (fun q : Nat => (q : Int)) ((show D87 16 = D78 16 from (eD87 16))).symm))
                  have pf87_7_3 : HID (F87 7 3 = (D87 17 : Int)) := ((show F87 7 3 = F_c227 7 3 from (eF87 7 3))).trans (((((hS_c227 7 3 rfl).trans (hS_c199 7 3 rfl))).trans (pf78_7_3)).trans (congrArg (fun q : Nat => (q : Int)) ((show D87 17 = D78 17 from (eD87 17))).symm))
                  have pf87_7_7 : HID (F87 7 7 = (D87 13 : Int)) := ((show F87 7 7 = F_c227 7 7 from (eF87 7 7))).trans (((((hS_c227 7 7 rfl).trans (hS_c199 7 7 rfl))).trans (pf78_7_7)).trans (congrArg (fun q : Nat => (q : Int)) ((show D87 13 = D78 13 from (eD87 13))).symm))
                  have pf87_7_8 : HID (F87 7 8 = (D87 14 : Int)) := ((show F87 7 8 = F_c227 7 8 from (eF87 7 8))).trans (((((hS_c227 7 8 rfl).trans (hS_c199 7 8 rfl))).trans (pf78_7_8)).trans (congrArg (fun q : Nat => (q : Int)) ((show D87 14 = D78 14 from (eD87 14))).symm))
                  have pf87_8_0 : HID (F87 8 0 = (D87 9 : Int)) := ((show F87 8 0 = F_c227 8 0 from (eF87 8 0))).trans (((((hS_c227 8 0 rfl).trans (hS_c199 8 0 rfl))).trans (pf78_8_0)).trans (congrArg (fun q : Nat => (q : Int)) ((show D87 9 = D78 9 from (eD87 9))).symm))
                  have r88 : (0 : Int) ≤ m87_2 ∧ m87_2 ≤ 1000000 := nleE (H.nle 3 (ltn len_V218_Row_Row_oz_G4cls rfl)) (show (N87 3 : Int) = m87_2 from (congrArg (fun q : Nat => (q : Int)) (eN87 3)).trans em87_2)
                  have r89 : (-2147483648 : Int) ≤ y87_1_1 ∧ y87_1_1 ≤ 2147483647 := rngE (show (-2147483648 : Int) ≤ F87 1 1 ∧ F87 1 1 ≤ 2147483647 from H.krg 1 1 (ltn len_V218_Row_Row_oz_G4cls rfl)) (show F87 1 1 = y87_1_1 from ((eF87 1 1).trans ey87_1_1))
                  refine Ew_of (pcₚ := 234) (fun _ => x_iload rfl lc227_6) ?_
                  refine Ew_of (pcₚ := 236) (fun _ => x_iload rfl lc227_5) ?_
                  refine w_iadd rfl ?_
                  refine Ew_of (pcₚ := 239) (fun _ => x_istore rfl) ?_
                  refine Ew_of (pcₚ := 82) (fun _ => x_goto rfl rfl) ?_
                  exact ih82 _ (msE hm82 (q_3090 b62) (q_3091 b63)) _ _ _ _ _ _ _ _ ((x82_6 + v39)) ((rk_o (lc227_0) rfl rfl).trans (congrArg (fun q : Nat => some (Value.ref q)) (((show D87 0 = D78 0 from (eD87 0).trans (hD87 0 rfl)))).symm)) ((rk_o (lc227_1) rfl rfl).trans (congrArg (fun q : Nat => some (Value.ref q)) (((show D87 1 = D78 1 from (eD87 1).trans (hD87 1 rfl)))).symm)) ((rk_o (lc227_2) rfl rfl).trans (congrArg (fun q : Nat => some (Value.ref q)) (((show D87 2 = D78 2 from (eD87 2)))).symm)) ((rk_o (lc227_3) rfl rfl).trans (congrArg (fun q : Nat => some (Value.ref q)) (((show D87 8 = D78 8 from (eD87 8)))).symm)) (rk_o (lc227_4) rfl rfl) (rk_o (lc227_5) rfl rfl) (rk_s) H O (SD_trans (SD_trans (SD_trans (hD_82) (SD_gluc (ι := oz_G4clsl_20) oz_G4cls_70 hD69 eD69 (by decide +kernel)) (any_subA (lₚ := [9]) (by decide +kernel))) (SD_gluc (ι := oz_G4clsl_22) oz_G4cls_72 hD78 eD78 (by decide +kernel)) (any_subA (lₚ := [11, 14, 15, 16, 17]) (by decide +kernel))) (SD_gluc (ι := oz_G4clsl_23) oz_G4cls_73 hD87 eD87 (by decide +kernel)) (any_subA (lₚ := [3]) (by decide +kernel))) (SD_trans (SD_trans (SD_trans (hN_82) (SD_gluc (ι := oz_G4clsl_20) oz_G4cls_70 hN69 eN69 (by decide +kernel)) (any_subA (lₚ := [9]) (by decide +kernel))) (SD_gluc (ι := oz_G4clsl_22) oz_G4cls_72 hN78 eN78 (by decide +kernel)) (any_subA (lₚ := [11, 14, 15, 16, 17]) (by decide +kernel))) (SD_gluc (ι := oz_G4clsl_23) oz_G4cls_73 hN87 eN87 (by decide +kernel)) (any_subA (lₚ := [3]) (by decide +kernel))) (SF_trans (SF_trans (SF_trans (SF_trans (SF_trans (SF_trans (SF_trans (hS_82) hS_c147 (any_sub (by decide +kernel))) (SF_gluc (ι := oz_G4clsl_20) oz_G4cls_70 hS69 eF69 (by decide +kernel)) (any_sub (lₚ := [(8, 0), (8, 1), (8, 2)]) (by decide +kernel))) (SF_gluc (ι := oz_G4clsl_21) oz_G4cls_71 hS74 eF74 (by decide +kernel)) (any_sub (lₚ := [(10, 1), (10, 2), (10, 3), (10, 4)]) (by decide +kernel))) (SF_gluc (ι := oz_G4clsl_22) oz_G4cls_72 hS78 eF78 (by decide +kernel)) (any_sub (lₚ := [(7, 1), (7, 2), (7, 3), (7, 4), (7, 5), (7, 6), (7, 8), (7, 12), (7, 13), (7, 14), (7, 15), (7, 16), (7, 17), (7, 18), (10, 0), (10, 1), (10, 2)]) (by decide +kernel))) hS_c199 (any_sub (by decide +kernel))) hS_c227 (any_sub (by decide +kernel))) (SF_gluc (ι := oz_G4clsl_23) oz_G4cls_73 hS87 eF87 (by decide +kernel)) (any_sub (lₚ := [(1, 0), (1, 1), (1, 2)]) (by decide +kernel))) (SA_trans (SA_trans (SA_trans (SA_trans (SA_trans (SA_trans (SA_trans (hA_82) hA_c147 (any_subA (by decide +kernel))) (SA_gluc (ι := oz_G4clsl_20) oz_G4cls_70 hA69 eA69 (by decide +kernel)) (any_subA (lₚ := [9]) (by decide +kernel))) (SA_gluc (ι := oz_G4clsl_21) oz_G4cls_71 hA74 eA74 (by decide +kernel)) (any_subA (lₚ := []) (by decide +kernel))) (SA_gluc (ι := oz_G4clsl_22) oz_G4cls_72 hA78 eA78 (by decide +kernel)) (any_subA (lₚ := [11, 13, 14, 15, 16, 17]) (by decide +kernel))) hA_c199 (any_subA (by decide +kernel))) hA_c227 (any_subA (by decide +kernel))) (SA_gluc (ι := oz_G4clsl_23) oz_G4cls_73 hA87 eA87 (by decide +kernel)) (any_subA (lₚ := [3]) (by decide +kernel))) (pf87_1_0) (pf87_8_0) (pf87_10_0) (pf87_7_8) (pf87_7_1) (pf87_7_2) (pf87_7_3) (m87_2) ((congrArg (fun q : Nat => (q : Int)) (eN87 3)).trans em87_2) (m69_2) ((congrArg (fun q : Nat => (q : Int)) (show N87 9 = N78 9 from (eN87 9))).trans ((congrArg (fun q : Nat => (q : Int)) (show N78 9 = N69 9 from (eN78 9).trans (hN78 5 rfl))).trans ((congrArg (fun q : Nat => (q : Int)) (eN69 9)).trans em69_2))) (m78_2) ((congrArg (fun q : Nat => (q : Int)) (show N87 11 = N78 11 from (eN87 11).trans (hN87 4 rfl))).trans ((congrArg (fun q : Nat => (q : Int)) (eN78 11)).trans em78_2)) (m78_6) ((congrArg (fun q : Nat => (q : Int)) (show N87 14 = N78 14 from (eN87 14))).trans ((congrArg (fun q : Nat => (q : Int)) (eN78 14)).trans em78_6)) (m78_8) ((congrArg (fun q : Nat => (q : Int)) (show N87 15 = N78 15 from (eN87 15))).trans ((congrArg (fun q : Nat => (q : Int)) (eN78 15)).trans em78_8)) (m78_9) ((congrArg (fun q : Nat => (q : Int)) (show N87 16 = N78 16 from (eN87 16))).trans ((congrArg (fun q : Nat => (q : Int)) (eN78 16)).trans em78_9)) (m78_10) ((congrArg (fun q : Nat => (q : Int)) (show N87 17 = N78 17 from (eN87 17))).trans ((congrArg (fun q : Nat => (q : Int)) (eN78 17)).trans em78_10)) (y87_1_1) (((eF87 1 1).trans ey87_1_1)) (y78_3_6) ((((((show F87 7 6 = F_c227 7 6 from (eF87 7 6))).trans (hS_c227 7 6 rfl)).trans (hS_c199 7 6 rfl)).trans ((eF78 7 6).trans ey78_3_6))) (y69_0_1) ((((((((show F87 8 1 = F_c227 8 1 from (eF87 8 1))).trans (hS_c227 8 1 rfl)).trans (hS_c199 8 1 rfl)).trans ((show F78 8 1 = F74 8 1 from (eF78 8 1).trans (hS78 4 1 rfl)))).trans ((show F74 8 1 = F69 8 1 from (eF74 8 1)))).trans ((eF69 8 1).trans ey69_0_1))) (y78_1_1) ((((((show F87 10 1 = F_c227 10 1 from (eF87 10 1).trans (hS87 3 1 rfl))).trans (hS_c227 10 1 rfl)).trans (hS_c199 10 1 rfl)).trans ((eF78 10 1).trans ey78_1_1))) (w69_2) (((show A87 9 = A_c227 9 from (eA87 9))).trans ((funext (hA_c227 9 rfl)).trans ((funext (hA_c199 9 rfl)).trans (((show A78 9 = A74 9 from (eA78 9).trans (funext (hA78 5 rfl)))).trans (((show A74 9 = A69 9 from (eA74 9))).trans ((eA69 9).trans ew69_2)))))) (w78_7) (((show A87 13 = A_c227 13 from (eA87 13))).trans ((funext (hA_c227 13 rfl)).trans ((funext (hA_c199 13 rfl)).trans ((eA78 13).trans ew78_7)))) (w78_6) (((show A87 14 = A_c227 14 from (eA87 14))).trans ((funext (hA_c227 14 rfl)).trans ((funext (hA_c199 14 rfl)).trans ((eA78 14).trans ew78_6)))) (show inr ((x82_6 + v39)) from q_3567 b62 b63 h3 h7 hs3 j82_2) (show 0 ≤ (y87_1_1) ∧ (y87_1_1) ≤ (m87_2) ∧ (m87_2) ≤ 65536 from pz87_0) (show 0 ≤ ((x82_6 + v39)) ∧ ((x82_6 + v39)) ≤ (u2_1) + 65536 from q_3088 b62 b63 hs3 j82_2) (show 0 ≤ (y69_0_1) ∧ (y69_0_1) ≤ (m69_2) ∧ (m69_2) ≤ 65536 ∧ (y69_0_1) ≤ 16384 from q_3563 h7 hdc hl7 jc147_10 pz69_0) (show 0 ≤ (y78_1_1) ∧ (y78_1_1) ≤ (m78_2) ∧ (m78_2) ≤ 65536 from pz78_0) (show (m30_1) = 2048 from jc147_2) (show 0 ≤ (y78_3_6) ∧ (y78_3_6) ≤ (m78_6) ∧ (m78_6) ≤ 16384 from q_3087 pz78_1) (show (y78_3_6) = 0 ∨ (y78_3_6) + 4 ≤ (y69_0_1) + 1 from hlq) (show BKI ((w69_2)) ((w78_6)) ((y30_0_10)) ((y78_3_6)) from pz78_3) (show HDI ((w69_2)) ((w78_7)) ((y30_0_10)) ((y78_3_6)) from pz78_4) (show (m78_8) = (m78_9) ∧ (m78_10) = (m78_9) ∧ (m78_9) ≤ 65536 ∧ ((m78_9) = 0 ∨ 64 ≤ (m78_9)) ∧ lgq ((m78_9)) = 0 from hln) (show 0 ≤ (y36_0_6) ∧ (y36_0_6) ≤ (y78_3_6) from q_3566 hla jc147_8) (show (y36_0_6) = 0 ∨ (y36_0_6) + 4 ≤ (u5_1) + 1 from jc147_9) (show (u5_1) ≤ (y69_0_1) ∧ (y69_0_1) ≤ (u5_1) + ((x82_6 + v39)) from q_3565 hdc hl7 jc147_10) rfl
                refine w_ifeq (t := 226) rfl rfl (show inr (tc199_0) from jc199_0) (fun b90 => ?_) (fun b90 => ?_)
                · refine Ew_of (pcₚ := 227) (fun _ => x_iconst rfl) ?_
                  exact hc227 (0) _ _ _ _  (rk_o (lc199_0) rfl rfl) (rk_o (lc199_1) rfl rfl) (rk_o (lc199_2) rfl rfl) (rk_o (lc199_3) rfl rfl) (rk_o (lc199_4) rfl rfl) (rk_o (lc199_5) rfl rfl) (rk_o (lc199_6) rfl rfl) (rk_s) H O (SF_refl) (SA_refl)     (show inr (0) from q_20) (show ((tc199_0) = (0) ∧ (0) = (0)) ∨ ((tc199_0) ≠ (0) ∧ (0) = (yc147_8_1)) from q_3568 b90)
                · refine Ew_of (pcₚ := 223) (fun _ => x_iload rfl (rk_o (lc199_8) rfl rfl)) ?_
                  refine Ew_of (pcₚ := 227) (fun _ => x_goto rfl rfl) ?_
                  exact hc227 (yc147_8_1) _ _ _ _  (rk_o (lc199_0) rfl rfl) (rk_o (lc199_1) rfl rfl) (rk_o (lc199_2) rfl rfl) (rk_o (lc199_3) rfl rfl) (rk_o (lc199_4) rfl rfl) (rk_o (lc199_5) rfl rfl) (rk_o (lc199_6) rfl rfl) (rk_s) H O (SF_refl) (SA_refl)     (show inr (yc147_8_1) from q_2767 jc147_0) (show ((tc199_0) = (0) ∧ (yc147_8_1) = (0)) ∨ ((tc199_0) ≠ (0) ∧ (yc147_8_1) = (yc147_8_1)) from q_3569 b90)
              · refine Ew_of (pcₚ := 209) (fun _ => x_aload_n rfl (rk_o (lc199_3) rfl rfl)) ?_
                refine Ew_of (pcₚ := 216) (fun _ => x_goto rfl rfl) ?_
                refine Ew_of (pcₚ := 218) (fun _ => x_iload rfl rk_s) ?_
                have hc227 : ∀ (tc227_0 : Int), ∀ (ls : rO) (σ : rS) (F_c227 : hF) (A_c227 : hA) , rlook ls 0 = some (.ref (D78 0)) → rlook ls 1 = some (.ref (D78 1)) → rlook ls 2 = some (.ref (D78 2)) → rlook ls 3 = some (.ref (D78 8)) → rlook ls 4 = some (I (y36_0_6)) → rlook ls 5 = some (I (v39)) → rlook ls 6 = some (I (x82_6)) → rlook ls 9 = some (I (tc199_0)) → HW V218_Row_Row σ D78 N78 F_c227 A_c227 → OUT (V218_Row_Row).length D N σE c s D78 N78 σ ((c_82 + c69) + c78) ((s_82 + s69) + s78) → SF [] F_c199 F_c227 → SA [] A_c199 A_c227 → (inr (tc227_0)) → (((tc199_0) = (0) ∧ (tc227_0) = (0)) ∨ ((tc199_0) ≠ (0) ∧ (tc227_0) = (yc147_8_1))) → Ew 218 (d + 6) 227 ls [I (tc227_0), .ref (D78 8), .ref (D78 1), .ref (D78 0)] σ ((c_82 + c69) + c78) ((s_82 + s69) + s78) Q := by
                 as_aux_lemma =>
                  intro tc227_0 ls σ F_c227 A_c227  lc227_0 lc227_1 lc227_2 lc227_3 lc227_4 lc227_5 lc227_6 lc227_9 H O hS_c227 hA_c227     jc227_0 jc227_1
                  have cF_c227 : SF oz_G4clsl_13 F F_c227 := SF_trans (cF_c199) hS_c227 (any_sub (by decide +kernel))
                  have mF_c227 := SFm_of cF_c227 oz_G4cls_63
                  have cA_c227 : SA oz_G4clsl_14 A A_c227 := SA_trans (cA_c199) hA_c227 (any_subA (by decide +kernel))
                  have mA_c227 := SAm_of cA_c227 oz_G4cls_64
                  refine Ew_of (pcₚ := 229) (fun _ => x_iload rfl lc227_9) ?_
                  refine v_inv H (o := 0) rfl rfl rfl rfl rfl rfl (by rfl) (C220_Row_thisfinderdataa (D := puc 317210044924416 D78) (N := puc 317210044924416 N78) (HW_subc H oz_G4cls_60 oz_G4cls_74) ((((hS_c227 1 0 rfl).trans (hS_c199 1 0 rfl))).trans (pf78_1_0)) ((mF_c227 0 2 rfl).trans ((pf7).trans (congrArg (fun q : Nat => (q : Int)) (mD78 7 rfl).symm))) ((mF_c227 7 0 rfl).trans ((pf8).trans (congrArg (fun q : Nat => (q : Int)) (mD78 8 rfl).symm))) ((((hS_c227 8 0 rfl).trans (hS_c199 8 0 rfl))).trans (pf78_8_0)) (m82_3) ((congrArg (fun q : Nat => (q : Int)) (show N78 3 = N69 3 from (eN78 3))).trans ((congrArg (fun q : Nat => (q : Int)) (show N69 3 = N_82 3 from (eN69 3))).trans (em82_3))) (m69_2) ((congrArg (fun q : Nat => (q : Int)) (show N78 9 = N69 9 from (eN78 9).trans (hN78 5 rfl))).trans ((congrArg (fun q : Nat => (q : Int)) (eN69 9)).trans em69_2)) (y82_1_1) ((((((((hS_c227 1 1 rfl).trans (hS_c199 1 1 rfl)).trans ((show F78 1 1 = F74 1 1 from (eF78 1 1)))).trans ((show F74 1 1 = F69 1 1 from (eF74 1 1)))).trans ((show F69 1 1 = F_c147 1 1 from (eF69 1 1)))).trans (hS_c147 1 1 rfl)).trans (ey82_1_1))) (y69_0_1) ((((((hS_c227 8 1 rfl).trans (hS_c199 8 1 rfl)).trans ((show F78 8 1 = F74 8 1 from (eF78 8 1).trans (hS78 4 1 rfl)))).trans ((show F74 8 1 = F69 8 1 from (eF74 8 1)))).trans ((eF69 8 1).trans ey69_0_1))) (show inr (tc227_0) from jc227_0) (show inr (tc199_0) from jc199_0) (show (tc199_0) = 0 ∨ (tc199_0) = 1 by omega) (show 0 ≤ (y82_1_1) ∧ (y82_1_1) ≤ (m82_3) ∧ (m82_3) ≤ 65536 from j82_1) (show 0 ≤ (y69_0_1) ∧ (y69_0_1) ≤ (m69_2) ∧ (m69_2) ≤ 65536 from pz69_0) (show 0 ≤ (tc227_0) ∧ (tc227_0) ≤ (y69_0_1) from q_3570 hdc hl7 jc147_0 jc227_1 pz69_0) (fun σ91 D91ₚ N91ₚ F91ₚ A91ₚ c91 s91 Hₚ Oₚ hD91 hN91 hS91 hA91 (pm91_2 : HID _) m91_2 (em91_2 : HID _) y91_1_1 (ey91_1_1 : HID _) pz91_0 => ⟨rfl, ?_⟩))
                  refine v_backMc (c := ((c_82 + c69) + c78)) (s := ((s_82 + s69) + s78)) H oz_G4cls_60 oz_G4cls_74 Hₚ Oₚ hD91 oz_G4cls_61 (fun D91 N91 F91 A91 H Oₚ eD91 eN91 eF91 eA91 => ?_)
                  have O := OUT_trans O Oₚ
                  -- Tokens.addBlock
                  have cF91 : SF oz_G4clsl_13 F F91 := SF_trans (cF_c227) (SF_gluc (ι := oz_G4clsl_24) oz_G4cls_74 hS91 eF91 (by decide +kernel)) (any_sub (lₚ := [(1, 0), (1, 1), (1, 2)]) (by decide +kernel))
                  have mF91 := SFm_of cF91 oz_G4cls_63
                  have cA91 : SA oz_G4clsl_14 A A91 := SA_trans (cA_c227) (SA_gluc (ι := oz_G4clsl_24) oz_G4cls_74 hA91 eA91 (by decide +kernel)) (any_subA (lₚ := [3]) (by decide +kernel))
                  have mA91 := SAm_of cA91 oz_G4cls_64
                  have cD91 : SD oz_G4clsl_14 D D91 := SD_trans (cD78) (SD_gluc (ι := oz_G4clsl_24) oz_G4cls_74 hD91 eD91 (by decide +kernel)) (any_subA (lₚ := [3]) (by decide +kernel))
                  have mD91 := SDm_of cD91 oz_G4cls_64
                  have cN91 : SD oz_G4clsl_14 N N91 := SD_trans (cN78) (SD_gluc (ι := oz_G4clsl_24) oz_G4cls_74 hN91 eN91 (by decide +kernel)) (any_subA (lₚ := [3]) (by decide +kernel))
                  have mN91 := SDm_of cN91 oz_G4cls_64
                  have pf91_1_0 : HID (F91 1 0 = (D91 3 : Int)) := (eF91 1 0).trans (pm91_2.trans (congrArg (fun q : Nat => (q : Int)) (eD91 3).symm))
                  have pf91_10_0 : HID (F91 10 0 = (D91 11 : Int)) := ((show F91 10 0 = F_c227 10 0 from (eF91 10 0))).trans (((((hS_c227 10 0 rfl).trans (hS_c199 10 0 rfl))).trans (pf78_10_0)).trans (congrArg (fun q : Nat => (q : Int)) ((show D91 11 = D78 11 from (eD91 11))).symm))
                  have pf91_7_1 : HID (F91 7 1 = (D91 15 : Int)) := ((show F91 7 1 = F_c227 7 1 from (eF91 7 1).trans (hS91 3 1 rfl))).trans (((((hS_c227 7 1 rfl).trans (hS_c199 7 1 rfl))).trans (pf78_7_1)).trans (congrArg (fun q : Nat => (q : Int)) ((show D91 15 = D78 15 from (eD91 15))).symm))
                  have pf91_7_2 : HID (F91 7 2 = (D91 16 : Int)) := ((show F91 7 2 = F_c227 7 2 from (eF91 7 2).trans (hS91 3 2 rfl))).trans (((((hS_c227 7 2 rfl).trans (hS_c199 7 2 rfl))).trans (pf78_7_2)).trans (congrArg (fun q : Nat => (q : Int)) ((show D91 16 = D78 16 from (eD91 16))).symm))
                  have pf91_7_3 : HID (F91 7 3 = (D91 17 : Int)) := ((show F91 7 3 = F_c227 7 3 from (eF91 7 3).trans (hS91 3 3 rfl))).trans (((((hS_c227 7 3 rfl).trans (hS_c199 7 3 rfl))).trans (pf78_7_3)).trans (congrArg (fun q : Nat => (q : Int)) ((show D91 17 = D78 17 from (eD91 17))).symm))
                  have pf91_7_7 : HID (F91 7 7 = (D91 13 : Int)) := ((show F91 7 7 = F_c227 7 7 from (eF91 7 7).trans (hS91 3 7 rfl))).trans (((((hS_c227 7 7 rfl).trans (hS_c199 7 7 rfl))).trans (pf78_7_7)).trans (congrArg (fun q : Nat => (q : Int)) ((show D91 13 = D78 13 from (eD91 13))).symm))
                  have pf91_7_8 : HID (F91 7 8 = (D91 14 : Int)) := ((show F91 7 8 = F_c227 7 8 from (eF91 7 8).trans (hS91 3 8 rfl))).trans (((((hS_c227 7 8 rfl).trans (hS_c199 7 8 rfl))).trans (pf78_7_8)).trans (congrArg (fun q : Nat => (q : Int)) ((show D91 14 = D78 14 from (eD91 14))).symm))
                  have pf91_8_0 : HID (F91 8 0 = (D91 9 : Int)) := ((show F91 8 0 = F_c227 8 0 from (eF91 8 0).trans (hS91 4 0 rfl))).trans (((((hS_c227 8 0 rfl).trans (hS_c199 8 0 rfl))).trans (pf78_8_0)).trans (congrArg (fun q : Nat => (q : Int)) ((show D91 9 = D78 9 from (eD91 9).trans (hD91 5 rfl))).symm))
                  have r92 : (0 : Int) ≤ m91_2 ∧ m91_2 ≤ 1000000 := nleE (H.nle 3 (ltn len_V218_Row_Row_oz_G4cls rfl)) (show (N91 3 : Int) = m91_2 from (congrArg (fun q : Nat => (q : Int)) (eN91 3)).trans em91_2)
                  have r93 : (-2147483648 : Int) ≤ y91_1_1 ∧ y91_1_1 ≤ 2147483647 := rngE (show (-2147483648 : Int) ≤ F91 1 1 ∧ F91 1 1 ≤ 2147483647 from H.krg 1 1 (ltn len_V218_Row_Row_oz_G4cls rfl)) (show F91 1 1 = y91_1_1 from ((eF91 1 1).trans ey91_1_1))
                  refine Ew_of (pcₚ := 234) (fun _ => x_iload rfl lc227_6) ?_
                  refine Ew_of (pcₚ := 236) (fun _ => x_iload rfl lc227_5) ?_
                  refine w_iadd rfl ?_
                  refine Ew_of (pcₚ := 239) (fun _ => x_istore rfl) ?_
                  refine Ew_of (pcₚ := 82) (fun _ => x_goto rfl rfl) ?_
                  exact ih82 _ (msE hm82 (q_3090 b62) (q_3091 b63)) _ _ _ _ _ _ _ _ ((x82_6 + v39)) ((rk_o (lc227_0) rfl rfl).trans (congrArg (fun q : Nat => some (Value.ref q)) (((show D91 0 = D78 0 from (eD91 0).trans (hD91 0 rfl)))).symm)) ((rk_o (lc227_1) rfl rfl).trans (congrArg (fun q : Nat => some (Value.ref q)) (((show D91 1 = D78 1 from (eD91 1).trans (hD91 1 rfl)))).symm)) ((rk_o (lc227_2) rfl rfl).trans (congrArg (fun q : Nat => some (Value.ref q)) (((show D91 2 = D78 2 from (eD91 2)))).symm)) ((rk_o (lc227_3) rfl rfl).trans (congrArg (fun q : Nat => some (Value.ref q)) (((show D91 8 = D78 8 from (eD91 8).trans (hD91 4 rfl)))).symm)) (rk_o (lc227_4) rfl rfl) (rk_o (lc227_5) rfl rfl) (rk_s) H O (SD_trans (SD_trans (SD_trans (hD_82) (SD_gluc (ι := oz_G4clsl_20) oz_G4cls_70 hD69 eD69 (by decide +kernel)) (any_subA (lₚ := [9]) (by decide +kernel))) (SD_gluc (ι := oz_G4clsl_22) oz_G4cls_72 hD78 eD78 (by decide +kernel)) (any_subA (lₚ := [11, 14, 15, 16, 17]) (by decide +kernel))) (SD_gluc (ι := oz_G4clsl_24) oz_G4cls_74 hD91 eD91 (by decide +kernel)) (any_subA (lₚ := [3]) (by decide +kernel))) (SD_trans (SD_trans (SD_trans (hN_82) (SD_gluc (ι := oz_G4clsl_20) oz_G4cls_70 hN69 eN69 (by decide +kernel)) (any_subA (lₚ := [9]) (by decide +kernel))) (SD_gluc (ι := oz_G4clsl_22) oz_G4cls_72 hN78 eN78 (by decide +kernel)) (any_subA (lₚ := [11, 14, 15, 16, 17]) (by decide +kernel))) (SD_gluc (ι := oz_G4clsl_24) oz_G4cls_74 hN91 eN91 (by decide +kernel)) (any_subA (lₚ := [3]) (by decide +kernel))) (SF_trans (SF_trans (SF_trans (SF_trans (SF_trans (SF_trans (SF_trans (hS_82) hS_c147 (any_sub (by decide +kernel))) (SF_gluc (ι := oz_G4clsl_20) oz_G4cls_70 hS69 eF69 (by decide +kernel)) (any_sub (lₚ := [(8, 0), (8, 1), (8, 2)]) (by decide +kernel))) (SF_gluc (ι := oz_G4clsl_21) oz_G4cls_71 hS74 eF74 (by decide +kernel)) (any_sub (lₚ := [(10, 1), (10, 2), (10, 3), (10, 4)]) (by decide +kernel))) (SF_gluc (ι := oz_G4clsl_22) oz_G4cls_72 hS78 eF78 (by decide +kernel)) (any_sub (lₚ := [(7, 1), (7, 2), (7, 3), (7, 4), (7, 5), (7, 6), (7, 8), (7, 12), (7, 13), (7, 14), (7, 15), (7, 16), (7, 17), (7, 18), (10, 0), (10, 1), (10, 2)]) (by decide +kernel))) hS_c199 (any_sub (by decide +kernel))) hS_c227 (any_sub (by decide +kernel))) (SF_gluc (ι := oz_G4clsl_24) oz_G4cls_74 hS91 eF91 (by decide +kernel)) (any_sub (lₚ := [(1, 0), (1, 1), (1, 2)]) (by decide +kernel))) (SA_trans (SA_trans (SA_trans (SA_trans (SA_trans (SA_trans (SA_trans (hA_82) hA_c147 (any_subA (by decide +kernel))) (SA_gluc (ι := oz_G4clsl_20) oz_G4cls_70 hA69 eA69 (by decide +kernel)) (any_subA (lₚ := [9]) (by decide +kernel))) (SA_gluc (ι := oz_G4clsl_21) oz_G4cls_71 hA74 eA74 (by decide +kernel)) (any_subA (lₚ := []) (by decide +kernel))) (SA_gluc (ι := oz_G4clsl_22) oz_G4cls_72 hA78 eA78 (by decide +kernel)) (any_subA (lₚ := [11, 13, 14, 15, 16, 17]) (by decide +kernel))) hA_c199 (any_subA (by decide +kernel))) hA_c227 (any_subA (by decide +kernel))) (SA_gluc (ι := oz_G4clsl_24) oz_G4cls_74 hA91 eA91 (by decide +kernel)) (any_subA (lₚ := [3]) (by decide +kernel))) (pf91_1_0) (pf91_8_0) (pf91_10_0) (pf91_7_8) (pf91_7_1) (pf91_7_2) (pf91_7_3) (m91_2) ((congrArg (fun q : Nat => (q : Int)) (eN91 3)).trans em91_2) (m69_2) ((congrArg (fun q : Nat => (q : Int)) (show N91 9 = N78 9 from (eN91 9).trans (hN91 5 rfl))).trans ((congrArg (fun q : Nat => (q : Int)) (show N78 9 = N69 9 from (eN78 9).trans (hN78 5 rfl))).trans ((congrArg (fun q : Nat => (q : Int)) (eN69 9)).trans em69_2))) (m78_2) ((congrArg (fun q : Nat => (q : Int)) (show N91 11 = N78 11 from (eN91 11))).trans ((congrArg (fun q : Nat => (q : Int)) (eN78 11)).trans em78_2)) (m78_6) ((congrArg (fun q : Nat => (q : Int)) (show N91 14 = N78 14 from (eN91 14))).trans ((congrArg (fun q : Nat => (q : Int)) (eN78 14)).trans em78_6)) (m78_8) ((congrArg (fun q : Nat => (q : Int)) (show N91 15 = N78 15 from (eN91 15))).trans ((congrArg (fun q : Nat => (q : Int)) (eN78 15)).trans em78_8)) (m78_9) ((congrArg (fun q : Nat => (q : Int)) (show N91 16 = N78 16 from (eN91 16))).trans ((congrArg (fun q : Nat => (q : Int)) (eN78 16)).trans em78_9)) (m78_10) ((congrArg (fun q : Nat => (q : Int)) (show N91 17 = N78 17 from (eN91 17))).trans ((congrArg (fun q : Nat => (q : Int)) (eN78 17)).trans em78_10)) (y91_1_1) (((eF91 1 1).trans ey91_1_1)) (y78_3_6) ((((((show F91 7 6 = F_c227 7 6 from (eF91 7 6).trans (hS91 3 6 rfl))).trans (hS_c227 7 6 rfl)).trans (hS_c199 7 6 rfl)).trans ((eF78 7 6).trans ey78_3_6))) (y69_0_1) ((((((((show F91 8 1 = F_c227 8 1 from (eF91 8 1).trans (hS91 4 1 rfl))).trans (hS_c227 8 1 rfl)).trans (hS_c199 8 1 rfl)).trans ((show F78 8 1 = F74 8 1 from (eF78 8 1).trans (hS78 4 1 rfl)))).trans ((show F74 8 1 = F69 8 1 from (eF74 8 1)))).trans ((eF69 8 1).trans ey69_0_1))) (y78_1_1) ((((((show F91 10 1 = F_c227 10 1 from (eF91 10 1))).trans (hS_c227 10 1 rfl)).trans (hS_c199 10 1 rfl)).trans ((eF78 10 1).trans ey78_1_1))) (w69_2) (((show A91 9 = A_c227 9 from (eA91 9).trans (funext (hA91 5 rfl)))).trans ((funext (hA_c227 9 rfl)).trans ((funext (hA_c199 9 rfl)).trans (((show A78 9 = A74 9 from (eA78 9).trans (funext (hA78 5 rfl)))).trans (((show A74 9 = A69 9 from (eA74 9))).trans ((eA69 9).trans ew69_2)))))) (w78_7) (((show A91 13 = A_c227 13 from (eA91 13))).trans ((funext (hA_c227 13 rfl)).trans ((funext (hA_c199 13 rfl)).trans ((eA78 13).trans ew78_7)))) (w78_6) (((show A91 14 = A_c227 14 from (eA91 14))).trans ((funext (hA_c227 14 rfl)).trans ((funext (hA_c199 14 rfl)).trans ((eA78 14).trans ew78_6)))) (show inr ((x82_6 + v39)) from q_3567 b62 b63 h3 h7 hs3 j82_2) (show 0 ≤ (y91_1_1) ∧ (y91_1_1) ≤ (m91_2) ∧ (m91_2) ≤ 65536 from pz91_0) (show 0 ≤ ((x82_6 + v39)) ∧ ((x82_6 + v39)) ≤ (u2_1) + 65536 from q_3088 b62 b63 hs3 j82_2) (show 0 ≤ (y69_0_1) ∧ (y69_0_1) ≤ (m69_2) ∧ (m69_2) ≤ 65536 ∧ (y69_0_1) ≤ 16384 from q_3563 h7 hdc hl7 jc147_10 pz69_0) (show 0 ≤ (y78_1_1) ∧ (y78_1_1) ≤ (m78_2) ∧ (m78_2) ≤ 65536 from pz78_0) (show (m30_1) = 2048 from jc147_2) (show 0 ≤ (y78_3_6) ∧ (y78_3_6) ≤ (m78_6) ∧ (m78_6) ≤ 16384 from q_3087 pz78_1) (show (y78_3_6) = 0 ∨ (y78_3_6) + 4 ≤ (y69_0_1) + 1 from hlq) (show BKI ((w69_2)) ((w78_6)) ((y30_0_10)) ((y78_3_6)) from pz78_3) (show HDI ((w69_2)) ((w78_7)) ((y30_0_10)) ((y78_3_6)) from pz78_4) (show (m78_8) = (m78_9) ∧ (m78_10) = (m78_9) ∧ (m78_9) ≤ 65536 ∧ ((m78_9) = 0 ∨ 64 ≤ (m78_9)) ∧ lgq ((m78_9)) = 0 from hln) (show 0 ≤ (y36_0_6) ∧ (y36_0_6) ≤ (y78_3_6) from q_3566 hla jc147_8) (show (y36_0_6) = 0 ∨ (y36_0_6) + 4 ≤ (u5_1) + 1 from jc147_9) (show (u5_1) ≤ (y69_0_1) ∧ (y69_0_1) ≤ (u5_1) + ((x82_6 + v39)) from q_3565 hdc hl7 jc147_10) rfl
                refine w_ifeq (t := 226) rfl rfl (show inr (tc199_0) from jc199_0) (fun b94 => ?_) (fun b94 => ?_)
                · refine Ew_of (pcₚ := 227) (fun _ => x_iconst rfl) ?_
                  exact hc227 (0) _ _ _ _  (rk_o (lc199_0) rfl rfl) (rk_o (lc199_1) rfl rfl) (rk_o (lc199_2) rfl rfl) (rk_o (lc199_3) rfl rfl) (rk_o (lc199_4) rfl rfl) (rk_o (lc199_5) rfl rfl) (rk_o (lc199_6) rfl rfl) (rk_s) H O (SF_refl) (SA_refl)     (show inr (0) from q_20) (show ((tc199_0) = (0) ∧ (0) = (0)) ∨ ((tc199_0) ≠ (0) ∧ (0) = (yc147_8_1)) from q_3568 b94)
                · refine Ew_of (pcₚ := 223) (fun _ => x_iload rfl (rk_o (lc199_8) rfl rfl)) ?_
                  refine Ew_of (pcₚ := 227) (fun _ => x_goto rfl rfl) ?_
                  exact hc227 (yc147_8_1) _ _ _ _  (rk_o (lc199_0) rfl rfl) (rk_o (lc199_1) rfl rfl) (rk_o (lc199_2) rfl rfl) (rk_o (lc199_3) rfl rfl) (rk_o (lc199_4) rfl rfl) (rk_o (lc199_5) rfl rfl) (rk_o (lc199_6) rfl rfl) (rk_s) H O (SF_refl) (SA_refl)     (show inr (yc147_8_1) from q_2767 jc147_0) (show ((tc199_0) = (0) ∧ (yc147_8_1) = (0)) ∨ ((tc199_0) ≠ (0) ∧ (yc147_8_1) = (yc147_8_1)) from q_3569 b94)
            refine w_icmplt (t := 198) rfl rfl (show inr (y78_1_1) from q_884 pz78_0) (show inr (z66) from q_3560 hl7) (fun b95 => ?_) (fun b95 => ?_)
            · refine Ew_of (pcₚ := 199) (fun _ => x_iconst rfl) ?_
              exact hc199 (0) _ _ _ _  ((rk_o (lc147_0) rfl rfl).trans (congrArg (fun q : Nat => some (Value.ref q)) ((((show D78 0 = D69 0 from (eD78 0).trans (hD78 0 rfl))).trans ((show D69 0 = D_82 0 from (eD69 0))))).symm)) ((rk_o (lc147_1) rfl rfl).trans (congrArg (fun q : Nat => some (Value.ref q)) ((((show D78 1 = D69 1 from (eD78 1))).trans ((show D69 1 = D_82 1 from (eD69 1))))).symm)) ((rk_o (lc147_2) rfl rfl).trans (congrArg (fun q : Nat => some (Value.ref q)) ((((show D78 2 = D69 2 from (eD78 2))).trans ((show D69 2 = D_82 2 from (eD69 2))))).symm)) ((rk_o (lc147_3) rfl rfl).trans (congrArg (fun q : Nat => some (Value.ref q)) ((((show D78 8 = D69 8 from (eD78 8).trans (hD78 4 rfl))).trans ((show D69 8 = D_82 8 from (eD69 8).trans (hD69 0 rfl))))).symm)) (rk_o (lc147_4) rfl rfl) (rk_o (lc147_5) rfl rfl) (rk_o (lc147_6) rfl rfl) (rk_s) H O (SF_refl) (SA_refl)     (show inr (0) from q_20) (show ((y78_1_1) < (z66) ∧ (0) = (0)) ∨ ((y78_1_1) ≥ (z66) ∧ (0) = (1)) from q_3093 b95)
            · refine Ew_of (pcₚ := 195) (fun _ => x_iconst rfl) ?_
              refine Ew_of (pcₚ := 199) (fun _ => x_goto rfl rfl) ?_
              exact hc199 (1) _ _ _ _  ((rk_o (lc147_0) rfl rfl).trans (congrArg (fun q : Nat => some (Value.ref q)) ((((show D78 0 = D69 0 from (eD78 0).trans (hD78 0 rfl))).trans ((show D69 0 = D_82 0 from (eD69 0))))).symm)) ((rk_o (lc147_1) rfl rfl).trans (congrArg (fun q : Nat => some (Value.ref q)) ((((show D78 1 = D69 1 from (eD78 1))).trans ((show D69 1 = D_82 1 from (eD69 1))))).symm)) ((rk_o (lc147_2) rfl rfl).trans (congrArg (fun q : Nat => some (Value.ref q)) ((((show D78 2 = D69 2 from (eD78 2))).trans ((show D69 2 = D_82 2 from (eD69 2))))).symm)) ((rk_o (lc147_3) rfl rfl).trans (congrArg (fun q : Nat => some (Value.ref q)) ((((show D78 8 = D69 8 from (eD78 8).trans (hD78 4 rfl))).trans ((show D69 8 = D_82 8 from (eD69 8).trans (hD69 0 rfl))))).symm)) (rk_o (lc147_4) rfl rfl) (rk_o (lc147_5) rfl rfl) (rk_o (lc147_6) rfl rfl) (rk_s) H O (SF_refl) (SA_refl)     (show inr (1) from q_23) (show ((y78_1_1) < (z66) ∧ (1) = (0)) ∨ ((y78_1_1) ≥ (z66) ∧ (1) = (1)) from q_3094 b95)
          refine Ew_of (pcₚ := 118) (fun _ => x_aload_n rfl (rk_o (l82_0) rfl rfl)) ?_
          refine v_g H (o := 0) (v := I (v17)) rfl rfl rfl rfl rfl (congrArg (fun z : Int => I z) ((((((hS_82 0 8 rfl).trans ((show F36 0 8 = F30 0 8 from (eF36 0 8)))).trans ((show F30 0 8 = F22 0 8 from (eF30 0 8)))).trans ((show F22 0 8 = F19 0 8 from (eF22 0 8)))).trans ((show F19 0 8 = (updF F 0 8 (v17)) 0 8 from (eF19 0 8).trans (hS19 0 8 rfl)))) : F_82 0 8 = v17)) ?_
          refine Ew_of (pcₚ := 123) (fun _ => x_bipush (z := 32) rfl (by decide)) ?_
          refine w_iand rfl (show inr (v17) from qv17) (show inr (32) from q_417) (fun z96 gz96 gaz96 gbz96 => ?_)
          refine w_ifeq (t := 147) rfl rfl (show inr (z96) from gz96) (fun b97 => ?_) (fun b97 => ?_)
          · exact hc147  _ _ _ _  (rk_o (l82_0) rfl rfl) (rk_o (l82_1) rfl rfl) (rk_o (l82_2) rfl rfl) (rk_o (l82_3) rfl rfl) (rk_o (l82_4) rfl rfl) (rk_o (l82_5) rfl rfl) (rk_o (l82_6) rfl rfl) (rk_s) H O (SF_refl) (SA_refl)   (y82_7_6) ((ey82_7_6)) (y82_8_1) ((ey82_8_1)) (w82_13) (ew82_13) (show 0 ≤ (y82_8_1) ∧ (y82_8_1) ≤ (m82_9) ∧ (m82_9) ≤ 65536 ∧ (y82_8_1) ≤ 16384 from j82_3) (show 0 ≤ (y82_10_1) ∧ (y82_10_1) ≤ (m82_11) ∧ (m82_11) ≤ 65536 from j82_4) (show (m30_1) = 2048 from j82_5) (show 0 ≤ (y82_7_6) ∧ (y82_7_6) ≤ (m82_14) ∧ (m82_14) ≤ 16384 from j82_6) (show (y82_7_6) = 0 ∨ (y82_7_6) + 4 ≤ (y82_8_1) + 1 from j82_7) (show BKI ((w82_9)) ((w82_14)) ((y30_0_10)) ((y82_7_6)) from j82_8) (show HDI ((w82_9)) ((w82_13)) ((y30_0_10)) ((y82_7_6)) from j82_9) (show (m82_15) = (m82_16) ∧ (m82_17) = (m82_16) ∧ (m82_16) ≤ 65536 ∧ ((m82_16) = 0 ∨ 64 ≤ (m82_16)) ∧ lgq ((m82_16)) = 0 from j82_10) (show 0 ≤ (y36_0_6) ∧ (y36_0_6) ≤ (y82_7_6) from j82_11) (show (y36_0_6) = 0 ∨ (y36_0_6) + 4 ≤ (u5_1) + 1 from j82_12) (show (u5_1) ≤ (y82_8_1) ∧ (y82_8_1) ≤ (u5_1) + (x82_6) from j82_13)
          · refine Ew_of (pcₚ := 128) (fun _ => x_aload_n rfl (rk_o (l82_0) rfl rfl)) ?_
            refine v_g H (o := 0) (v := .ref (D_82 7)) rfl rfl rfl rfl rfl (vrf ((mF_82 0 2 rfl).trans ((pf7).trans (congrArg (fun q : Nat => (q : Int)) (mD_82 7 rfl).symm)))) ?_
            refine Ew_of (pcₚ := 133) (fun _ => x_iload rfl (rk_o (l82_4) rfl rfl)) ?_
            refine v_inv H (o := 7) rfl rfl rfl rfl rfl rfl (by rfl) (C124 (D := puc 895234609159 D_82) (N := puc 895234609159 N_82) (HW_subc H oz_G4cls_62 oz_G4cls_68) ((mF_82 7 0 rfl).trans ((pf8).trans (congrArg (fun q : Nat => (q : Int)) (mD_82 8 rfl).symm))) (pm82_9) (pm82_14) (pf_82_7_7) (m82_9) (em82_9) (m82_14) (em82_14) (m30_1) ((congrArg (fun q : Nat => (q : Int)) (hN_82 13 rfl)).trans ((congrArg (fun q : Nat => (q : Int)) (show N36 13 = N30 13 from (eN36 13).trans (hN36 4 rfl))).trans ((congrArg (fun q : Nat => (q : Int)) (eN30 13)).trans em30_1))) (y82_7_6) ((ey82_7_6)) (y30_0_10) ((((hS_82 7 10 rfl).trans ((show F36 7 10 = F30 7 10 from (eF36 7 10).trans (hS36 0 10 rfl)))).trans ((eF30 7 10).trans ey30_0_10))) (y82_8_1) ((ey82_8_1)) (w82_9) (ew82_9) (w82_14) (ew82_14) (w82_13) (ew82_13) (show inr (y36_0_6) from q_3571 j82_11 pz36_0) (show 0 ≤ (y82_8_1) ∧ (y82_8_1) ≤ (m82_9) ∧ (m82_9) ≤ 65536 ∧ (y82_8_1) ≤ 16384 from j82_3) (show 1 ≤ (y30_0_10) ∧ (y30_0_10) ≤ 8 from q_3080 pz30_2) (show 0 ≤ (y36_0_6) ∧ (y36_0_6) ≤ (y82_7_6) from j82_11) (show (y82_7_6) = 0 ∨ (y82_7_6) + (y30_0_10) ≤ (y82_8_1) + 1 by omega) (show BKI ((w82_9)) ((w82_14)) ((y30_0_10)) ((y82_7_6)) from j82_8) (show HDI ((w82_9)) ((w82_13)) ((y30_0_10)) ((y82_7_6)) from j82_9) (show (m30_1) = 2048 from j82_5) (show 0 ≤ (y82_7_6) ∧ (y82_7_6) ≤ (m82_14) ∧ (m82_14) ≤ 16384 from j82_6) (fun σ98 F98ₚ A98ₚ Hₚ Oₚ hS98 hA98 y98_0_6 (ey98_0_6 : HID _) w98_4 ew98_4 pz98_0 pz98_1 pz98_2 => ⟨rfl, ?_⟩))
            refine v_backc (c := c_82) (s := s_82) H oz_G4cls_62 oz_G4cls_68 Hₚ Oₚ (fun F98 A98 H Oₚ eF98 eA98 => ?_)
            have O := OUT_trans O Oₚ
            -- Finder.unlay
            have cF98 : SF oz_G4clsl_13 F F98 := SF_trans (cF_82) (SF_gluc (ι := oz_G4clsl_18) oz_G4cls_68 hS98 eF98 (by decide +kernel)) (any_sub (lₚ := [(7, 6)]) (by decide +kernel))
            have mF98 := SFm_of cF98 oz_G4cls_63
            have cA98 : SA oz_G4clsl_14 A A98 := SA_trans (cA_82) (SA_gluc (ι := oz_G4clsl_18) oz_G4cls_68 hA98 eA98 (by decide +kernel)) (any_subA (lₚ := [13]) (by decide +kernel))
            have mA98 := SAm_of cA98 oz_G4cls_64
            have r99 : (-2147483648 : Int) ≤ y98_0_6 ∧ y98_0_6 ≤ 2147483647 := rngE (show (-2147483648 : Int) ≤ F98 7 6 ∧ F98 7 6 ≤ 2147483647 from H.krg 7 6 (ltn len_V218_Row_Row_oz_G4cls rfl)) (show F98 7 6 = y98_0_6 from ((eF98 7 6).trans ey98_0_6))
            have hld2 : (y98_0_6) = 0 ∨ (y98_0_6) + 4 ≤ (u5_1) + 1 := by omega
            refine Ew_of (pcₚ := 137) (fun _ => x_aload_n rfl (rk_o (l82_3) rfl rfl)) ?_
            refine Ew_of (pcₚ := 138) (fun _ => x_aload_n rfl (rk_o (l82_0) rfl rfl)) ?_
            refine v_g H (o := 0) (v := .ref (D_82 5)) rfl rfl rfl rfl rfl (vrf ((mF98 0 1 rfl).trans ((pf5).trans (congrArg (fun q : Nat => (q : Int)) (mD_82 5 rfl).symm)))) ?_
            refine v_g H (o := 5) (v := I (u5_1)) rfl rfl rfl rfl rfl (congrArg (fun z : Int => I z) (((mF98 5 1 rfl).trans (eu5_1)) : F98 5 1 = u5_1)) ?_
            refine v_p H (o := 8) (z := u5_1) (v := I (u5_1)) rfl rfl rfl rfl rfl rfl rfl rfl (show (-2147483648 : Int) ≤ u5_1 ∧ u5_1 ≤ 2147483647 from r3) (fun σ H Oₚ => ?_)
            have O := OUT_trans O Oₚ
            have cFu100 : SF oz_G4clsl_13 F (updF F98 8 1 (u5_1)) := SF_upd (cF98) rfl
            have mFu100 := SFm_of cFu100 oz_G4cls_63
            exact hc147  _ _ _ _  (rk_o (l82_0) rfl rfl) (rk_o (l82_1) rfl rfl) (rk_o (l82_2) rfl rfl) (rk_o (l82_3) rfl rfl) (rk_o (l82_4) rfl rfl) (rk_o (l82_5) rfl rfl) (rk_o (l82_6) rfl rfl) (rk_s) H O (SF_upd (SF_trans (SF_refl) (SF_gluc (ι := oz_G4clsl_18) oz_G4cls_68 hS98 eF98 (by decide +kernel)) (any_sub (lₚ := [(7, 6)]) (by decide +kernel))) rfl) (SA_trans (SA_refl) (SA_gluc (ι := oz_G4clsl_18) oz_G4cls_68 hA98 eA98 (by decide +kernel)) (any_subA (lₚ := [13]) (by decide +kernel)))   (y98_0_6) (((eF98 7 6).trans ey98_0_6)) (u5_1) (rfl) (w98_4) ((eA98 13).trans ew98_4) (show 0 ≤ (u5_1) ∧ (u5_1) ≤ (m82_9) ∧ (m82_9) ≤ 65536 ∧ (u5_1) ≤ 16384 from q_3575 h3 j82_13 j82_3) (show 0 ≤ (y82_10_1) ∧ (y82_10_1) ≤ (m82_11) ∧ (m82_11) ≤ 65536 from j82_4) (show (m30_1) = 2048 from j82_5) (show 0 ≤ (y98_0_6) ∧ (y98_0_6) ≤ (m82_14) ∧ (m82_14) ≤ 16384 from q_3574 j82_11 j82_6 pz98_0) (show (y98_0_6) = 0 ∨ (y98_0_6) + 4 ≤ (u5_1) + 1 from hld2) (show BKI ((w82_9)) ((w82_14)) ((y30_0_10)) ((y98_0_6)) from pz98_1) (show HDI ((w82_9)) ((w98_4)) ((y30_0_10)) ((y98_0_6)) from pz98_2) (show (m82_15) = (m82_16) ∧ (m82_17) = (m82_16) ∧ (m82_16) ≤ 65536 ∧ ((m82_16) = 0 ∨ 64 ≤ (m82_16)) ∧ lgq ((m82_16)) = 0 from j82_10) (show 0 ≤ (y36_0_6) ∧ (y36_0_6) ≤ (y98_0_6) from q_3573 j82_11 pz98_0) (show (y36_0_6) = 0 ∨ (y36_0_6) + 4 ≤ (u5_1) + 1 from j82_12) (show (u5_1) ≤ (u5_1) ∧ (u5_1) ≤ (u5_1) + (x82_6) from q_3572 j82_2)
