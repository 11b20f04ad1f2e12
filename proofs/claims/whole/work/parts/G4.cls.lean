abbrev V216_thispackeda : vV := [(0, 11, [(4, 0), (4, 0), (4, 0), (4, 0), (4, 0), (0, 0), (4, 0), (0, 0), (0, 0), (0, 0), (0, 0), (0, 0), (0, 0)]), (0, 7, [(4, 0), (0, 0), (1, 0), (0, 0), (0, 0)]), (1, 0, []), (0, 5, [(4, 0), (4, 0), (4, 0), (4, 0), (0, 0), (0, 0), (0, 0), (4, 0), (4, 0), (0, 0), (0, 0), (0, 0), (0, 0), (0, 0), (0, 0), (0, 0), (0, 0), (0, 0), (0, 0)]), (0, 7, [(4, 0), (0, 0), (1, 0), (0, 0), (0, 0)]), (1, 0, [])]
/-- Tokens.packLiterals: this, this.packed, this.packed.bytes, this.finder, this.finder.data, this.finder.data.bytes -/
theorem C216_thispackeda {σE : rS} {D N : Nat → Nat} {F : hF} {A : hA} {d c s : Nat} {Q : wQ} (H : HW V216_thispackeda σE D N F A) {a2 a3 a4 : Int} (pf1 : F 0 3 = (D 1 : Int)) (pf2 : F 1 0 = (D 2 : Int)) (pf3 : F 0 2 = (D 3 : Int)) (pf4 : F 3 0 = (D 4 : Int)) (pf5 : F 4 0 = (D 5 : Int)) (n2 : Int) (en2 : (N 2 : Int) = n2) (n5 : Int) (en5 : (N 5 : Int) = n5) (u1_1 : Int) (eu1_1 : F 1 1 = u1_1) (u4_1 : Int) (eu4_1 : F 4 1 = u4_1) (h0 : inr (a2)) (h1 : inr (a3)) (h2 : inr (a4)) (h3 : 0 ≤ (u1_1) ∧ (u1_1) ≤ (n2) ∧ (n2) ≤ 65536) (h4 : 0 ≤ (u4_1) ∧ (u4_1) ≤ (n5) ∧ (n5) ≤ 65536) (h5 : 0 ≤ (a2) ∧ 0 ≤ (a3) ∧ (a2) + (a3) ≤ (n5)) (h6 : 0 ≤ (a4)) (k : ∀ (σ : rS) (D' N' : Nat → Nat) (F' : hF) (A' : hA) (c' s' : Nat), HW V216_thispackeda σ D' N' F' A' → OUT (V216_thispackeda).length D N σE c s D' N' σ c' s' → SD [2] D D' → SD [2] N N' → SF [(1, 0), (1, 1), (1, 2)] F F' → SA [2] A A' → F' 1 0 = (D' 2 : Int) → ∀ m2 : Int, (N' 2 : Int) = m2 → ∀ y1_1 : Int, F' 1 1 = y1_1 → (0 ≤ (y1_1) ∧ (y1_1) ≤ (m2) ∧ (m2) ≤ 65536) → Q none σ c' s') : Ew 216 (d + 4) 0 (rargs 0 [.ref (D 0), .ref (D 1), I a2, I a3, I a4]) [] σE c s Q := by
  have O := OUT_refl (n := (V216_thispackeda).length) (D := D) (N := N) (σ := σE) (c := c) (s := s)
  have HE := H
  have r1 : (-2147483648 : Int) ≤ u1_1 ∧ u1_1 ≤ 2147483647 := by have h1 : (-2147483648 : Int) ≤ F 1 1 ∧ F 1 1 ≤ 2147483647 := H.krg 1 1 (by decide); rw [show F 1 1 = u1_1 from (eu1_1)] at h1; exact h1
  have r2 : (-2147483648 : Int) ≤ u4_1 ∧ u4_1 ≤ 2147483647 := by have h1 : (-2147483648 : Int) ≤ F 4 1 ∧ F 4 1 ≤ 2147483647 := H.krg 4 1 (by decide); rw [show F 4 1 = u4_1 from (eu4_1)] at h1; exact h1
  replace pf1 := HIDm pf1
  replace pf2 := HIDm pf2
  replace pf3 := HIDm pf3
  replace pf4 := HIDm pf4
  replace pf5 := HIDm pf5
  replace en2 := HIDm en2
  replace en5 := HIDm en5
  replace eu1_1 := HIDm eu1_1
  replace eu4_1 := HIDm eu4_1
  have r3 : (0 : Int) ≤ n2 ∧ n2 ≤ 1000000 := by have h1 := H.nle 2 (by decide); have h2 : (N 2 : Int) = n2 := en2; omega
  have r4 : (0 : Int) ≤ n5 ∧ n5 ≤ 1000000 := by have h1 := H.nle 5 (by decide); have h2 : (N 5 : Int) = n5 := en5; omega
  refine Ew_of (pc' := 1) (fun _ => x_aload_n rfl rfl) ?_
  refine Ew_of (pc' := 2) (fun _ => x_iload_n rfl rfl) ?_
  refine Ew_of (pc' := 4) (fun _ => x_bipush (z := 15) rfl (by decide)) ?_
  refine v_min rfl rfl (show inr (a3) by omega) (show inr (15) by omega) (fun z5 gz5 => ?_)
  refine Ew_of (pc' := 8) (fun _ => x_iconst rfl) ?_
  refine w_ishlA rfl (fun z6 gz6 => ?_)
  refine Ew_of (pc' := 11) (fun _ => x_iload rfl rfl) ?_
  refine Ew_of (pc' := 13) (fun _ => x_bipush (z := 15) rfl (by decide)) ?_
  refine v_min rfl rfl (show inr (a4) by omega) (show inr (15) by omega) (fun z7 gz7 => ?_)
  refine w_ior rfl (fun z8 gz8 => ?_)
  refine v_inv H (o := 1) rfl rfl rfl rfl rfl rfl (by rfl) (C159 (D := pul [1, 2] D) (N := pul [1, 2] N) (HW_sub H (VS_of (show vsub V216_thispackeda V159 [1, 2] = true by decide +kernel))) (pf2) (n2) (en2) (u1_1) ((eu1_1)) (show inr (z8) by omega) (show 0 ≤ (u1_1) ∧ (u1_1) ≤ (n2) ∧ (n2) ≤ 65536 by omega) (fun σ9 D9' N9' F9' A9' c9 s9 H' O' hD9 hN9 hS9 hA9 pm9_1 m9_1 em9_1 y9_0_1 ey9_0_1 pz9_0 pz9_1 pz9_2 => ⟨rfl, ?_⟩))
  replace pm9_1 := HIDm pm9_1
  replace em9_1 := HIDm em9_1
  replace ey9_0_1 := HIDm ey9_0_1
  refine v_backM (c := c) (s := s) H (show vsub V216_thispackeda V159 [1, 2] = true by decide +kernel) H' O' hD9 (show vmov V216_thispackeda [1, 2] [1] = true by decide +kernel) (fun D9 N9 F9 A9 H O' eD9 eN9 eF9 eA9 => ?_)
  have O := OUT_trans O O'
  -- Row.add
  have pf9_0_2 : HID (F9 0 2 = (D9 3 : Int)) := ((show F9 0 2 = F 0 2 from (eF9 0 2))).trans ((pf3).trans (congrArg (fun q : Nat => (q : Int)) ((show D9 3 = D 3 from (eD9 3))).symm))
  have pf9_0_3 : HID (F9 0 3 = (D9 1 : Int)) := ((show F9 0 3 = F 0 3 from (eF9 0 3))).trans ((pf1).trans (congrArg (fun q : Nat => (q : Int)) ((show D9 1 = D 1 from (eD9 1).trans (hD9 0 rfl))).symm))
  have pf9_1_0 : HID (F9 1 0 = (D9 2 : Int)) := (eF9 1 0).trans (pm9_1.trans (congrArg (fun q : Nat => (q : Int)) (eD9 2).symm))
  have pf9_3_0 : HID (F9 3 0 = (D9 4 : Int)) := ((show F9 3 0 = F 3 0 from (eF9 3 0))).trans ((pf4).trans (congrArg (fun q : Nat => (q : Int)) ((show D9 4 = D 4 from (eD9 4))).symm))
  have pf9_4_0 : HID (F9 4 0 = (D9 5 : Int)) := ((show F9 4 0 = F 4 0 from (eF9 4 0))).trans ((pf5).trans (congrArg (fun q : Nat => (q : Int)) ((show D9 5 = D 5 from (eD9 5))).symm))
  have r10 : (0 : Int) ≤ m9_1 ∧ m9_1 ≤ 1000000 := by have h1 := H.nle 2 (by decide); have h2 : (N9 2 : Int) = m9_1 := (congrArg (fun q : Nat => (q : Int)) (eN9 2)).trans em9_1; omega
  have r11 : (-2147483648 : Int) ≤ y9_0_1 ∧ y9_0_1 ≤ 2147483647 := by have h1 : (-2147483648 : Int) ≤ F9 1 1 ∧ F9 1 1 ≤ 2147483647 := H.krg 1 1 (by decide); rw [show F9 1 1 = y9_0_1 from ((eF9 1 1).trans ey9_0_1)] at h1; exact h1
  refine Ew_of (pc' := 21) (fun _ => x_aload_n rfl rfl) ?_
  refine Ew_of (pc' := 22) (fun _ => x_iload_n rfl rfl) ?_
  refine Ew_stk (show ([I (a3), .ref (D 1)] : List Value) = [I (a3), .ref (D9 1)] by rw [show D9 1 = D 1 from ((show D9 1 = D 1 from (eD9 1).trans (hD9 0 rfl)))]) ?_
  refine w_stat24 rfl rfl (by rfl) (C217_Row (D := pul [1, 2] D9) (N := pul [1, 2] N9) (HW_sub H (VS_of (show vsub V216_thispackeda V217_Row [1, 2] = true by decide +kernel))) (pf9_1_0) (m9_1) ((congrArg (fun q : Nat => (q : Int)) (eN9 2)).trans em9_1) (y9_0_1) (((eF9 1 1).trans ey9_0_1)) (show inr (a3) by omega) (show 0 ≤ (y9_0_1) ∧ (y9_0_1) ≤ (m9_1) ∧ (m9_1) ≤ 65536 by omega) (show 0 ≤ (a3) by omega) (fun σ12 D12' N12' F12' A12' c12 s12 H' O' hD12 hN12 hS12 hA12 pm12_1 m12_1 em12_1 y12_0_1 ey12_0_1 pz12_0 => ⟨rfl, ?_⟩))
  replace pm12_1 := HIDm pm12_1
  replace em12_1 := HIDm em12_1
  replace ey12_0_1 := HIDm ey12_0_1
  refine v_backM (c := (c + c9)) (s := (s + s9)) H (show vsub V216_thispackeda V217_Row [1, 2] = true by decide +kernel) H' O' hD12 (show vmov V216_thispackeda [1, 2] [1] = true by decide +kernel) (fun D12 N12 F12 A12 H O' eD12 eN12 eF12 eA12 => ?_)
  have O := OUT_trans O O'
  -- Tokens.packRest
  have pf12_0_2 : HID (F12 0 2 = (D12 3 : Int)) := ((show F12 0 2 = F9 0 2 from (eF12 0 2))).trans ((pf9_0_2).trans (congrArg (fun q : Nat => (q : Int)) ((show D12 3 = D9 3 from (eD12 3))).symm))
  have pf12_0_3 : HID (F12 0 3 = (D12 1 : Int)) := ((show F12 0 3 = F9 0 3 from (eF12 0 3))).trans ((pf9_0_3).trans (congrArg (fun q : Nat => (q : Int)) ((show D12 1 = D9 1 from (eD12 1).trans (hD12 0 rfl))).symm))
  have pf12_1_0 : HID (F12 1 0 = (D12 2 : Int)) := (eF12 1 0).trans (pm12_1.trans (congrArg (fun q : Nat => (q : Int)) (eD12 2).symm))
  have pf12_3_0 : HID (F12 3 0 = (D12 4 : Int)) := ((show F12 3 0 = F9 3 0 from (eF12 3 0))).trans ((pf9_3_0).trans (congrArg (fun q : Nat => (q : Int)) ((show D12 4 = D9 4 from (eD12 4))).symm))
  have pf12_4_0 : HID (F12 4 0 = (D12 5 : Int)) := ((show F12 4 0 = F9 4 0 from (eF12 4 0))).trans ((pf9_4_0).trans (congrArg (fun q : Nat => (q : Int)) ((show D12 5 = D9 5 from (eD12 5))).symm))
  have r13 : (0 : Int) ≤ m12_1 ∧ m12_1 ≤ 1000000 := by have h1 := H.nle 2 (by decide); have h2 : (N12 2 : Int) = m12_1 := (congrArg (fun q : Nat => (q : Int)) (eN12 2)).trans em12_1; omega
  have r14 : (-2147483648 : Int) ≤ y12_0_1 ∧ y12_0_1 ≤ 2147483647 := by have h1 : (-2147483648 : Int) ≤ F12 1 1 ∧ F12 1 1 ≤ 2147483647 := H.krg 1 1 (by decide); rw [show F12 1 1 = y12_0_1 from ((eF12 1 1).trans ey12_0_1)] at h1; exact h1
  refine Ew_of (pc' := 26) (fun _ => x_aload_n rfl rfl) ?_
  refine Ew_of (pc' := 27) (fun _ => x_aload_n rfl rfl) ?_
  refine Ew_stk (show ([.ref (D 0), .ref (D 1)] : List Value) = [.ref (D12 0), .ref (D12 1)] by rw [show D12 0 = D 0 from (((show D12 0 = D9 0 from (eD12 0))).trans ((show D9 0 = D 0 from (eD9 0)))), show D12 1 = D 1 from (((show D12 1 = D9 1 from (eD12 1).trans (hD12 0 rfl))).trans ((show D9 1 = D 1 from (eD9 1).trans (hD9 0 rfl))))]) ?_
  refine v_g H (o := 0) (v := .ref (D12 3)) rfl rfl rfl rfl rfl (vrf (pf12_0_2)) ?_
  refine v_g H (o := 3) (v := .ref (D12 4)) rfl rfl rfl rfl rfl (vrf (pf12_3_0)) ?_
  refine v_g H (o := 4) (v := .ref (D12 5)) rfl rfl rfl rfl rfl (vrf (pf12_4_0)) ?_
  refine Ew_of (pc' := 37) (fun _ => x_iload_n rfl rfl) ?_
  refine Ew_of (pc' := 38) (fun _ => x_iload_n rfl rfl) ?_
  refine v_inv H (o := 1) rfl rfl rfl rfl rfl rfl (by rfl) (C161_Br (D := pul [1, 5, 2] D12) (N := pul [1, 5, 2] N12) (HW_sub H (VS_of (show vsub V216_thispackeda V161_Br [1, 5, 2] = true by decide +kernel))) (pf12_1_0) (n5) ((congrArg (fun q : Nat => (q : Int)) (show N12 5 = N9 5 from (eN12 5))).trans ((congrArg (fun q : Nat => (q : Int)) (show N9 5 = N 5 from (eN9 5))).trans (en5))) (m12_1) ((congrArg (fun q : Nat => (q : Int)) (eN12 2)).trans em12_1) (y12_0_1) (((eF12 1 1).trans ey12_0_1)) (A12 2) (rfl) (show inr (a2) by omega) (show inr (a3) by omega) (show 0 ≤ (y12_0_1) ∧ (y12_0_1) ≤ (m12_1) ∧ (m12_1) ≤ 65536 by omega) (show (a3) < 0 ∨ 0 ≤ (a2) ∧ (a2) + (a3) ≤ (n5) by omega) (fun σ15 D15' N15' F15' A15' c15 s15 H' O' hD15 hN15 hS15 hA15 pm15_2 m15_2 em15_2 y15_0_1 ey15_0_1 w15_2 ew15_2 pz15_0 pz15_1 pz15_2 => ⟨rfl, ?_⟩))
  replace pm15_2 := HIDm pm15_2
  replace em15_2 := HIDm em15_2
  replace ey15_0_1 := HIDm ey15_0_1
  refine v_backM (c := ((c + c9) + c12)) (s := ((s + s9) + s12)) H (show vsub V216_thispackeda V161_Br [1, 5, 2] = true by decide +kernel) H' O' hD15 (show vmov V216_thispackeda [1, 5, 2] [2] = true by decide +kernel) (fun D15 N15 F15 A15 H O' eD15 eN15 eF15 eA15 => ?_)
  have O := OUT_trans O O'
  -- Row.addPart
  have pf15_0_2 : HID (F15 0 2 = (D15 3 : Int)) := ((show F15 0 2 = F12 0 2 from (eF15 0 2))).trans ((pf12_0_2).trans (congrArg (fun q : Nat => (q : Int)) ((show D15 3 = D12 3 from (eD15 3))).symm))
  have pf15_0_3 : HID (F15 0 3 = (D15 1 : Int)) := ((show F15 0 3 = F12 0 3 from (eF15 0 3))).trans ((pf12_0_3).trans (congrArg (fun q : Nat => (q : Int)) ((show D15 1 = D12 1 from (eD15 1).trans (hD15 0 rfl))).symm))
  have pf15_1_0 : HID (F15 1 0 = (D15 2 : Int)) := (eF15 1 0).trans (pm15_2.trans (congrArg (fun q : Nat => (q : Int)) (eD15 2).symm))
  have pf15_3_0 : HID (F15 3 0 = (D15 4 : Int)) := ((show F15 3 0 = F12 3 0 from (eF15 3 0))).trans ((pf12_3_0).trans (congrArg (fun q : Nat => (q : Int)) ((show D15 4 = D12 4 from (eD15 4))).symm))
  have pf15_4_0 : HID (F15 4 0 = (D15 5 : Int)) := ((show F15 4 0 = F12 4 0 from (eF15 4 0))).trans ((pf12_4_0).trans (congrArg (fun q : Nat => (q : Int)) ((show D15 5 = D12 5 from (eD15 5).trans (hD15 1 rfl))).symm))
  have r16 : (0 : Int) ≤ m15_2 ∧ m15_2 ≤ 1000000 := by have h1 := H.nle 2 (by decide); have h2 : (N15 2 : Int) = m15_2 := (congrArg (fun q : Nat => (q : Int)) (eN15 2)).trans em15_2; omega
  have r17 : (-2147483648 : Int) ≤ y15_0_1 ∧ y15_0_1 ≤ 2147483647 := by have h1 : (-2147483648 : Int) ≤ F15 1 1 ∧ F15 1 1 ≤ 2147483647 := H.krg 1 1 (by decide); rw [show F15 1 1 = y15_0_1 from ((eF15 1 1).trans ey15_0_1)] at h1; exact h1
  exact w_ret rfl (k _ _ _ _ _ _ _ H O (SD_trans (SD_trans (SD_trans (SD_refl) (SD_glu (ι := [1, 2]) hD9 eD9 (by decide +kernel)) (any_subA (l' := [2]) rfl)) (SD_glu (ι := [1, 2]) hD12 eD12 (by decide +kernel)) (any_subA (l' := [2]) rfl)) (SD_glu (ι := [1, 5, 2]) hD15 eD15 (by decide +kernel)) (any_subA (l' := [2]) rfl)) (SD_trans (SD_trans (SD_trans (SD_refl) (SD_glu (ι := [1, 2]) hN9 eN9 (by decide +kernel)) (any_subA (l' := [2]) rfl)) (SD_glu (ι := [1, 2]) hN12 eN12 (by decide +kernel)) (any_subA (l' := [2]) rfl)) (SD_glu (ι := [1, 5, 2]) hN15 eN15 (by decide +kernel)) (any_subA (l' := [2]) rfl)) (SF_trans (SF_trans (SF_trans (SF_refl) (SF_glu (ι := [1, 2]) hS9 eF9 (by decide +kernel)) (any_sub (l' := [(1, 0), (1, 1), (1, 2)]) rfl)) (SF_glu (ι := [1, 2]) hS12 eF12 (by decide +kernel)) (any_sub (l' := [(1, 0), (1, 1), (1, 2)]) rfl)) (SF_glu (ι := [1, 5, 2]) hS15 eF15 (by decide +kernel)) (any_sub (l' := [(1, 0), (1, 1), (1, 2)]) rfl)) (SA_trans (SA_trans (SA_trans (SA_refl) (SA_glu (ι := [1, 2]) hA9 eA9 (by decide +kernel)) (any_subA (l' := [2]) rfl)) (SA_glu (ι := [1, 2]) hA12 eA12 (by decide +kernel)) (any_subA (l' := [2]) rfl)) (SA_glu (ι := [1, 5, 2]) hA15 eA15 (by decide +kernel)) (any_subA (l' := [2]) rfl)) (pf15_1_0) (m15_2) ((congrArg (fun q : Nat => (q : Int)) (eN15 2)).trans em15_2) (y15_0_1) (((eF15 1 1).trans ey15_0_1)) (show 0 ≤ (y15_0_1) ∧ (y15_0_1) ≤ (m15_2) ∧ (m15_2) ≤ 65536 by omega))
abbrev V215_thispackeda : vV := [(0, 11, [(4, 0), (4, 0), (4, 0), (4, 0), (4, 0), (0, 0), (4, 0), (0, 0), (0, 0), (0, 0), (0, 0), (0, 0), (0, 0)]), (0, 7, [(4, 0), (0, 0), (1, 0), (0, 0), (0, 0)]), (1, 0, []), (0, 5, [(4, 0), (4, 0), (4, 0), (4, 0), (0, 0), (0, 0), (0, 0), (4, 0), (4, 0), (0, 0), (0, 0), (0, 0), (0, 0), (0, 0), (0, 0), (0, 0), (0, 0), (0, 0), (0, 0)]), (0, 7, [(4, 0), (0, 0), (1, 0), (0, 0), (0, 0)]), (1, 0, []), (1, 1, []), (1, 1, []), (1, 1, []), (1, 1, []), (1, 1, [])]
/-- Tokens.packBlock: this, this.packed, this.packed.bytes, this.finder, this.finder.data, this.finder.data.bytes, this.finder.back, this.finder.heads, this.finder.literals, this.finder.lengths, this.finder.distances -/
theorem C215_thispackeda {σE : rS} {D N : Nat → Nat} {F : hF} {A : hA} {d c s : Nat} {Q : wQ} (H : HW V215_thispackeda σE D N F A) {a2 : Int} (pf1 : F 0 3 = (D 1 : Int)) (pf2 : F 1 0 = (D 2 : Int)) (pf3 : F 0 2 = (D 3 : Int)) (pf4 : F 3 0 = (D 4 : Int)) (pf5 : F 4 0 = (D 5 : Int)) (pf6 : F 3 8 = (D 6 : Int)) (pf7 : F 3 7 = (D 7 : Int)) (pf8 : F 3 1 = (D 8 : Int)) (pf9 : F 3 2 = (D 9 : Int)) (pf10 : F 3 3 = (D 10 : Int)) (n2 : Int) (en2 : (N 2 : Int) = n2) (n5 : Int) (en5 : (N 5 : Int) = n5) (n6 : Int) (en6 : (N 6 : Int) = n6) (n7 : Int) (en7 : (N 7 : Int) = n7) (n8 : Int) (en8 : (N 8 : Int) = n8) (n9 : Int) (en9 : (N 9 : Int) = n9) (n10 : Int) (en10 : (N 10 : Int) = n10) (u1_1 : Int) (eu1_1 : F 1 1 = u1_1) (u3_6 : Int) (eu3_6 : F 3 6 = u3_6) (u3_10 : Int) (eu3_10 : F 3 10 = u3_10) (u4_1 : Int) (eu4_1 : F 4 1 = u4_1) (w5 : Int → Int) (ew5 : A 5 = w5) (w6 : Int → Int) (ew6 : A 6 = w6) (w7 : Int → Int) (ew7 : A 7 = w7) (h0 : inr (a2)) (h1 : 0 ≤ (u1_1) ∧ (u1_1) ≤ (n2) ∧ (n2) ≤ 65536) (h2 : 0 ≤ (u4_1) ∧ (u4_1) ≤ (n5) ∧ (n5) ≤ 65536 ∧ (u4_1) ≤ 16384) (h3 : (u3_10) = 4) (h4 : 0 ≤ (a2) ∧ (a2) ≤ (u4_1)) (h5 : BKI ((w5)) ((w6)) ((u3_10)) ((u3_6))) (h6 : HDI ((w5)) ((w7)) ((u3_10)) ((u3_6))) (h7 : (n8) = (n9) ∧ (n10) = (n9) ∧ (n9) ≤ 65536 ∧ ((n9) = 0 ∨ 64 ≤ (n9)) ∧ lgq ((n9)) = 0) (h8 : (n7) = 2048) (h9 : 0 ≤ (u3_6) ∧ (u3_6) ≤ (n6) ∧ (n6) ≤ 16384) (k : ∀ (σ : rS) (D' N' : Nat → Nat) (F' : hF) (A' : hA) (c' s' : Nat), HW V215_thispackeda σ D' N' F' A' → OUT (V215_thispackeda).length D N σE c s D' N' σ c' s' → SD [2, 6, 8, 9, 10] D D' → SD [2, 6, 8, 9, 10] N N' → SF [(1, 0), (1, 1), (1, 2), (3, 1), (3, 2), (3, 3), (3, 4), (3, 5), (3, 6), (3, 8), (3, 12), (3, 13), (3, 14), (3, 15), (3, 16), (3, 17), (3, 18)] F F' → SA [2, 6, 7, 8, 9, 10] A A' → F' 1 0 = (D' 2 : Int) → F' 3 8 = (D' 6 : Int) → F' 3 1 = (D' 8 : Int) → F' 3 2 = (D' 9 : Int) → F' 3 3 = (D' 10 : Int) → ∀ m2 : Int, (N' 2 : Int) = m2 → ∀ m6 : Int, (N' 6 : Int) = m6 → ∀ m8 : Int, (N' 8 : Int) = m8 → ∀ m9 : Int, (N' 9 : Int) = m9 → ∀ m10 : Int, (N' 10 : Int) = m10 → ∀ y1_1 : Int, F' 1 1 = y1_1 → ∀ y3_6 : Int, F' 3 6 = y3_6 → ∀ v6 : Int → Int, A' 6 = v6 → ∀ v7 : Int → Int, A' 7 = v7 → (0 ≤ (y1_1) ∧ (y1_1) ≤ (m2) ∧ (m2) ≤ 65536) → (0 ≤ (y3_6) ∧ (u3_6) ≤ (y3_6) ∧ (y3_6) ≤ (m6) ∧ (m6) ≤ 16384) → ((m8) = (m9) ∧ (m10) = (m9) ∧ (m9) ≤ 65536 ∧ ((m9) = 0 ∨ 64 ≤ (m9)) ∧ lgq ((m9)) = 0) → (BKI ((w5)) ((v6)) ((u3_10)) ((y3_6))) → (HDI ((w5)) ((v7)) ((u3_10)) ((y3_6))) → ((y3_6) = (u3_6) ∨ (y3_6) + 4 ≤ (u4_1) + 1) → Q none σ c' s') : Ew 215 (d + 5) 0 (rargs 0 [.ref (D 0), .ref (D 1), I a2]) [] σE c s Q := by
  have O := OUT_refl (n := (V215_thispackeda).length) (D := D) (N := N) (σ := σE) (c := c) (s := s)
  have HE := H
  have r1 : (-2147483648 : Int) ≤ u1_1 ∧ u1_1 ≤ 2147483647 := by have h1 : (-2147483648 : Int) ≤ F 1 1 ∧ F 1 1 ≤ 2147483647 := H.krg 1 1 (by decide); rw [show F 1 1 = u1_1 from (eu1_1)] at h1; exact h1
  have r2 : (-2147483648 : Int) ≤ u3_6 ∧ u3_6 ≤ 2147483647 := by have h1 : (-2147483648 : Int) ≤ F 3 6 ∧ F 3 6 ≤ 2147483647 := H.krg 3 6 (by decide); rw [show F 3 6 = u3_6 from (eu3_6)] at h1; exact h1
  have r3 : (-2147483648 : Int) ≤ u3_10 ∧ u3_10 ≤ 2147483647 := by have h1 : (-2147483648 : Int) ≤ F 3 10 ∧ F 3 10 ≤ 2147483647 := H.krg 3 10 (by decide); rw [show F 3 10 = u3_10 from (eu3_10)] at h1; exact h1
  have r4 : (-2147483648 : Int) ≤ u4_1 ∧ u4_1 ≤ 2147483647 := by have h1 : (-2147483648 : Int) ≤ F 4 1 ∧ F 4 1 ≤ 2147483647 := H.krg 4 1 (by decide); rw [show F 4 1 = u4_1 from (eu4_1)] at h1; exact h1
  replace pf1 := HIDm pf1
  replace pf2 := HIDm pf2
  replace pf3 := HIDm pf3
  replace pf4 := HIDm pf4
  replace pf5 := HIDm pf5
  replace pf6 := HIDm pf6
  replace pf7 := HIDm pf7
  replace pf8 := HIDm pf8
  replace pf9 := HIDm pf9
  replace pf10 := HIDm pf10
  replace en2 := HIDm en2
  replace en5 := HIDm en5
  replace en6 := HIDm en6
  replace en7 := HIDm en7
  replace en8 := HIDm en8
  replace en9 := HIDm en9
  replace en10 := HIDm en10
  replace eu1_1 := HIDm eu1_1
  replace eu3_6 := HIDm eu3_6
  replace eu3_10 := HIDm eu3_10
  replace eu4_1 := HIDm eu4_1
  have r5 : (0 : Int) ≤ n2 ∧ n2 ≤ 1000000 := by have h1 := H.nle 2 (by decide); have h2 : (N 2 : Int) = n2 := en2; omega
  have r6 : (0 : Int) ≤ n5 ∧ n5 ≤ 1000000 := by have h1 := H.nle 5 (by decide); have h2 : (N 5 : Int) = n5 := en5; omega
  have r7 : (0 : Int) ≤ n6 ∧ n6 ≤ 1000000 := by have h1 := H.nle 6 (by decide); have h2 : (N 6 : Int) = n6 := en6; omega
  have r8 : (0 : Int) ≤ n7 ∧ n7 ≤ 1000000 := by have h1 := H.nle 7 (by decide); have h2 : (N 7 : Int) = n7 := en7; omega
  have r9 : (0 : Int) ≤ n8 ∧ n8 ≤ 1000000 := by have h1 := H.nle 8 (by decide); have h2 : (N 8 : Int) = n8 := en8; omega
  have r10 : (0 : Int) ≤ n9 ∧ n9 ≤ 1000000 := by have h1 := H.nle 9 (by decide); have h2 : (N 9 : Int) = n9 := en9; omega
  have r11 : (0 : Int) ≤ n10 ∧ n10 ≤ 1000000 := by have h1 := H.nle 10 (by decide); have h2 : (N 10 : Int) = n10 := en10; omega
  refine Ew_of (pc' := 1) (fun _ => x_aload_n rfl rfl) ?_
  refine v_g H (o := 0) (v := .ref (D 3)) rfl rfl rfl rfl rfl (vrf (pf3)) ?_
  refine v_g H (o := 3) (v := .ref (D 4)) rfl rfl rfl rfl rfl (vrf (pf4)) ?_
  refine v_g H (o := 4) (v := I (u4_1)) rfl rfl rfl rfl rfl (congrArg (fun z : Int => I z) ((eu4_1) : F 4 1 = u4_1)) ?_
  refine Ew_of (pc' := 11) (fun _ => x_istore_n rfl) ?_
  refine Ew_of (pc' := 12) (fun _ => x_aload_n rfl (rk_o (rfl) rfl rfl)) ?_
  refine v_g H (o := 0) (v := .ref (D 3)) rfl rfl rfl rfl rfl (vrf (pf3)) ?_
  refine Ew_of (pc' := 16) (fun _ => x_iload_n rfl rk_s) ?_
  refine v_inv H (o := 3) rfl rfl rfl rfl rfl rfl (by rfl) (C123 (D := pul [3, 4, 5, 6, 7] D) (N := pul [3, 4, 5, 6, 7] N) (HW_sub H (VS_of (show vsub V215_thispackeda V123 [3, 4, 5, 6, 7] = true by decide +kernel))) (pf4) (pf5) (pf6) (pf7) (n5) (en5) (n6) (en6) (n7) (en7) (u3_6) ((eu3_6)) (u3_10) ((eu3_10)) (u4_1) ((eu4_1)) (w5) (ew5) (w6) (ew6) (w7) (ew7) (show inr (u4_1) by omega) (show 0 ≤ (u4_1) ∧ (u4_1) ≤ (n5) ∧ (n5) ≤ 65536 ∧ (u4_1) ≤ 16384 by omega) (show 1 ≤ (u3_10) ∧ (u3_10) ≤ 8 by omega) (show 0 ≤ (u4_1) ∧ (u4_1) ≤ (u4_1) by omega) (show BKI ((w5)) ((w6)) ((u3_10)) ((u3_6)) by assumption) (show HDI ((w5)) ((w7)) ((u3_10)) ((u3_6)) by assumption) (show (n7) = 2048 by omega) (show 0 ≤ (u3_6) ∧ (u3_6) ≤ (n6) ∧ (n6) ≤ 16384 by omega) (fun σ12 D12' N12' F12' A12' c12 s12 H' O' hD12 hN12 hS12 hA12 pm12_3 m12_3 em12_3 y12_0_6 ey12_0_6 w12_3 ew12_3 w12_4 ew12_4 pz12_0 pz12_1 pz12_2 pz12_3 pz12_4 => ⟨rfl, ?_⟩))
  replace pm12_3 := HIDm pm12_3
  replace em12_3 := HIDm em12_3
  replace ey12_0_6 := HIDm ey12_0_6
  refine v_backM (c := c) (s := s) H (show vsub V215_thispackeda V123 [3, 4, 5, 6, 7] = true by decide +kernel) H' O' hD12 (show vmov V215_thispackeda [3, 4, 5, 6, 7] [3] = true by decide +kernel) (fun D12 N12 F12 A12 H O' eD12 eN12 eF12 eA12 => ?_)
  have O := OUT_trans O O'
  -- Finder.lay
  have pf12_0_2 : HID (F12 0 2 = (D12 3 : Int)) := ((show F12 0 2 = F 0 2 from (eF12 0 2))).trans ((pf3).trans (congrArg (fun q : Nat => (q : Int)) ((show D12 3 = D 3 from (eD12 3).trans (hD12 0 rfl))).symm))
  have pf12_0_3 : HID (F12 0 3 = (D12 1 : Int)) := ((show F12 0 3 = F 0 3 from (eF12 0 3))).trans ((pf1).trans (congrArg (fun q : Nat => (q : Int)) ((show D12 1 = D 1 from (eD12 1))).symm))
  have pf12_1_0 : HID (F12 1 0 = (D12 2 : Int)) := ((show F12 1 0 = F 1 0 from (eF12 1 0))).trans ((pf2).trans (congrArg (fun q : Nat => (q : Int)) ((show D12 2 = D 2 from (eD12 2))).symm))
  have pf12_3_0 : HID (F12 3 0 = (D12 4 : Int)) := ((show F12 3 0 = F 3 0 from (eF12 3 0).trans (hS12 0 0 rfl))).trans ((pf4).trans (congrArg (fun q : Nat => (q : Int)) ((show D12 4 = D 4 from (eD12 4).trans (hD12 1 rfl))).symm))
  have pf12_3_1 : HID (F12 3 1 = (D12 8 : Int)) := ((show F12 3 1 = F 3 1 from (eF12 3 1).trans (hS12 0 1 rfl))).trans ((pf8).trans (congrArg (fun q : Nat => (q : Int)) ((show D12 8 = D 8 from (eD12 8))).symm))
  have pf12_3_2 : HID (F12 3 2 = (D12 9 : Int)) := ((show F12 3 2 = F 3 2 from (eF12 3 2).trans (hS12 0 2 rfl))).trans ((pf9).trans (congrArg (fun q : Nat => (q : Int)) ((show D12 9 = D 9 from (eD12 9))).symm))
  have pf12_3_3 : HID (F12 3 3 = (D12 10 : Int)) := ((show F12 3 3 = F 3 3 from (eF12 3 3).trans (hS12 0 3 rfl))).trans ((pf10).trans (congrArg (fun q : Nat => (q : Int)) ((show D12 10 = D 10 from (eD12 10))).symm))
  have pf12_3_7 : HID (F12 3 7 = (D12 7 : Int)) := ((show F12 3 7 = F 3 7 from (eF12 3 7).trans (hS12 0 7 rfl))).trans ((pf7).trans (congrArg (fun q : Nat => (q : Int)) ((show D12 7 = D 7 from (eD12 7).trans (hD12 4 rfl))).symm))
  have pf12_3_8 : HID (F12 3 8 = (D12 6 : Int)) := (eF12 3 8).trans (pm12_3.trans (congrArg (fun q : Nat => (q : Int)) (eD12 6).symm))
  have pf12_4_0 : HID (F12 4 0 = (D12 5 : Int)) := ((show F12 4 0 = F 4 0 from (eF12 4 0).trans (hS12 1 0 rfl))).trans ((pf5).trans (congrArg (fun q : Nat => (q : Int)) ((show D12 5 = D 5 from (eD12 5).trans (hD12 2 rfl))).symm))
  have r13 : (0 : Int) ≤ m12_3 ∧ m12_3 ≤ 1000000 := by have h1 := H.nle 6 (by decide); have h2 : (N12 6 : Int) = m12_3 := (congrArg (fun q : Nat => (q : Int)) (eN12 6)).trans em12_3; omega
  have r14 : (-2147483648 : Int) ≤ y12_0_6 ∧ y12_0_6 ≤ 2147483647 := by have h1 : (-2147483648 : Int) ≤ F12 3 6 ∧ F12 3 6 ≤ 2147483647 := H.krg 3 6 (by decide); rw [show F12 3 6 = y12_0_6 from ((eF12 3 6).trans ey12_0_6)] at h1; exact h1
  refine Ew_of (pc' := 20) (fun _ => x_aload_n rfl (rk_o (rfl) rfl rfl)) ?_
  refine Ew_stk (show ([.ref (D 0)] : List Value) = [.ref (D12 0)] by rw [show D12 0 = D 0 from ((show D12 0 = D 0 from (eD12 0)))]) ?_
  refine v_g H (o := 0) (v := .ref (D12 3)) rfl rfl rfl rfl rfl (vrf (pf12_0_2)) ?_
  refine Ew_of (pc' := 24) (fun _ => x_iload_n rfl (rk_o (rfl) rfl rfl)) ?_
  refine Ew_of (pc' := 25) (fun _ => x_iload_n rfl rk_s) ?_
  refine Ew_of (pc' := 26) (fun _ => x_iload_n rfl rk_s) ?_
  refine Ew_of (pc' := 27) (fun _ => x_iconst rfl) ?_
  refine w_isub rfl ?_
  refine Ew_of (pc' := 29) (fun _ => x_iload_n rfl rk_s) ?_
  refine Ew_of (pc' := 31) (fun _ => x_bipush (z := 12) rfl (by decide)) ?_
  refine w_isub rfl ?_
  have r15 : (-2147483648 : Int) ≤ F 3 4 ∧ F 3 4 ≤ 2147483647 := by have h1 : (-2147483648 : Int) ≤ F12 3 4 ∧ F12 3 4 ≤ 2147483647 := H.krg 3 4 (by decide); rw [show F12 3 4 = F 3 4 from ((show F12 3 4 = F 3 4 from (eF12 3 4).trans (hS12 0 4 rfl)))] at h1; exact h1
  have r16 : (-2147483648 : Int) ≤ F 3 5 ∧ F 3 5 ≤ 2147483647 := by have h1 : (-2147483648 : Int) ≤ F12 3 5 ∧ F12 3 5 ≤ 2147483647 := H.krg 3 5 (by decide); rw [show F12 3 5 = F 3 5 from ((show F12 3 5 = F 3 5 from (eF12 3 5).trans (hS12 0 5 rfl)))] at h1; exact h1
  refine v_inv H (o := 3) rfl rfl rfl rfl rfl rfl (by rfl) (C125 (D := pul [3, 4, 5, 6, 8, 9, 10] D12) (N := pul [3, 4, 5, 6, 8, 9, 10] N12) (HW_sub H (VS_of (show vsub V215_thispackeda V125 [3, 4, 5, 6, 8, 9, 10] = true by decide +kernel))) (pf12_3_0) (pf12_4_0) (pf12_3_8) (pf12_3_1) (pf12_3_2) (pf12_3_3) (n5) ((congrArg (fun q : Nat => (q : Int)) (show N12 5 = N 5 from (eN12 5).trans (hN12 2 rfl))).trans (en5)) (m12_3) ((congrArg (fun q : Nat => (q : Int)) (eN12 6)).trans em12_3) (n8) ((congrArg (fun q : Nat => (q : Int)) (show N12 8 = N 8 from (eN12 8))).trans (en8)) (n9) ((congrArg (fun q : Nat => (q : Int)) (show N12 9 = N 9 from (eN12 9))).trans (en9)) (n10) ((congrArg (fun q : Nat => (q : Int)) (show N12 10 = N 10 from (eN12 10))).trans (en10)) (F 3 4) (((show F12 3 4 = F 3 4 from (eF12 3 4).trans (hS12 0 4 rfl)))) (F 3 5) (((show F12 3 5 = F 3 5 from (eF12 3 5).trans (hS12 0 5 rfl)))) (y12_0_6) (((eF12 3 6).trans ey12_0_6)) (u3_10) ((((show F12 3 10 = F 3 10 from (eF12 3 10).trans (hS12 0 10 rfl))).trans (eu3_10))) (u4_1) ((((show F12 4 1 = F 4 1 from (eF12 4 1).trans (hS12 1 1 rfl))).trans (eu4_1))) (w5) (((show A12 5 = A 5 from (eA12 5).trans (funext (hA12 2 rfl)))).trans (ew5)) (w12_3) ((eA12 6).trans ew12_3) (A 8) ((show A12 8 = A 8 from (eA12 8))) (A 9) ((show A12 9 = A 9 from (eA12 9))) (A 10) ((show A12 10 = A 10 from (eA12 10))) (show inr (a2) by omega) (show inr (u4_1) by omega) (show inr ((u4_1 - 5)) by omega) (show inr ((u4_1 - 12)) by omega) (show 0 ≤ (u4_1) ∧ (u4_1) ≤ (n5) ∧ (n5) ≤ 65536 ∧ (u4_1) ≤ 16384 by omega) (show 1 ≤ (u3_10) ∧ (u3_10) ≤ 8 by omega) (show 0 ≤ (a2) ∧ (a2) ≤ (u4_1) ∧ (u4_1) ≤ (u4_1) by omega) (show ((u4_1 - 5)) ≤ (u4_1) ∧ ((u4_1 - 12)) < (u4_1) ∧ ((u4_1 - 12)) < (y12_0_6) by omega) (show 0 ≤ (y12_0_6) ∧ (y12_0_6) ≤ (m12_3) ∧ (m12_3) ≤ 16384 by omega) (show BKI ((w5)) ((w12_3)) ((u3_10)) ((y12_0_6)) by assumption) (show (n8) = (n9) ∧ (n10) = (n9) ∧ (n9) ≤ 65536 ∧ ((n9) = 0 ∨ 64 ≤ (n9)) ∧ lgq ((n9)) = 0 by omega) (fun σ17 D17' N17' F17' A17' c17 s17 H' O' hD17 hN17 hS17 hA17 pm17_4 pm17_5 pm17_6 m17_4 em17_4 m17_5 em17_5 m17_6 em17_6 y17_0_4 ey17_0_4 y17_0_5 ey17_0_5 w17_4 ew17_4 w17_5 ew17_5 w17_6 ew17_6 pz17_0 pz17_1 pz17_2 pz17_3 => ⟨rfl, ?_⟩))
  replace pm17_4 := HIDm pm17_4
  replace pm17_5 := HIDm pm17_5
  replace pm17_6 := HIDm pm17_6
  replace em17_4 := HIDm em17_4
  replace em17_5 := HIDm em17_5
  replace em17_6 := HIDm em17_6
  replace ey17_0_4 := HIDm ey17_0_4
  replace ey17_0_5 := HIDm ey17_0_5
  refine v_backM (c := (c + c12)) (s := (s + s12)) H (show vsub V215_thispackeda V125 [3, 4, 5, 6, 8, 9, 10] = true by decide +kernel) H' O' hD17 (show vmov V215_thispackeda [3, 4, 5, 6, 8, 9, 10] [4, 5, 6] = true by decide +kernel) (fun D17 N17 F17 A17 H O' eD17 eN17 eF17 eA17 => ?_)
  have O := OUT_trans O O'
  -- Finder.go
  have pf17_0_2 : HID (F17 0 2 = (D17 3 : Int)) := ((show F17 0 2 = F12 0 2 from (eF17 0 2))).trans ((pf12_0_2).trans (congrArg (fun q : Nat => (q : Int)) ((show D17 3 = D12 3 from (eD17 3).trans (hD17 0 rfl))).symm))
  have pf17_0_3 : HID (F17 0 3 = (D17 1 : Int)) := ((show F17 0 3 = F12 0 3 from (eF17 0 3))).trans ((pf12_0_3).trans (congrArg (fun q : Nat => (q : Int)) ((show D17 1 = D12 1 from (eD17 1))).symm))
  have pf17_1_0 : HID (F17 1 0 = (D17 2 : Int)) := ((show F17 1 0 = F12 1 0 from (eF17 1 0))).trans ((pf12_1_0).trans (congrArg (fun q : Nat => (q : Int)) ((show D17 2 = D12 2 from (eD17 2))).symm))
  have pf17_3_0 : HID (F17 3 0 = (D17 4 : Int)) := ((show F17 3 0 = F12 3 0 from (eF17 3 0).trans (hS17 0 0 rfl))).trans ((pf12_3_0).trans (congrArg (fun q : Nat => (q : Int)) ((show D17 4 = D12 4 from (eD17 4).trans (hD17 1 rfl))).symm))
  have pf17_3_1 : HID (F17 3 1 = (D17 8 : Int)) := (eF17 3 1).trans (pm17_4.trans (congrArg (fun q : Nat => (q : Int)) (eD17 8).symm))
  have pf17_3_2 : HID (F17 3 2 = (D17 9 : Int)) := (eF17 3 2).trans (pm17_5.trans (congrArg (fun q : Nat => (q : Int)) (eD17 9).symm))
  have pf17_3_3 : HID (F17 3 3 = (D17 10 : Int)) := (eF17 3 3).trans (pm17_6.trans (congrArg (fun q : Nat => (q : Int)) (eD17 10).symm))
  have pf17_3_7 : HID (F17 3 7 = (D17 7 : Int)) := ((show F17 3 7 = F12 3 7 from (eF17 3 7).trans (hS17 0 7 rfl))).trans ((pf12_3_7).trans (congrArg (fun q : Nat => (q : Int)) ((show D17 7 = D12 7 from (eD17 7))).symm))
  have pf17_3_8 : HID (F17 3 8 = (D17 6 : Int)) := ((show F17 3 8 = F12 3 8 from (eF17 3 8).trans (hS17 0 8 rfl))).trans ((pf12_3_8).trans (congrArg (fun q : Nat => (q : Int)) ((show D17 6 = D12 6 from (eD17 6).trans (hD17 3 rfl))).symm))
  have pf17_4_0 : HID (F17 4 0 = (D17 5 : Int)) := ((show F17 4 0 = F12 4 0 from (eF17 4 0).trans (hS17 1 0 rfl))).trans ((pf12_4_0).trans (congrArg (fun q : Nat => (q : Int)) ((show D17 5 = D12 5 from (eD17 5).trans (hD17 2 rfl))).symm))
  have r18 : (0 : Int) ≤ m17_4 ∧ m17_4 ≤ 1000000 := by have h1 := H.nle 8 (by decide); have h2 : (N17 8 : Int) = m17_4 := (congrArg (fun q : Nat => (q : Int)) (eN17 8)).trans em17_4; omega
  have r19 : (0 : Int) ≤ m17_5 ∧ m17_5 ≤ 1000000 := by have h1 := H.nle 9 (by decide); have h2 : (N17 9 : Int) = m17_5 := (congrArg (fun q : Nat => (q : Int)) (eN17 9)).trans em17_5; omega
  have r20 : (0 : Int) ≤ m17_6 ∧ m17_6 ≤ 1000000 := by have h1 := H.nle 10 (by decide); have h2 : (N17 10 : Int) = m17_6 := (congrArg (fun q : Nat => (q : Int)) (eN17 10)).trans em17_6; omega
  have r21 : (-2147483648 : Int) ≤ y17_0_4 ∧ y17_0_4 ≤ 2147483647 := by have h1 : (-2147483648 : Int) ≤ F17 3 4 ∧ F17 3 4 ≤ 2147483647 := H.krg 3 4 (by decide); rw [show F17 3 4 = y17_0_4 from ((eF17 3 4).trans ey17_0_4)] at h1; exact h1
  have r22 : (-2147483648 : Int) ≤ y17_0_5 ∧ y17_0_5 ≤ 2147483647 := by have h1 : (-2147483648 : Int) ≤ F17 3 5 ∧ F17 3 5 ≤ 2147483647 := H.krg 3 5 (by decide); rw [show F17 3 5 = y17_0_5 from ((eF17 3 5).trans ey17_0_5)] at h1; exact h1
  refine Ew_of (pc' := 36) (fun _ => x_iload_n rfl (rk_o (rfl) rfl rfl)) ?_
  refine Ew_of (pc' := 38) (fun _ => x_istore rfl) ?_
  refine Ew_of (pc' := 39) (fun _ => x_iconst rfl) ?_
  refine Ew_of (pc' := 41) (fun _ => x_istore rfl) ?_
  have : su (fun j => ((w17_4)) j + ((w17_5)) j) (0 : Int).toNat = 0 := rfl
  have hfd : FDI ((w17_4)) ((w17_5)) ((w17_6)) ((y17_0_4)) ((u4_1) - (a2) - (y17_0_5)) ((u3_10)) := pz17_3
  suffices hl41 : ∀ (m : Nat), ∀ (ls : rO) (σ : rS) (D_41 N_41 : Nat → Nat) (c_41 s_41 : Nat) (F_41 : hF) (A_41 : hA) (x41_4 : Int) (x41_5 : Int), rlook ls 0 = some (.ref (D_41 0)) → rlook ls 1 = some (.ref (D_41 1)) → rlook ls 4 = some (I (x41_4)) → rlook ls 5 = some (I (x41_5)) → HW V215_thispackeda σ D_41 N_41 F_41 A_41 → OUT (V215_thispackeda).length D N σE c s D_41 N_41 σ c_41 s_41 → SD [2] D17 D_41 → SD [2] N17 N_41 → SF [(1, 0), (1, 1), (1, 2)] F17 F_41 → SA [2] A17 A_41 → F_41 1 0 = (D_41 2 : Int) → ∀ m41_2 : Int, (N_41 2 : Int) = m41_2 → ∀ y41_1_1 : Int, F_41 1 1 = y41_1_1 → (inr (x41_4)) → (inr (x41_5)) → ((0) ≤ (x41_5)) → ((x41_5) ≤ (0) ∨ (x41_5) ≤ ((y17_0_4))) → (0 ≤ (y41_1_1) ∧ (y41_1_1) ≤ (m41_2) ∧ (m41_2) ≤ 65536) → ((x41_4) = (a2) + su (fun j => ((w17_4)) j + ((w17_5)) j) ((x41_5) : Int).toNat) → (((y17_0_4)) - (x41_5)).toNat = m → Ew 215 (d + 5) 41 ls [] σ c_41 s_41 Q from
    hl41 _ _ _ _ _ _ _ _ _ (a2) (0) ((rk_o (rk_o (rk_o (rfl) rfl rfl) rfl rfl) rfl rfl).trans (congrArg (fun q : Nat => some (Value.ref q)) ((((show D17 0 = D12 0 from (eD17 0))).trans ((show D12 0 = D 0 from (eD12 0))))).symm)) ((rk_o (rk_o (rk_o (rfl) rfl rfl) rfl rfl) rfl rfl).trans (congrArg (fun q : Nat => some (Value.ref q)) ((((show D17 1 = D12 1 from (eD17 1))).trans ((show D12 1 = D 1 from (eD12 1))))).symm)) (rk_o (rk_s) rfl rfl) (rk_s) H O (SD_refl) (SD_refl) (SF_refl) (SA_refl) (pf17_1_0) (n2) ((congrArg (fun q : Nat => (q : Int)) (show N17 2 = N12 2 from (eN17 2))).trans ((congrArg (fun q : Nat => (q : Int)) (show N12 2 = N 2 from (eN12 2))).trans (en2))) (u1_1) (((((show F17 1 1 = F12 1 1 from (eF17 1 1))).trans ((show F12 1 1 = F 1 1 from (eF12 1 1)))).trans (eu1_1)))  (show inr (a2) by omega) (show inr (0) by omega) (show (0) ≤ (0) by omega) (show (0) ≤ (0) ∨ (0) ≤ ((y17_0_4)) by omega) (show 0 ≤ (u1_1) ∧ (u1_1) ≤ (n2) ∧ (n2) ≤ 65536 by omega) (show (a2) = (a2) + su (fun j => ((w17_4)) j + ((w17_5)) j) ((0) : Int).toNat by omega) rfl
  as_aux_lemma =>
  intro m
  induction m using Nat.strongRecOn with
  | _ m ih41 =>
    intro ls σ D_41 N_41 c_41 s_41 F_41 A_41 x41_4 x41_5 l41_0 l41_1 l41_4 l41_5 H O hD_41 hN_41 hS_41 hA_41 pm41_2 m41_2 em41_2 y41_1_1 ey41_1_1  j41_0 j41_1 j41_2 j41_3 j41_4 j41_5 hm41
    replace pm41_2 := HIDm pm41_2
    replace em41_2 := HIDm em41_2
    replace ey41_1_1 := HIDm ey41_1_1
    have pf_41_0_2 : HID (F_41 0 2 = (D_41 3 : Int)) := (hS_41 0 2 rfl).trans ((pf17_0_2).trans (congrArg (fun q : Nat => (q : Int)) (hD_41 3 rfl).symm))
    have pf_41_0_3 : HID (F_41 0 3 = (D_41 1 : Int)) := (hS_41 0 3 rfl).trans ((pf17_0_3).trans (congrArg (fun q : Nat => (q : Int)) (hD_41 1 rfl).symm))
    have pf_41_3_0 : HID (F_41 3 0 = (D_41 4 : Int)) := (hS_41 3 0 rfl).trans ((pf17_3_0).trans (congrArg (fun q : Nat => (q : Int)) (hD_41 4 rfl).symm))
    have pf_41_3_1 : HID (F_41 3 1 = (D_41 8 : Int)) := (hS_41 3 1 rfl).trans ((pf17_3_1).trans (congrArg (fun q : Nat => (q : Int)) (hD_41 8 rfl).symm))
    have pf_41_3_2 : HID (F_41 3 2 = (D_41 9 : Int)) := (hS_41 3 2 rfl).trans ((pf17_3_2).trans (congrArg (fun q : Nat => (q : Int)) (hD_41 9 rfl).symm))
    have pf_41_3_3 : HID (F_41 3 3 = (D_41 10 : Int)) := (hS_41 3 3 rfl).trans ((pf17_3_3).trans (congrArg (fun q : Nat => (q : Int)) (hD_41 10 rfl).symm))
    have pf_41_3_7 : HID (F_41 3 7 = (D_41 7 : Int)) := (hS_41 3 7 rfl).trans ((pf17_3_7).trans (congrArg (fun q : Nat => (q : Int)) (hD_41 7 rfl).symm))
    have pf_41_3_8 : HID (F_41 3 8 = (D_41 6 : Int)) := (hS_41 3 8 rfl).trans ((pf17_3_8).trans (congrArg (fun q : Nat => (q : Int)) (hD_41 6 rfl).symm))
    have pf_41_4_0 : HID (F_41 4 0 = (D_41 5 : Int)) := (hS_41 4 0 rfl).trans ((pf17_4_0).trans (congrArg (fun q : Nat => (q : Int)) (hD_41 5 rfl).symm))
    have r23 : (0 : Int) ≤ m41_2 ∧ m41_2 ≤ 1000000 := by have h1 := H.nle 2 (by decide); have h2 : (N_41 2 : Int) = m41_2 := em41_2; omega
    have r24 : (-2147483648 : Int) ≤ y41_1_1 ∧ y41_1_1 ≤ 2147483647 := by have h1 : (-2147483648 : Int) ≤ F_41 1 1 ∧ F_41 1 1 ≤ 2147483647 := H.krg 1 1 (by decide); rw [show F_41 1 1 = y41_1_1 from (ey41_1_1)] at h1; exact h1
    refine Ew_of (pc' := 43) (fun _ => x_iload rfl l41_5) ?_
    refine Ew_of (pc' := 44) (fun _ => x_aload_n rfl l41_0) ?_
    refine v_g H (o := 0) (v := .ref (D_41 3)) rfl rfl rfl rfl rfl (vrf (pf_41_0_2)) ?_
    refine v_g H (o := 3) (v := I (y17_0_4)) rfl rfl rfl rfl rfl (congrArg (fun z : Int => I z) (((hS_41 3 4 rfl).trans ((eF17 3 4).trans ey17_0_4)) : F_41 3 4 = y17_0_4)) ?_
    refine w_icmpge (t := 136) rfl rfl (show inr (x41_5) by omega) (show inr (y17_0_4) by omega) (fun b25 => ?_) (fun b25 => ?_)
    · have hle : (x41_5) = (y17_0_4) := by omega
      have hst : su (fun j => ((w17_4)) j + ((w17_5)) j) ((x41_5) : Int).toNat = (u4_1) - (a2) - (y17_0_5) := by rw [hle]; exact hfd.2
      refine Ew_of (pc' := 137) (fun _ => x_aload_n rfl l41_0) ?_
      refine Ew_of (pc' := 138) (fun _ => x_aload_n rfl l41_1) ?_
      refine Ew_of (pc' := 140) (fun _ => x_iload rfl l41_4) ?_
      refine Ew_of (pc' := 141) (fun _ => x_aload_n rfl l41_0) ?_
      refine v_g H (o := 0) (v := .ref (D_41 3)) rfl rfl rfl rfl rfl (vrf (pf_41_0_2)) ?_
      refine v_g H (o := 3) (v := I (y17_0_5)) rfl rfl rfl rfl rfl (congrArg (fun z : Int => I z) (((hS_41 3 5 rfl).trans ((eF17 3 5).trans ey17_0_5)) : F_41 3 5 = y17_0_5)) ?_
      refine Ew_of (pc' := 148) (fun _ => x_iconst rfl) ?_
      refine v_inv H (o := 0) rfl rfl rfl rfl rfl rfl (by rfl) (C216_thispackeda (D := pul [0, 1, 2, 3, 4, 5] D_41) (N := pul [0, 1, 2, 3, 4, 5] N_41) (HW_sub H (VS_of (show vsub V215_thispackeda V216_thispackeda [0, 1, 2, 3, 4, 5] = true by decide +kernel))) (pf_41_0_3) (pm41_2) (pf_41_0_2) (pf_41_3_0) (pf_41_4_0) (m41_2) (em41_2) (n5) ((congrArg (fun q : Nat => (q : Int)) (hN_41 5 rfl)).trans ((congrArg (fun q : Nat => (q : Int)) (show N17 5 = N12 5 from (eN17 5).trans (hN17 2 rfl))).trans ((congrArg (fun q : Nat => (q : Int)) (show N12 5 = N 5 from (eN12 5).trans (hN12 2 rfl))).trans (en5)))) (y41_1_1) ((ey41_1_1)) (u4_1) (((((hS_41 4 1 rfl).trans ((show F17 4 1 = F12 4 1 from (eF17 4 1).trans (hS17 1 1 rfl)))).trans ((show F12 4 1 = F 4 1 from (eF12 4 1).trans (hS12 1 1 rfl)))).trans (eu4_1))) (show inr (x41_4) by omega) (show inr (y17_0_5) by omega) (show inr (0) by omega) (show 0 ≤ (y41_1_1) ∧ (y41_1_1) ≤ (m41_2) ∧ (m41_2) ≤ 65536 by omega) (show 0 ≤ (u4_1) ∧ (u4_1) ≤ (n5) ∧ (n5) ≤ 65536 by omega) (show 0 ≤ (x41_4) ∧ 0 ≤ (y17_0_5) ∧ (x41_4) + (y17_0_5) ≤ (n5) by omega) (show 0 ≤ (0) by omega) (fun σ26 D26' N26' F26' A26' c26 s26 H' O' hD26 hN26 hS26 hA26 pm26_2 m26_2 em26_2 y26_1_1 ey26_1_1 pz26_0 => ⟨rfl, ?_⟩))
      replace pm26_2 := HIDm pm26_2
      replace em26_2 := HIDm em26_2
      replace ey26_1_1 := HIDm ey26_1_1
      refine v_backM (c := c_41) (s := s_41) H (show vsub V215_thispackeda V216_thispackeda [0, 1, 2, 3, 4, 5] = true by decide +kernel) H' O' hD26 (show vmov V215_thispackeda [0, 1, 2, 3, 4, 5] [2] = true by decide +kernel) (fun D26 N26 F26 A26 H O' eD26 eN26 eF26 eA26 => ?_)
      have O := OUT_trans O O'
      -- Tokens.packLiterals
      have pf26_0_2 : HID (F26 0 2 = (D26 3 : Int)) := ((show F26 0 2 = F_41 0 2 from (eF26 0 2).trans (hS26 0 2 rfl))).trans ((pf_41_0_2).trans (congrArg (fun q : Nat => (q : Int)) ((show D26 3 = D_41 3 from (eD26 3).trans (hD26 3 rfl))).symm))
      have pf26_0_3 : HID (F26 0 3 = (D26 1 : Int)) := ((show F26 0 3 = F_41 0 3 from (eF26 0 3).trans (hS26 0 3 rfl))).trans ((pf_41_0_3).trans (congrArg (fun q : Nat => (q : Int)) ((show D26 1 = D_41 1 from (eD26 1).trans (hD26 1 rfl))).symm))
      have pf26_1_0 : HID (F26 1 0 = (D26 2 : Int)) := (eF26 1 0).trans (pm26_2.trans (congrArg (fun q : Nat => (q : Int)) (eD26 2).symm))
      have pf26_3_0 : HID (F26 3 0 = (D26 4 : Int)) := ((show F26 3 0 = F_41 3 0 from (eF26 3 0).trans (hS26 3 0 rfl))).trans ((pf_41_3_0).trans (congrArg (fun q : Nat => (q : Int)) ((show D26 4 = D_41 4 from (eD26 4).trans (hD26 4 rfl))).symm))
      have pf26_3_1 : HID (F26 3 1 = (D26 8 : Int)) := ((show F26 3 1 = F_41 3 1 from (eF26 3 1).trans (hS26 3 1 rfl))).trans ((pf_41_3_1).trans (congrArg (fun q : Nat => (q : Int)) ((show D26 8 = D_41 8 from (eD26 8))).symm))
      have pf26_3_2 : HID (F26 3 2 = (D26 9 : Int)) := ((show F26 3 2 = F_41 3 2 from (eF26 3 2).trans (hS26 3 2 rfl))).trans ((pf_41_3_2).trans (congrArg (fun q : Nat => (q : Int)) ((show D26 9 = D_41 9 from (eD26 9))).symm))
      have pf26_3_3 : HID (F26 3 3 = (D26 10 : Int)) := ((show F26 3 3 = F_41 3 3 from (eF26 3 3).trans (hS26 3 3 rfl))).trans ((pf_41_3_3).trans (congrArg (fun q : Nat => (q : Int)) ((show D26 10 = D_41 10 from (eD26 10))).symm))
      have pf26_3_7 : HID (F26 3 7 = (D26 7 : Int)) := ((show F26 3 7 = F_41 3 7 from (eF26 3 7).trans (hS26 3 7 rfl))).trans ((pf_41_3_7).trans (congrArg (fun q : Nat => (q : Int)) ((show D26 7 = D_41 7 from (eD26 7))).symm))
      have pf26_3_8 : HID (F26 3 8 = (D26 6 : Int)) := ((show F26 3 8 = F_41 3 8 from (eF26 3 8).trans (hS26 3 8 rfl))).trans ((pf_41_3_8).trans (congrArg (fun q : Nat => (q : Int)) ((show D26 6 = D_41 6 from (eD26 6))).symm))
      have pf26_4_0 : HID (F26 4 0 = (D26 5 : Int)) := ((show F26 4 0 = F_41 4 0 from (eF26 4 0).trans (hS26 4 0 rfl))).trans ((pf_41_4_0).trans (congrArg (fun q : Nat => (q : Int)) ((show D26 5 = D_41 5 from (eD26 5).trans (hD26 5 rfl))).symm))
      have r27 : (0 : Int) ≤ m26_2 ∧ m26_2 ≤ 1000000 := by have h1 := H.nle 2 (by decide); have h2 : (N26 2 : Int) = m26_2 := (congrArg (fun q : Nat => (q : Int)) (eN26 2)).trans em26_2; omega
      have r28 : (-2147483648 : Int) ≤ y26_1_1 ∧ y26_1_1 ≤ 2147483647 := by have h1 : (-2147483648 : Int) ≤ F26 1 1 ∧ F26 1 1 ≤ 2147483647 := H.krg 1 1 (by decide); rw [show F26 1 1 = y26_1_1 from ((eF26 1 1).trans ey26_1_1)] at h1; exact h1
      exact w_ret rfl (k _ _ _ _ _ _ _ H O (SD_trans (SD_trans (SD_trans (SD_trans (SD_refl) (SD_glu (ι := [3, 4, 5, 6, 7]) hD12 eD12 (by decide +kernel)) (any_subA (l' := [6]) rfl)) (SD_glu (ι := [3, 4, 5, 6, 8, 9, 10]) hD17 eD17 (by decide +kernel)) (any_subA (l' := [8, 9, 10]) rfl)) hD_41 (any_subA rfl)) (SD_glu (ι := [0, 1, 2, 3, 4, 5]) hD26 eD26 (by decide +kernel)) (any_subA (l' := [2]) rfl)) (SD_trans (SD_trans (SD_trans (SD_trans (SD_refl) (SD_glu (ι := [3, 4, 5, 6, 7]) hN12 eN12 (by decide +kernel)) (any_subA (l' := [6]) rfl)) (SD_glu (ι := [3, 4, 5, 6, 8, 9, 10]) hN17 eN17 (by decide +kernel)) (any_subA (l' := [8, 9, 10]) rfl)) hN_41 (any_subA rfl)) (SD_glu (ι := [0, 1, 2, 3, 4, 5]) hN26 eN26 (by decide +kernel)) (any_subA (l' := [2]) rfl)) (SF_trans (SF_trans (SF_trans (SF_trans (SF_refl) (SF_glu (ι := [3, 4, 5, 6, 7]) hS12 eF12 (by decide +kernel)) (any_sub (l' := [(3, 6), (3, 8)]) rfl)) (SF_glu (ι := [3, 4, 5, 6, 8, 9, 10]) hS17 eF17 (by decide +kernel)) (any_sub (l' := [(3, 1), (3, 2), (3, 3), (3, 4), (3, 5), (3, 12), (3, 13), (3, 14), (3, 15), (3, 16), (3, 17), (3, 18)]) rfl)) hS_41 (any_sub rfl)) (SF_glu (ι := [0, 1, 2, 3, 4, 5]) hS26 eF26 (by decide +kernel)) (any_sub (l' := [(1, 0), (1, 1), (1, 2)]) rfl)) (SA_trans (SA_trans (SA_trans (SA_trans (SA_refl) (SA_glu (ι := [3, 4, 5, 6, 7]) hA12 eA12 (by decide +kernel)) (any_subA (l' := [6, 7]) rfl)) (SA_glu (ι := [3, 4, 5, 6, 8, 9, 10]) hA17 eA17 (by decide +kernel)) (any_subA (l' := [8, 9, 10]) rfl)) hA_41 (any_subA rfl)) (SA_glu (ι := [0, 1, 2, 3, 4, 5]) hA26 eA26 (by decide +kernel)) (any_subA (l' := [2]) rfl)) (pf26_1_0) (pf26_3_8) (pf26_3_1) (pf26_3_2) (pf26_3_3) (m26_2) ((congrArg (fun q : Nat => (q : Int)) (eN26 2)).trans em26_2) (m12_3) ((congrArg (fun q : Nat => (q : Int)) (show N26 6 = N_41 6 from (eN26 6))).trans ((congrArg (fun q : Nat => (q : Int)) (hN_41 6 rfl)).trans ((congrArg (fun q : Nat => (q : Int)) (show N17 6 = N12 6 from (eN17 6).trans (hN17 3 rfl))).trans ((congrArg (fun q : Nat => (q : Int)) (eN12 6)).trans em12_3)))) (m17_4) ((congrArg (fun q : Nat => (q : Int)) (show N26 8 = N_41 8 from (eN26 8))).trans ((congrArg (fun q : Nat => (q : Int)) (hN_41 8 rfl)).trans ((congrArg (fun q : Nat => (q : Int)) (eN17 8)).trans em17_4))) (m17_5) ((congrArg (fun q : Nat => (q : Int)) (show N26 9 = N_41 9 from (eN26 9))).trans ((congrArg (fun q : Nat => (q : Int)) (hN_41 9 rfl)).trans ((congrArg (fun q : Nat => (q : Int)) (eN17 9)).trans em17_5))) (m17_6) ((congrArg (fun q : Nat => (q : Int)) (show N26 10 = N_41 10 from (eN26 10))).trans ((congrArg (fun q : Nat => (q : Int)) (hN_41 10 rfl)).trans ((congrArg (fun q : Nat => (q : Int)) (eN17 10)).trans em17_6))) (y26_1_1) (((eF26 1 1).trans ey26_1_1)) (y12_0_6) ((((((show F26 3 6 = F_41 3 6 from (eF26 3 6).trans (hS26 3 6 rfl))).trans (hS_41 3 6 rfl)).trans ((show F17 3 6 = F12 3 6 from (eF17 3 6).trans (hS17 0 6 rfl)))).trans ((eF12 3 6).trans ey12_0_6))) (w12_3) (((show A26 6 = A_41 6 from (eA26 6))).trans ((funext (hA_41 6 rfl)).trans (((show A17 6 = A12 6 from (eA17 6).trans (funext (hA17 3 rfl)))).trans ((eA12 6).trans ew12_3)))) (w12_4) (((show A26 7 = A_41 7 from (eA26 7))).trans ((funext (hA_41 7 rfl)).trans (((show A17 7 = A12 7 from (eA17 7))).trans ((eA12 7).trans ew12_4)))) (show 0 ≤ (y26_1_1) ∧ (y26_1_1) ≤ (m26_2) ∧ (m26_2) ≤ 65536 by omega) (show 0 ≤ (y12_0_6) ∧ (u3_6) ≤ (y12_0_6) ∧ (y12_0_6) ≤ (m12_3) ∧ (m12_3) ≤ 16384 by omega) (show (m17_4) = (m17_5) ∧ (m17_6) = (m17_5) ∧ (m17_5) ≤ 65536 ∧ ((m17_5) = 0 ∨ 64 ≤ (m17_5)) ∧ lgq ((m17_5)) = 0 by omega) (show BKI ((w5)) ((w12_3)) ((u3_10)) ((y12_0_6)) by assumption) (show HDI ((w5)) ((w12_4)) ((u3_10)) ((y12_0_6)) by assumption) (show (y12_0_6) = (u3_6) ∨ (y12_0_6) + 4 ≤ (u4_1) + 1 by omega))
    · have hfp := FDI_part (i := (x41_5)) hfd (by omega) (by omega) (by omega)
      have hfj := hfd.1 ((x41_5)) (by omega) (by omega)
      refine Ew_of (pc' := 54) (fun _ => x_aload_n rfl l41_0) ?_
      refine v_g H (o := 0) (v := .ref (D_41 3)) rfl rfl rfl rfl rfl (vrf (pf_41_0_2)) ?_
      refine v_g H (o := 3) (v := .ref (D_41 8)) rfl rfl rfl rfl rfl (vrf (pf_41_3_1)) ?_
      refine Ew_of (pc' := 62) (fun _ => x_iload rfl l41_5) ?_
      refine v_lI H (o := 8) rfl rfl rfl rfl (n := m17_4) ((congrArg (fun q : Nat => (q : Int)) (hN_41 8 rfl)).trans ((congrArg (fun q : Nat => (q : Int)) (eN17 8)).trans em17_4)) (show 0 ≤ x41_5 ∧ x41_5 < m17_4 by omega) (fun v29 ev29 qv29 => ?_)
      have ev29 : (w17_4) (x41_5) = v29 := (congrFun ((funext (hA_41 8 rfl)).trans ((eA17 8).trans ew17_4)) (x41_5)).symm.trans ev29
      refine Ew_of (pc' := 65) (fun _ => x_istore rfl) ?_
      have hl6 := ev29
      refine Ew_of (pc' := 66) (fun _ => x_aload_n rfl (rk_o (l41_0) rfl rfl)) ?_
      refine v_g H (o := 0) (v := .ref (D_41 3)) rfl rfl rfl rfl rfl (vrf (pf_41_0_2)) ?_
      refine v_g H (o := 3) (v := .ref (D_41 9)) rfl rfl rfl rfl rfl (vrf (pf_41_3_2)) ?_
      refine Ew_of (pc' := 74) (fun _ => x_iload rfl (rk_o (l41_5) rfl rfl)) ?_
      refine v_lI H (o := 9) rfl rfl rfl rfl (n := m17_5) ((congrArg (fun q : Nat => (q : Int)) (hN_41 9 rfl)).trans ((congrArg (fun q : Nat => (q : Int)) (eN17 9)).trans em17_5)) (show 0 ≤ x41_5 ∧ x41_5 < m17_5 by omega) (fun v30 ev30 qv30 => ?_)
      have ev30 : (w17_5) (x41_5) = v30 := (congrFun ((funext (hA_41 9 rfl)).trans ((eA17 9).trans ew17_5)) (x41_5)).symm.trans ev30
      refine Ew_of (pc' := 76) (fun _ => x_iconst rfl) ?_
      refine w_isub rfl ?_
      refine Ew_of (pc' := 79) (fun _ => x_istore rfl) ?_
      refine Ew_of (pc' := 80) (fun _ => x_aload_n rfl (rk_o (rk_o (l41_0) rfl rfl) rfl rfl)) ?_
      refine Ew_of (pc' := 81) (fun _ => x_aload_n rfl (rk_o (rk_o (l41_1) rfl rfl) rfl rfl)) ?_
      refine Ew_of (pc' := 83) (fun _ => x_iload rfl (rk_o (rk_o (l41_4) rfl rfl) rfl rfl)) ?_
      refine Ew_of (pc' := 85) (fun _ => x_iload rfl (rk_o (rk_s) rfl rfl)) ?_
      refine Ew_of (pc' := 87) (fun _ => x_iload rfl rk_s) ?_
      refine v_inv H (o := 0) rfl rfl rfl rfl rfl rfl (by rfl) (C216_thispackeda (D := pul [0, 1, 2, 3, 4, 5] D_41) (N := pul [0, 1, 2, 3, 4, 5] N_41) (HW_sub H (VS_of (show vsub V215_thispackeda V216_thispackeda [0, 1, 2, 3, 4, 5] = true by decide +kernel))) (pf_41_0_3) (pm41_2) (pf_41_0_2) (pf_41_3_0) (pf_41_4_0) (m41_2) (em41_2) (n5) ((congrArg (fun q : Nat => (q : Int)) (hN_41 5 rfl)).trans ((congrArg (fun q : Nat => (q : Int)) (show N17 5 = N12 5 from (eN17 5).trans (hN17 2 rfl))).trans ((congrArg (fun q : Nat => (q : Int)) (show N12 5 = N 5 from (eN12 5).trans (hN12 2 rfl))).trans (en5)))) (y41_1_1) ((ey41_1_1)) (u4_1) (((((hS_41 4 1 rfl).trans ((show F17 4 1 = F12 4 1 from (eF17 4 1).trans (hS17 1 1 rfl)))).trans ((show F12 4 1 = F 4 1 from (eF12 4 1).trans (hS12 1 1 rfl)))).trans (eu4_1))) (show inr (x41_4) by omega) (show inr (v29) by omega) (show inr ((v30 - 4)) by omega) (show 0 ≤ (y41_1_1) ∧ (y41_1_1) ≤ (m41_2) ∧ (m41_2) ≤ 65536 by omega) (show 0 ≤ (u4_1) ∧ (u4_1) ≤ (n5) ∧ (n5) ≤ 65536 by omega) (show 0 ≤ (x41_4) ∧ 0 ≤ (v29) ∧ (x41_4) + (v29) ≤ (n5) by omega) (show 0 ≤ ((v30 - 4)) by omega) (fun σ31 D31' N31' F31' A31' c31 s31 H' O' hD31 hN31 hS31 hA31 pm31_2 m31_2 em31_2 y31_1_1 ey31_1_1 pz31_0 => ⟨rfl, ?_⟩))
      replace pm31_2 := HIDm pm31_2
      replace em31_2 := HIDm em31_2
      replace ey31_1_1 := HIDm ey31_1_1
      refine v_backM (c := c_41) (s := s_41) H (show vsub V215_thispackeda V216_thispackeda [0, 1, 2, 3, 4, 5] = true by decide +kernel) H' O' hD31 (show vmov V215_thispackeda [0, 1, 2, 3, 4, 5] [2] = true by decide +kernel) (fun D31 N31 F31 A31 H O' eD31 eN31 eF31 eA31 => ?_)
      have O := OUT_trans O O'
      -- Tokens.packLiterals
      have pf31_0_2 : HID (F31 0 2 = (D31 3 : Int)) := ((show F31 0 2 = F_41 0 2 from (eF31 0 2).trans (hS31 0 2 rfl))).trans ((pf_41_0_2).trans (congrArg (fun q : Nat => (q : Int)) ((show D31 3 = D_41 3 from (eD31 3).trans (hD31 3 rfl))).symm))
      have pf31_0_3 : HID (F31 0 3 = (D31 1 : Int)) := ((show F31 0 3 = F_41 0 3 from (eF31 0 3).trans (hS31 0 3 rfl))).trans ((pf_41_0_3).trans (congrArg (fun q : Nat => (q : Int)) ((show D31 1 = D_41 1 from (eD31 1).trans (hD31 1 rfl))).symm))
      have pf31_1_0 : HID (F31 1 0 = (D31 2 : Int)) := (eF31 1 0).trans (pm31_2.trans (congrArg (fun q : Nat => (q : Int)) (eD31 2).symm))
      have pf31_3_0 : HID (F31 3 0 = (D31 4 : Int)) := ((show F31 3 0 = F_41 3 0 from (eF31 3 0).trans (hS31 3 0 rfl))).trans ((pf_41_3_0).trans (congrArg (fun q : Nat => (q : Int)) ((show D31 4 = D_41 4 from (eD31 4).trans (hD31 4 rfl))).symm))
      have pf31_3_1 : HID (F31 3 1 = (D31 8 : Int)) := ((show F31 3 1 = F_41 3 1 from (eF31 3 1).trans (hS31 3 1 rfl))).trans ((pf_41_3_1).trans (congrArg (fun q : Nat => (q : Int)) ((show D31 8 = D_41 8 from (eD31 8))).symm))
      have pf31_3_2 : HID (F31 3 2 = (D31 9 : Int)) := ((show F31 3 2 = F_41 3 2 from (eF31 3 2).trans (hS31 3 2 rfl))).trans ((pf_41_3_2).trans (congrArg (fun q : Nat => (q : Int)) ((show D31 9 = D_41 9 from (eD31 9))).symm))
      have pf31_3_3 : HID (F31 3 3 = (D31 10 : Int)) := ((show F31 3 3 = F_41 3 3 from (eF31 3 3).trans (hS31 3 3 rfl))).trans ((pf_41_3_3).trans (congrArg (fun q : Nat => (q : Int)) ((show D31 10 = D_41 10 from (eD31 10))).symm))
      have pf31_3_7 : HID (F31 3 7 = (D31 7 : Int)) := ((show F31 3 7 = F_41 3 7 from (eF31 3 7).trans (hS31 3 7 rfl))).trans ((pf_41_3_7).trans (congrArg (fun q : Nat => (q : Int)) ((show D31 7 = D_41 7 from (eD31 7))).symm))
      have pf31_3_8 : HID (F31 3 8 = (D31 6 : Int)) := ((show F31 3 8 = F_41 3 8 from (eF31 3 8).trans (hS31 3 8 rfl))).trans ((pf_41_3_8).trans (congrArg (fun q : Nat => (q : Int)) ((show D31 6 = D_41 6 from (eD31 6))).symm))
      have pf31_4_0 : HID (F31 4 0 = (D31 5 : Int)) := ((show F31 4 0 = F_41 4 0 from (eF31 4 0).trans (hS31 4 0 rfl))).trans ((pf_41_4_0).trans (congrArg (fun q : Nat => (q : Int)) ((show D31 5 = D_41 5 from (eD31 5).trans (hD31 5 rfl))).symm))
      have r32 : (0 : Int) ≤ m31_2 ∧ m31_2 ≤ 1000000 := by have h1 := H.nle 2 (by decide); have h2 : (N31 2 : Int) = m31_2 := (congrArg (fun q : Nat => (q : Int)) (eN31 2)).trans em31_2; omega
      have r33 : (-2147483648 : Int) ≤ y31_1_1 ∧ y31_1_1 ≤ 2147483647 := by have h1 : (-2147483648 : Int) ≤ F31 1 1 ∧ F31 1 1 ≤ 2147483647 := H.krg 1 1 (by decide); rw [show F31 1 1 = y31_1_1 from ((eF31 1 1).trans ey31_1_1)] at h1; exact h1
      refine Ew_of (pc' := 91) (fun _ => x_aload_n rfl (rk_o (rk_o (l41_1) rfl rfl) rfl rfl)) ?_
      refine Ew_of (pc' := 92) (fun _ => x_aload_n rfl (rk_o (rk_o (l41_0) rfl rfl) rfl rfl)) ?_
      refine Ew_stk (show ([.ref (D_41 0), .ref (D_41 1)] : List Value) = [.ref (D31 0), .ref (D31 1)] by rw [show D31 0 = D_41 0 from ((show D31 0 = D_41 0 from (eD31 0).trans (hD31 0 rfl))), show D31 1 = D_41 1 from ((show D31 1 = D_41 1 from (eD31 1).trans (hD31 1 rfl)))]) ?_
      refine v_g H (o := 0) (v := .ref (D31 3)) rfl rfl rfl rfl rfl (vrf (pf31_0_2)) ?_
      refine v_g H (o := 3) (v := .ref (D31 10)) rfl rfl rfl rfl rfl (vrf (pf31_3_3)) ?_
      refine Ew_of (pc' := 100) (fun _ => x_iload rfl (rk_o (rk_o (l41_5) rfl rfl) rfl rfl)) ?_
      refine v_lI H (o := 10) rfl rfl rfl rfl (n := m17_6) ((congrArg (fun q : Nat => (q : Int)) (show N31 10 = N_41 10 from (eN31 10))).trans ((congrArg (fun q : Nat => (q : Int)) (hN_41 10 rfl)).trans ((congrArg (fun q : Nat => (q : Int)) (eN17 10)).trans em17_6))) (show 0 ≤ x41_5 ∧ x41_5 < m17_6 by omega) (fun v34 ev34 qv34 => ?_)
      have ev34 : (w17_6) (x41_5) = v34 := (congrFun (((show A31 10 = A_41 10 from (eA31 10))).trans ((funext (hA_41 10 rfl)).trans ((eA17 10).trans ew17_6))) (x41_5)).symm.trans ev34
      refine w_i2l rfl (show inr (v34) by omega) ?_
      refine Ew_of (pc' := 103) (fun _ => x_iconst rfl) ?_
      refine v_inv H (o := 1) rfl rfl rfl rfl rfl rfl (by rfl) (C160 (D := pul [1, 2] D31) (N := pul [1, 2] N31) (HW_sub H (VS_of (show vsub V215_thispackeda V160 [1, 2] = true by decide +kernel))) (pf31_1_0) (m31_2) ((congrArg (fun q : Nat => (q : Int)) (eN31 2)).trans em31_2) (y31_1_1) (((eF31 1 1).trans ey31_1_1)) (show inrJ (v34) by omega) (show inr (2) by omega) (show 0 ≤ (y31_1_1) ∧ (y31_1_1) ≤ (m31_2) ∧ (m31_2) ≤ 65536 by omega) (fun σ35 D35' N35' F35' A35' c35 s35 H' O' hD35 hN35 hS35 hA35 pm35_1 m35_1 em35_1 y35_0_1 ey35_0_1 pz35_0 pz35_1 => ⟨rfl, ?_⟩))
      replace pm35_1 := HIDm pm35_1
      replace em35_1 := HIDm em35_1
      replace ey35_0_1 := HIDm ey35_0_1
      refine v_backM (c := (c_41 + c31)) (s := (s_41 + s31)) H (show vsub V215_thispackeda V160 [1, 2] = true by decide +kernel) H' O' hD35 (show vmov V215_thispackeda [1, 2] [1] = true by decide +kernel) (fun D35 N35 F35 A35 H O' eD35 eN35 eF35 eA35 => ?_)
      have O := OUT_trans O O'
      -- Row.addNumber
      have pf35_0_2 : HID (F35 0 2 = (D35 3 : Int)) := ((show F35 0 2 = F31 0 2 from (eF35 0 2))).trans ((pf31_0_2).trans (congrArg (fun q : Nat => (q : Int)) ((show D35 3 = D31 3 from (eD35 3))).symm))
      have pf35_0_3 : HID (F35 0 3 = (D35 1 : Int)) := ((show F35 0 3 = F31 0 3 from (eF35 0 3))).trans ((pf31_0_3).trans (congrArg (fun q : Nat => (q : Int)) ((show D35 1 = D31 1 from (eD35 1).trans (hD35 0 rfl))).symm))
      have pf35_1_0 : HID (F35 1 0 = (D35 2 : Int)) := (eF35 1 0).trans (pm35_1.trans (congrArg (fun q : Nat => (q : Int)) (eD35 2).symm))
      have pf35_3_0 : HID (F35 3 0 = (D35 4 : Int)) := ((show F35 3 0 = F31 3 0 from (eF35 3 0))).trans ((pf31_3_0).trans (congrArg (fun q : Nat => (q : Int)) ((show D35 4 = D31 4 from (eD35 4))).symm))
      have pf35_3_1 : HID (F35 3 1 = (D35 8 : Int)) := ((show F35 3 1 = F31 3 1 from (eF35 3 1))).trans ((pf31_3_1).trans (congrArg (fun q : Nat => (q : Int)) ((show D35 8 = D31 8 from (eD35 8))).symm))
      have pf35_3_2 : HID (F35 3 2 = (D35 9 : Int)) := ((show F35 3 2 = F31 3 2 from (eF35 3 2))).trans ((pf31_3_2).trans (congrArg (fun q : Nat => (q : Int)) ((show D35 9 = D31 9 from (eD35 9))).symm))
      have pf35_3_3 : HID (F35 3 3 = (D35 10 : Int)) := ((show F35 3 3 = F31 3 3 from (eF35 3 3))).trans ((pf31_3_3).trans (congrArg (fun q : Nat => (q : Int)) ((show D35 10 = D31 10 from (eD35 10))).symm))
      have pf35_3_7 : HID (F35 3 7 = (D35 7 : Int)) := ((show F35 3 7 = F31 3 7 from (eF35 3 7))).trans ((pf31_3_7).trans (congrArg (fun q : Nat => (q : Int)) ((show D35 7 = D31 7 from (eD35 7))).symm))
      have pf35_3_8 : HID (F35 3 8 = (D35 6 : Int)) := ((show F35 3 8 = F31 3 8 from (eF35 3 8))).trans ((pf31_3_8).trans (congrArg (fun q : Nat => (q : Int)) ((show D35 6 = D31 6 from (eD35 6))).symm))
      have pf35_4_0 : HID (F35 4 0 = (D35 5 : Int)) := ((show F35 4 0 = F31 4 0 from (eF35 4 0))).trans ((pf31_4_0).trans (congrArg (fun q : Nat => (q : Int)) ((show D35 5 = D31 5 from (eD35 5))).symm))
      have r36 : (0 : Int) ≤ m35_1 ∧ m35_1 ≤ 1000000 := by have h1 := H.nle 2 (by decide); have h2 : (N35 2 : Int) = m35_1 := (congrArg (fun q : Nat => (q : Int)) (eN35 2)).trans em35_1; omega
      have r37 : (-2147483648 : Int) ≤ y35_0_1 ∧ y35_0_1 ≤ 2147483647 := by have h1 : (-2147483648 : Int) ≤ F35 1 1 ∧ F35 1 1 ≤ 2147483647 := H.krg 1 1 (by decide); rw [show F35 1 1 = y35_0_1 from ((eF35 1 1).trans ey35_0_1)] at h1; exact h1
      refine Ew_of (pc' := 107) (fun _ => x_aload_n rfl (rk_o (rk_o (l41_1) rfl rfl) rfl rfl)) ?_
      refine Ew_of (pc' := 109) (fun _ => x_iload rfl rk_s) ?_
      refine Ew_stk (show ([I ((v30 - 4)), .ref (D_41 1)] : List Value) = [I ((v30 - 4)), .ref (D35 1)] by rw [show D35 1 = D_41 1 from (((show D35 1 = D31 1 from (eD35 1).trans (hD35 0 rfl))).trans ((show D31 1 = D_41 1 from (eD31 1).trans (hD31 1 rfl))))]) ?_
      refine w_stat24 rfl rfl (by rfl) (C217_Row (D := pul [1, 2] D35) (N := pul [1, 2] N35) (HW_sub H (VS_of (show vsub V215_thispackeda V217_Row [1, 2] = true by decide +kernel))) (pf35_1_0) (m35_1) ((congrArg (fun q : Nat => (q : Int)) (eN35 2)).trans em35_1) (y35_0_1) (((eF35 1 1).trans ey35_0_1)) (show inr ((v30 - 4)) by omega) (show 0 ≤ (y35_0_1) ∧ (y35_0_1) ≤ (m35_1) ∧ (m35_1) ≤ 65536 by omega) (show 0 ≤ ((v30 - 4)) by omega) (fun σ38 D38' N38' F38' A38' c38 s38 H' O' hD38 hN38 hS38 hA38 pm38_1 m38_1 em38_1 y38_0_1 ey38_0_1 pz38_0 => ⟨rfl, ?_⟩))
      replace pm38_1 := HIDm pm38_1
      replace em38_1 := HIDm em38_1
      replace ey38_0_1 := HIDm ey38_0_1
      refine v_backM (c := ((c_41 + c31) + c35)) (s := ((s_41 + s31) + s35)) H (show vsub V215_thispackeda V217_Row [1, 2] = true by decide +kernel) H' O' hD38 (show vmov V215_thispackeda [1, 2] [1] = true by decide +kernel) (fun D38 N38 F38 A38 H O' eD38 eN38 eF38 eA38 => ?_)
      have O := OUT_trans O O'
      -- Tokens.packRest
      have pf38_0_2 : HID (F38 0 2 = (D38 3 : Int)) := ((show F38 0 2 = F35 0 2 from (eF38 0 2))).trans ((pf35_0_2).trans (congrArg (fun q : Nat => (q : Int)) ((show D38 3 = D35 3 from (eD38 3))).symm))
      have pf38_0_3 : HID (F38 0 3 = (D38 1 : Int)) := ((show F38 0 3 = F35 0 3 from (eF38 0 3))).trans ((pf35_0_3).trans (congrArg (fun q : Nat => (q : Int)) ((show D38 1 = D35 1 from (eD38 1).trans (hD38 0 rfl))).symm))
      have pf38_1_0 : HID (F38 1 0 = (D38 2 : Int)) := (eF38 1 0).trans (pm38_1.trans (congrArg (fun q : Nat => (q : Int)) (eD38 2).symm))
      have pf38_3_0 : HID (F38 3 0 = (D38 4 : Int)) := ((show F38 3 0 = F35 3 0 from (eF38 3 0))).trans ((pf35_3_0).trans (congrArg (fun q : Nat => (q : Int)) ((show D38 4 = D35 4 from (eD38 4))).symm))
      have pf38_3_1 : HID (F38 3 1 = (D38 8 : Int)) := ((show F38 3 1 = F35 3 1 from (eF38 3 1))).trans ((pf35_3_1).trans (congrArg (fun q : Nat => (q : Int)) ((show D38 8 = D35 8 from (eD38 8))).symm))
      have pf38_3_2 : HID (F38 3 2 = (D38 9 : Int)) := ((show F38 3 2 = F35 3 2 from (eF38 3 2))).trans ((pf35_3_2).trans (congrArg (fun q : Nat => (q : Int)) ((show D38 9 = D35 9 from (eD38 9))).symm))
      have pf38_3_3 : HID (F38 3 3 = (D38 10 : Int)) := ((show F38 3 3 = F35 3 3 from (eF38 3 3))).trans ((pf35_3_3).trans (congrArg (fun q : Nat => (q : Int)) ((show D38 10 = D35 10 from (eD38 10))).symm))
      have pf38_3_7 : HID (F38 3 7 = (D38 7 : Int)) := ((show F38 3 7 = F35 3 7 from (eF38 3 7))).trans ((pf35_3_7).trans (congrArg (fun q : Nat => (q : Int)) ((show D38 7 = D35 7 from (eD38 7))).symm))
      have pf38_3_8 : HID (F38 3 8 = (D38 6 : Int)) := ((show F38 3 8 = F35 3 8 from (eF38 3 8))).trans ((pf35_3_8).trans (congrArg (fun q : Nat => (q : Int)) ((show D38 6 = D35 6 from (eD38 6))).symm))
      have pf38_4_0 : HID (F38 4 0 = (D38 5 : Int)) := ((show F38 4 0 = F35 4 0 from (eF38 4 0))).trans ((pf35_4_0).trans (congrArg (fun q : Nat => (q : Int)) ((show D38 5 = D35 5 from (eD38 5))).symm))
      have r39 : (0 : Int) ≤ m38_1 ∧ m38_1 ≤ 1000000 := by have h1 := H.nle 2 (by decide); have h2 : (N38 2 : Int) = m38_1 := (congrArg (fun q : Nat => (q : Int)) (eN38 2)).trans em38_1; omega
      have r40 : (-2147483648 : Int) ≤ y38_0_1 ∧ y38_0_1 ≤ 2147483647 := by have h1 : (-2147483648 : Int) ≤ F38 1 1 ∧ F38 1 1 ≤ 2147483647 := H.krg 1 1 (by decide); rw [show F38 1 1 = y38_0_1 from ((eF38 1 1).trans ey38_0_1)] at h1; exact h1
      refine Ew_of (pc' := 114) (fun _ => x_iload rfl (rk_o (rk_o (l41_4) rfl rfl) rfl rfl)) ?_
      refine Ew_of (pc' := 116) (fun _ => x_iload rfl (rk_o (rk_s) rfl rfl)) ?_
      refine Ew_of (pc' := 117) (fun _ => x_aload_n rfl (rk_o (rk_o (l41_0) rfl rfl) rfl rfl)) ?_
      refine Ew_stk (show ([.ref (D_41 0), I (v29), I (x41_4)] : List Value) = [.ref (D38 0), I (v29), I (x41_4)] by rw [show D38 0 = D_41 0 from ((((show D38 0 = D35 0 from (eD38 0))).trans ((show D35 0 = D31 0 from (eD35 0)))).trans ((show D31 0 = D_41 0 from (eD31 0).trans (hD31 0 rfl))))]) ?_
      refine v_g H (o := 0) (v := .ref (D38 3)) rfl rfl rfl rfl rfl (vrf (pf38_0_2)) ?_
      refine v_g H (o := 3) (v := .ref (D38 9)) rfl rfl rfl rfl rfl (vrf (pf38_3_2)) ?_
      refine Ew_of (pc' := 125) (fun _ => x_iload rfl (rk_o (rk_o (l41_5) rfl rfl) rfl rfl)) ?_
      refine v_lI H (o := 9) rfl rfl rfl rfl (n := m17_5) ((congrArg (fun q : Nat => (q : Int)) (show N38 9 = N35 9 from (eN38 9))).trans ((congrArg (fun q : Nat => (q : Int)) (show N35 9 = N31 9 from (eN35 9))).trans ((congrArg (fun q : Nat => (q : Int)) (show N31 9 = N_41 9 from (eN31 9))).trans ((congrArg (fun q : Nat => (q : Int)) (hN_41 9 rfl)).trans ((congrArg (fun q : Nat => (q : Int)) (eN17 9)).trans em17_5))))) (show 0 ≤ x41_5 ∧ x41_5 < m17_5 by omega) (fun v41 ev41 qv41 => ?_)
      have ev41 : (w17_5) (x41_5) = v41 := (congrFun (((show A38 9 = A35 9 from (eA38 9))).trans (((show A35 9 = A31 9 from (eA35 9))).trans (((show A31 9 = A_41 9 from (eA31 9))).trans ((funext (hA_41 9 rfl)).trans ((eA17 9).trans ew17_5))))) (x41_5)).symm.trans ev41
      refine w_iadd rfl ?_
      refine w_iadd rfl ?_
      refine Ew_of (pc' := 130) (fun _ => x_istore rfl) ?_
      refine Ew_of (pc' := 133) (fun _ => x_iinc (len := 3) rfl (rk_o (rk_o (rk_o (l41_5) rfl rfl) rfl rfl) rfl rfl)) ?_
      refine Ew_of (pc' := 41) (fun _ => x_goto rfl rfl) ?_
      exact ih41 _ (by omega) _ _ _ _ _ _ _ _ ((x41_4 + (v29 + v41))) ((x41_5 + 1)) ((rk_o (rk_o (rk_o (rk_o (l41_0) rfl rfl) rfl rfl) rfl rfl) rfl rfl).trans (congrArg (fun q : Nat => some (Value.ref q)) (((((show D38 0 = D35 0 from (eD38 0))).trans ((show D35 0 = D31 0 from (eD35 0)))).trans ((show D31 0 = D_41 0 from (eD31 0).trans (hD31 0 rfl))))).symm)) ((rk_o (rk_o (rk_o (rk_o (l41_1) rfl rfl) rfl rfl) rfl rfl) rfl rfl).trans (congrArg (fun q : Nat => some (Value.ref q)) (((((show D38 1 = D35 1 from (eD38 1).trans (hD38 0 rfl))).trans ((show D35 1 = D31 1 from (eD35 1).trans (hD35 0 rfl)))).trans ((show D31 1 = D_41 1 from (eD31 1).trans (hD31 1 rfl))))).symm)) (rk_o (rk_s) rfl rfl) (rk_s) H O (SD_trans (SD_trans (SD_trans (hD_41) (SD_glu (ι := [0, 1, 2, 3, 4, 5]) hD31 eD31 (by decide +kernel)) (any_subA (l' := [2]) rfl)) (SD_glu (ι := [1, 2]) hD35 eD35 (by decide +kernel)) (any_subA (l' := [2]) rfl)) (SD_glu (ι := [1, 2]) hD38 eD38 (by decide +kernel)) (any_subA (l' := [2]) rfl)) (SD_trans (SD_trans (SD_trans (hN_41) (SD_glu (ι := [0, 1, 2, 3, 4, 5]) hN31 eN31 (by decide +kernel)) (any_subA (l' := [2]) rfl)) (SD_glu (ι := [1, 2]) hN35 eN35 (by decide +kernel)) (any_subA (l' := [2]) rfl)) (SD_glu (ι := [1, 2]) hN38 eN38 (by decide +kernel)) (any_subA (l' := [2]) rfl)) (SF_trans (SF_trans (SF_trans (hS_41) (SF_glu (ι := [0, 1, 2, 3, 4, 5]) hS31 eF31 (by decide +kernel)) (any_sub (l' := [(1, 0), (1, 1), (1, 2)]) rfl)) (SF_glu (ι := [1, 2]) hS35 eF35 (by decide +kernel)) (any_sub (l' := [(1, 0), (1, 1), (1, 2)]) rfl)) (SF_glu (ι := [1, 2]) hS38 eF38 (by decide +kernel)) (any_sub (l' := [(1, 0), (1, 1), (1, 2)]) rfl)) (SA_trans (SA_trans (SA_trans (hA_41) (SA_glu (ι := [0, 1, 2, 3, 4, 5]) hA31 eA31 (by decide +kernel)) (any_subA (l' := [2]) rfl)) (SA_glu (ι := [1, 2]) hA35 eA35 (by decide +kernel)) (any_subA (l' := [2]) rfl)) (SA_glu (ι := [1, 2]) hA38 eA38 (by decide +kernel)) (any_subA (l' := [2]) rfl)) (pf38_1_0) (m38_1) ((congrArg (fun q : Nat => (q : Int)) (eN38 2)).trans em38_1) (y38_0_1) (((eF38 1 1).trans ey38_0_1))  (show inr ((x41_4 + (v29 + v41))) by omega) (show inr ((x41_5 + 1)) by omega) (show (0) ≤ ((x41_5 + 1)) by omega) (show ((x41_5 + 1)) ≤ (0) ∨ ((x41_5 + 1)) ≤ ((y17_0_4)) by omega) (show 0 ≤ (y38_0_1) ∧ (y38_0_1) ≤ (m38_1) ∧ (m38_1) ≤ 65536 by omega) (show ((x41_4 + (v29 + v41))) = (a2) + su (fun j => ((w17_4)) j + ((w17_5)) j) (((x41_5 + 1)) : Int).toNat by omega) rfl
abbrev V220_Row_thisfinderdataa : vV := [(0, 11, [(4, 0), (4, 0), (4, 0), (4, 0), (4, 0), (0, 0), (4, 0), (0, 0), (0, 0), (0, 0), (0, 0), (0, 0), (0, 0)]), (0, 7, [(4, 0), (0, 0), (1, 0), (0, 0), (0, 0)]), (1, 0, []), (0, 5, [(4, 0), (4, 0), (4, 0), (4, 0), (0, 0), (0, 0), (0, 0), (4, 0), (4, 0), (0, 0), (0, 0), (0, 0), (0, 0), (0, 0), (0, 0), (0, 0), (0, 0), (0, 0), (0, 0)]), (0, 7, [(4, 0), (0, 0), (1, 0), (0, 0), (0, 0)]), (1, 0, [])]
/-- Tokens.addBlock: this, #1, #1.bytes, this.finder, this.finder.data, this.finder.data.bytes -/
theorem C220_Row_thisfinderdataa {σE : rS} {D N : Nat → Nat} {F : hF} {A : hA} {d c s : Nat} {Q : wQ} (H : HW V220_Row_thisfinderdataa σE D N F A) {a3 a4 : Int} (pf2 : F 1 0 = (D 2 : Int)) (pf3 : F 0 2 = (D 3 : Int)) (pf4 : F 3 0 = (D 4 : Int)) (pf5 : F 4 0 = (D 5 : Int)) (n2 : Int) (en2 : (N 2 : Int) = n2) (n5 : Int) (en5 : (N 5 : Int) = n5) (u1_1 : Int) (eu1_1 : F 1 1 = u1_1) (u4_1 : Int) (eu4_1 : F 4 1 = u4_1) (h0 : inr (a3)) (h1 : inr (a4)) (h2 : (a4) = 0 ∨ (a4) = 1) (h3 : 0 ≤ (u1_1) ∧ (u1_1) ≤ (n2) ∧ (n2) ≤ 65536) (h4 : 0 ≤ (u4_1) ∧ (u4_1) ≤ (n5) ∧ (n5) ≤ 65536) (h5 : 0 ≤ (a3) ∧ (a3) ≤ (u4_1)) (k : ∀ (σ : rS) (D' N' : Nat → Nat) (F' : hF) (A' : hA) (c' s' : Nat), HW V220_Row_thisfinderdataa σ D' N' F' A' → OUT (V220_Row_thisfinderdataa).length D N σE c s D' N' σ c' s' → SD [2] D D' → SD [2] N N' → SF [(1, 0), (1, 1), (1, 2)] F F' → SA [2] A A' → F' 1 0 = (D' 2 : Int) → ∀ m2 : Int, (N' 2 : Int) = m2 → ∀ y1_1 : Int, F' 1 1 = y1_1 → (0 ≤ (y1_1) ∧ (y1_1) ≤ (m2) ∧ (m2) ≤ 65536) → Q none σ c' s') : Ew 220 (d + 3) 0 (rargs 0 [.ref (D 0), .ref (D 1), .ref (D 4), I a3, I a4]) [] σE c s Q := by
  have O := OUT_refl (n := (V220_Row_thisfinderdataa).length) (D := D) (N := N) (σ := σE) (c := c) (s := s)
  have HE := H
  have r1 : (-2147483648 : Int) ≤ u1_1 ∧ u1_1 ≤ 2147483647 := by have h1 : (-2147483648 : Int) ≤ F 1 1 ∧ F 1 1 ≤ 2147483647 := H.krg 1 1 (by decide); rw [show F 1 1 = u1_1 from (eu1_1)] at h1; exact h1
  have r2 : (-2147483648 : Int) ≤ u4_1 ∧ u4_1 ≤ 2147483647 := by have h1 : (-2147483648 : Int) ≤ F 4 1 ∧ F 4 1 ≤ 2147483647 := H.krg 4 1 (by decide); rw [show F 4 1 = u4_1 from (eu4_1)] at h1; exact h1
  replace pf2 := HIDm pf2
  replace pf3 := HIDm pf3
  replace pf4 := HIDm pf4
  replace pf5 := HIDm pf5
  replace en2 := HIDm en2
  replace en5 := HIDm en5
  replace eu1_1 := HIDm eu1_1
  replace eu4_1 := HIDm eu4_1
  have r3 : (0 : Int) ≤ n2 ∧ n2 ≤ 1000000 := by have h1 := H.nle 2 (by decide); have h2 : (N 2 : Int) = n2 := en2; omega
  have r4 : (0 : Int) ≤ n5 ∧ n5 ≤ 1000000 := by have h1 := H.nle 5 (by decide); have h2 : (N 5 : Int) = n5 := en5; omega
  refine Ew_of (pc' := 1) (fun _ => x_aload_n rfl rfl) ?_
  refine v_g H (o := 4) (v := I (u4_1)) rfl rfl rfl rfl rfl (congrArg (fun z : Int => I z) ((eu4_1) : F 4 1 = u4_1)) ?_
  refine Ew_of (pc' := 5) (fun _ => x_iload_n rfl rfl) ?_
  refine w_isub rfl ?_
  refine Ew_of (pc' := 8) (fun _ => x_istore rfl) ?_
  refine Ew_of (pc' := 9) (fun _ => x_aload_n rfl (rk_o (rfl) rfl rfl)) ?_
  have hc26 : ∀ (tc26_0 : Int), ∀ (ls : rO) (σ : rS) (F_c26 : hF) (A_c26 : hA) , rlook ls 0 = some (.ref (D 0)) → rlook ls 1 = some (.ref (D 1)) → rlook ls 2 = some (.ref (D 4)) → rlook ls 3 = some (I (a3)) → rlook ls 5 = some (I ((u4_1 - a3))) → HW V220_Row_thisfinderdataa σ D N F_c26 A_c26 → OUT (V220_Row_thisfinderdataa).length D N σE c s D N σ c s → SF [] F F_c26 → SA [] A A_c26 → (inrJ (tc26_0)) → Ew 220 (d + 3) 26 ls [J (tc26_0), .ref (D 1)] σ c s Q := by
   as_aux_lemma =>
    intro tc26_0 ls σ F_c26 A_c26  lc26_0 lc26_1 lc26_2 lc26_3 lc26_5 H O hS_c26 hA_c26     jc26_0
    refine Ew_of (pc' := 27) (fun _ => x_iconst rfl) ?_
    refine v_inv H (o := 1) rfl rfl rfl rfl rfl rfl (by rfl) (C160 (D := pul [1, 2] D) (N := pul [1, 2] N) (HW_sub H (VS_of (show vsub V220_Row_thisfinderdataa V160 [1, 2] = true by decide +kernel))) (((hS_c26 1 0 rfl)).trans (pf2)) (n2) (en2) (u1_1) (((hS_c26 1 1 rfl).trans (eu1_1))) (show inrJ (tc26_0) by omega) (show inr (4) by omega) (show 0 ≤ (u1_1) ∧ (u1_1) ≤ (n2) ∧ (n2) ≤ 65536 by omega) (fun σ5 D5' N5' F5' A5' c5 s5 H' O' hD5 hN5 hS5 hA5 pm5_1 m5_1 em5_1 y5_0_1 ey5_0_1 pz5_0 pz5_1 => ⟨rfl, ?_⟩))
    replace pm5_1 := HIDm pm5_1
    replace em5_1 := HIDm em5_1
    replace ey5_0_1 := HIDm ey5_0_1
    refine v_backM (c := c) (s := s) H (show vsub V220_Row_thisfinderdataa V160 [1, 2] = true by decide +kernel) H' O' hD5 (show vmov V220_Row_thisfinderdataa [1, 2] [1] = true by decide +kernel) (fun D5 N5 F5 A5 H O' eD5 eN5 eF5 eA5 => ?_)
    have O := OUT_trans O O'
    -- Row.addNumber
    have pf5_0_2 : HID (F5 0 2 = (D5 3 : Int)) := ((show F5 0 2 = F_c26 0 2 from (eF5 0 2))).trans ((((hS_c26 0 2 rfl)).trans (pf3)).trans (congrArg (fun q : Nat => (q : Int)) ((show D5 3 = D 3 from (eD5 3))).symm))
    have pf5_1_0 : HID (F5 1 0 = (D5 2 : Int)) := (eF5 1 0).trans (pm5_1.trans (congrArg (fun q : Nat => (q : Int)) (eD5 2).symm))
    have pf5_3_0 : HID (F5 3 0 = (D5 4 : Int)) := ((show F5 3 0 = F_c26 3 0 from (eF5 3 0))).trans ((((hS_c26 3 0 rfl)).trans (pf4)).trans (congrArg (fun q : Nat => (q : Int)) ((show D5 4 = D 4 from (eD5 4))).symm))
    have pf5_4_0 : HID (F5 4 0 = (D5 5 : Int)) := ((show F5 4 0 = F_c26 4 0 from (eF5 4 0))).trans ((((hS_c26 4 0 rfl)).trans (pf5)).trans (congrArg (fun q : Nat => (q : Int)) ((show D5 5 = D 5 from (eD5 5))).symm))
    have r6 : (0 : Int) ≤ m5_1 ∧ m5_1 ≤ 1000000 := by have h1 := H.nle 2 (by decide); have h2 : (N5 2 : Int) = m5_1 := (congrArg (fun q : Nat => (q : Int)) (eN5 2)).trans em5_1; omega
    have r7 : (-2147483648 : Int) ≤ y5_0_1 ∧ y5_0_1 ≤ 2147483647 := by have h1 : (-2147483648 : Int) ≤ F5 1 1 ∧ F5 1 1 ≤ 2147483647 := H.krg 1 1 (by decide); rw [show F5 1 1 = y5_0_1 from ((eF5 1 1).trans ey5_0_1)] at h1; exact h1
    refine Ew_of (pc' := 31) (fun _ => x_aload_n rfl lc26_1) ?_
    refine Ew_of (pc' := 32) (fun _ => x_aload_n rfl lc26_2) ?_
    refine Ew_stk (show ([.ref (D 4), .ref (D 1)] : List Value) = [.ref (D5 4), .ref (D5 1)] by rw [show D5 1 = D 1 from ((show D5 1 = D 1 from (eD5 1).trans (hD5 0 rfl))), show D5 4 = D 4 from ((show D5 4 = D 4 from (eD5 4)))]) ?_
    refine v_g H (o := 4) (v := .ref (D5 5)) rfl rfl rfl rfl rfl (vrf (pf5_4_0)) ?_
    refine Ew_of (pc' := 36) (fun _ => x_iload_n rfl lc26_3) ?_
    refine Ew_of (pc' := 38) (fun _ => x_iload rfl lc26_5) ?_
    refine v_inv H (o := 1) rfl rfl rfl rfl rfl rfl (by rfl) (C161_Br (D := pul [1, 5, 2] D5) (N := pul [1, 5, 2] N5) (HW_sub H (VS_of (show vsub V220_Row_thisfinderdataa V161_Br [1, 5, 2] = true by decide +kernel))) (pf5_1_0) (n5) ((congrArg (fun q : Nat => (q : Int)) (show N5 5 = N 5 from (eN5 5))).trans (en5)) (m5_1) ((congrArg (fun q : Nat => (q : Int)) (eN5 2)).trans em5_1) (y5_0_1) (((eF5 1 1).trans ey5_0_1)) (A5 2) (rfl) (show inr (a3) by omega) (show inr ((u4_1 - a3)) by omega) (show 0 ≤ (y5_0_1) ∧ (y5_0_1) ≤ (m5_1) ∧ (m5_1) ≤ 65536 by omega) (show ((u4_1 - a3)) < 0 ∨ 0 ≤ (a3) ∧ (a3) + ((u4_1 - a3)) ≤ (n5) by omega) (fun σ8 D8' N8' F8' A8' c8 s8 H' O' hD8 hN8 hS8 hA8 pm8_2 m8_2 em8_2 y8_0_1 ey8_0_1 w8_2 ew8_2 pz8_0 pz8_1 pz8_2 => ⟨rfl, ?_⟩))
    replace pm8_2 := HIDm pm8_2
    replace em8_2 := HIDm em8_2
    replace ey8_0_1 := HIDm ey8_0_1
    refine v_backM (c := (c + c5)) (s := (s + s5)) H (show vsub V220_Row_thisfinderdataa V161_Br [1, 5, 2] = true by decide +kernel) H' O' hD8 (show vmov V220_Row_thisfinderdataa [1, 5, 2] [2] = true by decide +kernel) (fun D8 N8 F8 A8 H O' eD8 eN8 eF8 eA8 => ?_)
    have O := OUT_trans O O'
    -- Row.addPart
    have pf8_0_2 : HID (F8 0 2 = (D8 3 : Int)) := ((show F8 0 2 = F5 0 2 from (eF8 0 2))).trans ((pf5_0_2).trans (congrArg (fun q : Nat => (q : Int)) ((show D8 3 = D5 3 from (eD8 3))).symm))
    have pf8_1_0 : HID (F8 1 0 = (D8 2 : Int)) := (eF8 1 0).trans (pm8_2.trans (congrArg (fun q : Nat => (q : Int)) (eD8 2).symm))
    have pf8_3_0 : HID (F8 3 0 = (D8 4 : Int)) := ((show F8 3 0 = F5 3 0 from (eF8 3 0))).trans ((pf5_3_0).trans (congrArg (fun q : Nat => (q : Int)) ((show D8 4 = D5 4 from (eD8 4))).symm))
    have pf8_4_0 : HID (F8 4 0 = (D8 5 : Int)) := ((show F8 4 0 = F5 4 0 from (eF8 4 0))).trans ((pf5_4_0).trans (congrArg (fun q : Nat => (q : Int)) ((show D8 5 = D5 5 from (eD8 5).trans (hD8 1 rfl))).symm))
    have r9 : (0 : Int) ≤ m8_2 ∧ m8_2 ≤ 1000000 := by have h1 := H.nle 2 (by decide); have h2 : (N8 2 : Int) = m8_2 := (congrArg (fun q : Nat => (q : Int)) (eN8 2)).trans em8_2; omega
    have r10 : (-2147483648 : Int) ≤ y8_0_1 ∧ y8_0_1 ≤ 2147483647 := by have h1 : (-2147483648 : Int) ≤ F8 1 1 ∧ F8 1 1 ≤ 2147483647 := H.krg 1 1 (by decide); rw [show F8 1 1 = y8_0_1 from ((eF8 1 1).trans ey8_0_1)] at h1; exact h1
    have hc70 : ∀ (ls : rO) (σ : rS) (D_c70 N_c70 : Nat → Nat) (c_c70 s_c70 : Nat) (F_c70 : hF) (A_c70 : hA) , HW V220_Row_thisfinderdataa σ D_c70 N_c70 F_c70 A_c70 → OUT (V220_Row_thisfinderdataa).length D N σE c s D_c70 N_c70 σ c_c70 s_c70 → SD [2] D8 D_c70 → SD [2] N8 N_c70 → SF [(1, 0), (1, 1), (1, 2)] F8 F_c70 → SA [2] A8 A_c70 → F_c70 1 0 = (D_c70 2 : Int) → ∀ mc70_2 : Int, (N_c70 2 : Int) = mc70_2 → ∀ yc70_1_1 : Int, F_c70 1 1 = yc70_1_1 → (0 ≤ (yc70_1_1) ∧ (yc70_1_1) ≤ (mc70_2) ∧ (mc70_2) ≤ 65536) → Ew 220 (d + 3) 70 ls [] σ c_c70 s_c70 Q := by
     as_aux_lemma =>
      intro  ls σ D_c70 N_c70 c_c70 s_c70 F_c70 A_c70   H O hD_c70 hN_c70 hS_c70 hA_c70 pmc70_2 mc70_2 emc70_2 yc70_1_1 eyc70_1_1  jc70_0
      replace pmc70_2 := HIDm pmc70_2
      replace emc70_2 := HIDm emc70_2
      replace eyc70_1_1 := HIDm eyc70_1_1
      have pf_c70_0_2 : HID (F_c70 0 2 = (D_c70 3 : Int)) := (hS_c70 0 2 rfl).trans ((pf8_0_2).trans (congrArg (fun q : Nat => (q : Int)) (hD_c70 3 rfl).symm))
      have pf_c70_3_0 : HID (F_c70 3 0 = (D_c70 4 : Int)) := (hS_c70 3 0 rfl).trans ((pf8_3_0).trans (congrArg (fun q : Nat => (q : Int)) (hD_c70 4 rfl).symm))
      have pf_c70_4_0 : HID (F_c70 4 0 = (D_c70 5 : Int)) := (hS_c70 4 0 rfl).trans ((pf8_4_0).trans (congrArg (fun q : Nat => (q : Int)) (hD_c70 5 rfl).symm))
      have r11 : (0 : Int) ≤ mc70_2 ∧ mc70_2 ≤ 1000000 := by have h1 := H.nle 2 (by decide); have h2 : (N_c70 2 : Int) = mc70_2 := emc70_2; omega
      have r12 : (-2147483648 : Int) ≤ yc70_1_1 ∧ yc70_1_1 ≤ 2147483647 := by have h1 : (-2147483648 : Int) ≤ F_c70 1 1 ∧ F_c70 1 1 ≤ 2147483647 := H.krg 1 1 (by decide); rw [show F_c70 1 1 = yc70_1_1 from (eyc70_1_1)] at h1; exact h1
      exact w_ret rfl (k _ _ _ _ _ _ _ H O (SD_trans (SD_trans (SD_trans (SD_refl) (SD_glu (ι := [1, 2]) hD5 eD5 (by decide +kernel)) (any_subA (l' := [2]) rfl)) (SD_glu (ι := [1, 5, 2]) hD8 eD8 (by decide +kernel)) (any_subA (l' := [2]) rfl)) hD_c70 (any_subA rfl)) (SD_trans (SD_trans (SD_trans (SD_refl) (SD_glu (ι := [1, 2]) hN5 eN5 (by decide +kernel)) (any_subA (l' := [2]) rfl)) (SD_glu (ι := [1, 5, 2]) hN8 eN8 (by decide +kernel)) (any_subA (l' := [2]) rfl)) hN_c70 (any_subA rfl)) (SF_trans (SF_trans (SF_trans (SF_trans (SF_refl) hS_c26 (any_sub rfl)) (SF_glu (ι := [1, 2]) hS5 eF5 (by decide +kernel)) (any_sub (l' := [(1, 0), (1, 1), (1, 2)]) rfl)) (SF_glu (ι := [1, 5, 2]) hS8 eF8 (by decide +kernel)) (any_sub (l' := [(1, 0), (1, 1), (1, 2)]) rfl)) hS_c70 (any_sub rfl)) (SA_trans (SA_trans (SA_trans (SA_trans (SA_refl) hA_c26 (any_subA rfl)) (SA_glu (ι := [1, 2]) hA5 eA5 (by decide +kernel)) (any_subA (l' := [2]) rfl)) (SA_glu (ι := [1, 5, 2]) hA8 eA8 (by decide +kernel)) (any_subA (l' := [2]) rfl)) hA_c70 (any_subA rfl)) (pmc70_2) (mc70_2) (emc70_2) (yc70_1_1) ((eyc70_1_1)) (show 0 ≤ (yc70_1_1) ∧ (yc70_1_1) ≤ (mc70_2) ∧ (mc70_2) ≤ 65536 by omega))
    refine Ew_of (pc' := 42) (fun _ => x_aload_n rfl lc26_0) ?_
    refine Ew_stk (show ([.ref (D 0)] : List Value) = [.ref (D8 0)] by rw [show D8 0 = D 0 from (((show D8 0 = D5 0 from (eD8 0))).trans ((show D5 0 = D 0 from (eD5 0))))]) ?_
    have r13 : (-2147483648 : Int) ≤ F 0 8 ∧ F 0 8 ≤ 2147483647 := by have h1 : (-2147483648 : Int) ≤ F8 0 8 ∧ F8 0 8 ≤ 2147483647 := H.krg 0 8 (by decide); rw [show F8 0 8 = F 0 8 from ((((show F8 0 8 = F5 0 8 from (eF8 0 8))).trans ((show F5 0 8 = F_c26 0 8 from (eF5 0 8)))).trans (hS_c26 0 8 rfl))] at h1; exact h1
    refine v_g H (o := 0) (v := I (F 0 8)) rfl rfl rfl rfl rfl (congrArg (fun z : Int => I z) (((((show F8 0 8 = F5 0 8 from (eF8 0 8))).trans ((show F5 0 8 = F_c26 0 8 from (eF5 0 8)))).trans (hS_c26 0 8 rfl)) : F8 0 8 = F 0 8)) ?_
    refine Ew_of (pc' := 47) (fun _ => x_bipush (z := 16) rfl (by decide)) ?_
    refine w_iand rfl (show inr (F 0 8) by omega) (show inr (16) by omega) (fun z14 gz14 gaz14 gbz14 => ?_)
    refine w_ifeq (t := 70) rfl rfl (show inr (z14) by omega) (fun b15 => ?_) (fun b15 => ?_)
    · exact hc70  _ _ _ _ _ _ _ _   H O (SD_refl) (SD_refl) (SF_refl) (SA_refl) (pf8_1_0) (m8_2) ((congrArg (fun q : Nat => (q : Int)) (eN8 2)).trans em8_2) (y8_0_1) (((eF8 1 1).trans ey8_0_1))  (show 0 ≤ (y8_0_1) ∧ (y8_0_1) ≤ (m8_2) ∧ (m8_2) ≤ 65536 by omega)
    · refine Ew_of (pc' := 52) (fun _ => x_aload_n rfl lc26_1) ?_
      refine Ew_of (pc' := 53) (fun _ => x_aload_n rfl lc26_2) ?_
      refine Ew_stk (show ([.ref (D 4), .ref (D 1)] : List Value) = [.ref (D8 4), .ref (D8 1)] by rw [show D8 1 = D 1 from (((show D8 1 = D5 1 from (eD8 1).trans (hD8 0 rfl))).trans ((show D5 1 = D 1 from (eD5 1).trans (hD5 0 rfl)))), show D8 4 = D 4 from (((show D8 4 = D5 4 from (eD8 4))).trans ((show D5 4 = D 4 from (eD5 4))))]) ?_
      refine v_g H (o := 4) (v := .ref (D8 5)) rfl rfl rfl rfl rfl (vrf (pf8_4_0)) ?_
      refine Ew_of (pc' := 57) (fun _ => x_iload_n rfl lc26_3) ?_
      refine Ew_of (pc' := 58) (fun _ => x_aload_n rfl lc26_2) ?_
      refine Ew_stk (show ([.ref (D 4), I (a3), .ref (D8 5), .ref (D8 1)] : List Value) = [.ref (D8 4), I (a3), .ref (D8 5), .ref (D8 1)] by rw [show D8 4 = D 4 from (((show D8 4 = D5 4 from (eD8 4))).trans ((show D5 4 = D 4 from (eD5 4))))]) ?_
      refine v_g H (o := 4) (v := I (u4_1)) rfl rfl rfl rfl rfl (congrArg (fun z : Int => I z) ((((((show F8 4 1 = F5 4 1 from (eF8 4 1))).trans ((show F5 4 1 = F_c26 4 1 from (eF5 4 1)))).trans (hS_c26 4 1 rfl)).trans (eu4_1)) : F8 4 1 = u4_1)) ?_
      refine Ew_of (pc' := 62) (fun _ => x_iconst rfl) ?_
      refine w_stat25 rfl rfl (by rfl) (C49_Br (D := pul [5] D8) (N := pul [5] N8) (HW_sub H (VS_of (show vsub V220_Row_thisfinderdataa V49_Br [5] = true by decide +kernel))) (n5) ((congrArg (fun q : Nat => (q : Int)) (show N8 5 = N5 5 from (eN8 5).trans (hN8 1 rfl))).trans ((congrArg (fun q : Nat => (q : Int)) (show N5 5 = N 5 from (eN5 5))).trans (en5))) (show inr (a3) by omega) (show inr (u4_1) by omega) (show inr (0) by omega) (show 0 ≤ (a3) ∧ (a3) ≤ (u4_1) ∧ (u4_1) ≤ (n5) by omega) (fun z16 σ16 F16' A16' H' O' hS16 hA16 pz16_0 => ⟨rfl, ?_⟩))
      refine v_back (c := ((c + c5) + c8)) (s := ((s + s5) + s8)) H (show vsub V220_Row_thisfinderdataa V49_Br [5] = true by decide +kernel) H' O' (fun F16 A16 H O' eF16 eA16 => ?_)
      have O := OUT_trans O O'
      -- PackHouse.narrowSum
      refine w_i2l rfl (show inr (z16) by omega) ?_
      refine Ew_of (pc' := 67) (fun _ => x_iconst rfl) ?_
      refine v_inv H (o := 1) rfl rfl rfl rfl rfl rfl (by rfl) (C160 (D := pul [1, 2] D8) (N := pul [1, 2] N8) (HW_sub H (VS_of (show vsub V220_Row_thisfinderdataa V160 [1, 2] = true by decide +kernel))) ((((show F16 1 0 = F8 1 0 from (eF16 1 0)))).trans (pf8_1_0)) (m8_2) ((congrArg (fun q : Nat => (q : Int)) (eN8 2)).trans em8_2) (y8_0_1) ((((show F16 1 1 = F8 1 1 from (eF16 1 1))).trans ((eF8 1 1).trans ey8_0_1))) (show inrJ (z16) by omega) (show inr (4) by omega) (show 0 ≤ (y8_0_1) ∧ (y8_0_1) ≤ (m8_2) ∧ (m8_2) ≤ 65536 by omega) (fun σ17 D17' N17' F17' A17' c17 s17 H' O' hD17 hN17 hS17 hA17 pm17_1 m17_1 em17_1 y17_0_1 ey17_0_1 pz17_0 pz17_1 => ⟨rfl, ?_⟩))
      replace pm17_1 := HIDm pm17_1
      replace em17_1 := HIDm em17_1
      replace ey17_0_1 := HIDm ey17_0_1
      refine v_backM (c := ((c + c5) + c8)) (s := ((s + s5) + s8)) H (show vsub V220_Row_thisfinderdataa V160 [1, 2] = true by decide +kernel) H' O' hD17 (show vmov V220_Row_thisfinderdataa [1, 2] [1] = true by decide +kernel) (fun D17 N17 F17 A17 H O' eD17 eN17 eF17 eA17 => ?_)
      have O := OUT_trans O O'
      -- Row.addNumber
      have pf17_0_2 : HID (F17 0 2 = (D17 3 : Int)) := ((show F17 0 2 = F16 0 2 from (eF17 0 2))).trans (((((show F16 0 2 = F8 0 2 from (eF16 0 2)))).trans (pf8_0_2)).trans (congrArg (fun q : Nat => (q : Int)) ((show D17 3 = D8 3 from (eD17 3))).symm))
      have pf17_1_0 : HID (F17 1 0 = (D17 2 : Int)) := (eF17 1 0).trans (pm17_1.trans (congrArg (fun q : Nat => (q : Int)) (eD17 2).symm))
      have pf17_3_0 : HID (F17 3 0 = (D17 4 : Int)) := ((show F17 3 0 = F16 3 0 from (eF17 3 0))).trans (((((show F16 3 0 = F8 3 0 from (eF16 3 0)))).trans (pf8_3_0)).trans (congrArg (fun q : Nat => (q : Int)) ((show D17 4 = D8 4 from (eD17 4))).symm))
      have pf17_4_0 : HID (F17 4 0 = (D17 5 : Int)) := ((show F17 4 0 = F16 4 0 from (eF17 4 0))).trans (((((show F16 4 0 = F8 4 0 from (eF16 4 0)))).trans (pf8_4_0)).trans (congrArg (fun q : Nat => (q : Int)) ((show D17 5 = D8 5 from (eD17 5))).symm))
      have r18 : (0 : Int) ≤ m17_1 ∧ m17_1 ≤ 1000000 := by have h1 := H.nle 2 (by decide); have h2 : (N17 2 : Int) = m17_1 := (congrArg (fun q : Nat => (q : Int)) (eN17 2)).trans em17_1; omega
      have r19 : (-2147483648 : Int) ≤ y17_0_1 ∧ y17_0_1 ≤ 2147483647 := by have h1 : (-2147483648 : Int) ≤ F17 1 1 ∧ F17 1 1 ≤ 2147483647 := H.krg 1 1 (by decide); rw [show F17 1 1 = y17_0_1 from ((eF17 1 1).trans ey17_0_1)] at h1; exact h1
      exact hc70  _ _ _ _ _ _ _ _   H O (SD_trans (SD_refl) (SD_glu (ι := [1, 2]) hD17 eD17 (by decide +kernel)) (any_subA (l' := [2]) rfl)) (SD_trans (SD_refl) (SD_glu (ι := [1, 2]) hN17 eN17 (by decide +kernel)) (any_subA (l' := [2]) rfl)) (SF_trans (SF_trans (SF_refl) (SF_glu (ι := [5]) hS16 eF16 (by decide +kernel)) (any_sub (l' := []) rfl)) (SF_glu (ι := [1, 2]) hS17 eF17 (by decide +kernel)) (any_sub (l' := [(1, 0), (1, 1), (1, 2)]) rfl)) (SA_trans (SA_trans (SA_refl) (SA_glu (ι := [5]) hA16 eA16 (by decide +kernel)) (any_subA (l' := []) rfl)) (SA_glu (ι := [1, 2]) hA17 eA17 (by decide +kernel)) (any_subA (l' := [2]) rfl)) (pf17_1_0) (m17_1) ((congrArg (fun q : Nat => (q : Int)) (eN17 2)).trans em17_1) (y17_0_1) (((eF17 1 1).trans ey17_0_1))  (show 0 ≤ (y17_0_1) ∧ (y17_0_1) ≤ (m17_1) ∧ (m17_1) ≤ 65536 by omega)
  refine Ew_of (pc' := 11) (fun _ => x_iload rfl (rk_o (rfl) rfl rfl)) ?_
  refine w_ifeq (t := 23) rfl rfl (show inr (a4) by omega) (fun b20 => ?_) (fun b20 => ?_)
  · refine Ew_of (pc' := 25) (fun _ => x_iload rfl rk_s) ?_
    refine w_i2l rfl (show inr ((u4_1 - a3)) by omega) ?_
    exact hc26 ((u4_1 - a3)) _ _ _ _  (rk_o (rfl) rfl rfl) (rk_o (rfl) rfl rfl) (rk_o (rfl) rfl rfl) (rk_o (rfl) rfl rfl) (rk_s) H O (SF_refl) (SA_refl)     (show inrJ ((u4_1 - a3)) by omega)
  · refine Ew_of (pc' := 16) (fun _ => x_iload rfl rk_s) ?_
    refine Ew_of (pc' := 18) (fun _ => x_ldc (z := -2147483648) rfl (by decide)) ?_
    refine w_ior rfl (fun z21 gz21 => ?_)
    refine w_i2l rfl (show inr (z21) by omega) ?_
    refine Ew_of (pc' := 26) (fun _ => x_goto rfl rfl) ?_
    exact hc26 (z21) _ _ _ _  (rk_o (rfl) rfl rfl) (rk_o (rfl) rfl rfl) (rk_o (rfl) rfl rfl) (rk_o (rfl) rfl rfl) (rk_s) H O (SF_refl) (SA_refl)     (show inrJ (z21) by omega)
abbrev V220_Row_thispackeda : vV := [(0, 11, [(4, 0), (4, 0), (4, 0), (4, 0), (4, 0), (0, 0), (4, 0), (0, 0), (0, 0), (0, 0), (0, 0), (0, 0), (0, 0)]), (0, 7, [(4, 0), (0, 0), (1, 0), (0, 0), (0, 0)]), (1, 0, []), (0, 7, [(4, 0), (0, 0), (1, 0), (0, 0), (0, 0)]), (1, 0, [])]
/-- Tokens.addBlock: this, #1, #1.bytes, this.packed, this.packed.bytes -/
theorem C220_Row_thispackeda {σE : rS} {D N : Nat → Nat} {F : hF} {A : hA} {d c s : Nat} {Q : wQ} (H : HW V220_Row_thispackeda σE D N F A) {a3 a4 : Int} (pf2 : F 1 0 = (D 2 : Int)) (pf3 : F 0 3 = (D 3 : Int)) (pf4 : F 3 0 = (D 4 : Int)) (n2 : Int) (en2 : (N 2 : Int) = n2) (n4 : Int) (en4 : (N 4 : Int) = n4) (u1_1 : Int) (eu1_1 : F 1 1 = u1_1) (u3_1 : Int) (eu3_1 : F 3 1 = u3_1) (h0 : inr (a3)) (h1 : inr (a4)) (h2 : (a4) = 0 ∨ (a4) = 1) (h3 : 0 ≤ (u1_1) ∧ (u1_1) ≤ (n2) ∧ (n2) ≤ 65536) (h4 : 0 ≤ (u3_1) ∧ (u3_1) ≤ (n4) ∧ (n4) ≤ 65536) (h5 : 0 ≤ (a3) ∧ (a3) ≤ (u3_1)) (k : ∀ (σ : rS) (D' N' : Nat → Nat) (F' : hF) (A' : hA) (c' s' : Nat), HW V220_Row_thispackeda σ D' N' F' A' → OUT (V220_Row_thispackeda).length D N σE c s D' N' σ c' s' → SD [2] D D' → SD [2] N N' → SF [(1, 0), (1, 1), (1, 2)] F F' → SA [2] A A' → F' 1 0 = (D' 2 : Int) → ∀ m2 : Int, (N' 2 : Int) = m2 → ∀ y1_1 : Int, F' 1 1 = y1_1 → (0 ≤ (y1_1) ∧ (y1_1) ≤ (m2) ∧ (m2) ≤ 65536) → Q none σ c' s') : Ew 220 (d + 3) 0 (rargs 0 [.ref (D 0), .ref (D 1), .ref (D 3), I a3, I a4]) [] σE c s Q := by
  have O := OUT_refl (n := (V220_Row_thispackeda).length) (D := D) (N := N) (σ := σE) (c := c) (s := s)
  have HE := H
  have r1 : (-2147483648 : Int) ≤ u1_1 ∧ u1_1 ≤ 2147483647 := by have h1 : (-2147483648 : Int) ≤ F 1 1 ∧ F 1 1 ≤ 2147483647 := H.krg 1 1 (by decide); rw [show F 1 1 = u1_1 from (eu1_1)] at h1; exact h1
  have r2 : (-2147483648 : Int) ≤ u3_1 ∧ u3_1 ≤ 2147483647 := by have h1 : (-2147483648 : Int) ≤ F 3 1 ∧ F 3 1 ≤ 2147483647 := H.krg 3 1 (by decide); rw [show F 3 1 = u3_1 from (eu3_1)] at h1; exact h1
  replace pf2 := HIDm pf2
  replace pf3 := HIDm pf3
  replace pf4 := HIDm pf4
  replace en2 := HIDm en2
  replace en4 := HIDm en4
  replace eu1_1 := HIDm eu1_1
  replace eu3_1 := HIDm eu3_1
  have r3 : (0 : Int) ≤ n2 ∧ n2 ≤ 1000000 := by have h1 := H.nle 2 (by decide); have h2 : (N 2 : Int) = n2 := en2; omega
  have r4 : (0 : Int) ≤ n4 ∧ n4 ≤ 1000000 := by have h1 := H.nle 4 (by decide); have h2 : (N 4 : Int) = n4 := en4; omega
  refine Ew_of (pc' := 1) (fun _ => x_aload_n rfl rfl) ?_
  refine v_g H (o := 3) (v := I (u3_1)) rfl rfl rfl rfl rfl (congrArg (fun z : Int => I z) ((eu3_1) : F 3 1 = u3_1)) ?_
  refine Ew_of (pc' := 5) (fun _ => x_iload_n rfl rfl) ?_
  refine w_isub rfl ?_
  refine Ew_of (pc' := 8) (fun _ => x_istore rfl) ?_
  refine Ew_of (pc' := 9) (fun _ => x_aload_n rfl (rk_o (rfl) rfl rfl)) ?_
  have hc26 : ∀ (tc26_0 : Int), ∀ (ls : rO) (σ : rS) (F_c26 : hF) (A_c26 : hA) , rlook ls 0 = some (.ref (D 0)) → rlook ls 1 = some (.ref (D 1)) → rlook ls 2 = some (.ref (D 3)) → rlook ls 3 = some (I (a3)) → rlook ls 5 = some (I ((u3_1 - a3))) → HW V220_Row_thispackeda σ D N F_c26 A_c26 → OUT (V220_Row_thispackeda).length D N σE c s D N σ c s → SF [] F F_c26 → SA [] A A_c26 → (inrJ (tc26_0)) → Ew 220 (d + 3) 26 ls [J (tc26_0), .ref (D 1)] σ c s Q := by
   as_aux_lemma =>
    intro tc26_0 ls σ F_c26 A_c26  lc26_0 lc26_1 lc26_2 lc26_3 lc26_5 H O hS_c26 hA_c26     jc26_0
    refine Ew_of (pc' := 27) (fun _ => x_iconst rfl) ?_
    refine v_inv H (o := 1) rfl rfl rfl rfl rfl rfl (by rfl) (C160 (D := pul [1, 2] D) (N := pul [1, 2] N) (HW_sub H (VS_of (show vsub V220_Row_thispackeda V160 [1, 2] = true by decide +kernel))) (((hS_c26 1 0 rfl)).trans (pf2)) (n2) (en2) (u1_1) (((hS_c26 1 1 rfl).trans (eu1_1))) (show inrJ (tc26_0) by omega) (show inr (4) by omega) (show 0 ≤ (u1_1) ∧ (u1_1) ≤ (n2) ∧ (n2) ≤ 65536 by omega) (fun σ5 D5' N5' F5' A5' c5 s5 H' O' hD5 hN5 hS5 hA5 pm5_1 m5_1 em5_1 y5_0_1 ey5_0_1 pz5_0 pz5_1 => ⟨rfl, ?_⟩))
    replace pm5_1 := HIDm pm5_1
    replace em5_1 := HIDm em5_1
    replace ey5_0_1 := HIDm ey5_0_1
    refine v_backM (c := c) (s := s) H (show vsub V220_Row_thispackeda V160 [1, 2] = true by decide +kernel) H' O' hD5 (show vmov V220_Row_thispackeda [1, 2] [1] = true by decide +kernel) (fun D5 N5 F5 A5 H O' eD5 eN5 eF5 eA5 => ?_)
    have O := OUT_trans O O'
    -- Row.addNumber
    have pf5_0_3 : HID (F5 0 3 = (D5 3 : Int)) := ((show F5 0 3 = F_c26 0 3 from (eF5 0 3))).trans ((((hS_c26 0 3 rfl)).trans (pf3)).trans (congrArg (fun q : Nat => (q : Int)) ((show D5 3 = D 3 from (eD5 3))).symm))
    have pf5_1_0 : HID (F5 1 0 = (D5 2 : Int)) := (eF5 1 0).trans (pm5_1.trans (congrArg (fun q : Nat => (q : Int)) (eD5 2).symm))
    have pf5_3_0 : HID (F5 3 0 = (D5 4 : Int)) := ((show F5 3 0 = F_c26 3 0 from (eF5 3 0))).trans ((((hS_c26 3 0 rfl)).trans (pf4)).trans (congrArg (fun q : Nat => (q : Int)) ((show D5 4 = D 4 from (eD5 4))).symm))
    have r6 : (0 : Int) ≤ m5_1 ∧ m5_1 ≤ 1000000 := by have h1 := H.nle 2 (by decide); have h2 : (N5 2 : Int) = m5_1 := (congrArg (fun q : Nat => (q : Int)) (eN5 2)).trans em5_1; omega
    have r7 : (-2147483648 : Int) ≤ y5_0_1 ∧ y5_0_1 ≤ 2147483647 := by have h1 : (-2147483648 : Int) ≤ F5 1 1 ∧ F5 1 1 ≤ 2147483647 := H.krg 1 1 (by decide); rw [show F5 1 1 = y5_0_1 from ((eF5 1 1).trans ey5_0_1)] at h1; exact h1
    refine Ew_of (pc' := 31) (fun _ => x_aload_n rfl lc26_1) ?_
    refine Ew_of (pc' := 32) (fun _ => x_aload_n rfl lc26_2) ?_
    refine Ew_stk (show ([.ref (D 3), .ref (D 1)] : List Value) = [.ref (D5 3), .ref (D5 1)] by rw [show D5 1 = D 1 from ((show D5 1 = D 1 from (eD5 1).trans (hD5 0 rfl))), show D5 3 = D 3 from ((show D5 3 = D 3 from (eD5 3)))]) ?_
    refine v_g H (o := 3) (v := .ref (D5 4)) rfl rfl rfl rfl rfl (vrf (pf5_3_0)) ?_
    refine Ew_of (pc' := 36) (fun _ => x_iload_n rfl lc26_3) ?_
    refine Ew_of (pc' := 38) (fun _ => x_iload rfl lc26_5) ?_
    refine v_inv H (o := 1) rfl rfl rfl rfl rfl rfl (by rfl) (C161_Br (D := pul [1, 4, 2] D5) (N := pul [1, 4, 2] N5) (HW_sub H (VS_of (show vsub V220_Row_thispackeda V161_Br [1, 4, 2] = true by decide +kernel))) (pf5_1_0) (n4) ((congrArg (fun q : Nat => (q : Int)) (show N5 4 = N 4 from (eN5 4))).trans (en4)) (m5_1) ((congrArg (fun q : Nat => (q : Int)) (eN5 2)).trans em5_1) (y5_0_1) (((eF5 1 1).trans ey5_0_1)) (A5 2) (rfl) (show inr (a3) by omega) (show inr ((u3_1 - a3)) by omega) (show 0 ≤ (y5_0_1) ∧ (y5_0_1) ≤ (m5_1) ∧ (m5_1) ≤ 65536 by omega) (show ((u3_1 - a3)) < 0 ∨ 0 ≤ (a3) ∧ (a3) + ((u3_1 - a3)) ≤ (n4) by omega) (fun σ8 D8' N8' F8' A8' c8 s8 H' O' hD8 hN8 hS8 hA8 pm8_2 m8_2 em8_2 y8_0_1 ey8_0_1 w8_2 ew8_2 pz8_0 pz8_1 pz8_2 => ⟨rfl, ?_⟩))
    replace pm8_2 := HIDm pm8_2
    replace em8_2 := HIDm em8_2
    replace ey8_0_1 := HIDm ey8_0_1
    refine v_backM (c := (c + c5)) (s := (s + s5)) H (show vsub V220_Row_thispackeda V161_Br [1, 4, 2] = true by decide +kernel) H' O' hD8 (show vmov V220_Row_thispackeda [1, 4, 2] [2] = true by decide +kernel) (fun D8 N8 F8 A8 H O' eD8 eN8 eF8 eA8 => ?_)
    have O := OUT_trans O O'
    -- Row.addPart
    have pf8_0_3 : HID (F8 0 3 = (D8 3 : Int)) := ((show F8 0 3 = F5 0 3 from (eF8 0 3))).trans ((pf5_0_3).trans (congrArg (fun q : Nat => (q : Int)) ((show D8 3 = D5 3 from (eD8 3))).symm))
    have pf8_1_0 : HID (F8 1 0 = (D8 2 : Int)) := (eF8 1 0).trans (pm8_2.trans (congrArg (fun q : Nat => (q : Int)) (eD8 2).symm))
    have pf8_3_0 : HID (F8 3 0 = (D8 4 : Int)) := ((show F8 3 0 = F5 3 0 from (eF8 3 0))).trans ((pf5_3_0).trans (congrArg (fun q : Nat => (q : Int)) ((show D8 4 = D5 4 from (eD8 4).trans (hD8 1 rfl))).symm))
    have r9 : (0 : Int) ≤ m8_2 ∧ m8_2 ≤ 1000000 := by have h1 := H.nle 2 (by decide); have h2 : (N8 2 : Int) = m8_2 := (congrArg (fun q : Nat => (q : Int)) (eN8 2)).trans em8_2; omega
    have r10 : (-2147483648 : Int) ≤ y8_0_1 ∧ y8_0_1 ≤ 2147483647 := by have h1 : (-2147483648 : Int) ≤ F8 1 1 ∧ F8 1 1 ≤ 2147483647 := H.krg 1 1 (by decide); rw [show F8 1 1 = y8_0_1 from ((eF8 1 1).trans ey8_0_1)] at h1; exact h1
    have hc70 : ∀ (ls : rO) (σ : rS) (D_c70 N_c70 : Nat → Nat) (c_c70 s_c70 : Nat) (F_c70 : hF) (A_c70 : hA) , HW V220_Row_thispackeda σ D_c70 N_c70 F_c70 A_c70 → OUT (V220_Row_thispackeda).length D N σE c s D_c70 N_c70 σ c_c70 s_c70 → SD [2] D8 D_c70 → SD [2] N8 N_c70 → SF [(1, 0), (1, 1), (1, 2)] F8 F_c70 → SA [2] A8 A_c70 → F_c70 1 0 = (D_c70 2 : Int) → ∀ mc70_2 : Int, (N_c70 2 : Int) = mc70_2 → ∀ yc70_1_1 : Int, F_c70 1 1 = yc70_1_1 → (0 ≤ (yc70_1_1) ∧ (yc70_1_1) ≤ (mc70_2) ∧ (mc70_2) ≤ 65536) → Ew 220 (d + 3) 70 ls [] σ c_c70 s_c70 Q := by
     as_aux_lemma =>
      intro  ls σ D_c70 N_c70 c_c70 s_c70 F_c70 A_c70   H O hD_c70 hN_c70 hS_c70 hA_c70 pmc70_2 mc70_2 emc70_2 yc70_1_1 eyc70_1_1  jc70_0
      replace pmc70_2 := HIDm pmc70_2
      replace emc70_2 := HIDm emc70_2
      replace eyc70_1_1 := HIDm eyc70_1_1
      have pf_c70_0_3 : HID (F_c70 0 3 = (D_c70 3 : Int)) := (hS_c70 0 3 rfl).trans ((pf8_0_3).trans (congrArg (fun q : Nat => (q : Int)) (hD_c70 3 rfl).symm))
      have pf_c70_3_0 : HID (F_c70 3 0 = (D_c70 4 : Int)) := (hS_c70 3 0 rfl).trans ((pf8_3_0).trans (congrArg (fun q : Nat => (q : Int)) (hD_c70 4 rfl).symm))
      have r11 : (0 : Int) ≤ mc70_2 ∧ mc70_2 ≤ 1000000 := by have h1 := H.nle 2 (by decide); have h2 : (N_c70 2 : Int) = mc70_2 := emc70_2; omega
      have r12 : (-2147483648 : Int) ≤ yc70_1_1 ∧ yc70_1_1 ≤ 2147483647 := by have h1 : (-2147483648 : Int) ≤ F_c70 1 1 ∧ F_c70 1 1 ≤ 2147483647 := H.krg 1 1 (by decide); rw [show F_c70 1 1 = yc70_1_1 from (eyc70_1_1)] at h1; exact h1
      exact w_ret rfl (k _ _ _ _ _ _ _ H O (SD_trans (SD_trans (SD_trans (SD_refl) (SD_glu (ι := [1, 2]) hD5 eD5 (by decide +kernel)) (any_subA (l' := [2]) rfl)) (SD_glu (ι := [1, 4, 2]) hD8 eD8 (by decide +kernel)) (any_subA (l' := [2]) rfl)) hD_c70 (any_subA rfl)) (SD_trans (SD_trans (SD_trans (SD_refl) (SD_glu (ι := [1, 2]) hN5 eN5 (by decide +kernel)) (any_subA (l' := [2]) rfl)) (SD_glu (ι := [1, 4, 2]) hN8 eN8 (by decide +kernel)) (any_subA (l' := [2]) rfl)) hN_c70 (any_subA rfl)) (SF_trans (SF_trans (SF_trans (SF_trans (SF_refl) hS_c26 (any_sub rfl)) (SF_glu (ι := [1, 2]) hS5 eF5 (by decide +kernel)) (any_sub (l' := [(1, 0), (1, 1), (1, 2)]) rfl)) (SF_glu (ι := [1, 4, 2]) hS8 eF8 (by decide +kernel)) (any_sub (l' := [(1, 0), (1, 1), (1, 2)]) rfl)) hS_c70 (any_sub rfl)) (SA_trans (SA_trans (SA_trans (SA_trans (SA_refl) hA_c26 (any_subA rfl)) (SA_glu (ι := [1, 2]) hA5 eA5 (by decide +kernel)) (any_subA (l' := [2]) rfl)) (SA_glu (ι := [1, 4, 2]) hA8 eA8 (by decide +kernel)) (any_subA (l' := [2]) rfl)) hA_c70 (any_subA rfl)) (pmc70_2) (mc70_2) (emc70_2) (yc70_1_1) ((eyc70_1_1)) (show 0 ≤ (yc70_1_1) ∧ (yc70_1_1) ≤ (mc70_2) ∧ (mc70_2) ≤ 65536 by omega))
    refine Ew_of (pc' := 42) (fun _ => x_aload_n rfl lc26_0) ?_
    refine Ew_stk (show ([.ref (D 0)] : List Value) = [.ref (D8 0)] by rw [show D8 0 = D 0 from (((show D8 0 = D5 0 from (eD8 0))).trans ((show D5 0 = D 0 from (eD5 0))))]) ?_
    have r13 : (-2147483648 : Int) ≤ F 0 8 ∧ F 0 8 ≤ 2147483647 := by have h1 : (-2147483648 : Int) ≤ F8 0 8 ∧ F8 0 8 ≤ 2147483647 := H.krg 0 8 (by decide); rw [show F8 0 8 = F 0 8 from ((((show F8 0 8 = F5 0 8 from (eF8 0 8))).trans ((show F5 0 8 = F_c26 0 8 from (eF5 0 8)))).trans (hS_c26 0 8 rfl))] at h1; exact h1
    refine v_g H (o := 0) (v := I (F 0 8)) rfl rfl rfl rfl rfl (congrArg (fun z : Int => I z) (((((show F8 0 8 = F5 0 8 from (eF8 0 8))).trans ((show F5 0 8 = F_c26 0 8 from (eF5 0 8)))).trans (hS_c26 0 8 rfl)) : F8 0 8 = F 0 8)) ?_
    refine Ew_of (pc' := 47) (fun _ => x_bipush (z := 16) rfl (by decide)) ?_
    refine w_iand rfl (show inr (F 0 8) by omega) (show inr (16) by omega) (fun z14 gz14 gaz14 gbz14 => ?_)
    refine w_ifeq (t := 70) rfl rfl (show inr (z14) by omega) (fun b15 => ?_) (fun b15 => ?_)
    · exact hc70  _ _ _ _ _ _ _ _   H O (SD_refl) (SD_refl) (SF_refl) (SA_refl) (pf8_1_0) (m8_2) ((congrArg (fun q : Nat => (q : Int)) (eN8 2)).trans em8_2) (y8_0_1) (((eF8 1 1).trans ey8_0_1))  (show 0 ≤ (y8_0_1) ∧ (y8_0_1) ≤ (m8_2) ∧ (m8_2) ≤ 65536 by omega)
    · refine Ew_of (pc' := 52) (fun _ => x_aload_n rfl lc26_1) ?_
      refine Ew_of (pc' := 53) (fun _ => x_aload_n rfl lc26_2) ?_
      refine Ew_stk (show ([.ref (D 3), .ref (D 1)] : List Value) = [.ref (D8 3), .ref (D8 1)] by rw [show D8 1 = D 1 from (((show D8 1 = D5 1 from (eD8 1).trans (hD8 0 rfl))).trans ((show D5 1 = D 1 from (eD5 1).trans (hD5 0 rfl)))), show D8 3 = D 3 from (((show D8 3 = D5 3 from (eD8 3))).trans ((show D5 3 = D 3 from (eD5 3))))]) ?_
      refine v_g H (o := 3) (v := .ref (D8 4)) rfl rfl rfl rfl rfl (vrf (pf8_3_0)) ?_
      refine Ew_of (pc' := 57) (fun _ => x_iload_n rfl lc26_3) ?_
      refine Ew_of (pc' := 58) (fun _ => x_aload_n rfl lc26_2) ?_
      refine Ew_stk (show ([.ref (D 3), I (a3), .ref (D8 4), .ref (D8 1)] : List Value) = [.ref (D8 3), I (a3), .ref (D8 4), .ref (D8 1)] by rw [show D8 3 = D 3 from (((show D8 3 = D5 3 from (eD8 3))).trans ((show D5 3 = D 3 from (eD5 3))))]) ?_
      refine v_g H (o := 3) (v := I (u3_1)) rfl rfl rfl rfl rfl (congrArg (fun z : Int => I z) ((((((show F8 3 1 = F5 3 1 from (eF8 3 1))).trans ((show F5 3 1 = F_c26 3 1 from (eF5 3 1)))).trans (hS_c26 3 1 rfl)).trans (eu3_1)) : F8 3 1 = u3_1)) ?_
      refine Ew_of (pc' := 62) (fun _ => x_iconst rfl) ?_
      refine w_stat25 rfl rfl (by rfl) (C49_Br (D := pul [4] D8) (N := pul [4] N8) (HW_sub H (VS_of (show vsub V220_Row_thispackeda V49_Br [4] = true by decide +kernel))) (n4) ((congrArg (fun q : Nat => (q : Int)) (show N8 4 = N5 4 from (eN8 4).trans (hN8 1 rfl))).trans ((congrArg (fun q : Nat => (q : Int)) (show N5 4 = N 4 from (eN5 4))).trans (en4))) (show inr (a3) by omega) (show inr (u3_1) by omega) (show inr (0) by omega) (show 0 ≤ (a3) ∧ (a3) ≤ (u3_1) ∧ (u3_1) ≤ (n4) by omega) (fun z16 σ16 F16' A16' H' O' hS16 hA16 pz16_0 => ⟨rfl, ?_⟩))
      refine v_back (c := ((c + c5) + c8)) (s := ((s + s5) + s8)) H (show vsub V220_Row_thispackeda V49_Br [4] = true by decide +kernel) H' O' (fun F16 A16 H O' eF16 eA16 => ?_)
      have O := OUT_trans O O'
      -- PackHouse.narrowSum
      refine w_i2l rfl (show inr (z16) by omega) ?_
      refine Ew_of (pc' := 67) (fun _ => x_iconst rfl) ?_
      refine v_inv H (o := 1) rfl rfl rfl rfl rfl rfl (by rfl) (C160 (D := pul [1, 2] D8) (N := pul [1, 2] N8) (HW_sub H (VS_of (show vsub V220_Row_thispackeda V160 [1, 2] = true by decide +kernel))) ((((show F16 1 0 = F8 1 0 from (eF16 1 0)))).trans (pf8_1_0)) (m8_2) ((congrArg (fun q : Nat => (q : Int)) (eN8 2)).trans em8_2) (y8_0_1) ((((show F16 1 1 = F8 1 1 from (eF16 1 1))).trans ((eF8 1 1).trans ey8_0_1))) (show inrJ (z16) by omega) (show inr (4) by omega) (show 0 ≤ (y8_0_1) ∧ (y8_0_1) ≤ (m8_2) ∧ (m8_2) ≤ 65536 by omega) (fun σ17 D17' N17' F17' A17' c17 s17 H' O' hD17 hN17 hS17 hA17 pm17_1 m17_1 em17_1 y17_0_1 ey17_0_1 pz17_0 pz17_1 => ⟨rfl, ?_⟩))
      replace pm17_1 := HIDm pm17_1
      replace em17_1 := HIDm em17_1
      replace ey17_0_1 := HIDm ey17_0_1
      refine v_backM (c := ((c + c5) + c8)) (s := ((s + s5) + s8)) H (show vsub V220_Row_thispackeda V160 [1, 2] = true by decide +kernel) H' O' hD17 (show vmov V220_Row_thispackeda [1, 2] [1] = true by decide +kernel) (fun D17 N17 F17 A17 H O' eD17 eN17 eF17 eA17 => ?_)
      have O := OUT_trans O O'
      -- Row.addNumber
      have pf17_0_3 : HID (F17 0 3 = (D17 3 : Int)) := ((show F17 0 3 = F16 0 3 from (eF17 0 3))).trans (((((show F16 0 3 = F8 0 3 from (eF16 0 3)))).trans (pf8_0_3)).trans (congrArg (fun q : Nat => (q : Int)) ((show D17 3 = D8 3 from (eD17 3))).symm))
      have pf17_1_0 : HID (F17 1 0 = (D17 2 : Int)) := (eF17 1 0).trans (pm17_1.trans (congrArg (fun q : Nat => (q : Int)) (eD17 2).symm))
      have pf17_3_0 : HID (F17 3 0 = (D17 4 : Int)) := ((show F17 3 0 = F16 3 0 from (eF17 3 0))).trans (((((show F16 3 0 = F8 3 0 from (eF16 3 0)))).trans (pf8_3_0)).trans (congrArg (fun q : Nat => (q : Int)) ((show D17 4 = D8 4 from (eD17 4))).symm))
      have r18 : (0 : Int) ≤ m17_1 ∧ m17_1 ≤ 1000000 := by have h1 := H.nle 2 (by decide); have h2 : (N17 2 : Int) = m17_1 := (congrArg (fun q : Nat => (q : Int)) (eN17 2)).trans em17_1; omega
      have r19 : (-2147483648 : Int) ≤ y17_0_1 ∧ y17_0_1 ≤ 2147483647 := by have h1 : (-2147483648 : Int) ≤ F17 1 1 ∧ F17 1 1 ≤ 2147483647 := H.krg 1 1 (by decide); rw [show F17 1 1 = y17_0_1 from ((eF17 1 1).trans ey17_0_1)] at h1; exact h1
      exact hc70  _ _ _ _ _ _ _ _   H O (SD_trans (SD_refl) (SD_glu (ι := [1, 2]) hD17 eD17 (by decide +kernel)) (any_subA (l' := [2]) rfl)) (SD_trans (SD_refl) (SD_glu (ι := [1, 2]) hN17 eN17 (by decide +kernel)) (any_subA (l' := [2]) rfl)) (SF_trans (SF_trans (SF_refl) (SF_glu (ι := [4]) hS16 eF16 (by decide +kernel)) (any_sub (l' := []) rfl)) (SF_glu (ι := [1, 2]) hS17 eF17 (by decide +kernel)) (any_sub (l' := [(1, 0), (1, 1), (1, 2)]) rfl)) (SA_trans (SA_trans (SA_refl) (SA_glu (ι := [4]) hA16 eA16 (by decide +kernel)) (any_subA (l' := []) rfl)) (SA_glu (ι := [1, 2]) hA17 eA17 (by decide +kernel)) (any_subA (l' := [2]) rfl)) (pf17_1_0) (m17_1) ((congrArg (fun q : Nat => (q : Int)) (eN17 2)).trans em17_1) (y17_0_1) (((eF17 1 1).trans ey17_0_1))  (show 0 ≤ (y17_0_1) ∧ (y17_0_1) ≤ (m17_1) ∧ (m17_1) ≤ 65536 by omega)
  refine Ew_of (pc' := 11) (fun _ => x_iload rfl (rk_o (rfl) rfl rfl)) ?_
  refine w_ifeq (t := 23) rfl rfl (show inr (a4) by omega) (fun b20 => ?_) (fun b20 => ?_)
  · refine Ew_of (pc' := 25) (fun _ => x_iload rfl rk_s) ?_
    refine w_i2l rfl (show inr ((u3_1 - a3)) by omega) ?_
    exact hc26 ((u3_1 - a3)) _ _ _ _  (rk_o (rfl) rfl rfl) (rk_o (rfl) rfl rfl) (rk_o (rfl) rfl rfl) (rk_o (rfl) rfl rfl) (rk_s) H O (SF_refl) (SA_refl)     (show inrJ ((u3_1 - a3)) by omega)
  · refine Ew_of (pc' := 16) (fun _ => x_iload rfl rk_s) ?_
    refine Ew_of (pc' := 18) (fun _ => x_ldc (z := -2147483648) rfl (by decide)) ?_
    refine w_ior rfl (fun z21 gz21 => ?_)
    refine w_i2l rfl (show inr (z21) by omega) ?_
    refine Ew_of (pc' := 26) (fun _ => x_goto rfl rfl) ?_
    exact hc26 (z21) _ _ _ _  (rk_o (rfl) rfl rfl) (rk_o (rfl) rfl rfl) (rk_o (rfl) rfl rfl) (rk_o (rfl) rfl rfl) (rk_s) H O (SF_refl) (SA_refl)     (show inrJ (z21) by omega)
abbrev V218_Row_Row : vV := [(0, 11, [(4, 0), (4, 0), (4, 0), (4, 0), (4, 0), (0, 0), (4, 0), (0, 0), (0, 0), (0, 0), (0, 0), (0, 0), (0, 0)]), (0, 7, [(4, 0), (0, 0), (1, 0), (0, 0), (0, 0)]), (0, 7, [(4, 0), (0, 0), (1, 0), (0, 0), (0, 0)]), (1, 0, []), (1, 0, []), (0, 7, [(4, 0), (0, 0), (1, 0), (0, 0), (0, 0)]), (1, 0, []), (0, 5, [(4, 0), (4, 0), (4, 0), (4, 0), (0, 0), (0, 0), (0, 0), (4, 0), (4, 0), (0, 0), (0, 0), (0, 0), (0, 0), (0, 0), (0, 0), (0, 0), (0, 0), (0, 0), (0, 0)]), (0, 7, [(4, 0), (0, 0), (1, 0), (0, 0), (0, 0)]), (1, 0, []), (0, 7, [(4, 0), (0, 0), (1, 0), (0, 0), (0, 0)]), (1, 0, []), (1, 1, []), (1, 1, []), (1, 1, []), (1, 1, []), (1, 1, []), (1, 1, [])]
set_option maxHeartbeats 16000000 in
/-- Tokens.packFrame: this, #1, #2, #1.bytes, #2.bytes, this.past, this.past.bytes, this.finder, this.finder.data, this.finder.data.bytes, this.packed, this.packed.bytes, this.settings, this.finder.heads, this.finder.back, this.finder.literals, this.finder.lengths, this.finder.distances -/
theorem C218_Row_Row {σE : rS} {D N : Nat → Nat} {F : hF} {A : hA} {d c s : Nat} {Q : wQ} (H : HW V218_Row_Row σE D N F A)  (pf3 : F 1 0 = (D 3 : Int)) (pf4 : F 2 0 = (D 4 : Int)) (pf5 : F 0 1 = (D 5 : Int)) (pf6 : F 5 0 = (D 6 : Int)) (pf7 : F 0 2 = (D 7 : Int)) (pf8 : F 7 0 = (D 8 : Int)) (pf9 : F 8 0 = (D 9 : Int)) (pf10 : F 0 3 = (D 10 : Int)) (pf11 : F 10 0 = (D 11 : Int)) (pf12 : F 0 0 = (D 12 : Int)) (pf13 : F 7 7 = (D 13 : Int)) (pf14 : F 7 8 = (D 14 : Int)) (pf15 : F 7 1 = (D 15 : Int)) (pf16 : F 7 2 = (D 16 : Int)) (pf17 : F 7 3 = (D 17 : Int)) (n3 : Int) (en3 : (N 3 : Int) = n3) (n4 : Int) (en4 : (N 4 : Int) = n4) (n6 : Int) (en6 : (N 6 : Int) = n6) (n9 : Int) (en9 : (N 9 : Int) = n9) (n11 : Int) (en11 : (N 11 : Int) = n11) (n12 : Int) (en12 : (N 12 : Int) = n12) (n13 : Int) (en13 : (N 13 : Int) = n13) (n14 : Int) (en14 : (N 14 : Int) = n14) (n15 : Int) (en15 : (N 15 : Int) = n15) (n16 : Int) (en16 : (N 16 : Int) = n16) (n17 : Int) (en17 : (N 17 : Int) = n17) (u1_1 : Int) (eu1_1 : F 1 1 = u1_1) (u2_1 : Int) (eu2_1 : F 2 1 = u2_1) (u5_1 : Int) (eu5_1 : F 5 1 = u5_1) (u8_1 : Int) (eu8_1 : F 8 1 = u8_1) (u10_1 : Int) (eu10_1 : F 10 1 = u10_1) (w12 : Int → Int) (ew12 : A 12 = w12) (h0 : 0 ≤ (u1_1) ∧ (u1_1) ≤ (n3) ∧ (n3) ≤ 65536) (h1 : (u1_1) ≤ 1000) (h2 : 0 ≤ (u2_1) ∧ (u2_1) ≤ (n4) ∧ (n4) ≤ 65536) (h3 : 0 ≤ (u5_1) ∧ (u5_1) ≤ (n6) ∧ (n6) ≤ 65536) (h4 : 0 ≤ (u8_1) ∧ (u8_1) ≤ (n9) ∧ (n9) ≤ 65536) (h5 : 0 ≤ (u10_1) ∧ (u10_1) ≤ (n11) ∧ (n11) ≤ 65536) (h6 : (n12) = 10) (h7 : (u5_1) + (u2_1) ≤ 16384) (h8 : 1 ≤ ((w12)) 2 ∧ ((w12)) 2 ≤ 65536) (h9 : (n13) = 0 ∨ (n13) = 2048) (h10 : (n14) ≤ 16384) (h11 : (n15) = (n16) ∧ (n17) = (n16) ∧ (n16) ≤ 65536 ∧ ((n16) = 0 ∨ 64 ≤ (n16)) ∧ lgq ((n16)) = 0) (k : ∀ (σ : rS) (D' N' : Nat → Nat) (F' : hF) (A' : hA) (c' s' : Nat), HW V218_Row_Row σ D' N' F' A' → OUT (V218_Row_Row).length D N σE c s D' N' σ c' s' → SD [3, 9, 11, 13, 14, 15, 16, 17] D D' → SD [3, 9, 11, 13, 14, 15, 16, 17] N N' → SF [(0, 8), (1, 0), (1, 1), (1, 2), (7, 1), (7, 2), (7, 3), (7, 4), (7, 5), (7, 6), (7, 7), (7, 8), (7, 9), (7, 10), (7, 11), (7, 12), (7, 13), (7, 14), (7, 15), (7, 16), (7, 17), (7, 18), (8, 0), (8, 1), (8, 2), (8, 3), (8, 4), (10, 0), (10, 1), (10, 2), (10, 3), (10, 4)] F F' → SA [3, 9, 11, 13, 14, 15, 16, 17] A A' → F' 1 0 = (D' 3 : Int) → F' 8 0 = (D' 9 : Int) → F' 10 0 = (D' 11 : Int) → F' 7 7 = (D' 13 : Int) → F' 7 8 = (D' 14 : Int) → F' 7 1 = (D' 15 : Int) → F' 7 2 = (D' 16 : Int) → F' 7 3 = (D' 17 : Int) → ∀ m3 : Int, (N' 3 : Int) = m3 → ∀ m9 : Int, (N' 9 : Int) = m9 → ∀ m11 : Int, (N' 11 : Int) = m11 → ∀ m13 : Int, (N' 13 : Int) = m13 → ∀ m14 : Int, (N' 14 : Int) = m14 → ∀ m15 : Int, (N' 15 : Int) = m15 → ∀ m16 : Int, (N' 16 : Int) = m16 → ∀ m17 : Int, (N' 17 : Int) = m17 → ∀ y1_1 : Int, F' 1 1 = y1_1 → ∀ y8_1 : Int, F' 8 1 = y8_1 → ∀ y10_1 : Int, F' 10 1 = y10_1 → (0 ≤ (y1_1) ∧ (y1_1) ≤ (m3) ∧ (m3) ≤ 65536) → (0 ≤ (y8_1) ∧ (y8_1) ≤ (m9) ∧ (m9) ≤ 65536) → (0 ≤ (y10_1) ∧ (y10_1) ≤ (m11) ∧ (m11) ≤ 65536) → ((m13) = 0 ∨ (m13) = 2048) → ((m14) ≤ 16384) → ((m15) = (m16) ∧ (m17) = (m16) ∧ (m16) ≤ 65536 ∧ ((m16) = 0 ∨ 64 ≤ (m16)) ∧ lgq ((m16)) = 0) → Q none σ c' s') : Ew 218 (d + 6) 0 (rargs 0 [.ref (D 0), .ref (D 1), .ref (D 2)]) [] σE c s Q := by
  have O := OUT_refl (n := (V218_Row_Row).length) (D := D) (N := N) (σ := σE) (c := c) (s := s)
  have HE := H
  have r1 : (-2147483648 : Int) ≤ u1_1 ∧ u1_1 ≤ 2147483647 := by have h1 : (-2147483648 : Int) ≤ F 1 1 ∧ F 1 1 ≤ 2147483647 := H.krg 1 1 (by decide); rw [show F 1 1 = u1_1 from (eu1_1)] at h1; exact h1
  have r2 : (-2147483648 : Int) ≤ u2_1 ∧ u2_1 ≤ 2147483647 := by have h1 : (-2147483648 : Int) ≤ F 2 1 ∧ F 2 1 ≤ 2147483647 := H.krg 2 1 (by decide); rw [show F 2 1 = u2_1 from (eu2_1)] at h1; exact h1
  have r3 : (-2147483648 : Int) ≤ u5_1 ∧ u5_1 ≤ 2147483647 := by have h1 : (-2147483648 : Int) ≤ F 5 1 ∧ F 5 1 ≤ 2147483647 := H.krg 5 1 (by decide); rw [show F 5 1 = u5_1 from (eu5_1)] at h1; exact h1
  have r4 : (-2147483648 : Int) ≤ u8_1 ∧ u8_1 ≤ 2147483647 := by have h1 : (-2147483648 : Int) ≤ F 8 1 ∧ F 8 1 ≤ 2147483647 := H.krg 8 1 (by decide); rw [show F 8 1 = u8_1 from (eu8_1)] at h1; exact h1
  have r5 : (-2147483648 : Int) ≤ u10_1 ∧ u10_1 ≤ 2147483647 := by have h1 : (-2147483648 : Int) ≤ F 10 1 ∧ F 10 1 ≤ 2147483647 := H.krg 10 1 (by decide); rw [show F 10 1 = u10_1 from (eu10_1)] at h1; exact h1
  replace pf3 := HIDm pf3
  replace pf4 := HIDm pf4
  replace pf5 := HIDm pf5
  replace pf6 := HIDm pf6
  replace pf7 := HIDm pf7
  replace pf8 := HIDm pf8
  replace pf9 := HIDm pf9
  replace pf10 := HIDm pf10
  replace pf11 := HIDm pf11
  replace pf12 := HIDm pf12
  replace pf13 := HIDm pf13
  replace pf14 := HIDm pf14
  replace pf15 := HIDm pf15
  replace pf16 := HIDm pf16
  replace pf17 := HIDm pf17
  replace en3 := HIDm en3
  replace en4 := HIDm en4
  replace en6 := HIDm en6
  replace en9 := HIDm en9
  replace en11 := HIDm en11
  replace en12 := HIDm en12
  replace en13 := HIDm en13
  replace en14 := HIDm en14
  replace en15 := HIDm en15
  replace en16 := HIDm en16
  replace en17 := HIDm en17
  replace eu1_1 := HIDm eu1_1
  replace eu2_1 := HIDm eu2_1
  replace eu5_1 := HIDm eu5_1
  replace eu8_1 := HIDm eu8_1
  replace eu10_1 := HIDm eu10_1
  have r6 : (0 : Int) ≤ n3 ∧ n3 ≤ 1000000 := by have h1 := H.nle 3 (by decide); have h2 : (N 3 : Int) = n3 := en3; omega
  have r7 : (0 : Int) ≤ n4 ∧ n4 ≤ 1000000 := by have h1 := H.nle 4 (by decide); have h2 : (N 4 : Int) = n4 := en4; omega
  have r8 : (0 : Int) ≤ n6 ∧ n6 ≤ 1000000 := by have h1 := H.nle 6 (by decide); have h2 : (N 6 : Int) = n6 := en6; omega
  have r9 : (0 : Int) ≤ n9 ∧ n9 ≤ 1000000 := by have h1 := H.nle 9 (by decide); have h2 : (N 9 : Int) = n9 := en9; omega
  have r10 : (0 : Int) ≤ n11 ∧ n11 ≤ 1000000 := by have h1 := H.nle 11 (by decide); have h2 : (N 11 : Int) = n11 := en11; omega
  have r11 : (0 : Int) ≤ n12 ∧ n12 ≤ 1000000 := by have h1 := H.nle 12 (by decide); have h2 : (N 12 : Int) = n12 := en12; omega
  have r12 : (0 : Int) ≤ n13 ∧ n13 ≤ 1000000 := by have h1 := H.nle 13 (by decide); have h2 : (N 13 : Int) = n13 := en13; omega
  have r13 : (0 : Int) ≤ n14 ∧ n14 ≤ 1000000 := by have h1 := H.nle 14 (by decide); have h2 : (N 14 : Int) = n14 := en14; omega
  have r14 : (0 : Int) ≤ n15 ∧ n15 ≤ 1000000 := by have h1 := H.nle 15 (by decide); have h2 : (N 15 : Int) = n15 := en15; omega
  have r15 : (0 : Int) ≤ n16 ∧ n16 ≤ 1000000 := by have h1 := H.nle 16 (by decide); have h2 : (N 16 : Int) = n16 := en16; omega
  have r16 : (0 : Int) ≤ n17 ∧ n17 ≤ 1000000 := by have h1 := H.nle 17 (by decide); have h2 : (N 17 : Int) = n17 := en17; omega
  refine Ew_of (pc' := 1) (fun _ => x_aload_n rfl rfl) ?_
  refine Ew_of (pc' := 2) (fun _ => x_aload_n rfl rfl) ?_
  refine v_g H (o := 0) (v := .ref (D 12)) rfl rfl rfl rfl rfl (vrf (pf12)) ?_
  refine Ew_of (pc' := 6) (fun _ => x_iconst rfl) ?_
  refine v_lI H (o := 12) rfl rfl rfl rfl (n := n12) (en12) (show 0 ≤ 3 ∧ 3 < n12 by omega) (fun v17 ev17 qv17 => ?_)
  have ev17 : (w12) (3) = v17 := (congrFun (ew12) (3)).symm.trans ev17
  refine v_p H (o := 0) (z := v17) (v := I (v17)) rfl rfl rfl rfl rfl rfl rfl rfl (show (-2147483648 : Int) ≤ v17 ∧ v17 ≤ 2147483647 by omega) (fun σ H O' => ?_)
  have O := OUT_trans O O'
  refine Ew_of (pc' := 11) (fun _ => x_aload_n rfl rfl) ?_
  refine Ew_of (pc' := 12) (fun _ => x_aload_n rfl rfl) ?_
  refine Ew_of (pc' := 13) (fun _ => x_aload_n rfl rfl) ?_
  refine v_g H (o := 2) (v := I (u2_1)) rfl rfl rfl rfl rfl (congrArg (fun z : Int => I z) ((eu2_1) : (updF F 0 8 (v17)) 2 1 = u2_1)) ?_
  refine v_inv H (o := 0) rfl rfl rfl rfl rfl rfl (by rfl) (C219_Row (D := pul [0, 1, 3, 12] D) (N := pul [0, 1, 3, 12] N) (HW_sub H (VS_of (show vsub V218_Row_Row V219_Row [0, 1, 3, 12] = true by decide +kernel))) (pf3) (pf12) (n3) (en3) (n12) (en12) (u1_1) ((eu1_1)) (show inr (u2_1) by omega) (show 0 ≤ (u1_1) ∧ (u1_1) ≤ (n3) ∧ (n3) ≤ 65536 by omega) (show (u1_1) ≤ 1000 by omega) (show (n12) = 10 by omega) (fun σ18 D18' N18' F18' A18' c18 s18 H' O' hD18 hN18 hS18 hA18 pm18_2 m18_2 em18_2 y18_1_1 ey18_1_1 pz18_0 => ⟨rfl, ?_⟩))
  replace pm18_2 := HIDm pm18_2
  replace em18_2 := HIDm em18_2
  replace ey18_1_1 := HIDm ey18_1_1
  refine v_backM (c := c) (s := s) H (show vsub V218_Row_Row V219_Row [0, 1, 3, 12] = true by decide +kernel) H' O' hD18 (show vmov V218_Row_Row [0, 1, 3, 12] [2] = true by decide +kernel) (fun D18 N18 F18 A18 H O' eD18 eN18 eF18 eA18 => ?_)
  have O := OUT_trans O O'
  -- Tokens.packHead
  have pf18_0_0 : HID (F18 0 0 = (D18 12 : Int)) := ((show F18 0 0 = (updF F 0 8 (v17)) 0 0 from (eF18 0 0).trans (hS18 0 0 rfl))).trans ((pf12).trans (congrArg (fun q : Nat => (q : Int)) ((show D18 12 = D 12 from (eD18 12).trans (hD18 3 rfl))).symm))
  have pf18_0_1 : HID (F18 0 1 = (D18 5 : Int)) := ((show F18 0 1 = (updF F 0 8 (v17)) 0 1 from (eF18 0 1).trans (hS18 0 1 rfl))).trans ((pf5).trans (congrArg (fun q : Nat => (q : Int)) ((show D18 5 = D 5 from (eD18 5))).symm))
  have pf18_0_2 : HID (F18 0 2 = (D18 7 : Int)) := ((show F18 0 2 = (updF F 0 8 (v17)) 0 2 from (eF18 0 2).trans (hS18 0 2 rfl))).trans ((pf7).trans (congrArg (fun q : Nat => (q : Int)) ((show D18 7 = D 7 from (eD18 7))).symm))
  have pf18_0_3 : HID (F18 0 3 = (D18 10 : Int)) := ((show F18 0 3 = (updF F 0 8 (v17)) 0 3 from (eF18 0 3).trans (hS18 0 3 rfl))).trans ((pf10).trans (congrArg (fun q : Nat => (q : Int)) ((show D18 10 = D 10 from (eD18 10))).symm))
  have pf18_1_0 : HID (F18 1 0 = (D18 3 : Int)) := (eF18 1 0).trans (pm18_2.trans (congrArg (fun q : Nat => (q : Int)) (eD18 3).symm))
  have pf18_10_0 : HID (F18 10 0 = (D18 11 : Int)) := ((show F18 10 0 = (updF F 0 8 (v17)) 10 0 from (eF18 10 0))).trans ((pf11).trans (congrArg (fun q : Nat => (q : Int)) ((show D18 11 = D 11 from (eD18 11))).symm))
  have pf18_2_0 : HID (F18 2 0 = (D18 4 : Int)) := ((show F18 2 0 = (updF F 0 8 (v17)) 2 0 from (eF18 2 0))).trans ((pf4).trans (congrArg (fun q : Nat => (q : Int)) ((show D18 4 = D 4 from (eD18 4))).symm))
  have pf18_5_0 : HID (F18 5 0 = (D18 6 : Int)) := ((show F18 5 0 = (updF F 0 8 (v17)) 5 0 from (eF18 5 0))).trans ((pf6).trans (congrArg (fun q : Nat => (q : Int)) ((show D18 6 = D 6 from (eD18 6))).symm))
  have pf18_7_0 : HID (F18 7 0 = (D18 8 : Int)) := ((show F18 7 0 = (updF F 0 8 (v17)) 7 0 from (eF18 7 0))).trans ((pf8).trans (congrArg (fun q : Nat => (q : Int)) ((show D18 8 = D 8 from (eD18 8))).symm))
  have pf18_7_1 : HID (F18 7 1 = (D18 15 : Int)) := ((show F18 7 1 = (updF F 0 8 (v17)) 7 1 from (eF18 7 1))).trans ((pf15).trans (congrArg (fun q : Nat => (q : Int)) ((show D18 15 = D 15 from (eD18 15))).symm))
  have pf18_7_2 : HID (F18 7 2 = (D18 16 : Int)) := ((show F18 7 2 = (updF F 0 8 (v17)) 7 2 from (eF18 7 2))).trans ((pf16).trans (congrArg (fun q : Nat => (q : Int)) ((show D18 16 = D 16 from (eD18 16))).symm))
  have pf18_7_3 : HID (F18 7 3 = (D18 17 : Int)) := ((show F18 7 3 = (updF F 0 8 (v17)) 7 3 from (eF18 7 3))).trans ((pf17).trans (congrArg (fun q : Nat => (q : Int)) ((show D18 17 = D 17 from (eD18 17))).symm))
  have pf18_7_7 : HID (F18 7 7 = (D18 13 : Int)) := ((show F18 7 7 = (updF F 0 8 (v17)) 7 7 from (eF18 7 7))).trans ((pf13).trans (congrArg (fun q : Nat => (q : Int)) ((show D18 13 = D 13 from (eD18 13))).symm))
  have pf18_7_8 : HID (F18 7 8 = (D18 14 : Int)) := ((show F18 7 8 = (updF F 0 8 (v17)) 7 8 from (eF18 7 8))).trans ((pf14).trans (congrArg (fun q : Nat => (q : Int)) ((show D18 14 = D 14 from (eD18 14))).symm))
  have pf18_8_0 : HID (F18 8 0 = (D18 9 : Int)) := ((show F18 8 0 = (updF F 0 8 (v17)) 8 0 from (eF18 8 0))).trans ((pf9).trans (congrArg (fun q : Nat => (q : Int)) ((show D18 9 = D 9 from (eD18 9))).symm))
  have r19 : (0 : Int) ≤ m18_2 ∧ m18_2 ≤ 1000000 := by have h1 := H.nle 3 (by decide); have h2 : (N18 3 : Int) = m18_2 := (congrArg (fun q : Nat => (q : Int)) (eN18 3)).trans em18_2; omega
  have r20 : (-2147483648 : Int) ≤ y18_1_1 ∧ y18_1_1 ≤ 2147483647 := by have h1 : (-2147483648 : Int) ≤ F18 1 1 ∧ F18 1 1 ≤ 2147483647 := H.krg 1 1 (by decide); rw [show F18 1 1 = y18_1_1 from ((eF18 1 1).trans ey18_1_1)] at h1; exact h1
  refine Ew_of (pc' := 20) (fun _ => x_aload_n rfl rfl) ?_
  refine Ew_stk (show ([.ref (D 0)] : List Value) = [.ref (D18 0)] by rw [show D18 0 = D 0 from ((show D18 0 = D 0 from (eD18 0).trans (hD18 0 rfl)))]) ?_
  refine v_g H (o := 0) (v := .ref (D18 7)) rfl rfl rfl rfl rfl (vrf (pf18_0_2)) ?_
  refine v_g H (o := 7) (v := .ref (D18 8)) rfl rfl rfl rfl rfl (vrf (pf18_7_0)) ?_
  refine Ew_of (pc' := 27) (fun _ => x_astore_n rfl) ?_
  refine Ew_of (pc' := 28) (fun _ => x_aload_n rfl rk_s) ?_
  refine Ew_of (pc' := 29) (fun _ => x_aload_n rfl (rk_o (rfl) rfl rfl)) ?_
  refine Ew_stk (show ([.ref (D 0), .ref (D18 8)] : List Value) = [.ref (D18 0), .ref (D18 8)] by rw [show D18 0 = D 0 from ((show D18 0 = D 0 from (eD18 0).trans (hD18 0 rfl)))]) ?_
  refine v_g H (o := 0) (v := .ref (D18 5)) rfl rfl rfl rfl rfl (vrf (pf18_0_1)) ?_
  refine v_inv H (o := 8) rfl rfl rfl rfl rfl rfl (by rfl) (C158_Row (D := pul [8, 5, 9, 6] D18) (N := pul [8, 5, 9, 6] N18) (HW_sub H (VS_of (show vsub V218_Row_Row V158_Row [8, 5, 9, 6] = true by decide +kernel))) (pf18_8_0) (pf18_5_0) (n9) ((congrArg (fun q : Nat => (q : Int)) (show N18 9 = N 9 from (eN18 9))).trans (en9)) (n6) ((congrArg (fun q : Nat => (q : Int)) (show N18 6 = N 6 from (eN18 6))).trans (en6)) (u8_1) ((((show F18 8 1 = (updF F 0 8 (v17)) 8 1 from (eF18 8 1))).trans (eu8_1))) (u5_1) ((((show F18 5 1 = (updF F 0 8 (v17)) 5 1 from (eF18 5 1))).trans (eu5_1))) (show 0 ≤ (u8_1) ∧ (u8_1) ≤ (n9) ∧ (n9) ≤ 65536 by omega) (show 0 ≤ (u5_1) ∧ (u5_1) ≤ (n6) ∧ (n6) ≤ 65536 by omega) (fun σ21 D21' N21' F21' A21' c21 s21 H' O' hD21 hN21 hS21 hA21 pm21_2 m21_2 em21_2 y21_0_1 ey21_0_1 pz21_0 pz21_1 => ⟨rfl, ?_⟩))
  replace pm21_2 := HIDm pm21_2
  replace em21_2 := HIDm em21_2
  replace ey21_0_1 := HIDm ey21_0_1
  refine v_backM (c := (c + c18)) (s := (s + s18)) H (show vsub V218_Row_Row V158_Row [8, 5, 9, 6] = true by decide +kernel) H' O' hD21 (show vmov V218_Row_Row [8, 5, 9, 6] [2] = true by decide +kernel) (fun D21 N21 F21 A21 H O' eD21 eN21 eF21 eA21 => ?_)
  have O := OUT_trans O O'
  -- Row.become
  have pf21_0_0 : HID (F21 0 0 = (D21 12 : Int)) := ((show F21 0 0 = F18 0 0 from (eF21 0 0))).trans ((pf18_0_0).trans (congrArg (fun q : Nat => (q : Int)) ((show D21 12 = D18 12 from (eD21 12))).symm))
  have pf21_0_1 : HID (F21 0 1 = (D21 5 : Int)) := ((show F21 0 1 = F18 0 1 from (eF21 0 1))).trans ((pf18_0_1).trans (congrArg (fun q : Nat => (q : Int)) ((show D21 5 = D18 5 from (eD21 5).trans (hD21 1 rfl))).symm))
  have pf21_0_2 : HID (F21 0 2 = (D21 7 : Int)) := ((show F21 0 2 = F18 0 2 from (eF21 0 2))).trans ((pf18_0_2).trans (congrArg (fun q : Nat => (q : Int)) ((show D21 7 = D18 7 from (eD21 7))).symm))
  have pf21_0_3 : HID (F21 0 3 = (D21 10 : Int)) := ((show F21 0 3 = F18 0 3 from (eF21 0 3))).trans ((pf18_0_3).trans (congrArg (fun q : Nat => (q : Int)) ((show D21 10 = D18 10 from (eD21 10))).symm))
  have pf21_1_0 : HID (F21 1 0 = (D21 3 : Int)) := ((show F21 1 0 = F18 1 0 from (eF21 1 0))).trans ((pf18_1_0).trans (congrArg (fun q : Nat => (q : Int)) ((show D21 3 = D18 3 from (eD21 3))).symm))
  have pf21_10_0 : HID (F21 10 0 = (D21 11 : Int)) := ((show F21 10 0 = F18 10 0 from (eF21 10 0))).trans ((pf18_10_0).trans (congrArg (fun q : Nat => (q : Int)) ((show D21 11 = D18 11 from (eD21 11))).symm))
  have pf21_2_0 : HID (F21 2 0 = (D21 4 : Int)) := ((show F21 2 0 = F18 2 0 from (eF21 2 0))).trans ((pf18_2_0).trans (congrArg (fun q : Nat => (q : Int)) ((show D21 4 = D18 4 from (eD21 4))).symm))
  have pf21_5_0 : HID (F21 5 0 = (D21 6 : Int)) := ((show F21 5 0 = F18 5 0 from (eF21 5 0).trans (hS21 1 0 rfl))).trans ((pf18_5_0).trans (congrArg (fun q : Nat => (q : Int)) ((show D21 6 = D18 6 from (eD21 6).trans (hD21 3 rfl))).symm))
  have pf21_7_0 : HID (F21 7 0 = (D21 8 : Int)) := ((show F21 7 0 = F18 7 0 from (eF21 7 0))).trans ((pf18_7_0).trans (congrArg (fun q : Nat => (q : Int)) ((show D21 8 = D18 8 from (eD21 8).trans (hD21 0 rfl))).symm))
  have pf21_7_1 : HID (F21 7 1 = (D21 15 : Int)) := ((show F21 7 1 = F18 7 1 from (eF21 7 1))).trans ((pf18_7_1).trans (congrArg (fun q : Nat => (q : Int)) ((show D21 15 = D18 15 from (eD21 15))).symm))
  have pf21_7_2 : HID (F21 7 2 = (D21 16 : Int)) := ((show F21 7 2 = F18 7 2 from (eF21 7 2))).trans ((pf18_7_2).trans (congrArg (fun q : Nat => (q : Int)) ((show D21 16 = D18 16 from (eD21 16))).symm))
  have pf21_7_3 : HID (F21 7 3 = (D21 17 : Int)) := ((show F21 7 3 = F18 7 3 from (eF21 7 3))).trans ((pf18_7_3).trans (congrArg (fun q : Nat => (q : Int)) ((show D21 17 = D18 17 from (eD21 17))).symm))
  have pf21_7_7 : HID (F21 7 7 = (D21 13 : Int)) := ((show F21 7 7 = F18 7 7 from (eF21 7 7))).trans ((pf18_7_7).trans (congrArg (fun q : Nat => (q : Int)) ((show D21 13 = D18 13 from (eD21 13))).symm))
  have pf21_7_8 : HID (F21 7 8 = (D21 14 : Int)) := ((show F21 7 8 = F18 7 8 from (eF21 7 8))).trans ((pf18_7_8).trans (congrArg (fun q : Nat => (q : Int)) ((show D21 14 = D18 14 from (eD21 14))).symm))
  have pf21_8_0 : HID (F21 8 0 = (D21 9 : Int)) := (eF21 8 0).trans (pm21_2.trans (congrArg (fun q : Nat => (q : Int)) (eD21 9).symm))
  have r22 : (0 : Int) ≤ m21_2 ∧ m21_2 ≤ 1000000 := by have h1 := H.nle 9 (by decide); have h2 : (N21 9 : Int) = m21_2 := (congrArg (fun q : Nat => (q : Int)) (eN21 9)).trans em21_2; omega
  have r23 : (-2147483648 : Int) ≤ y21_0_1 ∧ y21_0_1 ≤ 2147483647 := by have h1 : (-2147483648 : Int) ≤ F21 8 1 ∧ F21 8 1 ≤ 2147483647 := H.krg 8 1 (by decide); rw [show F21 8 1 = y21_0_1 from ((eF21 8 1).trans ey21_0_1)] at h1; exact h1
  refine Ew_of (pc' := 36) (fun _ => x_aload_n rfl (rk_o (rfl) rfl rfl)) ?_
  refine Ew_stk (show ([.ref (D 0)] : List Value) = [.ref (D21 0)] by rw [show D21 0 = D 0 from (((show D21 0 = D18 0 from (eD21 0))).trans ((show D18 0 = D 0 from (eD18 0).trans (hD18 0 rfl))))]) ?_
  refine v_g H (o := 0) (v := .ref (D21 7)) rfl rfl rfl rfl rfl (vrf (pf21_0_2)) ?_
  refine Ew_of (pc' := 40) (fun _ => x_aload_n rfl (rk_o (rfl) rfl rfl)) ?_
  refine Ew_stk (show ([.ref (D 0), .ref (D21 7)] : List Value) = [.ref (D21 0), .ref (D21 7)] by rw [show D21 0 = D 0 from (((show D21 0 = D18 0 from (eD21 0))).trans ((show D18 0 = D 0 from (eD18 0).trans (hD18 0 rfl))))]) ?_
  refine v_g H (o := 0) (v := .ref (D21 12)) rfl rfl rfl rfl rfl (vrf (pf21_0_0)) ?_
  refine Ew_of (pc' := 44) (fun _ => x_iconst rfl) ?_
  refine v_lI H (o := 12) rfl rfl rfl rfl (n := n12) ((congrArg (fun q : Nat => (q : Int)) (show N21 12 = N18 12 from (eN21 12))).trans ((congrArg (fun q : Nat => (q : Int)) (show N18 12 = N 12 from (eN18 12).trans (hN18 3 rfl))).trans (en12))) (show 0 ≤ 0 ∧ 0 < n12 by omega) (fun v24 ev24 qv24 => ?_)
  have ev24 : (w12) (0) = v24 := (congrFun (((show A21 12 = A18 12 from (eA21 12))).trans (((show A18 12 = A 12 from (eA18 12).trans (funext (hA18 3 rfl)))).trans (ew12))) (0)).symm.trans ev24
  refine Ew_of (pc' := 46) (fun _ => x_iconst rfl) ?_
  refine Ew_of (pc' := 48) (fun _ => x_ldc (z := 65535) rfl (by decide)) ?_
  have r25 : (-2147483648 : Int) ≤ F 7 6 ∧ F 7 6 ≤ 2147483647 := by have h1 : (-2147483648 : Int) ≤ F21 7 6 ∧ F21 7 6 ≤ 2147483647 := H.krg 7 6 (by decide); rw [show F21 7 6 = F 7 6 from (((show F21 7 6 = F18 7 6 from (eF21 7 6))).trans ((show F18 7 6 = (updF F 0 8 (v17)) 7 6 from (eF18 7 6))))] at h1; exact h1
  have r26 : (-2147483648 : Int) ≤ F 7 9 ∧ F 7 9 ≤ 2147483647 := by have h1 : (-2147483648 : Int) ≤ F21 7 9 ∧ F21 7 9 ≤ 2147483647 := H.krg 7 9 (by decide); rw [show F21 7 9 = F 7 9 from (((show F21 7 9 = F18 7 9 from (eF21 7 9))).trans ((show F18 7 9 = (updF F 0 8 (v17)) 7 9 from (eF18 7 9))))] at h1; exact h1
  have r27 : (-2147483648 : Int) ≤ F 7 10 ∧ F 7 10 ≤ 2147483647 := by have h1 : (-2147483648 : Int) ≤ F21 7 10 ∧ F21 7 10 ≤ 2147483647 := H.krg 7 10 (by decide); rw [show F21 7 10 = F 7 10 from (((show F21 7 10 = F18 7 10 from (eF21 7 10))).trans ((show F18 7 10 = (updF F 0 8 (v17)) 7 10 from (eF18 7 10))))] at h1; exact h1
  have r28 : (-2147483648 : Int) ≤ F 7 11 ∧ F 7 11 ≤ 2147483647 := by have h1 : (-2147483648 : Int) ≤ F21 7 11 ∧ F21 7 11 ≤ 2147483647 := H.krg 7 11 (by decide); rw [show F21 7 11 = F 7 11 from (((show F21 7 11 = F18 7 11 from (eF21 7 11))).trans ((show F18 7 11 = (updF F 0 8 (v17)) 7 11 from (eF18 7 11))))] at h1; exact h1
  refine v_inv H (o := 7) rfl rfl rfl rfl rfl rfl (by rfl) (C121 (D := pul [7, 13] D21) (N := pul [7, 13] N21) (HW_sub H (VS_of (show vsub V218_Row_Row V121 [7, 13] = true by decide +kernel))) (pf21_7_7) (n13) ((congrArg (fun q : Nat => (q : Int)) (show N21 13 = N18 13 from (eN21 13))).trans ((congrArg (fun q : Nat => (q : Int)) (show N18 13 = N 13 from (eN18 13))).trans (en13))) (F 7 6) ((((show F21 7 6 = F18 7 6 from (eF21 7 6))).trans ((show F18 7 6 = (updF F 0 8 (v17)) 7 6 from (eF18 7 6))))) (F 7 9) ((((show F21 7 9 = F18 7 9 from (eF21 7 9))).trans ((show F18 7 9 = (updF F 0 8 (v17)) 7 9 from (eF18 7 9))))) (F 7 10) ((((show F21 7 10 = F18 7 10 from (eF21 7 10))).trans ((show F18 7 10 = (updF F 0 8 (v17)) 7 10 from (eF18 7 10))))) (F 7 11) ((((show F21 7 11 = F18 7 11 from (eF21 7 11))).trans ((show F18 7 11 = (updF F 0 8 (v17)) 7 11 from (eF18 7 11))))) (A 13) (((show A21 13 = A18 13 from (eA21 13))).trans ((show A18 13 = A 13 from (eA18 13)))) (show inr (v24) by omega) (show inr (4) by omega) (show inr (65535) by omega) (show (n13) = 0 ∨ (n13) = 2048 by omega) (fun σ29 D29' N29' F29' A29' c29 s29 H' O' hD29 hN29 hS29 hA29 pm29_1 m29_1 em29_1 y29_0_6 ey29_0_6 y29_0_9 ey29_0_9 y29_0_10 ey29_0_10 y29_0_11 ey29_0_11 w29_1 ew29_1 pz29_0 pz29_1 pz29_2 pz29_3 => ⟨rfl, ?_⟩))
  replace pm29_1 := HIDm pm29_1
  replace em29_1 := HIDm em29_1
  replace ey29_0_6 := HIDm ey29_0_6
  replace ey29_0_9 := HIDm ey29_0_9
  replace ey29_0_10 := HIDm ey29_0_10
  replace ey29_0_11 := HIDm ey29_0_11
  refine v_backM (c := ((c + c18) + c21)) (s := ((s + s18) + s21)) H (show vsub V218_Row_Row V121 [7, 13] = true by decide +kernel) H' O' hD29 (show vmov V218_Row_Row [7, 13] [1] = true by decide +kernel) (fun D29 N29 F29 A29 H O' eD29 eN29 eF29 eA29 => ?_)
  have O := OUT_trans O O'
  -- Finder.begin
  have pf29_0_0 : HID (F29 0 0 = (D29 12 : Int)) := ((show F29 0 0 = F21 0 0 from (eF29 0 0))).trans ((pf21_0_0).trans (congrArg (fun q : Nat => (q : Int)) ((show D29 12 = D21 12 from (eD29 12))).symm))
  have pf29_0_1 : HID (F29 0 1 = (D29 5 : Int)) := ((show F29 0 1 = F21 0 1 from (eF29 0 1))).trans ((pf21_0_1).trans (congrArg (fun q : Nat => (q : Int)) ((show D29 5 = D21 5 from (eD29 5))).symm))
  have pf29_0_2 : HID (F29 0 2 = (D29 7 : Int)) := ((show F29 0 2 = F21 0 2 from (eF29 0 2))).trans ((pf21_0_2).trans (congrArg (fun q : Nat => (q : Int)) ((show D29 7 = D21 7 from (eD29 7).trans (hD29 0 rfl))).symm))
  have pf29_0_3 : HID (F29 0 3 = (D29 10 : Int)) := ((show F29 0 3 = F21 0 3 from (eF29 0 3))).trans ((pf21_0_3).trans (congrArg (fun q : Nat => (q : Int)) ((show D29 10 = D21 10 from (eD29 10))).symm))
  have pf29_1_0 : HID (F29 1 0 = (D29 3 : Int)) := ((show F29 1 0 = F21 1 0 from (eF29 1 0))).trans ((pf21_1_0).trans (congrArg (fun q : Nat => (q : Int)) ((show D29 3 = D21 3 from (eD29 3))).symm))
  have pf29_10_0 : HID (F29 10 0 = (D29 11 : Int)) := ((show F29 10 0 = F21 10 0 from (eF29 10 0))).trans ((pf21_10_0).trans (congrArg (fun q : Nat => (q : Int)) ((show D29 11 = D21 11 from (eD29 11))).symm))
  have pf29_2_0 : HID (F29 2 0 = (D29 4 : Int)) := ((show F29 2 0 = F21 2 0 from (eF29 2 0))).trans ((pf21_2_0).trans (congrArg (fun q : Nat => (q : Int)) ((show D29 4 = D21 4 from (eD29 4))).symm))
  have pf29_5_0 : HID (F29 5 0 = (D29 6 : Int)) := ((show F29 5 0 = F21 5 0 from (eF29 5 0))).trans ((pf21_5_0).trans (congrArg (fun q : Nat => (q : Int)) ((show D29 6 = D21 6 from (eD29 6))).symm))
  have pf29_7_0 : HID (F29 7 0 = (D29 8 : Int)) := ((show F29 7 0 = F21 7 0 from (eF29 7 0).trans (hS29 0 0 rfl))).trans ((pf21_7_0).trans (congrArg (fun q : Nat => (q : Int)) ((show D29 8 = D21 8 from (eD29 8))).symm))
  have pf29_7_1 : HID (F29 7 1 = (D29 15 : Int)) := ((show F29 7 1 = F21 7 1 from (eF29 7 1).trans (hS29 0 1 rfl))).trans ((pf21_7_1).trans (congrArg (fun q : Nat => (q : Int)) ((show D29 15 = D21 15 from (eD29 15))).symm))
  have pf29_7_2 : HID (F29 7 2 = (D29 16 : Int)) := ((show F29 7 2 = F21 7 2 from (eF29 7 2).trans (hS29 0 2 rfl))).trans ((pf21_7_2).trans (congrArg (fun q : Nat => (q : Int)) ((show D29 16 = D21 16 from (eD29 16))).symm))
  have pf29_7_3 : HID (F29 7 3 = (D29 17 : Int)) := ((show F29 7 3 = F21 7 3 from (eF29 7 3).trans (hS29 0 3 rfl))).trans ((pf21_7_3).trans (congrArg (fun q : Nat => (q : Int)) ((show D29 17 = D21 17 from (eD29 17))).symm))
  have pf29_7_7 : HID (F29 7 7 = (D29 13 : Int)) := (eF29 7 7).trans (pm29_1.trans (congrArg (fun q : Nat => (q : Int)) (eD29 13).symm))
  have pf29_7_8 : HID (F29 7 8 = (D29 14 : Int)) := ((show F29 7 8 = F21 7 8 from (eF29 7 8).trans (hS29 0 8 rfl))).trans ((pf21_7_8).trans (congrArg (fun q : Nat => (q : Int)) ((show D29 14 = D21 14 from (eD29 14))).symm))
  have pf29_8_0 : HID (F29 8 0 = (D29 9 : Int)) := ((show F29 8 0 = F21 8 0 from (eF29 8 0))).trans ((pf21_8_0).trans (congrArg (fun q : Nat => (q : Int)) ((show D29 9 = D21 9 from (eD29 9))).symm))
  have r30 : (0 : Int) ≤ m29_1 ∧ m29_1 ≤ 1000000 := by have h1 := H.nle 13 (by decide); have h2 : (N29 13 : Int) = m29_1 := (congrArg (fun q : Nat => (q : Int)) (eN29 13)).trans em29_1; omega
  have r31 : (-2147483648 : Int) ≤ y29_0_6 ∧ y29_0_6 ≤ 2147483647 := by have h1 : (-2147483648 : Int) ≤ F29 7 6 ∧ F29 7 6 ≤ 2147483647 := H.krg 7 6 (by decide); rw [show F29 7 6 = y29_0_6 from ((eF29 7 6).trans ey29_0_6)] at h1; exact h1
  have r32 : (-2147483648 : Int) ≤ y29_0_9 ∧ y29_0_9 ≤ 2147483647 := by have h1 : (-2147483648 : Int) ≤ F29 7 9 ∧ F29 7 9 ≤ 2147483647 := H.krg 7 9 (by decide); rw [show F29 7 9 = y29_0_9 from ((eF29 7 9).trans ey29_0_9)] at h1; exact h1
  have r33 : (-2147483648 : Int) ≤ y29_0_10 ∧ y29_0_10 ≤ 2147483647 := by have h1 : (-2147483648 : Int) ≤ F29 7 10 ∧ F29 7 10 ≤ 2147483647 := H.krg 7 10 (by decide); rw [show F29 7 10 = y29_0_10 from ((eF29 7 10).trans ey29_0_10)] at h1; exact h1
  have r34 : (-2147483648 : Int) ≤ y29_0_11 ∧ y29_0_11 ≤ 2147483647 := by have h1 : (-2147483648 : Int) ≤ F29 7 11 ∧ F29 7 11 ≤ 2147483647 := H.krg 7 11 (by decide); rw [show F29 7 11 = y29_0_11 from ((eF29 7 11).trans ey29_0_11)] at h1; exact h1
  have hb0 : BKI ((A21 9)) ((A 14)) ((y29_0_10)) ((y29_0_6)) := by rw [pz29_1]; exact BKI_0
  have hh0 : HDI ((A21 9)) ((w29_1)) ((y29_0_10)) ((y29_0_6)) := by rw [pz29_1]; exact HDI_0 pz29_3
  refine Ew_of (pc' := 52) (fun _ => x_aload_n rfl (rk_o (rfl) rfl rfl)) ?_
  refine Ew_stk (show ([.ref (D 0)] : List Value) = [.ref (D29 0)] by rw [show D29 0 = D 0 from ((((show D29 0 = D21 0 from (eD29 0))).trans ((show D21 0 = D18 0 from (eD21 0)))).trans ((show D18 0 = D 0 from (eD18 0).trans (hD18 0 rfl))))]) ?_
  refine v_g H (o := 0) (v := .ref (D29 7)) rfl rfl rfl rfl rfl (vrf (pf29_0_2)) ?_
  refine Ew_of (pc' := 56) (fun _ => x_aload_n rfl rk_s) ?_
  refine Ew_stk (show ([.ref (D18 8), .ref (D29 7)] : List Value) = [.ref (D29 8), .ref (D29 7)] by rw [show D29 8 = D18 8 from (((show D29 8 = D21 8 from (eD29 8))).trans ((show D21 8 = D18 8 from (eD21 8).trans (hD21 0 rfl))))]) ?_
  refine v_g H (o := 8) (v := I (y21_0_1)) rfl rfl rfl rfl rfl (congrArg (fun z : Int => I z) ((((show F29 8 1 = F21 8 1 from (eF29 8 1))).trans ((eF21 8 1).trans ey21_0_1)) : F29 8 1 = y21_0_1)) ?_
  refine v_inv H (o := 7) rfl rfl rfl rfl rfl rfl (by rfl) (C123 (D := pul [7, 8, 9, 14, 13] D29) (N := pul [7, 8, 9, 14, 13] N29) (HW_sub H (VS_of (show vsub V218_Row_Row V123 [7, 8, 9, 14, 13] = true by decide +kernel))) (pf29_7_0) (pf29_8_0) (pf29_7_8) (pf29_7_7) (m21_2) ((congrArg (fun q : Nat => (q : Int)) (show N29 9 = N21 9 from (eN29 9))).trans ((congrArg (fun q : Nat => (q : Int)) (eN21 9)).trans em21_2)) (n14) ((congrArg (fun q : Nat => (q : Int)) (show N29 14 = N21 14 from (eN29 14))).trans ((congrArg (fun q : Nat => (q : Int)) (show N21 14 = N18 14 from (eN21 14))).trans ((congrArg (fun q : Nat => (q : Int)) (show N18 14 = N 14 from (eN18 14))).trans (en14)))) (m29_1) ((congrArg (fun q : Nat => (q : Int)) (eN29 13)).trans em29_1) (y29_0_6) (((eF29 7 6).trans ey29_0_6)) (y29_0_10) (((eF29 7 10).trans ey29_0_10)) (y21_0_1) ((((show F29 8 1 = F21 8 1 from (eF29 8 1))).trans ((eF21 8 1).trans ey21_0_1))) (A21 9) ((show A29 9 = A21 9 from (eA29 9))) (A 14) (((show A29 14 = A21 14 from (eA29 14))).trans (((show A21 14 = A18 14 from (eA21 14))).trans ((show A18 14 = A 14 from (eA18 14))))) (w29_1) ((eA29 13).trans ew29_1) (show inr (y21_0_1) by omega) (show 0 ≤ (y21_0_1) ∧ (y21_0_1) ≤ (m21_2) ∧ (m21_2) ≤ 65536 ∧ (y21_0_1) ≤ 16384 by omega) (show 1 ≤ (y29_0_10) ∧ (y29_0_10) ≤ 8 by omega) (show 0 ≤ (y21_0_1) ∧ (y21_0_1) ≤ (y21_0_1) by omega) (show BKI ((A21 9)) ((A 14)) ((y29_0_10)) ((y29_0_6)) by assumption) (show HDI ((A21 9)) ((w29_1)) ((y29_0_10)) ((y29_0_6)) by assumption) (show (m29_1) = 2048 by omega) (show 0 ≤ (y29_0_6) ∧ (y29_0_6) ≤ (n14) ∧ (n14) ≤ 16384 by omega) (fun σ35 D35' N35' F35' A35' c35 s35 H' O' hD35 hN35 hS35 hA35 pm35_3 m35_3 em35_3 y35_0_6 ey35_0_6 w35_3 ew35_3 w35_4 ew35_4 pz35_0 pz35_1 pz35_2 pz35_3 pz35_4 => ⟨rfl, ?_⟩))
  replace pm35_3 := HIDm pm35_3
  replace em35_3 := HIDm em35_3
  replace ey35_0_6 := HIDm ey35_0_6
  refine v_backM (c := (((c + c18) + c21) + c29)) (s := (((s + s18) + s21) + s29)) H (show vsub V218_Row_Row V123 [7, 8, 9, 14, 13] = true by decide +kernel) H' O' hD35 (show vmov V218_Row_Row [7, 8, 9, 14, 13] [3] = true by decide +kernel) (fun D35 N35 F35 A35 H O' eD35 eN35 eF35 eA35 => ?_)
  have O := OUT_trans O O'
  -- Finder.lay
  have pf35_0_0 : HID (F35 0 0 = (D35 12 : Int)) := ((show F35 0 0 = F29 0 0 from (eF35 0 0))).trans ((pf29_0_0).trans (congrArg (fun q : Nat => (q : Int)) ((show D35 12 = D29 12 from (eD35 12))).symm))
  have pf35_0_1 : HID (F35 0 1 = (D35 5 : Int)) := ((show F35 0 1 = F29 0 1 from (eF35 0 1))).trans ((pf29_0_1).trans (congrArg (fun q : Nat => (q : Int)) ((show D35 5 = D29 5 from (eD35 5))).symm))
  have pf35_0_2 : HID (F35 0 2 = (D35 7 : Int)) := ((show F35 0 2 = F29 0 2 from (eF35 0 2))).trans ((pf29_0_2).trans (congrArg (fun q : Nat => (q : Int)) ((show D35 7 = D29 7 from (eD35 7).trans (hD35 0 rfl))).symm))
  have pf35_0_3 : HID (F35 0 3 = (D35 10 : Int)) := ((show F35 0 3 = F29 0 3 from (eF35 0 3))).trans ((pf29_0_3).trans (congrArg (fun q : Nat => (q : Int)) ((show D35 10 = D29 10 from (eD35 10))).symm))
  have pf35_1_0 : HID (F35 1 0 = (D35 3 : Int)) := ((show F35 1 0 = F29 1 0 from (eF35 1 0))).trans ((pf29_1_0).trans (congrArg (fun q : Nat => (q : Int)) ((show D35 3 = D29 3 from (eD35 3))).symm))
  have pf35_10_0 : HID (F35 10 0 = (D35 11 : Int)) := ((show F35 10 0 = F29 10 0 from (eF35 10 0))).trans ((pf29_10_0).trans (congrArg (fun q : Nat => (q : Int)) ((show D35 11 = D29 11 from (eD35 11))).symm))
  have pf35_2_0 : HID (F35 2 0 = (D35 4 : Int)) := ((show F35 2 0 = F29 2 0 from (eF35 2 0))).trans ((pf29_2_0).trans (congrArg (fun q : Nat => (q : Int)) ((show D35 4 = D29 4 from (eD35 4))).symm))
  have pf35_5_0 : HID (F35 5 0 = (D35 6 : Int)) := ((show F35 5 0 = F29 5 0 from (eF35 5 0))).trans ((pf29_5_0).trans (congrArg (fun q : Nat => (q : Int)) ((show D35 6 = D29 6 from (eD35 6))).symm))
  have pf35_7_0 : HID (F35 7 0 = (D35 8 : Int)) := ((show F35 7 0 = F29 7 0 from (eF35 7 0).trans (hS35 0 0 rfl))).trans ((pf29_7_0).trans (congrArg (fun q : Nat => (q : Int)) ((show D35 8 = D29 8 from (eD35 8).trans (hD35 1 rfl))).symm))
  have pf35_7_1 : HID (F35 7 1 = (D35 15 : Int)) := ((show F35 7 1 = F29 7 1 from (eF35 7 1).trans (hS35 0 1 rfl))).trans ((pf29_7_1).trans (congrArg (fun q : Nat => (q : Int)) ((show D35 15 = D29 15 from (eD35 15))).symm))
  have pf35_7_2 : HID (F35 7 2 = (D35 16 : Int)) := ((show F35 7 2 = F29 7 2 from (eF35 7 2).trans (hS35 0 2 rfl))).trans ((pf29_7_2).trans (congrArg (fun q : Nat => (q : Int)) ((show D35 16 = D29 16 from (eD35 16))).symm))
  have pf35_7_3 : HID (F35 7 3 = (D35 17 : Int)) := ((show F35 7 3 = F29 7 3 from (eF35 7 3).trans (hS35 0 3 rfl))).trans ((pf29_7_3).trans (congrArg (fun q : Nat => (q : Int)) ((show D35 17 = D29 17 from (eD35 17))).symm))
  have pf35_7_7 : HID (F35 7 7 = (D35 13 : Int)) := ((show F35 7 7 = F29 7 7 from (eF35 7 7).trans (hS35 0 7 rfl))).trans ((pf29_7_7).trans (congrArg (fun q : Nat => (q : Int)) ((show D35 13 = D29 13 from (eD35 13).trans (hD35 4 rfl))).symm))
  have pf35_7_8 : HID (F35 7 8 = (D35 14 : Int)) := (eF35 7 8).trans (pm35_3.trans (congrArg (fun q : Nat => (q : Int)) (eD35 14).symm))
  have pf35_8_0 : HID (F35 8 0 = (D35 9 : Int)) := ((show F35 8 0 = F29 8 0 from (eF35 8 0).trans (hS35 1 0 rfl))).trans ((pf29_8_0).trans (congrArg (fun q : Nat => (q : Int)) ((show D35 9 = D29 9 from (eD35 9).trans (hD35 2 rfl))).symm))
  have r36 : (0 : Int) ≤ m35_3 ∧ m35_3 ≤ 1000000 := by have h1 := H.nle 14 (by decide); have h2 : (N35 14 : Int) = m35_3 := (congrArg (fun q : Nat => (q : Int)) (eN35 14)).trans em35_3; omega
  have r37 : (-2147483648 : Int) ≤ y35_0_6 ∧ y35_0_6 ≤ 2147483647 := by have h1 : (-2147483648 : Int) ≤ F35 7 6 ∧ F35 7 6 ≤ 2147483647 := H.krg 7 6 (by decide); rw [show F35 7 6 = y35_0_6 from ((eF35 7 6).trans ey35_0_6)] at h1; exact h1
  have hld : (y35_0_6) = 0 ∨ (y35_0_6) + 4 ≤ (y21_0_1) + 1 := by omega
  try clear pz35_2
  refine Ew_of (pc' := 63) (fun _ => x_aload_n rfl (rk_o (rfl) rfl rfl)) ?_
  refine Ew_stk (show ([.ref (D 0)] : List Value) = [.ref (D35 0)] by rw [show D35 0 = D 0 from (((((show D35 0 = D29 0 from (eD35 0))).trans ((show D29 0 = D21 0 from (eD29 0)))).trans ((show D21 0 = D18 0 from (eD21 0)))).trans ((show D18 0 = D 0 from (eD18 0).trans (hD18 0 rfl))))]) ?_
  refine v_g H (o := 0) (v := .ref (D35 7)) rfl rfl rfl rfl rfl (vrf (pf35_0_2)) ?_
  refine v_g H (o := 7) (v := I (y35_0_6)) rfl rfl rfl rfl rfl (congrArg (fun z : Int => I z) (((eF35 7 6).trans ey35_0_6) : F35 7 6 = y35_0_6)) ?_
  refine Ew_of (pc' := 71) (fun _ => x_istore rfl) ?_
  refine Ew_of (pc' := 72) (fun _ => x_aload_n rfl (rk_o (rk_o (rfl) rfl rfl) rfl rfl)) ?_
  refine Ew_stk (show ([.ref (D 0)] : List Value) = [.ref (D35 0)] by rw [show D35 0 = D 0 from (((((show D35 0 = D29 0 from (eD35 0))).trans ((show D29 0 = D21 0 from (eD29 0)))).trans ((show D21 0 = D18 0 from (eD21 0)))).trans ((show D18 0 = D 0 from (eD18 0).trans (hD18 0 rfl))))]) ?_
  refine v_g H (o := 0) (v := .ref (D35 12)) rfl rfl rfl rfl rfl (vrf (pf35_0_0)) ?_
  refine Ew_of (pc' := 76) (fun _ => x_iconst rfl) ?_
  refine v_lI H (o := 12) rfl rfl rfl rfl (n := n12) ((congrArg (fun q : Nat => (q : Int)) (show N35 12 = N29 12 from (eN35 12))).trans ((congrArg (fun q : Nat => (q : Int)) (show N29 12 = N21 12 from (eN29 12))).trans ((congrArg (fun q : Nat => (q : Int)) (show N21 12 = N18 12 from (eN21 12))).trans ((congrArg (fun q : Nat => (q : Int)) (show N18 12 = N 12 from (eN18 12).trans (hN18 3 rfl))).trans (en12))))) (show 0 ≤ 2 ∧ 2 < n12 by omega) (fun v38 ev38 qv38 => ?_)
  have ev38 : (w12) (2) = v38 := (congrFun (((show A35 12 = A29 12 from (eA35 12))).trans (((show A29 12 = A21 12 from (eA29 12))).trans (((show A21 12 = A18 12 from (eA21 12))).trans (((show A18 12 = A 12 from (eA18 12).trans (funext (hA18 3 rfl)))).trans (ew12))))) (2)).symm.trans ev38
  have hs2 := ev38
  have hs3 : 1 ≤ (v38) ∧ (v38) ≤ 65536 := by omega
  refine Ew_of (pc' := 79) (fun _ => x_istore rfl) ?_
  refine Ew_of (pc' := 80) (fun _ => x_iconst rfl) ?_
  refine Ew_of (pc' := 82) (fun _ => x_istore rfl) ?_
  suffices hl82 : ∀ (m : Nat), ∀ (ls : rO) (σ : rS) (D_82 N_82 : Nat → Nat) (c_82 s_82 : Nat) (F_82 : hF) (A_82 : hA) (x82_6 : Int), rlook ls 0 = some (.ref (D_82 0)) → rlook ls 1 = some (.ref (D_82 1)) → rlook ls 2 = some (.ref (D_82 2)) → rlook ls 3 = some (.ref (D_82 8)) → rlook ls 4 = some (I (y35_0_6)) → rlook ls 5 = some (I (v38)) → rlook ls 6 = some (I (x82_6)) → HW V218_Row_Row σ D_82 N_82 F_82 A_82 → OUT (V218_Row_Row).length D N σE c s D_82 N_82 σ c_82 s_82 → SD [3, 9, 11, 14, 15, 16, 17] D35 D_82 → SD [3, 9, 11, 14, 15, 16, 17] N35 N_82 → SF [(1, 0), (1, 1), (1, 2), (7, 1), (7, 2), (7, 3), (7, 4), (7, 5), (7, 6), (7, 8), (7, 12), (7, 13), (7, 14), (7, 15), (7, 16), (7, 17), (7, 18), (8, 0), (8, 1), (8, 2), (10, 0), (10, 1), (10, 2), (10, 3), (10, 4)] F35 F_82 → SA [3, 9, 11, 13, 14, 15, 16, 17] A35 A_82 → F_82 1 0 = (D_82 3 : Int) → F_82 8 0 = (D_82 9 : Int) → F_82 10 0 = (D_82 11 : Int) → F_82 7 8 = (D_82 14 : Int) → F_82 7 1 = (D_82 15 : Int) → F_82 7 2 = (D_82 16 : Int) → F_82 7 3 = (D_82 17 : Int) → ∀ m82_3 : Int, (N_82 3 : Int) = m82_3 → ∀ m82_9 : Int, (N_82 9 : Int) = m82_9 → ∀ m82_11 : Int, (N_82 11 : Int) = m82_11 → ∀ m82_14 : Int, (N_82 14 : Int) = m82_14 → ∀ m82_15 : Int, (N_82 15 : Int) = m82_15 → ∀ m82_16 : Int, (N_82 16 : Int) = m82_16 → ∀ m82_17 : Int, (N_82 17 : Int) = m82_17 → ∀ y82_1_1 : Int, F_82 1 1 = y82_1_1 → ∀ y82_7_6 : Int, F_82 7 6 = y82_7_6 → ∀ y82_8_1 : Int, F_82 8 1 = y82_8_1 → ∀ y82_10_1 : Int, F_82 10 1 = y82_10_1 → ∀ w82_9 : Int → Int, A_82 9 = w82_9 → ∀ w82_13 : Int → Int, A_82 13 = w82_13 → ∀ w82_14 : Int → Int, A_82 14 = w82_14 → (inr (x82_6)) → (0 ≤ (y82_1_1) ∧ (y82_1_1) ≤ (m82_3) ∧ (m82_3) ≤ 65536) → (0 ≤ (x82_6) ∧ (x82_6) ≤ (u2_1) + 65536) → (0 ≤ (y82_8_1) ∧ (y82_8_1) ≤ (m82_9) ∧ (m82_9) ≤ 65536 ∧ (y82_8_1) ≤ 16384) → (0 ≤ (y82_10_1) ∧ (y82_10_1) ≤ (m82_11) ∧ (m82_11) ≤ 65536) → ((m29_1) = 2048) → (0 ≤ (y82_7_6) ∧ (y82_7_6) ≤ (m82_14) ∧ (m82_14) ≤ 16384) → ((y82_7_6) = 0 ∨ (y82_7_6) + 4 ≤ (y82_8_1) + 1) → (BKI ((w82_9)) ((w82_14)) ((y29_0_10)) ((y82_7_6))) → (HDI ((w82_9)) ((w82_13)) ((y29_0_10)) ((y82_7_6))) → ((m82_15) = (m82_16) ∧ (m82_17) = (m82_16) ∧ (m82_16) ≤ 65536 ∧ ((m82_16) = 0 ∨ 64 ≤ (m82_16)) ∧ lgq ((m82_16)) = 0) → (0 ≤ (y35_0_6) ∧ (y35_0_6) ≤ (y82_7_6)) → ((y35_0_6) = 0 ∨ (y35_0_6) + 4 ≤ (u5_1) + 1) → ((u5_1) ≤ (y82_8_1) ∧ (y82_8_1) ≤ (u5_1) + (x82_6)) → ((u2_1) + 65536 - (x82_6)).toNat = m → Ew 218 (d + 6) 82 ls [] σ c_82 s_82 Q from
    hl82 _ _ _ _ _ _ _ _ _ (0) ((rk_o (rk_o (rk_o (rk_o (rfl) rfl rfl) rfl rfl) rfl rfl) rfl rfl).trans (congrArg (fun q : Nat => some (Value.ref q)) ((((((show D35 0 = D29 0 from (eD35 0))).trans ((show D29 0 = D21 0 from (eD29 0)))).trans ((show D21 0 = D18 0 from (eD21 0)))).trans ((show D18 0 = D 0 from (eD18 0).trans (hD18 0 rfl))))).symm)) ((rk_o (rk_o (rk_o (rk_o (rfl) rfl rfl) rfl rfl) rfl rfl) rfl rfl).trans (congrArg (fun q : Nat => some (Value.ref q)) ((((((show D35 1 = D29 1 from (eD35 1))).trans ((show D29 1 = D21 1 from (eD29 1)))).trans ((show D21 1 = D18 1 from (eD21 1)))).trans ((show D18 1 = D 1 from (eD18 1).trans (hD18 1 rfl))))).symm)) ((rk_o (rk_o (rk_o (rk_o (rfl) rfl rfl) rfl rfl) rfl rfl) rfl rfl).trans (congrArg (fun q : Nat => some (Value.ref q)) ((((((show D35 2 = D29 2 from (eD35 2))).trans ((show D29 2 = D21 2 from (eD29 2)))).trans ((show D21 2 = D18 2 from (eD21 2)))).trans ((show D18 2 = D 2 from (eD18 2))))).symm)) ((rk_o (rk_o (rk_o (rk_s) rfl rfl) rfl rfl) rfl rfl).trans (congrArg (fun q : Nat => some (Value.ref q)) (((((show D35 8 = D29 8 from (eD35 8).trans (hD35 1 rfl))).trans ((show D29 8 = D21 8 from (eD29 8)))).trans ((show D21 8 = D18 8 from (eD21 8).trans (hD21 0 rfl))))).symm)) (rk_o (rk_o (rk_s) rfl rfl) rfl rfl) (rk_o (rk_s) rfl rfl) (rk_s) H O (SD_refl) (SD_refl) (SF_refl) (SA_refl) (pf35_1_0) (pf35_8_0) (pf35_10_0) (pf35_7_8) (pf35_7_1) (pf35_7_2) (pf35_7_3) (m18_2) ((congrArg (fun q : Nat => (q : Int)) (show N35 3 = N29 3 from (eN35 3))).trans ((congrArg (fun q : Nat => (q : Int)) (show N29 3 = N21 3 from (eN29 3))).trans ((congrArg (fun q : Nat => (q : Int)) (show N21 3 = N18 3 from (eN21 3))).trans ((congrArg (fun q : Nat => (q : Int)) (eN18 3)).trans em18_2)))) (m21_2) ((congrArg (fun q : Nat => (q : Int)) (show N35 9 = N29 9 from (eN35 9).trans (hN35 2 rfl))).trans ((congrArg (fun q : Nat => (q : Int)) (show N29 9 = N21 9 from (eN29 9))).trans ((congrArg (fun q : Nat => (q : Int)) (eN21 9)).trans em21_2))) (n11) ((congrArg (fun q : Nat => (q : Int)) (show N35 11 = N29 11 from (eN35 11))).trans ((congrArg (fun q : Nat => (q : Int)) (show N29 11 = N21 11 from (eN29 11))).trans ((congrArg (fun q : Nat => (q : Int)) (show N21 11 = N18 11 from (eN21 11))).trans ((congrArg (fun q : Nat => (q : Int)) (show N18 11 = N 11 from (eN18 11))).trans (en11))))) (m35_3) ((congrArg (fun q : Nat => (q : Int)) (eN35 14)).trans em35_3) (n15) ((congrArg (fun q : Nat => (q : Int)) (show N35 15 = N29 15 from (eN35 15))).trans ((congrArg (fun q : Nat => (q : Int)) (show N29 15 = N21 15 from (eN29 15))).trans ((congrArg (fun q : Nat => (q : Int)) (show N21 15 = N18 15 from (eN21 15))).trans ((congrArg (fun q : Nat => (q : Int)) (show N18 15 = N 15 from (eN18 15))).trans (en15))))) (n16) ((congrArg (fun q : Nat => (q : Int)) (show N35 16 = N29 16 from (eN35 16))).trans ((congrArg (fun q : Nat => (q : Int)) (show N29 16 = N21 16 from (eN29 16))).trans ((congrArg (fun q : Nat => (q : Int)) (show N21 16 = N18 16 from (eN21 16))).trans ((congrArg (fun q : Nat => (q : Int)) (show N18 16 = N 16 from (eN18 16))).trans (en16))))) (n17) ((congrArg (fun q : Nat => (q : Int)) (show N35 17 = N29 17 from (eN35 17))).trans ((congrArg (fun q : Nat => (q : Int)) (show N29 17 = N21 17 from (eN29 17))).trans ((congrArg (fun q : Nat => (q : Int)) (show N21 17 = N18 17 from (eN21 17))).trans ((congrArg (fun q : Nat => (q : Int)) (show N18 17 = N 17 from (eN18 17))).trans (en17))))) (y18_1_1) ((((((show F35 1 1 = F29 1 1 from (eF35 1 1))).trans ((show F29 1 1 = F21 1 1 from (eF29 1 1)))).trans ((show F21 1 1 = F18 1 1 from (eF21 1 1)))).trans ((eF18 1 1).trans ey18_1_1))) (y35_0_6) (((eF35 7 6).trans ey35_0_6)) (y21_0_1) (((((show F35 8 1 = F29 8 1 from (eF35 8 1).trans (hS35 1 1 rfl))).trans ((show F29 8 1 = F21 8 1 from (eF29 8 1)))).trans ((eF21 8 1).trans ey21_0_1))) (u10_1) (((((((show F35 10 1 = F29 10 1 from (eF35 10 1))).trans ((show F29 10 1 = F21 10 1 from (eF29 10 1)))).trans ((show F21 10 1 = F18 10 1 from (eF21 10 1)))).trans ((show F18 10 1 = (updF F 0 8 (v17)) 10 1 from (eF18 10 1)))).trans (eu10_1))) (A21 9) (((show A35 9 = A29 9 from (eA35 9).trans (funext (hA35 2 rfl)))).trans ((show A29 9 = A21 9 from (eA29 9)))) (w35_4) ((eA35 13).trans ew35_4) (w35_3) ((eA35 14).trans ew35_3) (show inr (0) by omega) (show 0 ≤ (y18_1_1) ∧ (y18_1_1) ≤ (m18_2) ∧ (m18_2) ≤ 65536 by omega) (show 0 ≤ (0) ∧ (0) ≤ (u2_1) + 65536 by omega) (show 0 ≤ (y21_0_1) ∧ (y21_0_1) ≤ (m21_2) ∧ (m21_2) ≤ 65536 ∧ (y21_0_1) ≤ 16384 by omega) (show 0 ≤ (u10_1) ∧ (u10_1) ≤ (n11) ∧ (n11) ≤ 65536 by omega) (show (m29_1) = 2048 by omega) (show 0 ≤ (y35_0_6) ∧ (y35_0_6) ≤ (m35_3) ∧ (m35_3) ≤ 16384 by omega) (show (y35_0_6) = 0 ∨ (y35_0_6) + 4 ≤ (y21_0_1) + 1 by omega) (show BKI ((A21 9)) ((w35_3)) ((y29_0_10)) ((y35_0_6)) by assumption) (show HDI ((A21 9)) ((w35_4)) ((y29_0_10)) ((y35_0_6)) by assumption) (show (n15) = (n16) ∧ (n17) = (n16) ∧ (n16) ≤ 65536 ∧ ((n16) = 0 ∨ 64 ≤ (n16)) ∧ lgq ((n16)) = 0 by omega) (show 0 ≤ (y35_0_6) ∧ (y35_0_6) ≤ (y35_0_6) by omega) (show (y35_0_6) = 0 ∨ (y35_0_6) + 4 ≤ (u5_1) + 1 by omega) (show (u5_1) ≤ (y21_0_1) ∧ (y21_0_1) ≤ (u5_1) + (0) by omega) rfl
  as_aux_lemma =>
  intro m
  induction m using Nat.strongRecOn with
  | _ m ih82 =>
    intro ls σ D_82 N_82 c_82 s_82 F_82 A_82 x82_6 l82_0 l82_1 l82_2 l82_3 l82_4 l82_5 l82_6 H O hD_82 hN_82 hS_82 hA_82 pm82_3 pm82_9 pm82_11 pm82_14 pm82_15 pm82_16 pm82_17 m82_3 em82_3 m82_9 em82_9 m82_11 em82_11 m82_14 em82_14 m82_15 em82_15 m82_16 em82_16 m82_17 em82_17 y82_1_1 ey82_1_1 y82_7_6 ey82_7_6 y82_8_1 ey82_8_1 y82_10_1 ey82_10_1 w82_9 ew82_9 w82_13 ew82_13 w82_14 ew82_14 j82_0 j82_1 j82_2 j82_3 j82_4 j82_5 j82_6 j82_7 j82_8 j82_9 j82_10 j82_11 j82_12 j82_13 hm82
    replace pm82_3 := HIDm pm82_3
    replace pm82_9 := HIDm pm82_9
    replace pm82_11 := HIDm pm82_11
    replace pm82_14 := HIDm pm82_14
    replace pm82_15 := HIDm pm82_15
    replace pm82_16 := HIDm pm82_16
    replace pm82_17 := HIDm pm82_17
    replace em82_3 := HIDm em82_3
    replace em82_9 := HIDm em82_9
    replace em82_11 := HIDm em82_11
    replace em82_14 := HIDm em82_14
    replace em82_15 := HIDm em82_15
    replace em82_16 := HIDm em82_16
    replace em82_17 := HIDm em82_17
    replace ey82_1_1 := HIDm ey82_1_1
    replace ey82_7_6 := HIDm ey82_7_6
    replace ey82_8_1 := HIDm ey82_8_1
    replace ey82_10_1 := HIDm ey82_10_1
    try clear pz35_2
    have pf_82_0_0 : HID (F_82 0 0 = (D_82 12 : Int)) := (hS_82 0 0 rfl).trans ((pf35_0_0).trans (congrArg (fun q : Nat => (q : Int)) (hD_82 12 rfl).symm))
    have pf_82_0_1 : HID (F_82 0 1 = (D_82 5 : Int)) := (hS_82 0 1 rfl).trans ((pf35_0_1).trans (congrArg (fun q : Nat => (q : Int)) (hD_82 5 rfl).symm))
    have pf_82_0_2 : HID (F_82 0 2 = (D_82 7 : Int)) := (hS_82 0 2 rfl).trans ((pf35_0_2).trans (congrArg (fun q : Nat => (q : Int)) (hD_82 7 rfl).symm))
    have pf_82_0_3 : HID (F_82 0 3 = (D_82 10 : Int)) := (hS_82 0 3 rfl).trans ((pf35_0_3).trans (congrArg (fun q : Nat => (q : Int)) (hD_82 10 rfl).symm))
    have pf_82_2_0 : HID (F_82 2 0 = (D_82 4 : Int)) := (hS_82 2 0 rfl).trans ((pf35_2_0).trans (congrArg (fun q : Nat => (q : Int)) (hD_82 4 rfl).symm))
    have pf_82_5_0 : HID (F_82 5 0 = (D_82 6 : Int)) := (hS_82 5 0 rfl).trans ((pf35_5_0).trans (congrArg (fun q : Nat => (q : Int)) (hD_82 6 rfl).symm))
    have pf_82_7_0 : HID (F_82 7 0 = (D_82 8 : Int)) := (hS_82 7 0 rfl).trans ((pf35_7_0).trans (congrArg (fun q : Nat => (q : Int)) (hD_82 8 rfl).symm))
    have pf_82_7_7 : HID (F_82 7 7 = (D_82 13 : Int)) := (hS_82 7 7 rfl).trans ((pf35_7_7).trans (congrArg (fun q : Nat => (q : Int)) (hD_82 13 rfl).symm))
    have r39 : (0 : Int) ≤ m82_3 ∧ m82_3 ≤ 1000000 := by have h1 := H.nle 3 (by decide); have h2 : (N_82 3 : Int) = m82_3 := em82_3; omega
    have r40 : (0 : Int) ≤ m82_9 ∧ m82_9 ≤ 1000000 := by have h1 := H.nle 9 (by decide); have h2 : (N_82 9 : Int) = m82_9 := em82_9; omega
    have r41 : (0 : Int) ≤ m82_11 ∧ m82_11 ≤ 1000000 := by have h1 := H.nle 11 (by decide); have h2 : (N_82 11 : Int) = m82_11 := em82_11; omega
    have r42 : (0 : Int) ≤ m82_14 ∧ m82_14 ≤ 1000000 := by have h1 := H.nle 14 (by decide); have h2 : (N_82 14 : Int) = m82_14 := em82_14; omega
    have r43 : (0 : Int) ≤ m82_15 ∧ m82_15 ≤ 1000000 := by have h1 := H.nle 15 (by decide); have h2 : (N_82 15 : Int) = m82_15 := em82_15; omega
    have r44 : (0 : Int) ≤ m82_16 ∧ m82_16 ≤ 1000000 := by have h1 := H.nle 16 (by decide); have h2 : (N_82 16 : Int) = m82_16 := em82_16; omega
    have r45 : (0 : Int) ≤ m82_17 ∧ m82_17 ≤ 1000000 := by have h1 := H.nle 17 (by decide); have h2 : (N_82 17 : Int) = m82_17 := em82_17; omega
    have r46 : (-2147483648 : Int) ≤ y82_1_1 ∧ y82_1_1 ≤ 2147483647 := by have h1 : (-2147483648 : Int) ≤ F_82 1 1 ∧ F_82 1 1 ≤ 2147483647 := H.krg 1 1 (by decide); rw [show F_82 1 1 = y82_1_1 from (ey82_1_1)] at h1; exact h1
    have r47 : (-2147483648 : Int) ≤ y82_7_6 ∧ y82_7_6 ≤ 2147483647 := by have h1 : (-2147483648 : Int) ≤ F_82 7 6 ∧ F_82 7 6 ≤ 2147483647 := H.krg 7 6 (by decide); rw [show F_82 7 6 = y82_7_6 from (ey82_7_6)] at h1; exact h1
    have r48 : (-2147483648 : Int) ≤ y82_8_1 ∧ y82_8_1 ≤ 2147483647 := by have h1 : (-2147483648 : Int) ≤ F_82 8 1 ∧ F_82 8 1 ≤ 2147483647 := H.krg 8 1 (by decide); rw [show F_82 8 1 = y82_8_1 from (ey82_8_1)] at h1; exact h1
    have r49 : (-2147483648 : Int) ≤ y82_10_1 ∧ y82_10_1 ≤ 2147483647 := by have h1 : (-2147483648 : Int) ≤ F_82 10 1 ∧ F_82 10 1 ≤ 2147483647 := H.krg 10 1 (by decide); rw [show F_82 10 1 = y82_10_1 from (ey82_10_1)] at h1; exact h1
    refine Ew_of (pc' := 84) (fun _ => x_iload rfl l82_5) ?_
    have hc242 : ∀ (ls : rO) (σ : rS) (F_c242 : hF) (A_c242 : hA) , rlook ls 0 = some (.ref (D_82 0)) → rlook ls 1 = some (.ref (D_82 1)) → rlook ls 2 = some (.ref (D_82 2)) → HW V218_Row_Row σ D_82 N_82 F_c242 A_c242 → OUT (V218_Row_Row).length D N σE c s D_82 N_82 σ c_82 s_82 → SF [] F_82 F_c242 → SA [] A_82 A_c242 → (((v38) ≤ (0)) ∨ ((v38) > (0) ∧ (x82_6) ≥ (u2_1)) ∨ ((v38) > (0) ∧ (x82_6) < (u2_1) ∧ 0 ≤ (F_82 1 2) ∧ (F_82 1 2) ≤ 1 ∧ (F_82 1 2) ≠ (0))) → Ew 218 (d + 6) 242 ls [] σ c_82 s_82 Q := by
     as_aux_lemma =>
      intro  ls σ F_c242 A_c242  lc242_0 lc242_1 lc242_2 H O hS_c242 hA_c242     jc242_0
      refine Ew_of (pc' := 243) (fun _ => x_aload_n rfl lc242_1) ?_
      refine Ew_of (pc' := 244) (fun _ => x_lconst (z := 0) rfl (by decide)) ?_
      refine Ew_of (pc' := 245) (fun _ => x_iconst rfl) ?_
      refine v_inv H (o := 1) rfl rfl rfl rfl rfl rfl (by rfl) (C160 (D := pul [1, 3] D_82) (N := pul [1, 3] N_82) (HW_sub H (VS_of (show vsub V218_Row_Row V160 [1, 3] = true by decide +kernel))) (((hS_c242 1 0 rfl)).trans (pm82_3)) (m82_3) (em82_3) (y82_1_1) (((hS_c242 1 1 rfl).trans (ey82_1_1))) (show inrJ (0) by omega) (show inr (4) by omega) (show 0 ≤ (y82_1_1) ∧ (y82_1_1) ≤ (m82_3) ∧ (m82_3) ≤ 65536 by omega) (fun σ50 D50' N50' F50' A50' c50 s50 H' O' hD50 hN50 hS50 hA50 pm50_1 m50_1 em50_1 y50_0_1 ey50_0_1 pz50_0 pz50_1 => ⟨rfl, ?_⟩))
      replace pm50_1 := HIDm pm50_1
      replace em50_1 := HIDm em50_1
      replace ey50_0_1 := HIDm ey50_0_1
      refine v_backM (c := c_82) (s := s_82) H (show vsub V218_Row_Row V160 [1, 3] = true by decide +kernel) H' O' hD50 (show vmov V218_Row_Row [1, 3] [1] = true by decide +kernel) (fun D50 N50 F50 A50 H O' eD50 eN50 eF50 eA50 => ?_)
      have O := OUT_trans O O'
      -- Row.addNumber
      have pf50_0_0 : HID (F50 0 0 = (D50 12 : Int)) := ((show F50 0 0 = F_c242 0 0 from (eF50 0 0))).trans ((((hS_c242 0 0 rfl)).trans (pf_82_0_0)).trans (congrArg (fun q : Nat => (q : Int)) ((show D50 12 = D_82 12 from (eD50 12))).symm))
      have pf50_0_1 : HID (F50 0 1 = (D50 5 : Int)) := ((show F50 0 1 = F_c242 0 1 from (eF50 0 1))).trans ((((hS_c242 0 1 rfl)).trans (pf_82_0_1)).trans (congrArg (fun q : Nat => (q : Int)) ((show D50 5 = D_82 5 from (eD50 5))).symm))
      have pf50_0_2 : HID (F50 0 2 = (D50 7 : Int)) := ((show F50 0 2 = F_c242 0 2 from (eF50 0 2))).trans ((((hS_c242 0 2 rfl)).trans (pf_82_0_2)).trans (congrArg (fun q : Nat => (q : Int)) ((show D50 7 = D_82 7 from (eD50 7))).symm))
      have pf50_0_3 : HID (F50 0 3 = (D50 10 : Int)) := ((show F50 0 3 = F_c242 0 3 from (eF50 0 3))).trans ((((hS_c242 0 3 rfl)).trans (pf_82_0_3)).trans (congrArg (fun q : Nat => (q : Int)) ((show D50 10 = D_82 10 from (eD50 10))).symm))
      have pf50_1_0 : HID (F50 1 0 = (D50 3 : Int)) := (eF50 1 0).trans (pm50_1.trans (congrArg (fun q : Nat => (q : Int)) (eD50 3).symm))
      have pf50_10_0 : HID (F50 10 0 = (D50 11 : Int)) := ((show F50 10 0 = F_c242 10 0 from (eF50 10 0))).trans ((((hS_c242 10 0 rfl)).trans (pm82_11)).trans (congrArg (fun q : Nat => (q : Int)) ((show D50 11 = D_82 11 from (eD50 11))).symm))
      have pf50_2_0 : HID (F50 2 0 = (D50 4 : Int)) := ((show F50 2 0 = F_c242 2 0 from (eF50 2 0))).trans ((((hS_c242 2 0 rfl)).trans (pf_82_2_0)).trans (congrArg (fun q : Nat => (q : Int)) ((show D50 4 = D_82 4 from (eD50 4))).symm))
      have pf50_5_0 : HID (F50 5 0 = (D50 6 : Int)) := ((show F50 5 0 = F_c242 5 0 from (eF50 5 0))).trans ((((hS_c242 5 0 rfl)).trans (pf_82_5_0)).trans (congrArg (fun q : Nat => (q : Int)) ((show D50 6 = D_82 6 from (eD50 6))).symm))
      have pf50_7_0 : HID (F50 7 0 = (D50 8 : Int)) := ((show F50 7 0 = F_c242 7 0 from (eF50 7 0))).trans ((((hS_c242 7 0 rfl)).trans (pf_82_7_0)).trans (congrArg (fun q : Nat => (q : Int)) ((show D50 8 = D_82 8 from (eD50 8))).symm))
      have pf50_7_1 : HID (F50 7 1 = (D50 15 : Int)) := ((show F50 7 1 = F_c242 7 1 from (eF50 7 1))).trans ((((hS_c242 7 1 rfl)).trans (pm82_15)).trans (congrArg (fun q : Nat => (q : Int)) ((show D50 15 = D_82 15 from (eD50 15))).symm))
      have pf50_7_2 : HID (F50 7 2 = (D50 16 : Int)) := ((show F50 7 2 = F_c242 7 2 from (eF50 7 2))).trans ((((hS_c242 7 2 rfl)).trans (pm82_16)).trans (congrArg (fun q : Nat => (q : Int)) ((show D50 16 = D_82 16 from (eD50 16))).symm))
      have pf50_7_3 : HID (F50 7 3 = (D50 17 : Int)) := ((show F50 7 3 = F_c242 7 3 from (eF50 7 3))).trans ((((hS_c242 7 3 rfl)).trans (pm82_17)).trans (congrArg (fun q : Nat => (q : Int)) ((show D50 17 = D_82 17 from (eD50 17))).symm))
      have pf50_7_7 : HID (F50 7 7 = (D50 13 : Int)) := ((show F50 7 7 = F_c242 7 7 from (eF50 7 7))).trans ((((hS_c242 7 7 rfl)).trans (pf_82_7_7)).trans (congrArg (fun q : Nat => (q : Int)) ((show D50 13 = D_82 13 from (eD50 13))).symm))
      have pf50_7_8 : HID (F50 7 8 = (D50 14 : Int)) := ((show F50 7 8 = F_c242 7 8 from (eF50 7 8))).trans ((((hS_c242 7 8 rfl)).trans (pm82_14)).trans (congrArg (fun q : Nat => (q : Int)) ((show D50 14 = D_82 14 from (eD50 14))).symm))
      have pf50_8_0 : HID (F50 8 0 = (D50 9 : Int)) := ((show F50 8 0 = F_c242 8 0 from (eF50 8 0))).trans ((((hS_c242 8 0 rfl)).trans (pm82_9)).trans (congrArg (fun q : Nat => (q : Int)) ((show D50 9 = D_82 9 from (eD50 9))).symm))
      have r51 : (0 : Int) ≤ m50_1 ∧ m50_1 ≤ 1000000 := by have h1 := H.nle 3 (by decide); have h2 : (N50 3 : Int) = m50_1 := (congrArg (fun q : Nat => (q : Int)) (eN50 3)).trans em50_1; omega
      have r52 : (-2147483648 : Int) ≤ y50_0_1 ∧ y50_0_1 ≤ 2147483647 := by have h1 : (-2147483648 : Int) ≤ F50 1 1 ∧ F50 1 1 ≤ 2147483647 := H.krg 1 1 (by decide); rw [show F50 1 1 = y50_0_1 from ((eF50 1 1).trans ey50_0_1)] at h1; exact h1
      have hc276 : ∀ (ls : rO) (σ : rS) (D_c276 N_c276 : Nat → Nat) (c_c276 s_c276 : Nat) (F_c276 : hF) (A_c276 : hA) , HW V218_Row_Row σ D_c276 N_c276 F_c276 A_c276 → OUT (V218_Row_Row).length D N σE c s D_c276 N_c276 σ c_c276 s_c276 → SD [3] D50 D_c276 → SD [3] N50 N_c276 → SF [(1, 0), (1, 1), (1, 2)] F50 F_c276 → SA [3] A50 A_c276 → F_c276 1 0 = (D_c276 3 : Int) → ∀ mc276_3 : Int, (N_c276 3 : Int) = mc276_3 → ∀ yc276_1_1 : Int, F_c276 1 1 = yc276_1_1 → (0 ≤ (yc276_1_1) ∧ (yc276_1_1) ≤ (mc276_3) ∧ (mc276_3) ≤ 65536) → Ew 218 (d + 6) 276 ls [] σ c_c276 s_c276 Q := by
       as_aux_lemma =>
        intro  ls σ D_c276 N_c276 c_c276 s_c276 F_c276 A_c276   H O hD_c276 hN_c276 hS_c276 hA_c276 pmc276_3 mc276_3 emc276_3 yc276_1_1 eyc276_1_1  jc276_0
        replace pmc276_3 := HIDm pmc276_3
        replace emc276_3 := HIDm emc276_3
        replace eyc276_1_1 := HIDm eyc276_1_1
        try clear pz50_1
        have pf_c276_0_0 : HID (F_c276 0 0 = (D_c276 12 : Int)) := (hS_c276 0 0 rfl).trans ((pf50_0_0).trans (congrArg (fun q : Nat => (q : Int)) (hD_c276 12 rfl).symm))
        have pf_c276_0_1 : HID (F_c276 0 1 = (D_c276 5 : Int)) := (hS_c276 0 1 rfl).trans ((pf50_0_1).trans (congrArg (fun q : Nat => (q : Int)) (hD_c276 5 rfl).symm))
        have pf_c276_0_2 : HID (F_c276 0 2 = (D_c276 7 : Int)) := (hS_c276 0 2 rfl).trans ((pf50_0_2).trans (congrArg (fun q : Nat => (q : Int)) (hD_c276 7 rfl).symm))
        have pf_c276_0_3 : HID (F_c276 0 3 = (D_c276 10 : Int)) := (hS_c276 0 3 rfl).trans ((pf50_0_3).trans (congrArg (fun q : Nat => (q : Int)) (hD_c276 10 rfl).symm))
        have pf_c276_10_0 : HID (F_c276 10 0 = (D_c276 11 : Int)) := (hS_c276 10 0 rfl).trans ((pf50_10_0).trans (congrArg (fun q : Nat => (q : Int)) (hD_c276 11 rfl).symm))
        have pf_c276_2_0 : HID (F_c276 2 0 = (D_c276 4 : Int)) := (hS_c276 2 0 rfl).trans ((pf50_2_0).trans (congrArg (fun q : Nat => (q : Int)) (hD_c276 4 rfl).symm))
        have pf_c276_5_0 : HID (F_c276 5 0 = (D_c276 6 : Int)) := (hS_c276 5 0 rfl).trans ((pf50_5_0).trans (congrArg (fun q : Nat => (q : Int)) (hD_c276 6 rfl).symm))
        have pf_c276_7_0 : HID (F_c276 7 0 = (D_c276 8 : Int)) := (hS_c276 7 0 rfl).trans ((pf50_7_0).trans (congrArg (fun q : Nat => (q : Int)) (hD_c276 8 rfl).symm))
        have pf_c276_7_1 : HID (F_c276 7 1 = (D_c276 15 : Int)) := (hS_c276 7 1 rfl).trans ((pf50_7_1).trans (congrArg (fun q : Nat => (q : Int)) (hD_c276 15 rfl).symm))
        have pf_c276_7_2 : HID (F_c276 7 2 = (D_c276 16 : Int)) := (hS_c276 7 2 rfl).trans ((pf50_7_2).trans (congrArg (fun q : Nat => (q : Int)) (hD_c276 16 rfl).symm))
        have pf_c276_7_3 : HID (F_c276 7 3 = (D_c276 17 : Int)) := (hS_c276 7 3 rfl).trans ((pf50_7_3).trans (congrArg (fun q : Nat => (q : Int)) (hD_c276 17 rfl).symm))
        have pf_c276_7_7 : HID (F_c276 7 7 = (D_c276 13 : Int)) := (hS_c276 7 7 rfl).trans ((pf50_7_7).trans (congrArg (fun q : Nat => (q : Int)) (hD_c276 13 rfl).symm))
        have pf_c276_7_8 : HID (F_c276 7 8 = (D_c276 14 : Int)) := (hS_c276 7 8 rfl).trans ((pf50_7_8).trans (congrArg (fun q : Nat => (q : Int)) (hD_c276 14 rfl).symm))
        have pf_c276_8_0 : HID (F_c276 8 0 = (D_c276 9 : Int)) := (hS_c276 8 0 rfl).trans ((pf50_8_0).trans (congrArg (fun q : Nat => (q : Int)) (hD_c276 9 rfl).symm))
        have r53 : (0 : Int) ≤ mc276_3 ∧ mc276_3 ≤ 1000000 := by have h1 := H.nle 3 (by decide); have h2 : (N_c276 3 : Int) = mc276_3 := emc276_3; omega
        have r54 : (-2147483648 : Int) ≤ yc276_1_1 ∧ yc276_1_1 ≤ 2147483647 := by have h1 : (-2147483648 : Int) ≤ F_c276 1 1 ∧ F_c276 1 1 ≤ 2147483647 := H.krg 1 1 (by decide); rw [show F_c276 1 1 = yc276_1_1 from (eyc276_1_1)] at h1; exact h1
        try clear pz50_1
        exact w_ret rfl (k _ _ _ _ _ _ _ H O (SD_trans (SD_trans (SD_trans (SD_trans (SD_trans (SD_trans (SD_trans (SD_refl) (SD_glu (ι := [0, 1, 3, 12]) hD18 eD18 (by decide +kernel)) (any_subA (l' := [3]) rfl)) (SD_glu (ι := [8, 5, 9, 6]) hD21 eD21 (by decide +kernel)) (any_subA (l' := [9]) rfl)) (SD_glu (ι := [7, 13]) hD29 eD29 (by decide +kernel)) (any_subA (l' := [13]) rfl)) (SD_glu (ι := [7, 8, 9, 14, 13]) hD35 eD35 (by decide +kernel)) (any_subA (l' := [14]) rfl)) hD_82 (any_subA rfl)) (SD_glu (ι := [1, 3]) hD50 eD50 (by decide +kernel)) (any_subA (l' := [3]) rfl)) hD_c276 (any_subA rfl)) (SD_trans (SD_trans (SD_trans (SD_trans (SD_trans (SD_trans (SD_trans (SD_refl) (SD_glu (ι := [0, 1, 3, 12]) hN18 eN18 (by decide +kernel)) (any_subA (l' := [3]) rfl)) (SD_glu (ι := [8, 5, 9, 6]) hN21 eN21 (by decide +kernel)) (any_subA (l' := [9]) rfl)) (SD_glu (ι := [7, 13]) hN29 eN29 (by decide +kernel)) (any_subA (l' := [13]) rfl)) (SD_glu (ι := [7, 8, 9, 14, 13]) hN35 eN35 (by decide +kernel)) (any_subA (l' := [14]) rfl)) hN_82 (any_subA rfl)) (SD_glu (ι := [1, 3]) hN50 eN50 (by decide +kernel)) (any_subA (l' := [3]) rfl)) hN_c276 (any_subA rfl)) (SF_trans (SF_trans (SF_trans (SF_trans (SF_trans (SF_trans (SF_trans (SF_trans (SF_upd (SF_refl) rfl) (SF_glu (ι := [0, 1, 3, 12]) hS18 eF18 (by decide +kernel)) (any_sub (l' := [(1, 0), (1, 1), (1, 2)]) rfl)) (SF_glu (ι := [8, 5, 9, 6]) hS21 eF21 (by decide +kernel)) (any_sub (l' := [(8, 0), (8, 1), (8, 2), (8, 3), (8, 4)]) rfl)) (SF_glu (ι := [7, 13]) hS29 eF29 (by decide +kernel)) (any_sub (l' := [(7, 6), (7, 7), (7, 9), (7, 10), (7, 11)]) rfl)) (SF_glu (ι := [7, 8, 9, 14, 13]) hS35 eF35 (by decide +kernel)) (any_sub (l' := [(7, 6), (7, 8)]) rfl)) hS_82 (any_sub rfl)) hS_c242 (any_sub rfl)) (SF_glu (ι := [1, 3]) hS50 eF50 (by decide +kernel)) (any_sub (l' := [(1, 0), (1, 1), (1, 2)]) rfl)) hS_c276 (any_sub rfl)) (SA_trans (SA_trans (SA_trans (SA_trans (SA_trans (SA_trans (SA_trans (SA_trans (SA_refl) (SA_glu (ι := [0, 1, 3, 12]) hA18 eA18 (by decide +kernel)) (any_subA (l' := [3]) rfl)) (SA_glu (ι := [8, 5, 9, 6]) hA21 eA21 (by decide +kernel)) (any_subA (l' := [9]) rfl)) (SA_glu (ι := [7, 13]) hA29 eA29 (by decide +kernel)) (any_subA (l' := [13]) rfl)) (SA_glu (ι := [7, 8, 9, 14, 13]) hA35 eA35 (by decide +kernel)) (any_subA (l' := [13, 14]) rfl)) hA_82 (any_subA rfl)) hA_c242 (any_subA rfl)) (SA_glu (ι := [1, 3]) hA50 eA50 (by decide +kernel)) (any_subA (l' := [3]) rfl)) hA_c276 (any_subA rfl)) (pmc276_3) (pf_c276_8_0) (pf_c276_10_0) (pf_c276_7_7) (pf_c276_7_8) (pf_c276_7_1) (pf_c276_7_2) (pf_c276_7_3) (mc276_3) (emc276_3) (m82_9) ((congrArg (fun q : Nat => (q : Int)) (hN_c276 9 rfl)).trans ((congrArg (fun q : Nat => (q : Int)) (show N50 9 = N_82 9 from (eN50 9))).trans (em82_9))) (m82_11) ((congrArg (fun q : Nat => (q : Int)) (hN_c276 11 rfl)).trans ((congrArg (fun q : Nat => (q : Int)) (show N50 11 = N_82 11 from (eN50 11))).trans (em82_11))) (m29_1) ((congrArg (fun q : Nat => (q : Int)) (hN_c276 13 rfl)).trans ((congrArg (fun q : Nat => (q : Int)) (show N50 13 = N_82 13 from (eN50 13))).trans ((congrArg (fun q : Nat => (q : Int)) (hN_82 13 rfl)).trans ((congrArg (fun q : Nat => (q : Int)) (show N35 13 = N29 13 from (eN35 13).trans (hN35 4 rfl))).trans ((congrArg (fun q : Nat => (q : Int)) (eN29 13)).trans em29_1))))) (m82_14) ((congrArg (fun q : Nat => (q : Int)) (hN_c276 14 rfl)).trans ((congrArg (fun q : Nat => (q : Int)) (show N50 14 = N_82 14 from (eN50 14))).trans (em82_14))) (m82_15) ((congrArg (fun q : Nat => (q : Int)) (hN_c276 15 rfl)).trans ((congrArg (fun q : Nat => (q : Int)) (show N50 15 = N_82 15 from (eN50 15))).trans (em82_15))) (m82_16) ((congrArg (fun q : Nat => (q : Int)) (hN_c276 16 rfl)).trans ((congrArg (fun q : Nat => (q : Int)) (show N50 16 = N_82 16 from (eN50 16))).trans (em82_16))) (m82_17) ((congrArg (fun q : Nat => (q : Int)) (hN_c276 17 rfl)).trans ((congrArg (fun q : Nat => (q : Int)) (show N50 17 = N_82 17 from (eN50 17))).trans (em82_17))) (yc276_1_1) ((eyc276_1_1)) (y82_8_1) (((((hS_c276 8 1 rfl).trans ((show F50 8 1 = F_c242 8 1 from (eF50 8 1)))).trans (hS_c242 8 1 rfl)).trans (ey82_8_1))) (y82_10_1) (((((hS_c276 10 1 rfl).trans ((show F50 10 1 = F_c242 10 1 from (eF50 10 1)))).trans (hS_c242 10 1 rfl)).trans (ey82_10_1))) (show 0 ≤ (yc276_1_1) ∧ (yc276_1_1) ≤ (mc276_3) ∧ (mc276_3) ≤ 65536 by omega) (show 0 ≤ (y82_8_1) ∧ (y82_8_1) ≤ (m82_9) ∧ (m82_9) ≤ 65536 by omega) (show 0 ≤ (y82_10_1) ∧ (y82_10_1) ≤ (m82_11) ∧ (m82_11) ≤ 65536 by omega) (show (m29_1) = 0 ∨ (m29_1) = 2048 by omega) (show (m82_14) ≤ 16384 by omega) (show (m82_15) = (m82_16) ∧ (m82_17) = (m82_16) ∧ (m82_16) ≤ 65536 ∧ ((m82_16) = 0 ∨ 64 ≤ (m82_16)) ∧ lgq ((m82_16)) = 0 by omega))
      try clear pz50_1
      refine Ew_of (pc' := 249) (fun _ => x_aload_n rfl lc242_0) ?_
      refine Ew_stk (show ([.ref (D_82 0)] : List Value) = [.ref (D50 0)] by rw [show D50 0 = D_82 0 from ((show D50 0 = D_82 0 from (eD50 0)))]) ?_
      refine v_g H (o := 0) (v := I (v17)) rfl rfl rfl rfl rfl (congrArg (fun z : Int => I z) (((((((((show F50 0 8 = F_c242 0 8 from (eF50 0 8))).trans (hS_c242 0 8 rfl)).trans (hS_82 0 8 rfl)).trans ((show F35 0 8 = F29 0 8 from (eF35 0 8)))).trans ((show F29 0 8 = F21 0 8 from (eF29 0 8)))).trans ((show F21 0 8 = F18 0 8 from (eF21 0 8)))).trans ((show F18 0 8 = (updF F 0 8 (v17)) 0 8 from (eF18 0 8).trans (hS18 0 8 rfl)))) : F50 0 8 = v17)) ?_
      refine Ew_of (pc' := 253) (fun _ => x_iconst rfl) ?_
      refine w_iand rfl (show inr (v17) by omega) (show inr (4) by omega) (fun z55 gz55 gaz55 gbz55 => ?_)
      refine w_ifeq (t := 276) rfl rfl (show inr (z55) by omega) (fun b56 => ?_) (fun b56 => ?_)
      · exact hc276  _ _ _ _ _ _ _ _   H O (SD_refl) (SD_refl) (SF_refl) (SA_refl) (pf50_1_0) (m50_1) ((congrArg (fun q : Nat => (q : Int)) (eN50 3)).trans em50_1) (y50_0_1) (((eF50 1 1).trans ey50_0_1))  (show 0 ≤ (y50_0_1) ∧ (y50_0_1) ≤ (m50_1) ∧ (m50_1) ≤ 65536 by omega)
      · refine Ew_of (pc' := 258) (fun _ => x_aload_n rfl lc242_1) ?_
        refine Ew_of (pc' := 259) (fun _ => x_aload_n rfl lc242_2) ?_
        refine Ew_stk (show ([.ref (D_82 2), .ref (D_82 1)] : List Value) = [.ref (D50 2), .ref (D50 1)] by rw [show D50 1 = D_82 1 from ((show D50 1 = D_82 1 from (eD50 1).trans (hD50 0 rfl))), show D50 2 = D_82 2 from ((show D50 2 = D_82 2 from (eD50 2)))]) ?_
        refine v_g H (o := 2) (v := .ref (D50 4)) rfl rfl rfl rfl rfl (vrf (pf50_2_0)) ?_
        refine Ew_of (pc' := 263) (fun _ => x_iconst rfl) ?_
        refine Ew_of (pc' := 264) (fun _ => x_aload_n rfl lc242_2) ?_
        refine Ew_stk (show ([.ref (D_82 2), I (0), .ref (D50 4), .ref (D50 1)] : List Value) = [.ref (D50 2), I (0), .ref (D50 4), .ref (D50 1)] by rw [show D50 2 = D_82 2 from ((show D50 2 = D_82 2 from (eD50 2)))]) ?_
        refine v_g H (o := 2) (v := I (u2_1)) rfl rfl rfl rfl rfl (congrArg (fun z : Int => I z) ((((((((((show F50 2 1 = F_c242 2 1 from (eF50 2 1))).trans (hS_c242 2 1 rfl)).trans (hS_82 2 1 rfl)).trans ((show F35 2 1 = F29 2 1 from (eF35 2 1)))).trans ((show F29 2 1 = F21 2 1 from (eF29 2 1)))).trans ((show F21 2 1 = F18 2 1 from (eF21 2 1)))).trans ((show F18 2 1 = (updF F 0 8 (v17)) 2 1 from (eF18 2 1)))).trans (eu2_1)) : F50 2 1 = u2_1)) ?_
        refine Ew_of (pc' := 268) (fun _ => x_iconst rfl) ?_
        refine w_stat25 rfl rfl (by rfl) (C49_Br (D := pul [4] D50) (N := pul [4] N50) (HW_sub H (VS_of (show vsub V218_Row_Row V49_Br [4] = true by decide +kernel))) (n4) ((congrArg (fun q : Nat => (q : Int)) (show N50 4 = N_82 4 from (eN50 4))).trans ((congrArg (fun q : Nat => (q : Int)) (hN_82 4 rfl)).trans ((congrArg (fun q : Nat => (q : Int)) (show N35 4 = N29 4 from (eN35 4))).trans ((congrArg (fun q : Nat => (q : Int)) (show N29 4 = N21 4 from (eN29 4))).trans ((congrArg (fun q : Nat => (q : Int)) (show N21 4 = N18 4 from (eN21 4))).trans ((congrArg (fun q : Nat => (q : Int)) (show N18 4 = N 4 from (eN18 4))).trans (en4))))))) (show inr (0) by omega) (show inr (u2_1) by omega) (show inr (0) by omega) (show 0 ≤ (0) ∧ (0) ≤ (u2_1) ∧ (u2_1) ≤ (n4) by omega) (fun z57 σ57 F57' A57' H' O' hS57 hA57 pz57_0 => ⟨rfl, ?_⟩))
        refine v_back (c := (c_82 + c50)) (s := (s_82 + s50)) H (show vsub V218_Row_Row V49_Br [4] = true by decide +kernel) H' O' (fun F57 A57 H O' eF57 eA57 => ?_)
        have O := OUT_trans O O'
        -- PackHouse.narrowSum
        refine w_i2l rfl (show inr (z57) by omega) ?_
        refine Ew_of (pc' := 273) (fun _ => x_iconst rfl) ?_
        refine v_inv H (o := 1) rfl rfl rfl rfl rfl rfl (by rfl) (C160 (D := pul [1, 3] D50) (N := pul [1, 3] N50) (HW_sub H (VS_of (show vsub V218_Row_Row V160 [1, 3] = true by decide +kernel))) ((((show F57 1 0 = F50 1 0 from (eF57 1 0)))).trans (pf50_1_0)) (m50_1) ((congrArg (fun q : Nat => (q : Int)) (eN50 3)).trans em50_1) (y50_0_1) ((((show F57 1 1 = F50 1 1 from (eF57 1 1))).trans ((eF50 1 1).trans ey50_0_1))) (show inrJ (z57) by omega) (show inr (4) by omega) (show 0 ≤ (y50_0_1) ∧ (y50_0_1) ≤ (m50_1) ∧ (m50_1) ≤ 65536 by omega) (fun σ58 D58' N58' F58' A58' c58 s58 H' O' hD58 hN58 hS58 hA58 pm58_1 m58_1 em58_1 y58_0_1 ey58_0_1 pz58_0 pz58_1 => ⟨rfl, ?_⟩))
        replace pm58_1 := HIDm pm58_1
        replace em58_1 := HIDm em58_1
        replace ey58_0_1 := HIDm ey58_0_1
        refine v_backM (c := (c_82 + c50)) (s := (s_82 + s50)) H (show vsub V218_Row_Row V160 [1, 3] = true by decide +kernel) H' O' hD58 (show vmov V218_Row_Row [1, 3] [1] = true by decide +kernel) (fun D58 N58 F58 A58 H O' eD58 eN58 eF58 eA58 => ?_)
        have O := OUT_trans O O'
        -- Row.addNumber
        have pf58_0_0 : HID (F58 0 0 = (D58 12 : Int)) := ((show F58 0 0 = F57 0 0 from (eF58 0 0))).trans (((((show F57 0 0 = F50 0 0 from (eF57 0 0)))).trans (pf50_0_0)).trans (congrArg (fun q : Nat => (q : Int)) ((show D58 12 = D50 12 from (eD58 12))).symm))
        have pf58_0_1 : HID (F58 0 1 = (D58 5 : Int)) := ((show F58 0 1 = F57 0 1 from (eF58 0 1))).trans (((((show F57 0 1 = F50 0 1 from (eF57 0 1)))).trans (pf50_0_1)).trans (congrArg (fun q : Nat => (q : Int)) ((show D58 5 = D50 5 from (eD58 5))).symm))
        have pf58_0_2 : HID (F58 0 2 = (D58 7 : Int)) := ((show F58 0 2 = F57 0 2 from (eF58 0 2))).trans (((((show F57 0 2 = F50 0 2 from (eF57 0 2)))).trans (pf50_0_2)).trans (congrArg (fun q : Nat => (q : Int)) ((show D58 7 = D50 7 from (eD58 7))).symm))
        have pf58_0_3 : HID (F58 0 3 = (D58 10 : Int)) := ((show F58 0 3 = F57 0 3 from (eF58 0 3))).trans (((((show F57 0 3 = F50 0 3 from (eF57 0 3)))).trans (pf50_0_3)).trans (congrArg (fun q : Nat => (q : Int)) ((show D58 10 = D50 10 from (eD58 10))).symm))
        have pf58_1_0 : HID (F58 1 0 = (D58 3 : Int)) := (eF58 1 0).trans (pm58_1.trans (congrArg (fun q : Nat => (q : Int)) (eD58 3).symm))
        have pf58_10_0 : HID (F58 10 0 = (D58 11 : Int)) := ((show F58 10 0 = F57 10 0 from (eF58 10 0))).trans (((((show F57 10 0 = F50 10 0 from (eF57 10 0)))).trans (pf50_10_0)).trans (congrArg (fun q : Nat => (q : Int)) ((show D58 11 = D50 11 from (eD58 11))).symm))
        have pf58_2_0 : HID (F58 2 0 = (D58 4 : Int)) := ((show F58 2 0 = F57 2 0 from (eF58 2 0))).trans (((((show F57 2 0 = F50 2 0 from (eF57 2 0)))).trans (pf50_2_0)).trans (congrArg (fun q : Nat => (q : Int)) ((show D58 4 = D50 4 from (eD58 4))).symm))
        have pf58_5_0 : HID (F58 5 0 = (D58 6 : Int)) := ((show F58 5 0 = F57 5 0 from (eF58 5 0))).trans (((((show F57 5 0 = F50 5 0 from (eF57 5 0)))).trans (pf50_5_0)).trans (congrArg (fun q : Nat => (q : Int)) ((show D58 6 = D50 6 from (eD58 6))).symm))
        have pf58_7_0 : HID (F58 7 0 = (D58 8 : Int)) := ((show F58 7 0 = F57 7 0 from (eF58 7 0))).trans (((((show F57 7 0 = F50 7 0 from (eF57 7 0)))).trans (pf50_7_0)).trans (congrArg (fun q : Nat => (q : Int)) ((show D58 8 = D50 8 from (eD58 8))).symm))
        have pf58_7_1 : HID (F58 7 1 = (D58 15 : Int)) := ((show F58 7 1 = F57 7 1 from (eF58 7 1))).trans (((((show F57 7 1 = F50 7 1 from (eF57 7 1)))).trans (pf50_7_1)).trans (congrArg (fun q : Nat => (q : Int)) ((show D58 15 = D50 15 from (eD58 15))).symm))
        have pf58_7_2 : HID (F58 7 2 = (D58 16 : Int)) := ((show F58 7 2 = F57 7 2 from (eF58 7 2))).trans (((((show F57 7 2 = F50 7 2 from (eF57 7 2)))).trans (pf50_7_2)).trans (congrArg (fun q : Nat => (q : Int)) ((show D58 16 = D50 16 from (eD58 16))).symm))
        have pf58_7_3 : HID (F58 7 3 = (D58 17 : Int)) := ((show F58 7 3 = F57 7 3 from (eF58 7 3))).trans (((((show F57 7 3 = F50 7 3 from (eF57 7 3)))).trans (pf50_7_3)).trans (congrArg (fun q : Nat => (q : Int)) ((show D58 17 = D50 17 from (eD58 17))).symm))
        have pf58_7_7 : HID (F58 7 7 = (D58 13 : Int)) := ((show F58 7 7 = F57 7 7 from (eF58 7 7))).trans (((((show F57 7 7 = F50 7 7 from (eF57 7 7)))).trans (pf50_7_7)).trans (congrArg (fun q : Nat => (q : Int)) ((show D58 13 = D50 13 from (eD58 13))).symm))
        have pf58_7_8 : HID (F58 7 8 = (D58 14 : Int)) := ((show F58 7 8 = F57 7 8 from (eF58 7 8))).trans (((((show F57 7 8 = F50 7 8 from (eF57 7 8)))).trans (pf50_7_8)).trans (congrArg (fun q : Nat => (q : Int)) ((show D58 14 = D50 14 from (eD58 14))).symm))
        have pf58_8_0 : HID (F58 8 0 = (D58 9 : Int)) := ((show F58 8 0 = F57 8 0 from (eF58 8 0))).trans (((((show F57 8 0 = F50 8 0 from (eF57 8 0)))).trans (pf50_8_0)).trans (congrArg (fun q : Nat => (q : Int)) ((show D58 9 = D50 9 from (eD58 9))).symm))
        have r59 : (0 : Int) ≤ m58_1 ∧ m58_1 ≤ 1000000 := by have h1 := H.nle 3 (by decide); have h2 : (N58 3 : Int) = m58_1 := (congrArg (fun q : Nat => (q : Int)) (eN58 3)).trans em58_1; omega
        have r60 : (-2147483648 : Int) ≤ y58_0_1 ∧ y58_0_1 ≤ 2147483647 := by have h1 : (-2147483648 : Int) ≤ F58 1 1 ∧ F58 1 1 ≤ 2147483647 := H.krg 1 1 (by decide); rw [show F58 1 1 = y58_0_1 from ((eF58 1 1).trans ey58_0_1)] at h1; exact h1
        exact hc276  _ _ _ _ _ _ _ _   H O (SD_trans (SD_refl) (SD_glu (ι := [1, 3]) hD58 eD58 (by decide +kernel)) (any_subA (l' := [3]) rfl)) (SD_trans (SD_refl) (SD_glu (ι := [1, 3]) hN58 eN58 (by decide +kernel)) (any_subA (l' := [3]) rfl)) (SF_trans (SF_trans (SF_refl) (SF_glu (ι := [4]) hS57 eF57 (by decide +kernel)) (any_sub (l' := []) rfl)) (SF_glu (ι := [1, 3]) hS58 eF58 (by decide +kernel)) (any_sub (l' := [(1, 0), (1, 1), (1, 2)]) rfl)) (SA_trans (SA_trans (SA_refl) (SA_glu (ι := [4]) hA57 eA57 (by decide +kernel)) (any_subA (l' := []) rfl)) (SA_glu (ι := [1, 3]) hA58 eA58 (by decide +kernel)) (any_subA (l' := [3]) rfl)) (pf58_1_0) (m58_1) ((congrArg (fun q : Nat => (q : Int)) (eN58 3)).trans em58_1) (y58_0_1) (((eF58 1 1).trans ey58_0_1))  (show 0 ≤ (y58_0_1) ∧ (y58_0_1) ≤ (m58_1) ∧ (m58_1) ≤ 65536 by omega)
    refine w_ifle (t := 242) rfl rfl (show inr (v38) by omega) (fun b61 => ?_) (fun b61 => ?_)
    · exact hc242  _ _ _ _  (l82_0) (l82_1) (l82_2) H O (SF_refl) (SA_refl)     (show ((v38) ≤ (0)) ∨ ((v38) > (0) ∧ (x82_6) ≥ (u2_1)) ∨ ((v38) > (0) ∧ (x82_6) < (u2_1) ∧ 0 ≤ (F_82 1 2) ∧ (F_82 1 2) ≤ 1 ∧ (F_82 1 2) ≠ (0)) by omega)
    · refine Ew_of (pc' := 89) (fun _ => x_iload rfl l82_6) ?_
      refine Ew_of (pc' := 90) (fun _ => x_aload_n rfl l82_2) ?_
      refine v_g H (o := 2) (v := I (u2_1)) rfl rfl rfl rfl rfl (congrArg (fun z : Int => I z) (((((((hS_82 2 1 rfl).trans ((show F35 2 1 = F29 2 1 from (eF35 2 1)))).trans ((show F29 2 1 = F21 2 1 from (eF29 2 1)))).trans ((show F21 2 1 = F18 2 1 from (eF21 2 1)))).trans ((show F18 2 1 = (updF F 0 8 (v17)) 2 1 from (eF18 2 1)))).trans (eu2_1)) : F_82 2 1 = u2_1)) ?_
      refine w_icmpge (t := 242) rfl rfl (show inr (x82_6) by omega) (show inr (u2_1) by omega) (fun b62 => ?_) (fun b62 => ?_)
      · exact hc242  _ _ _ _  (l82_0) (l82_1) (l82_2) H O (SF_refl) (SA_refl)     (show ((v38) ≤ (0)) ∨ ((v38) > (0) ∧ (x82_6) ≥ (u2_1)) ∨ ((v38) > (0) ∧ (x82_6) < (u2_1) ∧ 0 ≤ (F_82 1 2) ∧ (F_82 1 2) ≤ 1 ∧ (F_82 1 2) ≠ (0)) by omega)
      · refine Ew_of (pc' := 97) (fun _ => x_aload_n rfl l82_1) ?_
        have r63 : (0 : Int) ≤ F_82 1 2 ∧ F_82 1 2 ≤ 1 := by have h1 : (0 : Int) ≤ F_82 1 2 ∧ F_82 1 2 ≤ 1 := H.krg 1 2 (by decide); rw [show F_82 1 2 = F_82 1 2 from rfl] at h1; exact h1
        refine v_g H (o := 1) (v := I (F_82 1 2)) rfl rfl rfl rfl rfl (congrArg (fun z : Int => I z) (rfl : F_82 1 2 = F_82 1 2)) ?_
        refine w_ifne (t := 242) rfl rfl (show inr (F_82 1 2) by omega) (fun b64 => ?_) (fun b64 => ?_)
        · exact hc242  _ _ _ _  (l82_0) (l82_1) (l82_2) H O (SF_refl) (SA_refl)     (show ((v38) ≤ (0)) ∨ ((v38) > (0) ∧ (x82_6) ≥ (u2_1)) ∨ ((v38) > (0) ∧ (x82_6) < (u2_1) ∧ 0 ≤ (F_82 1 2) ∧ (F_82 1 2) ≤ 1 ∧ (F_82 1 2) ≠ (0)) by omega)
        · refine Ew_of (pc' := 105) (fun _ => x_iload rfl l82_5) ?_
          refine Ew_of (pc' := 106) (fun _ => x_aload_n rfl l82_2) ?_
          refine v_g H (o := 2) (v := I (u2_1)) rfl rfl rfl rfl rfl (congrArg (fun z : Int => I z) (((((((hS_82 2 1 rfl).trans ((show F35 2 1 = F29 2 1 from (eF35 2 1)))).trans ((show F29 2 1 = F21 2 1 from (eF29 2 1)))).trans ((show F21 2 1 = F18 2 1 from (eF21 2 1)))).trans ((show F18 2 1 = (updF F 0 8 (v17)) 2 1 from (eF18 2 1)))).trans (eu2_1)) : F_82 2 1 = u2_1)) ?_
          refine Ew_of (pc' := 111) (fun _ => x_iload rfl l82_6) ?_
          refine w_isub rfl ?_
          refine v_min rfl rfl (show inr (v38) by omega) (show inr ((u2_1 - x82_6)) by omega) (fun z65 gz65 => ?_)
          have hl7 : 0 ≤ ((z65) : Int) ∧ (x82_6) + (z65) ≤ (u2_1) ∧ (z65) ≤ 16384 ∧ (z65) ≤ (v38) := by omega
          refine Ew_of (pc' := 117) (fun _ => x_istore rfl) ?_
          have hc147 : ∀ (ls : rO) (σ : rS) (F_c147 : hF) (A_c147 : hA) , rlook ls 0 = some (.ref (D_82 0)) → rlook ls 1 = some (.ref (D_82 1)) → rlook ls 2 = some (.ref (D_82 2)) → rlook ls 3 = some (.ref (D_82 8)) → rlook ls 4 = some (I (y35_0_6)) → rlook ls 5 = some (I (v38)) → rlook ls 6 = some (I (x82_6)) → rlook ls 7 = some (I (z65)) → HW V218_Row_Row σ D_82 N_82 F_c147 A_c147 → OUT (V218_Row_Row).length D N σE c s D_82 N_82 σ c_82 s_82 → SF [(7, 6), (8, 1)] F_82 F_c147 → SA [13] A_82 A_c147 → ∀ yc147_7_6 : Int, F_c147 7 6 = yc147_7_6 → ∀ yc147_8_1 : Int, F_c147 8 1 = yc147_8_1 → ∀ wc147_13 : Int → Int, A_c147 13 = wc147_13 → (0 ≤ (yc147_8_1) ∧ (yc147_8_1) ≤ (m82_9) ∧ (m82_9) ≤ 65536 ∧ (yc147_8_1) ≤ 16384) → (0 ≤ (y82_10_1) ∧ (y82_10_1) ≤ (m82_11) ∧ (m82_11) ≤ 65536) → ((m29_1) = 2048) → (0 ≤ (yc147_7_6) ∧ (yc147_7_6) ≤ (m82_14) ∧ (m82_14) ≤ 16384) → ((yc147_7_6) = 0 ∨ (yc147_7_6) + 4 ≤ (yc147_8_1) + 1) → (BKI ((w82_9)) ((w82_14)) ((y29_0_10)) ((yc147_7_6))) → (HDI ((w82_9)) ((wc147_13)) ((y29_0_10)) ((yc147_7_6))) → ((m82_15) = (m82_16) ∧ (m82_17) = (m82_16) ∧ (m82_16) ≤ 65536 ∧ ((m82_16) = 0 ∨ 64 ≤ (m82_16)) ∧ lgq ((m82_16)) = 0) → (0 ≤ (y35_0_6) ∧ (y35_0_6) ≤ (yc147_7_6)) → ((y35_0_6) = 0 ∨ (y35_0_6) + 4 ≤ (u5_1) + 1) → ((u5_1) ≤ (yc147_8_1) ∧ (yc147_8_1) ≤ (u5_1) + (x82_6)) → Ew 218 (d + 6) 147 ls [] σ c_82 s_82 Q := by
           as_aux_lemma =>
            intro  ls σ F_c147 A_c147  lc147_0 lc147_1 lc147_2 lc147_3 lc147_4 lc147_5 lc147_6 lc147_7 H O hS_c147 hA_c147   yc147_7_6 eyc147_7_6 yc147_8_1 eyc147_8_1 wc147_13 ewc147_13 jc147_0 jc147_1 jc147_2 jc147_3 jc147_4 jc147_5 jc147_6 jc147_7 jc147_8 jc147_9 jc147_10
            replace eyc147_7_6 := HIDm eyc147_7_6
            replace eyc147_8_1 := HIDm eyc147_8_1
            try clear gz65
            have r66 : (-2147483648 : Int) ≤ yc147_7_6 ∧ yc147_7_6 ≤ 2147483647 := by have h1 : (-2147483648 : Int) ≤ F_c147 7 6 ∧ F_c147 7 6 ≤ 2147483647 := H.krg 7 6 (by decide); rw [show F_c147 7 6 = yc147_7_6 from (eyc147_7_6)] at h1; exact h1
            have r67 : (-2147483648 : Int) ≤ yc147_8_1 ∧ yc147_8_1 ≤ 2147483647 := by have h1 : (-2147483648 : Int) ≤ F_c147 8 1 ∧ F_c147 8 1 ≤ 2147483647 := H.krg 8 1 (by decide); rw [show F_c147 8 1 = yc147_8_1 from (eyc147_8_1)] at h1; exact h1
            have hbk147 : BKI ((w82_9)) ((w82_14)) ((y29_0_10)) ((yc147_7_6)) := by assumption
            have hhd147 : HDI ((w82_9)) ((wc147_13)) ((y29_0_10)) ((yc147_7_6)) := by assumption
            refine Ew_of (pc' := 148) (fun _ => x_aload_n rfl lc147_3) ?_
            refine v_g H (o := 8) (v := I (yc147_8_1)) rfl rfl rfl rfl rfl (congrArg (fun z : Int => I z) ((eyc147_8_1) : F_c147 8 1 = yc147_8_1)) ?_
            refine Ew_of (pc' := 153) (fun _ => x_istore rfl) ?_
            refine Ew_of (pc' := 154) (fun _ => x_aload_n rfl (rk_o (lc147_3) rfl rfl)) ?_
            refine Ew_of (pc' := 155) (fun _ => x_aload_n rfl (rk_o (lc147_2) rfl rfl)) ?_
            refine v_g H (o := 2) (v := .ref (D_82 4)) rfl rfl rfl rfl rfl (vrf (((hS_c147 2 0 rfl)).trans (pf_82_2_0))) ?_
            refine Ew_of (pc' := 160) (fun _ => x_iload rfl (rk_o (lc147_6) rfl rfl)) ?_
            refine Ew_of (pc' := 162) (fun _ => x_iload rfl (rk_o (lc147_7) rfl rfl)) ?_
            refine v_inv H (o := 8) rfl rfl rfl rfl rfl rfl (by rfl) (C161_Br (D := pul [8, 4, 9] D_82) (N := pul [8, 4, 9] N_82) (HW_sub H (VS_of (show vsub V218_Row_Row V161_Br [8, 4, 9] = true by decide +kernel))) (((hS_c147 8 0 rfl)).trans (pm82_9)) (n4) ((congrArg (fun q : Nat => (q : Int)) (hN_82 4 rfl)).trans ((congrArg (fun q : Nat => (q : Int)) (show N35 4 = N29 4 from (eN35 4))).trans ((congrArg (fun q : Nat => (q : Int)) (show N29 4 = N21 4 from (eN29 4))).trans ((congrArg (fun q : Nat => (q : Int)) (show N21 4 = N18 4 from (eN21 4))).trans ((congrArg (fun q : Nat => (q : Int)) (show N18 4 = N 4 from (eN18 4))).trans (en4)))))) (m82_9) (em82_9) (yc147_8_1) ((eyc147_8_1)) (w82_9) ((funext (hA_c147 9 rfl)).trans (ew82_9)) (show inr (x82_6) by omega) (show inr (z65) by omega) (show 0 ≤ (yc147_8_1) ∧ (yc147_8_1) ≤ (m82_9) ∧ (m82_9) ≤ 65536 by omega) (show (z65) < 0 ∨ 0 ≤ (x82_6) ∧ (x82_6) + (z65) ≤ (n4) by omega) (fun σ68 D68' N68' F68' A68' c68 s68 H' O' hD68 hN68 hS68 hA68 pm68_2 m68_2 em68_2 y68_0_1 ey68_0_1 w68_2 ew68_2 pz68_0 pz68_1 pz68_2 => ⟨rfl, ?_⟩))
            replace pm68_2 := HIDm pm68_2
            replace em68_2 := HIDm em68_2
            replace ey68_0_1 := HIDm ey68_0_1
            refine v_backM (c := c_82) (s := s_82) H (show vsub V218_Row_Row V161_Br [8, 4, 9] = true by decide +kernel) H' O' hD68 (show vmov V218_Row_Row [8, 4, 9] [2] = true by decide +kernel) (fun D68 N68 F68 A68 H O' eD68 eN68 eF68 eA68 => ?_)
            have O := OUT_trans O O'
            -- Row.addPart
            have pf68_0_0 : HID (F68 0 0 = (D68 12 : Int)) := ((show F68 0 0 = F_c147 0 0 from (eF68 0 0))).trans ((((hS_c147 0 0 rfl)).trans (pf_82_0_0)).trans (congrArg (fun q : Nat => (q : Int)) ((show D68 12 = D_82 12 from (eD68 12))).symm))
            have pf68_0_1 : HID (F68 0 1 = (D68 5 : Int)) := ((show F68 0 1 = F_c147 0 1 from (eF68 0 1))).trans ((((hS_c147 0 1 rfl)).trans (pf_82_0_1)).trans (congrArg (fun q : Nat => (q : Int)) ((show D68 5 = D_82 5 from (eD68 5))).symm))
            have pf68_0_2 : HID (F68 0 2 = (D68 7 : Int)) := ((show F68 0 2 = F_c147 0 2 from (eF68 0 2))).trans ((((hS_c147 0 2 rfl)).trans (pf_82_0_2)).trans (congrArg (fun q : Nat => (q : Int)) ((show D68 7 = D_82 7 from (eD68 7))).symm))
            have pf68_0_3 : HID (F68 0 3 = (D68 10 : Int)) := ((show F68 0 3 = F_c147 0 3 from (eF68 0 3))).trans ((((hS_c147 0 3 rfl)).trans (pf_82_0_3)).trans (congrArg (fun q : Nat => (q : Int)) ((show D68 10 = D_82 10 from (eD68 10))).symm))
            have pf68_1_0 : HID (F68 1 0 = (D68 3 : Int)) := ((show F68 1 0 = F_c147 1 0 from (eF68 1 0))).trans ((((hS_c147 1 0 rfl)).trans (pm82_3)).trans (congrArg (fun q : Nat => (q : Int)) ((show D68 3 = D_82 3 from (eD68 3))).symm))
            have pf68_10_0 : HID (F68 10 0 = (D68 11 : Int)) := ((show F68 10 0 = F_c147 10 0 from (eF68 10 0))).trans ((((hS_c147 10 0 rfl)).trans (pm82_11)).trans (congrArg (fun q : Nat => (q : Int)) ((show D68 11 = D_82 11 from (eD68 11))).symm))
            have pf68_2_0 : HID (F68 2 0 = (D68 4 : Int)) := ((show F68 2 0 = F_c147 2 0 from (eF68 2 0))).trans ((((hS_c147 2 0 rfl)).trans (pf_82_2_0)).trans (congrArg (fun q : Nat => (q : Int)) ((show D68 4 = D_82 4 from (eD68 4).trans (hD68 1 rfl))).symm))
            have pf68_5_0 : HID (F68 5 0 = (D68 6 : Int)) := ((show F68 5 0 = F_c147 5 0 from (eF68 5 0))).trans ((((hS_c147 5 0 rfl)).trans (pf_82_5_0)).trans (congrArg (fun q : Nat => (q : Int)) ((show D68 6 = D_82 6 from (eD68 6))).symm))
            have pf68_7_0 : HID (F68 7 0 = (D68 8 : Int)) := ((show F68 7 0 = F_c147 7 0 from (eF68 7 0))).trans ((((hS_c147 7 0 rfl)).trans (pf_82_7_0)).trans (congrArg (fun q : Nat => (q : Int)) ((show D68 8 = D_82 8 from (eD68 8).trans (hD68 0 rfl))).symm))
            have pf68_7_1 : HID (F68 7 1 = (D68 15 : Int)) := ((show F68 7 1 = F_c147 7 1 from (eF68 7 1))).trans ((((hS_c147 7 1 rfl)).trans (pm82_15)).trans (congrArg (fun q : Nat => (q : Int)) ((show D68 15 = D_82 15 from (eD68 15))).symm))
            have pf68_7_2 : HID (F68 7 2 = (D68 16 : Int)) := ((show F68 7 2 = F_c147 7 2 from (eF68 7 2))).trans ((((hS_c147 7 2 rfl)).trans (pm82_16)).trans (congrArg (fun q : Nat => (q : Int)) ((show D68 16 = D_82 16 from (eD68 16))).symm))
            have pf68_7_3 : HID (F68 7 3 = (D68 17 : Int)) := ((show F68 7 3 = F_c147 7 3 from (eF68 7 3))).trans ((((hS_c147 7 3 rfl)).trans (pm82_17)).trans (congrArg (fun q : Nat => (q : Int)) ((show D68 17 = D_82 17 from (eD68 17))).symm))
            have pf68_7_7 : HID (F68 7 7 = (D68 13 : Int)) := ((show F68 7 7 = F_c147 7 7 from (eF68 7 7))).trans ((((hS_c147 7 7 rfl)).trans (pf_82_7_7)).trans (congrArg (fun q : Nat => (q : Int)) ((show D68 13 = D_82 13 from (eD68 13))).symm))
            have pf68_7_8 : HID (F68 7 8 = (D68 14 : Int)) := ((show F68 7 8 = F_c147 7 8 from (eF68 7 8))).trans ((((hS_c147 7 8 rfl)).trans (pm82_14)).trans (congrArg (fun q : Nat => (q : Int)) ((show D68 14 = D_82 14 from (eD68 14))).symm))
            have pf68_8_0 : HID (F68 8 0 = (D68 9 : Int)) := (eF68 8 0).trans (pm68_2.trans (congrArg (fun q : Nat => (q : Int)) (eD68 9).symm))
            have r69 : (0 : Int) ≤ m68_2 ∧ m68_2 ≤ 1000000 := by have h1 := H.nle 9 (by decide); have h2 : (N68 9 : Int) = m68_2 := (congrArg (fun q : Nat => (q : Int)) (eN68 9)).trans em68_2; omega
            have r70 : (-2147483648 : Int) ≤ y68_0_1 ∧ y68_0_1 ≤ 2147483647 := by have h1 : (-2147483648 : Int) ≤ F68 8 1 ∧ F68 8 1 ≤ 2147483647 := H.krg 8 1 (by decide); rw [show F68 8 1 = y68_0_1 from ((eF68 8 1).trans ey68_0_1)] at h1; exact h1
            have hdc : (y68_0_1) = (yc147_8_1) + (z65) := by omega
            have hb2 : BKI ((w68_2)) ((w82_14)) ((y29_0_10)) ((yc147_7_6)) := BKI_data hbk147 pz68_2 (by omega)
            have hh2 : HDI ((w68_2)) ((wc147_13)) ((y29_0_10)) ((yc147_7_6)) := HDI_data hhd147 pz68_2 (by omega)
            try clear pz68_1
            refine Ew_of (pc' := 166) (fun _ => x_aload_n rfl (rk_o (lc147_0) rfl rfl)) ?_
            refine Ew_stk (show ([.ref (D_82 0)] : List Value) = [.ref (D68 0)] by rw [show D68 0 = D_82 0 from ((show D68 0 = D_82 0 from (eD68 0)))]) ?_
            refine v_g H (o := 0) (v := .ref (D68 10)) rfl rfl rfl rfl rfl (vrf (pf68_0_3)) ?_
            have r71 : (0 : Int) ≤ F_82 10 2 ∧ F_82 10 2 ≤ 1 := by have h1 : (0 : Int) ≤ F68 10 2 ∧ F68 10 2 ≤ 1 := H.krg 10 2 (by decide); rw [show F68 10 2 = F_82 10 2 from (((show F68 10 2 = F_c147 10 2 from (eF68 10 2))).trans (hS_c147 10 2 rfl))] at h1; exact h1
            have r72 : (-2147483648 : Int) ≤ F_82 10 4 ∧ F_82 10 4 ≤ 2147483647 := by have h1 : (-2147483648 : Int) ≤ F68 10 4 ∧ F68 10 4 ≤ 2147483647 := H.krg 10 4 (by decide); rw [show F68 10 4 = F_82 10 4 from (((show F68 10 4 = F_c147 10 4 from (eF68 10 4))).trans (hS_c147 10 4 rfl))] at h1; exact h1
            refine v_inv H (o := 10) rfl rfl rfl rfl rfl rfl (by rfl) (C156h (D := pul [10] D68) (N := pul [10] N68) (HW_sub H (VS_of (show vsub V218_Row_Row V156 [10] = true by decide +kernel))) (y82_10_1) (((((show F68 10 1 = F_c147 10 1 from (eF68 10 1))).trans (hS_c147 10 1 rfl)).trans (ey82_10_1))) (F_82 10 2) ((((show F68 10 2 = F_c147 10 2 from (eF68 10 2))).trans (hS_c147 10 2 rfl))) (F_82 10 4) ((((show F68 10 4 = F_c147 10 4 from (eF68 10 4))).trans (hS_c147 10 4 rfl)))  (fun σ73 F73' A73' H' O' hS73 hA73 y73_0_1 ey73_0_1 y73_0_2 ey73_0_2 y73_0_4 ey73_0_4 pz73_0 => ⟨rfl, ?_⟩))
            replace ey73_0_1 := HIDm ey73_0_1
            replace ey73_0_2 := HIDm ey73_0_2
            replace ey73_0_4 := HIDm ey73_0_4
            refine v_back (c := (c_82 + c68)) (s := (s_82 + s68)) H (show vsub V218_Row_Row V156 [10] = true by decide +kernel) H' O' (fun F73 A73 H O' eF73 eA73 => ?_)
            have O := OUT_trans O O'
            -- Row.clear
            have r74 : (-2147483648 : Int) ≤ y73_0_1 ∧ y73_0_1 ≤ 2147483647 := by have h1 : (-2147483648 : Int) ≤ F73 10 1 ∧ F73 10 1 ≤ 2147483647 := H.krg 10 1 (by decide); rw [show F73 10 1 = y73_0_1 from ((eF73 10 1).trans ey73_0_1)] at h1; exact h1
            have r75 : (0 : Int) ≤ y73_0_2 ∧ y73_0_2 ≤ 1 := by have h1 : (0 : Int) ≤ F73 10 2 ∧ F73 10 2 ≤ 1 := H.krg 10 2 (by decide); rw [show F73 10 2 = y73_0_2 from ((eF73 10 2).trans ey73_0_2)] at h1; exact h1
            have r76 : (-2147483648 : Int) ≤ y73_0_4 ∧ y73_0_4 ≤ 2147483647 := by have h1 : (-2147483648 : Int) ≤ F73 10 4 ∧ F73 10 4 ≤ 2147483647 := H.krg 10 4 (by decide); rw [show F73 10 4 = y73_0_4 from ((eF73 10 4).trans ey73_0_4)] at h1; exact h1
            refine Ew_of (pc' := 173) (fun _ => x_aload_n rfl (rk_o (lc147_0) rfl rfl)) ?_
            refine Ew_of (pc' := 174) (fun _ => x_aload_n rfl (rk_o (lc147_0) rfl rfl)) ?_
            refine Ew_stk (show ([.ref (D_82 0), .ref (D_82 0)] : List Value) = [.ref (D68 0), .ref (D68 0)] by rw [show D68 0 = D_82 0 from ((show D68 0 = D_82 0 from (eD68 0)))]) ?_
            refine v_g H (o := 0) (v := .ref (D68 10)) rfl rfl rfl rfl rfl (vrf ((((show F73 0 3 = F68 0 3 from (eF73 0 3)))).trans (pf68_0_3))) ?_
            refine Ew_of (pc' := 179) (fun _ => x_iload rfl rk_s) ?_
            refine v_inv H (o := 0) rfl rfl rfl rfl rfl rfl (by rfl) (C215_thispackeda (D := pul [0, 10, 11, 7, 8, 9, 14, 13, 15, 16, 17] D68) (N := pul [0, 10, 11, 7, 8, 9, 14, 13, 15, 16, 17] N68) (HW_sub H (VS_of (show vsub V218_Row_Row V215_thispackeda [0, 10, 11, 7, 8, 9, 14, 13, 15, 16, 17] = true by decide +kernel))) ((((show F73 0 3 = F68 0 3 from (eF73 0 3)))).trans (pf68_0_3)) ((((show F73 10 0 = F68 10 0 from (eF73 10 0).trans (hS73 0 0 rfl)))).trans (pf68_10_0)) ((((show F73 0 2 = F68 0 2 from (eF73 0 2)))).trans (pf68_0_2)) ((((show F73 7 0 = F68 7 0 from (eF73 7 0)))).trans (pf68_7_0)) ((((show F73 8 0 = F68 8 0 from (eF73 8 0)))).trans (pf68_8_0)) ((((show F73 7 8 = F68 7 8 from (eF73 7 8)))).trans (pf68_7_8)) ((((show F73 7 7 = F68 7 7 from (eF73 7 7)))).trans (pf68_7_7)) ((((show F73 7 1 = F68 7 1 from (eF73 7 1)))).trans (pf68_7_1)) ((((show F73 7 2 = F68 7 2 from (eF73 7 2)))).trans (pf68_7_2)) ((((show F73 7 3 = F68 7 3 from (eF73 7 3)))).trans (pf68_7_3)) (m82_11) ((congrArg (fun q : Nat => (q : Int)) (show N68 11 = N_82 11 from (eN68 11))).trans (em82_11)) (m68_2) ((congrArg (fun q : Nat => (q : Int)) (eN68 9)).trans em68_2) (m82_14) ((congrArg (fun q : Nat => (q : Int)) (show N68 14 = N_82 14 from (eN68 14))).trans (em82_14)) (m29_1) ((congrArg (fun q : Nat => (q : Int)) (show N68 13 = N_82 13 from (eN68 13))).trans ((congrArg (fun q : Nat => (q : Int)) (hN_82 13 rfl)).trans ((congrArg (fun q : Nat => (q : Int)) (show N35 13 = N29 13 from (eN35 13).trans (hN35 4 rfl))).trans ((congrArg (fun q : Nat => (q : Int)) (eN29 13)).trans em29_1)))) (m82_15) ((congrArg (fun q : Nat => (q : Int)) (show N68 15 = N_82 15 from (eN68 15))).trans (em82_15)) (m82_16) ((congrArg (fun q : Nat => (q : Int)) (show N68 16 = N_82 16 from (eN68 16))).trans (em82_16)) (m82_17) ((congrArg (fun q : Nat => (q : Int)) (show N68 17 = N_82 17 from (eN68 17))).trans (em82_17)) (y73_0_1) (((eF73 10 1).trans ey73_0_1)) (yc147_7_6) (((((show F73 7 6 = F68 7 6 from (eF73 7 6))).trans ((show F68 7 6 = F_c147 7 6 from (eF68 7 6)))).trans (eyc147_7_6))) (y29_0_10) ((((((((show F73 7 10 = F68 7 10 from (eF73 7 10))).trans ((show F68 7 10 = F_c147 7 10 from (eF68 7 10)))).trans (hS_c147 7 10 rfl)).trans (hS_82 7 10 rfl)).trans ((show F35 7 10 = F29 7 10 from (eF35 7 10).trans (hS35 0 10 rfl)))).trans ((eF29 7 10).trans ey29_0_10))) (y68_0_1) ((((show F73 8 1 = F68 8 1 from (eF73 8 1))).trans ((eF68 8 1).trans ey68_0_1))) (w68_2) (((show A73 9 = A68 9 from (eA73 9))).trans ((eA68 9).trans ew68_2)) (w82_14) (((show A73 14 = A68 14 from (eA73 14))).trans (((show A68 14 = A_c147 14 from (eA68 14))).trans ((funext (hA_c147 14 rfl)).trans (ew82_14)))) (wc147_13) (((show A73 13 = A68 13 from (eA73 13))).trans (((show A68 13 = A_c147 13 from (eA68 13))).trans (ewc147_13))) (show inr (yc147_8_1) by omega) (show 0 ≤ (y73_0_1) ∧ (y73_0_1) ≤ (m82_11) ∧ (m82_11) ≤ 65536 by omega) (show 0 ≤ (y68_0_1) ∧ (y68_0_1) ≤ (m68_2) ∧ (m68_2) ≤ 65536 ∧ (y68_0_1) ≤ 16384 by omega) (show (y29_0_10) = 4 by omega) (show 0 ≤ (yc147_8_1) ∧ (yc147_8_1) ≤ (y68_0_1) by omega) (show BKI ((w68_2)) ((w82_14)) ((y29_0_10)) ((yc147_7_6)) by assumption) (show HDI ((w68_2)) ((wc147_13)) ((y29_0_10)) ((yc147_7_6)) by assumption) (show (m82_15) = (m82_16) ∧ (m82_17) = (m82_16) ∧ (m82_16) ≤ 65536 ∧ ((m82_16) = 0 ∨ 64 ≤ (m82_16)) ∧ lgq ((m82_16)) = 0 by omega) (show (m29_1) = 2048 by omega) (show 0 ≤ (yc147_7_6) ∧ (yc147_7_6) ≤ (m82_14) ∧ (m82_14) ≤ 16384 by omega) (fun σ77 D77' N77' F77' A77' c77 s77 H' O' hD77 hN77 hS77 hA77 pm77_2 pm77_6 pm77_8 pm77_9 pm77_10 m77_2 em77_2 m77_6 em77_6 m77_8 em77_8 m77_9 em77_9 m77_10 em77_10 y77_1_1 ey77_1_1 y77_3_6 ey77_3_6 w77_6 ew77_6 w77_7 ew77_7 pz77_0 pz77_1 pz77_2 pz77_3 pz77_4 pz77_5 => ⟨rfl, ?_⟩))
            replace pm77_2 := HIDm pm77_2
            replace pm77_6 := HIDm pm77_6
            replace pm77_8 := HIDm pm77_8
            replace pm77_9 := HIDm pm77_9
            replace pm77_10 := HIDm pm77_10
            replace em77_2 := HIDm em77_2
            replace em77_6 := HIDm em77_6
            replace em77_8 := HIDm em77_8
            replace em77_9 := HIDm em77_9
            replace em77_10 := HIDm em77_10
            replace ey77_1_1 := HIDm ey77_1_1
            replace ey77_3_6 := HIDm ey77_3_6
            refine v_backM (c := (c_82 + c68)) (s := (s_82 + s68)) H (show vsub V218_Row_Row V215_thispackeda [0, 10, 11, 7, 8, 9, 14, 13, 15, 16, 17] = true by decide +kernel) H' O' hD77 (show vmov V218_Row_Row [0, 10, 11, 7, 8, 9, 14, 13, 15, 16, 17] [2, 6, 8, 9, 10] = true by decide +kernel) (fun D77 N77 F77 A77 H O' eD77 eN77 eF77 eA77 => ?_)
            have O := OUT_trans O O'
            -- Tokens.packBlock
            have pf77_0_0 : HID (F77 0 0 = (D77 12 : Int)) := ((show F77 0 0 = F73 0 0 from (eF77 0 0).trans (hS77 0 0 rfl))).trans (((((show F73 0 0 = F68 0 0 from (eF73 0 0)))).trans (pf68_0_0)).trans (congrArg (fun q : Nat => (q : Int)) ((show D77 12 = D68 12 from (eD77 12))).symm))
            have pf77_0_1 : HID (F77 0 1 = (D77 5 : Int)) := ((show F77 0 1 = F73 0 1 from (eF77 0 1).trans (hS77 0 1 rfl))).trans (((((show F73 0 1 = F68 0 1 from (eF73 0 1)))).trans (pf68_0_1)).trans (congrArg (fun q : Nat => (q : Int)) ((show D77 5 = D68 5 from (eD77 5))).symm))
            have pf77_0_2 : HID (F77 0 2 = (D77 7 : Int)) := ((show F77 0 2 = F73 0 2 from (eF77 0 2).trans (hS77 0 2 rfl))).trans (((((show F73 0 2 = F68 0 2 from (eF73 0 2)))).trans (pf68_0_2)).trans (congrArg (fun q : Nat => (q : Int)) ((show D77 7 = D68 7 from (eD77 7).trans (hD77 3 rfl))).symm))
            have pf77_0_3 : HID (F77 0 3 = (D77 10 : Int)) := ((show F77 0 3 = F73 0 3 from (eF77 0 3).trans (hS77 0 3 rfl))).trans (((((show F73 0 3 = F68 0 3 from (eF73 0 3)))).trans (pf68_0_3)).trans (congrArg (fun q : Nat => (q : Int)) ((show D77 10 = D68 10 from (eD77 10).trans (hD77 1 rfl))).symm))
            have pf77_1_0 : HID (F77 1 0 = (D77 3 : Int)) := ((show F77 1 0 = F73 1 0 from (eF77 1 0))).trans (((((show F73 1 0 = F68 1 0 from (eF73 1 0)))).trans (pf68_1_0)).trans (congrArg (fun q : Nat => (q : Int)) ((show D77 3 = D68 3 from (eD77 3))).symm))
            have pf77_10_0 : HID (F77 10 0 = (D77 11 : Int)) := (eF77 10 0).trans (pm77_2.trans (congrArg (fun q : Nat => (q : Int)) (eD77 11).symm))
            have pf77_2_0 : HID (F77 2 0 = (D77 4 : Int)) := ((show F77 2 0 = F73 2 0 from (eF77 2 0))).trans (((((show F73 2 0 = F68 2 0 from (eF73 2 0)))).trans (pf68_2_0)).trans (congrArg (fun q : Nat => (q : Int)) ((show D77 4 = D68 4 from (eD77 4))).symm))
            have pf77_5_0 : HID (F77 5 0 = (D77 6 : Int)) := ((show F77 5 0 = F73 5 0 from (eF77 5 0))).trans (((((show F73 5 0 = F68 5 0 from (eF73 5 0)))).trans (pf68_5_0)).trans (congrArg (fun q : Nat => (q : Int)) ((show D77 6 = D68 6 from (eD77 6))).symm))
            have pf77_7_0 : HID (F77 7 0 = (D77 8 : Int)) := ((show F77 7 0 = F73 7 0 from (eF77 7 0).trans (hS77 3 0 rfl))).trans (((((show F73 7 0 = F68 7 0 from (eF73 7 0)))).trans (pf68_7_0)).trans (congrArg (fun q : Nat => (q : Int)) ((show D77 8 = D68 8 from (eD77 8).trans (hD77 4 rfl))).symm))
            have pf77_7_1 : HID (F77 7 1 = (D77 15 : Int)) := (eF77 7 1).trans (pm77_8.trans (congrArg (fun q : Nat => (q : Int)) (eD77 15).symm))
            have pf77_7_2 : HID (F77 7 2 = (D77 16 : Int)) := (eF77 7 2).trans (pm77_9.trans (congrArg (fun q : Nat => (q : Int)) (eD77 16).symm))
            have pf77_7_3 : HID (F77 7 3 = (D77 17 : Int)) := (eF77 7 3).trans (pm77_10.trans (congrArg (fun q : Nat => (q : Int)) (eD77 17).symm))
            have pf77_7_7 : HID (F77 7 7 = (D77 13 : Int)) := ((show F77 7 7 = F73 7 7 from (eF77 7 7).trans (hS77 3 7 rfl))).trans (((((show F73 7 7 = F68 7 7 from (eF73 7 7)))).trans (pf68_7_7)).trans (congrArg (fun q : Nat => (q : Int)) ((show D77 13 = D68 13 from (eD77 13).trans (hD77 7 rfl))).symm))
            have pf77_7_8 : HID (F77 7 8 = (D77 14 : Int)) := (eF77 7 8).trans (pm77_6.trans (congrArg (fun q : Nat => (q : Int)) (eD77 14).symm))
            have pf77_8_0 : HID (F77 8 0 = (D77 9 : Int)) := ((show F77 8 0 = F73 8 0 from (eF77 8 0).trans (hS77 4 0 rfl))).trans (((((show F73 8 0 = F68 8 0 from (eF73 8 0)))).trans (pf68_8_0)).trans (congrArg (fun q : Nat => (q : Int)) ((show D77 9 = D68 9 from (eD77 9).trans (hD77 5 rfl))).symm))
            have r78 : (0 : Int) ≤ m77_2 ∧ m77_2 ≤ 1000000 := by have h1 := H.nle 11 (by decide); have h2 : (N77 11 : Int) = m77_2 := (congrArg (fun q : Nat => (q : Int)) (eN77 11)).trans em77_2; omega
            have r79 : (0 : Int) ≤ m77_6 ∧ m77_6 ≤ 1000000 := by have h1 := H.nle 14 (by decide); have h2 : (N77 14 : Int) = m77_6 := (congrArg (fun q : Nat => (q : Int)) (eN77 14)).trans em77_6; omega
            have r80 : (0 : Int) ≤ m77_8 ∧ m77_8 ≤ 1000000 := by have h1 := H.nle 15 (by decide); have h2 : (N77 15 : Int) = m77_8 := (congrArg (fun q : Nat => (q : Int)) (eN77 15)).trans em77_8; omega
            have r81 : (0 : Int) ≤ m77_9 ∧ m77_9 ≤ 1000000 := by have h1 := H.nle 16 (by decide); have h2 : (N77 16 : Int) = m77_9 := (congrArg (fun q : Nat => (q : Int)) (eN77 16)).trans em77_9; omega
            have r82 : (0 : Int) ≤ m77_10 ∧ m77_10 ≤ 1000000 := by have h1 := H.nle 17 (by decide); have h2 : (N77 17 : Int) = m77_10 := (congrArg (fun q : Nat => (q : Int)) (eN77 17)).trans em77_10; omega
            have r83 : (-2147483648 : Int) ≤ y77_1_1 ∧ y77_1_1 ≤ 2147483647 := by have h1 : (-2147483648 : Int) ≤ F77 10 1 ∧ F77 10 1 ≤ 2147483647 := H.krg 10 1 (by decide); rw [show F77 10 1 = y77_1_1 from ((eF77 10 1).trans ey77_1_1)] at h1; exact h1
            have r84 : (-2147483648 : Int) ≤ y77_3_6 ∧ y77_3_6 ≤ 2147483647 := by have h1 : (-2147483648 : Int) ≤ F77 7 6 ∧ F77 7 6 ≤ 2147483647 := H.krg 7 6 (by decide); rw [show F77 7 6 = y77_3_6 from ((eF77 7 6).trans ey77_3_6)] at h1; exact h1
            have hlq : (y77_3_6) = 0 ∨ (y77_3_6) + 4 ≤ (y68_0_1) + 1 := by omega
            have hln : (m77_8) = (m77_9) ∧ (m77_10) = (m77_9) ∧ (m77_9) ≤ 65536 ∧ ((m77_9) = 0 ∨ 64 ≤ (m77_9)) ∧ lgq ((m77_9)) = 0 := by omega
            have hla : (y35_0_6) ≤ (y77_3_6) := by omega
            try clear pz77_2
            try clear pz77_5
            refine Ew_of (pc' := 183) (fun _ => x_aload_n rfl (rk_o (lc147_0) rfl rfl)) ?_
            refine Ew_stk (show ([.ref (D_82 0)] : List Value) = [.ref (D77 0)] by rw [show D77 0 = D_82 0 from (((show D77 0 = D68 0 from (eD77 0).trans (hD77 0 rfl))).trans ((show D68 0 = D_82 0 from (eD68 0))))]) ?_
            refine v_g H (o := 0) (v := .ref (D77 10)) rfl rfl rfl rfl rfl (vrf (pf77_0_3)) ?_
            refine v_g H (o := 10) (v := I (y77_1_1)) rfl rfl rfl rfl rfl (congrArg (fun z : Int => I z) (((eF77 10 1).trans ey77_1_1) : F77 10 1 = y77_1_1)) ?_
            refine Ew_of (pc' := 191) (fun _ => x_iload rfl (rk_o (lc147_7) rfl rfl)) ?_
            have hc199 : ∀ (tc199_0 : Int), ∀ (ls : rO) (σ : rS) (F_c199 : hF) (A_c199 : hA) , rlook ls 0 = some (.ref (D77 0)) → rlook ls 1 = some (.ref (D77 1)) → rlook ls 2 = some (.ref (D77 2)) → rlook ls 3 = some (.ref (D77 8)) → rlook ls 4 = some (I (y35_0_6)) → rlook ls 5 = some (I (v38)) → rlook ls 6 = some (I (x82_6)) → rlook ls 8 = some (I (yc147_8_1)) → HW V218_Row_Row σ D77 N77 F_c199 A_c199 → OUT (V218_Row_Row).length D N σE c s D77 N77 σ ((c_82 + c68) + c77) ((s_82 + s68) + s77) → SF [] F77 F_c199 → SA [] A77 A_c199 → (inr (tc199_0)) → (((y77_1_1) < (z65) ∧ (tc199_0) = (0)) ∨ ((y77_1_1) ≥ (z65) ∧ (tc199_0) = (1))) → Ew 218 (d + 6) 199 ls [I (tc199_0)] σ ((c_82 + c68) + c77) ((s_82 + s68) + s77) Q := by
             as_aux_lemma =>
              intro tc199_0 ls σ F_c199 A_c199  lc199_0 lc199_1 lc199_2 lc199_3 lc199_4 lc199_5 lc199_6 lc199_8 H O hS_c199 hA_c199     jc199_0 jc199_1
              try clear pz68_1
              try clear pz77_2
              try clear pz77_5
              refine Ew_of (pc' := 201) (fun _ => x_istore rfl) ?_
              refine Ew_of (pc' := 202) (fun _ => x_aload_n rfl (rk_o (lc199_0) rfl rfl)) ?_
              refine Ew_of (pc' := 203) (fun _ => x_aload_n rfl (rk_o (lc199_1) rfl rfl)) ?_
              refine Ew_of (pc' := 205) (fun _ => x_iload rfl rk_s) ?_
              refine w_ifeq (t := 212) rfl rfl (show inr (tc199_0) by omega) (fun b85 => ?_) (fun b85 => ?_)
              · refine Ew_of (pc' := 213) (fun _ => x_aload_n rfl (rk_o (lc199_0) rfl rfl)) ?_
                refine v_g H (o := 0) (v := .ref (D77 10)) rfl rfl rfl rfl rfl (vrf (((hS_c199 0 3 rfl)).trans (pf77_0_3))) ?_
                refine Ew_of (pc' := 218) (fun _ => x_iload rfl rk_s) ?_
                have hc227 : ∀ (tc227_0 : Int), ∀ (ls : rO) (σ : rS) (F_c227 : hF) (A_c227 : hA) , rlook ls 0 = some (.ref (D77 0)) → rlook ls 1 = some (.ref (D77 1)) → rlook ls 2 = some (.ref (D77 2)) → rlook ls 3 = some (.ref (D77 8)) → rlook ls 4 = some (I (y35_0_6)) → rlook ls 5 = some (I (v38)) → rlook ls 6 = some (I (x82_6)) → rlook ls 9 = some (I (tc199_0)) → HW V218_Row_Row σ D77 N77 F_c227 A_c227 → OUT (V218_Row_Row).length D N σE c s D77 N77 σ ((c_82 + c68) + c77) ((s_82 + s68) + s77) → SF [] F_c199 F_c227 → SA [] A_c199 A_c227 → (inr (tc227_0)) → (((tc199_0) = (0) ∧ (tc227_0) = (0)) ∨ ((tc199_0) ≠ (0) ∧ (tc227_0) = (yc147_8_1))) → Ew 218 (d + 6) 227 ls [I (tc227_0), .ref (D77 10), .ref (D77 1), .ref (D77 0)] σ ((c_82 + c68) + c77) ((s_82 + s68) + s77) Q := by
                 as_aux_lemma =>
                  intro tc227_0 ls σ F_c227 A_c227  lc227_0 lc227_1 lc227_2 lc227_3 lc227_4 lc227_5 lc227_6 lc227_9 H O hS_c227 hA_c227     jc227_0 jc227_1
                  refine Ew_of (pc' := 229) (fun _ => x_iload rfl lc227_9) ?_
                  refine v_inv H (o := 0) rfl rfl rfl rfl rfl rfl (by rfl) (C220_Row_thispackeda (D := pul [0, 1, 3, 10, 11] D77) (N := pul [0, 1, 3, 10, 11] N77) (HW_sub H (VS_of (show vsub V218_Row_Row V220_Row_thispackeda [0, 1, 3, 10, 11] = true by decide +kernel))) ((((hS_c227 1 0 rfl).trans (hS_c199 1 0 rfl))).trans (pf77_1_0)) ((((hS_c227 0 3 rfl).trans (hS_c199 0 3 rfl))).trans (pf77_0_3)) ((((hS_c227 10 0 rfl).trans (hS_c199 10 0 rfl))).trans (pf77_10_0)) (m82_3) ((congrArg (fun q : Nat => (q : Int)) (show N77 3 = N68 3 from (eN77 3))).trans ((congrArg (fun q : Nat => (q : Int)) (show N68 3 = N_82 3 from (eN68 3))).trans (em82_3))) (m77_2) ((congrArg (fun q : Nat => (q : Int)) (eN77 11)).trans em77_2) (y82_1_1) ((((((((hS_c227 1 1 rfl).trans (hS_c199 1 1 rfl)).trans ((show F77 1 1 = F73 1 1 from (eF77 1 1)))).trans ((show F73 1 1 = F68 1 1 from (eF73 1 1)))).trans ((show F68 1 1 = F_c147 1 1 from (eF68 1 1)))).trans (hS_c147 1 1 rfl)).trans (ey82_1_1))) (y77_1_1) ((((hS_c227 10 1 rfl).trans (hS_c199 10 1 rfl)).trans ((eF77 10 1).trans ey77_1_1))) (show inr (tc227_0) by omega) (show inr (tc199_0) by omega) (show (tc199_0) = 0 ∨ (tc199_0) = 1 by omega) (show 0 ≤ (y82_1_1) ∧ (y82_1_1) ≤ (m82_3) ∧ (m82_3) ≤ 65536 by omega) (show 0 ≤ (y77_1_1) ∧ (y77_1_1) ≤ (m77_2) ∧ (m77_2) ≤ 65536 by omega) (show 0 ≤ (tc227_0) ∧ (tc227_0) ≤ (y77_1_1) by omega) (fun σ86 D86' N86' F86' A86' c86 s86 H' O' hD86 hN86 hS86 hA86 pm86_2 m86_2 em86_2 y86_1_1 ey86_1_1 pz86_0 => ⟨rfl, ?_⟩))
                  replace pm86_2 := HIDm pm86_2
                  replace em86_2 := HIDm em86_2
                  replace ey86_1_1 := HIDm ey86_1_1
                  refine v_backM (c := ((c_82 + c68) + c77)) (s := ((s_82 + s68) + s77)) H (show vsub V218_Row_Row V220_Row_thispackeda [0, 1, 3, 10, 11] = true by decide +kernel) H' O' hD86 (show vmov V218_Row_Row [0, 1, 3, 10, 11] [2] = true by decide +kernel) (fun D86 N86 F86 A86 H O' eD86 eN86 eF86 eA86 => ?_)
                  have O := OUT_trans O O'
                  -- Tokens.addBlock
                  have pf86_0_0 : HID (F86 0 0 = (D86 12 : Int)) := ((show F86 0 0 = F_c227 0 0 from (eF86 0 0).trans (hS86 0 0 rfl))).trans (((((hS_c227 0 0 rfl).trans (hS_c199 0 0 rfl))).trans (pf77_0_0)).trans (congrArg (fun q : Nat => (q : Int)) ((show D86 12 = D77 12 from (eD86 12))).symm))
                  have pf86_0_1 : HID (F86 0 1 = (D86 5 : Int)) := ((show F86 0 1 = F_c227 0 1 from (eF86 0 1).trans (hS86 0 1 rfl))).trans (((((hS_c227 0 1 rfl).trans (hS_c199 0 1 rfl))).trans (pf77_0_1)).trans (congrArg (fun q : Nat => (q : Int)) ((show D86 5 = D77 5 from (eD86 5))).symm))
                  have pf86_0_2 : HID (F86 0 2 = (D86 7 : Int)) := ((show F86 0 2 = F_c227 0 2 from (eF86 0 2).trans (hS86 0 2 rfl))).trans (((((hS_c227 0 2 rfl).trans (hS_c199 0 2 rfl))).trans (pf77_0_2)).trans (congrArg (fun q : Nat => (q : Int)) ((show D86 7 = D77 7 from (eD86 7))).symm))
                  have pf86_0_3 : HID (F86 0 3 = (D86 10 : Int)) := ((show F86 0 3 = F_c227 0 3 from (eF86 0 3).trans (hS86 0 3 rfl))).trans (((((hS_c227 0 3 rfl).trans (hS_c199 0 3 rfl))).trans (pf77_0_3)).trans (congrArg (fun q : Nat => (q : Int)) ((show D86 10 = D77 10 from (eD86 10).trans (hD86 3 rfl))).symm))
                  have pf86_1_0 : HID (F86 1 0 = (D86 3 : Int)) := (eF86 1 0).trans (pm86_2.trans (congrArg (fun q : Nat => (q : Int)) (eD86 3).symm))
                  have pf86_10_0 : HID (F86 10 0 = (D86 11 : Int)) := ((show F86 10 0 = F_c227 10 0 from (eF86 10 0).trans (hS86 3 0 rfl))).trans (((((hS_c227 10 0 rfl).trans (hS_c199 10 0 rfl))).trans (pf77_10_0)).trans (congrArg (fun q : Nat => (q : Int)) ((show D86 11 = D77 11 from (eD86 11).trans (hD86 4 rfl))).symm))
                  have pf86_2_0 : HID (F86 2 0 = (D86 4 : Int)) := ((show F86 2 0 = F_c227 2 0 from (eF86 2 0))).trans (((((hS_c227 2 0 rfl).trans (hS_c199 2 0 rfl))).trans (pf77_2_0)).trans (congrArg (fun q : Nat => (q : Int)) ((show D86 4 = D77 4 from (eD86 4))).symm))
                  have pf86_5_0 : HID (F86 5 0 = (D86 6 : Int)) := ((show F86 5 0 = F_c227 5 0 from (eF86 5 0))).trans (((((hS_c227 5 0 rfl).trans (hS_c199 5 0 rfl))).trans (pf77_5_0)).trans (congrArg (fun q : Nat => (q : Int)) ((show D86 6 = D77 6 from (eD86 6))).symm))
                  have pf86_7_0 : HID (F86 7 0 = (D86 8 : Int)) := ((show F86 7 0 = F_c227 7 0 from (eF86 7 0))).trans (((((hS_c227 7 0 rfl).trans (hS_c199 7 0 rfl))).trans (pf77_7_0)).trans (congrArg (fun q : Nat => (q : Int)) ((show D86 8 = D77 8 from (eD86 8))).symm))
                  have pf86_7_1 : HID (F86 7 1 = (D86 15 : Int)) := ((show F86 7 1 = F_c227 7 1 from (eF86 7 1))).trans (((((hS_c227 7 1 rfl).trans (hS_c199 7 1 rfl))).trans (pf77_7_1)).trans (congrArg (fun q : Nat => (q : Int)) ((show D86 15 = D77 15 from (eD86 15))).symm))
                  have pf86_7_2 : HID (F86 7 2 = (D86 16 : Int)) := ((show F86 7 2 = F_c227 7 2 from (eF86 7 2))).trans (((((hS_c227 7 2 rfl).trans (hS_c199 7 2 rfl))).trans (pf77_7_2)).trans (congrArg (fun q : Nat => (q : Int)) ((show D86 16 = D77 16 from (eD86 16))).symm))
                  have pf86_7_3 : HID (F86 7 3 = (D86 17 : Int)) := ((show F86 7 3 = F_c227 7 3 from (eF86 7 3))).trans (((((hS_c227 7 3 rfl).trans (hS_c199 7 3 rfl))).trans (pf77_7_3)).trans (congrArg (fun q : Nat => (q : Int)) ((show D86 17 = D77 17 from (eD86 17))).symm))
                  have pf86_7_7 : HID (F86 7 7 = (D86 13 : Int)) := ((show F86 7 7 = F_c227 7 7 from (eF86 7 7))).trans (((((hS_c227 7 7 rfl).trans (hS_c199 7 7 rfl))).trans (pf77_7_7)).trans (congrArg (fun q : Nat => (q : Int)) ((show D86 13 = D77 13 from (eD86 13))).symm))
                  have pf86_7_8 : HID (F86 7 8 = (D86 14 : Int)) := ((show F86 7 8 = F_c227 7 8 from (eF86 7 8))).trans (((((hS_c227 7 8 rfl).trans (hS_c199 7 8 rfl))).trans (pf77_7_8)).trans (congrArg (fun q : Nat => (q : Int)) ((show D86 14 = D77 14 from (eD86 14))).symm))
                  have pf86_8_0 : HID (F86 8 0 = (D86 9 : Int)) := ((show F86 8 0 = F_c227 8 0 from (eF86 8 0))).trans (((((hS_c227 8 0 rfl).trans (hS_c199 8 0 rfl))).trans (pf77_8_0)).trans (congrArg (fun q : Nat => (q : Int)) ((show D86 9 = D77 9 from (eD86 9))).symm))
                  have r87 : (0 : Int) ≤ m86_2 ∧ m86_2 ≤ 1000000 := by have h1 := H.nle 3 (by decide); have h2 : (N86 3 : Int) = m86_2 := (congrArg (fun q : Nat => (q : Int)) (eN86 3)).trans em86_2; omega
                  have r88 : (-2147483648 : Int) ≤ y86_1_1 ∧ y86_1_1 ≤ 2147483647 := by have h1 : (-2147483648 : Int) ≤ F86 1 1 ∧ F86 1 1 ≤ 2147483647 := H.krg 1 1 (by decide); rw [show F86 1 1 = y86_1_1 from ((eF86 1 1).trans ey86_1_1)] at h1; exact h1
                  refine Ew_of (pc' := 234) (fun _ => x_iload rfl lc227_6) ?_
                  refine Ew_of (pc' := 236) (fun _ => x_iload rfl lc227_5) ?_
                  refine w_iadd rfl ?_
                  refine Ew_of (pc' := 239) (fun _ => x_istore rfl) ?_
                  refine Ew_of (pc' := 82) (fun _ => x_goto rfl rfl) ?_
                  exact ih82 _ (by omega) _ _ _ _ _ _ _ _ ((x82_6 + v38)) ((rk_o (lc227_0) rfl rfl).trans (congrArg (fun q : Nat => some (Value.ref q)) (((show D86 0 = D77 0 from (eD86 0).trans (hD86 0 rfl)))).symm)) ((rk_o (lc227_1) rfl rfl).trans (congrArg (fun q : Nat => some (Value.ref q)) (((show D86 1 = D77 1 from (eD86 1).trans (hD86 1 rfl)))).symm)) ((rk_o (lc227_2) rfl rfl).trans (congrArg (fun q : Nat => some (Value.ref q)) (((show D86 2 = D77 2 from (eD86 2)))).symm)) ((rk_o (lc227_3) rfl rfl).trans (congrArg (fun q : Nat => some (Value.ref q)) (((show D86 8 = D77 8 from (eD86 8)))).symm)) (rk_o (lc227_4) rfl rfl) (rk_o (lc227_5) rfl rfl) (rk_s) H O (SD_trans (SD_trans (SD_trans (hD_82) (SD_glu (ι := [8, 4, 9]) hD68 eD68 (by decide +kernel)) (any_subA (l' := [9]) rfl)) (SD_glu (ι := [0, 10, 11, 7, 8, 9, 14, 13, 15, 16, 17]) hD77 eD77 (by decide +kernel)) (any_subA (l' := [11, 14, 15, 16, 17]) rfl)) (SD_glu (ι := [0, 1, 3, 10, 11]) hD86 eD86 (by decide +kernel)) (any_subA (l' := [3]) rfl)) (SD_trans (SD_trans (SD_trans (hN_82) (SD_glu (ι := [8, 4, 9]) hN68 eN68 (by decide +kernel)) (any_subA (l' := [9]) rfl)) (SD_glu (ι := [0, 10, 11, 7, 8, 9, 14, 13, 15, 16, 17]) hN77 eN77 (by decide +kernel)) (any_subA (l' := [11, 14, 15, 16, 17]) rfl)) (SD_glu (ι := [0, 1, 3, 10, 11]) hN86 eN86 (by decide +kernel)) (any_subA (l' := [3]) rfl)) (SF_trans (SF_trans (SF_trans (SF_trans (SF_trans (SF_trans (SF_trans (hS_82) hS_c147 (any_sub rfl)) (SF_glu (ι := [8, 4, 9]) hS68 eF68 (by decide +kernel)) (any_sub (l' := [(8, 0), (8, 1), (8, 2)]) rfl)) (SF_glu (ι := [10]) hS73 eF73 (by decide +kernel)) (any_sub (l' := [(10, 1), (10, 2), (10, 3), (10, 4)]) rfl)) (SF_glu (ι := [0, 10, 11, 7, 8, 9, 14, 13, 15, 16, 17]) hS77 eF77 (by decide +kernel)) (any_sub (l' := [(7, 1), (7, 2), (7, 3), (7, 4), (7, 5), (7, 6), (7, 8), (7, 12), (7, 13), (7, 14), (7, 15), (7, 16), (7, 17), (7, 18), (10, 0), (10, 1), (10, 2)]) rfl)) hS_c199 (any_sub rfl)) hS_c227 (any_sub rfl)) (SF_glu (ι := [0, 1, 3, 10, 11]) hS86 eF86 (by decide +kernel)) (any_sub (l' := [(1, 0), (1, 1), (1, 2)]) rfl)) (SA_trans (SA_trans (SA_trans (SA_trans (SA_trans (SA_trans (SA_trans (hA_82) hA_c147 (any_subA rfl)) (SA_glu (ι := [8, 4, 9]) hA68 eA68 (by decide +kernel)) (any_subA (l' := [9]) rfl)) (SA_glu (ι := [10]) hA73 eA73 (by decide +kernel)) (any_subA (l' := []) rfl)) (SA_glu (ι := [0, 10, 11, 7, 8, 9, 14, 13, 15, 16, 17]) hA77 eA77 (by decide +kernel)) (any_subA (l' := [11, 13, 14, 15, 16, 17]) rfl)) hA_c199 (any_subA rfl)) hA_c227 (any_subA rfl)) (SA_glu (ι := [0, 1, 3, 10, 11]) hA86 eA86 (by decide +kernel)) (any_subA (l' := [3]) rfl)) (pf86_1_0) (pf86_8_0) (pf86_10_0) (pf86_7_8) (pf86_7_1) (pf86_7_2) (pf86_7_3) (m86_2) ((congrArg (fun q : Nat => (q : Int)) (eN86 3)).trans em86_2) (m68_2) ((congrArg (fun q : Nat => (q : Int)) (show N86 9 = N77 9 from (eN86 9))).trans ((congrArg (fun q : Nat => (q : Int)) (show N77 9 = N68 9 from (eN77 9).trans (hN77 5 rfl))).trans ((congrArg (fun q : Nat => (q : Int)) (eN68 9)).trans em68_2))) (m77_2) ((congrArg (fun q : Nat => (q : Int)) (show N86 11 = N77 11 from (eN86 11).trans (hN86 4 rfl))).trans ((congrArg (fun q : Nat => (q : Int)) (eN77 11)).trans em77_2)) (m77_6) ((congrArg (fun q : Nat => (q : Int)) (show N86 14 = N77 14 from (eN86 14))).trans ((congrArg (fun q : Nat => (q : Int)) (eN77 14)).trans em77_6)) (m77_8) ((congrArg (fun q : Nat => (q : Int)) (show N86 15 = N77 15 from (eN86 15))).trans ((congrArg (fun q : Nat => (q : Int)) (eN77 15)).trans em77_8)) (m77_9) ((congrArg (fun q : Nat => (q : Int)) (show N86 16 = N77 16 from (eN86 16))).trans ((congrArg (fun q : Nat => (q : Int)) (eN77 16)).trans em77_9)) (m77_10) ((congrArg (fun q : Nat => (q : Int)) (show N86 17 = N77 17 from (eN86 17))).trans ((congrArg (fun q : Nat => (q : Int)) (eN77 17)).trans em77_10)) (y86_1_1) (((eF86 1 1).trans ey86_1_1)) (y77_3_6) ((((((show F86 7 6 = F_c227 7 6 from (eF86 7 6))).trans (hS_c227 7 6 rfl)).trans (hS_c199 7 6 rfl)).trans ((eF77 7 6).trans ey77_3_6))) (y68_0_1) ((((((((show F86 8 1 = F_c227 8 1 from (eF86 8 1))).trans (hS_c227 8 1 rfl)).trans (hS_c199 8 1 rfl)).trans ((show F77 8 1 = F73 8 1 from (eF77 8 1).trans (hS77 4 1 rfl)))).trans ((show F73 8 1 = F68 8 1 from (eF73 8 1)))).trans ((eF68 8 1).trans ey68_0_1))) (y77_1_1) ((((((show F86 10 1 = F_c227 10 1 from (eF86 10 1).trans (hS86 3 1 rfl))).trans (hS_c227 10 1 rfl)).trans (hS_c199 10 1 rfl)).trans ((eF77 10 1).trans ey77_1_1))) (w68_2) (((show A86 9 = A_c227 9 from (eA86 9))).trans ((funext (hA_c227 9 rfl)).trans ((funext (hA_c199 9 rfl)).trans (((show A77 9 = A73 9 from (eA77 9).trans (funext (hA77 5 rfl)))).trans (((show A73 9 = A68 9 from (eA73 9))).trans ((eA68 9).trans ew68_2)))))) (w77_7) (((show A86 13 = A_c227 13 from (eA86 13))).trans ((funext (hA_c227 13 rfl)).trans ((funext (hA_c199 13 rfl)).trans ((eA77 13).trans ew77_7)))) (w77_6) (((show A86 14 = A_c227 14 from (eA86 14))).trans ((funext (hA_c227 14 rfl)).trans ((funext (hA_c199 14 rfl)).trans ((eA77 14).trans ew77_6)))) (show inr ((x82_6 + v38)) by omega) (show 0 ≤ (y86_1_1) ∧ (y86_1_1) ≤ (m86_2) ∧ (m86_2) ≤ 65536 by omega) (show 0 ≤ ((x82_6 + v38)) ∧ ((x82_6 + v38)) ≤ (u2_1) + 65536 by omega) (show 0 ≤ (y68_0_1) ∧ (y68_0_1) ≤ (m68_2) ∧ (m68_2) ≤ 65536 ∧ (y68_0_1) ≤ 16384 by omega) (show 0 ≤ (y77_1_1) ∧ (y77_1_1) ≤ (m77_2) ∧ (m77_2) ≤ 65536 by omega) (show (m29_1) = 2048 by omega) (show 0 ≤ (y77_3_6) ∧ (y77_3_6) ≤ (m77_6) ∧ (m77_6) ≤ 16384 by omega) (show (y77_3_6) = 0 ∨ (y77_3_6) + 4 ≤ (y68_0_1) + 1 by omega) (show BKI ((w68_2)) ((w77_6)) ((y29_0_10)) ((y77_3_6)) by assumption) (show HDI ((w68_2)) ((w77_7)) ((y29_0_10)) ((y77_3_6)) by assumption) (show (m77_8) = (m77_9) ∧ (m77_10) = (m77_9) ∧ (m77_9) ≤ 65536 ∧ ((m77_9) = 0 ∨ 64 ≤ (m77_9)) ∧ lgq ((m77_9)) = 0 by omega) (show 0 ≤ (y35_0_6) ∧ (y35_0_6) ≤ (y77_3_6) by omega) (show (y35_0_6) = 0 ∨ (y35_0_6) + 4 ≤ (u5_1) + 1 by omega) (show (u5_1) ≤ (y68_0_1) ∧ (y68_0_1) ≤ (u5_1) + ((x82_6 + v38)) by omega) rfl
                refine w_ifeq (t := 226) rfl rfl (show inr (tc199_0) by omega) (fun b89 => ?_) (fun b89 => ?_)
                · refine Ew_of (pc' := 227) (fun _ => x_iconst rfl) ?_
                  exact hc227 (0) _ _ _ _  (rk_o (lc199_0) rfl rfl) (rk_o (lc199_1) rfl rfl) (rk_o (lc199_2) rfl rfl) (rk_o (lc199_3) rfl rfl) (rk_o (lc199_4) rfl rfl) (rk_o (lc199_5) rfl rfl) (rk_o (lc199_6) rfl rfl) (rk_s) H O (SF_refl) (SA_refl)     (show inr (0) by omega) (show ((tc199_0) = (0) ∧ (0) = (0)) ∨ ((tc199_0) ≠ (0) ∧ (0) = (yc147_8_1)) by omega)
                · refine Ew_of (pc' := 223) (fun _ => x_iload rfl (rk_o (lc199_8) rfl rfl)) ?_
                  refine Ew_of (pc' := 227) (fun _ => x_goto rfl rfl) ?_
                  exact hc227 (yc147_8_1) _ _ _ _  (rk_o (lc199_0) rfl rfl) (rk_o (lc199_1) rfl rfl) (rk_o (lc199_2) rfl rfl) (rk_o (lc199_3) rfl rfl) (rk_o (lc199_4) rfl rfl) (rk_o (lc199_5) rfl rfl) (rk_o (lc199_6) rfl rfl) (rk_s) H O (SF_refl) (SA_refl)     (show inr (yc147_8_1) by omega) (show ((tc199_0) = (0) ∧ (yc147_8_1) = (0)) ∨ ((tc199_0) ≠ (0) ∧ (yc147_8_1) = (yc147_8_1)) by omega)
              · refine Ew_of (pc' := 209) (fun _ => x_aload_n rfl (rk_o (lc199_3) rfl rfl)) ?_
                refine Ew_of (pc' := 216) (fun _ => x_goto rfl rfl) ?_
                refine Ew_of (pc' := 218) (fun _ => x_iload rfl rk_s) ?_
                have hc227 : ∀ (tc227_0 : Int), ∀ (ls : rO) (σ : rS) (F_c227 : hF) (A_c227 : hA) , rlook ls 0 = some (.ref (D77 0)) → rlook ls 1 = some (.ref (D77 1)) → rlook ls 2 = some (.ref (D77 2)) → rlook ls 3 = some (.ref (D77 8)) → rlook ls 4 = some (I (y35_0_6)) → rlook ls 5 = some (I (v38)) → rlook ls 6 = some (I (x82_6)) → rlook ls 9 = some (I (tc199_0)) → HW V218_Row_Row σ D77 N77 F_c227 A_c227 → OUT (V218_Row_Row).length D N σE c s D77 N77 σ ((c_82 + c68) + c77) ((s_82 + s68) + s77) → SF [] F_c199 F_c227 → SA [] A_c199 A_c227 → (inr (tc227_0)) → (((tc199_0) = (0) ∧ (tc227_0) = (0)) ∨ ((tc199_0) ≠ (0) ∧ (tc227_0) = (yc147_8_1))) → Ew 218 (d + 6) 227 ls [I (tc227_0), .ref (D77 8), .ref (D77 1), .ref (D77 0)] σ ((c_82 + c68) + c77) ((s_82 + s68) + s77) Q := by
                 as_aux_lemma =>
                  intro tc227_0 ls σ F_c227 A_c227  lc227_0 lc227_1 lc227_2 lc227_3 lc227_4 lc227_5 lc227_6 lc227_9 H O hS_c227 hA_c227     jc227_0 jc227_1
                  refine Ew_of (pc' := 229) (fun _ => x_iload rfl lc227_9) ?_
                  refine v_inv H (o := 0) rfl rfl rfl rfl rfl rfl (by rfl) (C220_Row_thisfinderdataa (D := pul [0, 1, 3, 7, 8, 9] D77) (N := pul [0, 1, 3, 7, 8, 9] N77) (HW_sub H (VS_of (show vsub V218_Row_Row V220_Row_thisfinderdataa [0, 1, 3, 7, 8, 9] = true by decide +kernel))) ((((hS_c227 1 0 rfl).trans (hS_c199 1 0 rfl))).trans (pf77_1_0)) ((((hS_c227 0 2 rfl).trans (hS_c199 0 2 rfl))).trans (pf77_0_2)) ((((hS_c227 7 0 rfl).trans (hS_c199 7 0 rfl))).trans (pf77_7_0)) ((((hS_c227 8 0 rfl).trans (hS_c199 8 0 rfl))).trans (pf77_8_0)) (m82_3) ((congrArg (fun q : Nat => (q : Int)) (show N77 3 = N68 3 from (eN77 3))).trans ((congrArg (fun q : Nat => (q : Int)) (show N68 3 = N_82 3 from (eN68 3))).trans (em82_3))) (m68_2) ((congrArg (fun q : Nat => (q : Int)) (show N77 9 = N68 9 from (eN77 9).trans (hN77 5 rfl))).trans ((congrArg (fun q : Nat => (q : Int)) (eN68 9)).trans em68_2)) (y82_1_1) ((((((((hS_c227 1 1 rfl).trans (hS_c199 1 1 rfl)).trans ((show F77 1 1 = F73 1 1 from (eF77 1 1)))).trans ((show F73 1 1 = F68 1 1 from (eF73 1 1)))).trans ((show F68 1 1 = F_c147 1 1 from (eF68 1 1)))).trans (hS_c147 1 1 rfl)).trans (ey82_1_1))) (y68_0_1) ((((((hS_c227 8 1 rfl).trans (hS_c199 8 1 rfl)).trans ((show F77 8 1 = F73 8 1 from (eF77 8 1).trans (hS77 4 1 rfl)))).trans ((show F73 8 1 = F68 8 1 from (eF73 8 1)))).trans ((eF68 8 1).trans ey68_0_1))) (show inr (tc227_0) by omega) (show inr (tc199_0) by omega) (show (tc199_0) = 0 ∨ (tc199_0) = 1 by omega) (show 0 ≤ (y82_1_1) ∧ (y82_1_1) ≤ (m82_3) ∧ (m82_3) ≤ 65536 by omega) (show 0 ≤ (y68_0_1) ∧ (y68_0_1) ≤ (m68_2) ∧ (m68_2) ≤ 65536 by omega) (show 0 ≤ (tc227_0) ∧ (tc227_0) ≤ (y68_0_1) by omega) (fun σ90 D90' N90' F90' A90' c90 s90 H' O' hD90 hN90 hS90 hA90 pm90_2 m90_2 em90_2 y90_1_1 ey90_1_1 pz90_0 => ⟨rfl, ?_⟩))
                  replace pm90_2 := HIDm pm90_2
                  replace em90_2 := HIDm em90_2
                  replace ey90_1_1 := HIDm ey90_1_1
                  refine v_backM (c := ((c_82 + c68) + c77)) (s := ((s_82 + s68) + s77)) H (show vsub V218_Row_Row V220_Row_thisfinderdataa [0, 1, 3, 7, 8, 9] = true by decide +kernel) H' O' hD90 (show vmov V218_Row_Row [0, 1, 3, 7, 8, 9] [2] = true by decide +kernel) (fun D90 N90 F90 A90 H O' eD90 eN90 eF90 eA90 => ?_)
                  have O := OUT_trans O O'
                  -- Tokens.addBlock
                  have pf90_0_0 : HID (F90 0 0 = (D90 12 : Int)) := ((show F90 0 0 = F_c227 0 0 from (eF90 0 0).trans (hS90 0 0 rfl))).trans (((((hS_c227 0 0 rfl).trans (hS_c199 0 0 rfl))).trans (pf77_0_0)).trans (congrArg (fun q : Nat => (q : Int)) ((show D90 12 = D77 12 from (eD90 12))).symm))
                  have pf90_0_1 : HID (F90 0 1 = (D90 5 : Int)) := ((show F90 0 1 = F_c227 0 1 from (eF90 0 1).trans (hS90 0 1 rfl))).trans (((((hS_c227 0 1 rfl).trans (hS_c199 0 1 rfl))).trans (pf77_0_1)).trans (congrArg (fun q : Nat => (q : Int)) ((show D90 5 = D77 5 from (eD90 5))).symm))
                  have pf90_0_2 : HID (F90 0 2 = (D90 7 : Int)) := ((show F90 0 2 = F_c227 0 2 from (eF90 0 2).trans (hS90 0 2 rfl))).trans (((((hS_c227 0 2 rfl).trans (hS_c199 0 2 rfl))).trans (pf77_0_2)).trans (congrArg (fun q : Nat => (q : Int)) ((show D90 7 = D77 7 from (eD90 7).trans (hD90 3 rfl))).symm))
                  have pf90_0_3 : HID (F90 0 3 = (D90 10 : Int)) := ((show F90 0 3 = F_c227 0 3 from (eF90 0 3).trans (hS90 0 3 rfl))).trans (((((hS_c227 0 3 rfl).trans (hS_c199 0 3 rfl))).trans (pf77_0_3)).trans (congrArg (fun q : Nat => (q : Int)) ((show D90 10 = D77 10 from (eD90 10))).symm))
                  have pf90_1_0 : HID (F90 1 0 = (D90 3 : Int)) := (eF90 1 0).trans (pm90_2.trans (congrArg (fun q : Nat => (q : Int)) (eD90 3).symm))
                  have pf90_10_0 : HID (F90 10 0 = (D90 11 : Int)) := ((show F90 10 0 = F_c227 10 0 from (eF90 10 0))).trans (((((hS_c227 10 0 rfl).trans (hS_c199 10 0 rfl))).trans (pf77_10_0)).trans (congrArg (fun q : Nat => (q : Int)) ((show D90 11 = D77 11 from (eD90 11))).symm))
                  have pf90_2_0 : HID (F90 2 0 = (D90 4 : Int)) := ((show F90 2 0 = F_c227 2 0 from (eF90 2 0))).trans (((((hS_c227 2 0 rfl).trans (hS_c199 2 0 rfl))).trans (pf77_2_0)).trans (congrArg (fun q : Nat => (q : Int)) ((show D90 4 = D77 4 from (eD90 4))).symm))
                  have pf90_5_0 : HID (F90 5 0 = (D90 6 : Int)) := ((show F90 5 0 = F_c227 5 0 from (eF90 5 0))).trans (((((hS_c227 5 0 rfl).trans (hS_c199 5 0 rfl))).trans (pf77_5_0)).trans (congrArg (fun q : Nat => (q : Int)) ((show D90 6 = D77 6 from (eD90 6))).symm))
                  have pf90_7_0 : HID (F90 7 0 = (D90 8 : Int)) := ((show F90 7 0 = F_c227 7 0 from (eF90 7 0).trans (hS90 3 0 rfl))).trans (((((hS_c227 7 0 rfl).trans (hS_c199 7 0 rfl))).trans (pf77_7_0)).trans (congrArg (fun q : Nat => (q : Int)) ((show D90 8 = D77 8 from (eD90 8).trans (hD90 4 rfl))).symm))
                  have pf90_7_1 : HID (F90 7 1 = (D90 15 : Int)) := ((show F90 7 1 = F_c227 7 1 from (eF90 7 1).trans (hS90 3 1 rfl))).trans (((((hS_c227 7 1 rfl).trans (hS_c199 7 1 rfl))).trans (pf77_7_1)).trans (congrArg (fun q : Nat => (q : Int)) ((show D90 15 = D77 15 from (eD90 15))).symm))
                  have pf90_7_2 : HID (F90 7 2 = (D90 16 : Int)) := ((show F90 7 2 = F_c227 7 2 from (eF90 7 2).trans (hS90 3 2 rfl))).trans (((((hS_c227 7 2 rfl).trans (hS_c199 7 2 rfl))).trans (pf77_7_2)).trans (congrArg (fun q : Nat => (q : Int)) ((show D90 16 = D77 16 from (eD90 16))).symm))
                  have pf90_7_3 : HID (F90 7 3 = (D90 17 : Int)) := ((show F90 7 3 = F_c227 7 3 from (eF90 7 3).trans (hS90 3 3 rfl))).trans (((((hS_c227 7 3 rfl).trans (hS_c199 7 3 rfl))).trans (pf77_7_3)).trans (congrArg (fun q : Nat => (q : Int)) ((show D90 17 = D77 17 from (eD90 17))).symm))
                  have pf90_7_7 : HID (F90 7 7 = (D90 13 : Int)) := ((show F90 7 7 = F_c227 7 7 from (eF90 7 7).trans (hS90 3 7 rfl))).trans (((((hS_c227 7 7 rfl).trans (hS_c199 7 7 rfl))).trans (pf77_7_7)).trans (congrArg (fun q : Nat => (q : Int)) ((show D90 13 = D77 13 from (eD90 13))).symm))
                  have pf90_7_8 : HID (F90 7 8 = (D90 14 : Int)) := ((show F90 7 8 = F_c227 7 8 from (eF90 7 8).trans (hS90 3 8 rfl))).trans (((((hS_c227 7 8 rfl).trans (hS_c199 7 8 rfl))).trans (pf77_7_8)).trans (congrArg (fun q : Nat => (q : Int)) ((show D90 14 = D77 14 from (eD90 14))).symm))
                  have pf90_8_0 : HID (F90 8 0 = (D90 9 : Int)) := ((show F90 8 0 = F_c227 8 0 from (eF90 8 0).trans (hS90 4 0 rfl))).trans (((((hS_c227 8 0 rfl).trans (hS_c199 8 0 rfl))).trans (pf77_8_0)).trans (congrArg (fun q : Nat => (q : Int)) ((show D90 9 = D77 9 from (eD90 9).trans (hD90 5 rfl))).symm))
                  have r91 : (0 : Int) ≤ m90_2 ∧ m90_2 ≤ 1000000 := by have h1 := H.nle 3 (by decide); have h2 : (N90 3 : Int) = m90_2 := (congrArg (fun q : Nat => (q : Int)) (eN90 3)).trans em90_2; omega
                  have r92 : (-2147483648 : Int) ≤ y90_1_1 ∧ y90_1_1 ≤ 2147483647 := by have h1 : (-2147483648 : Int) ≤ F90 1 1 ∧ F90 1 1 ≤ 2147483647 := H.krg 1 1 (by decide); rw [show F90 1 1 = y90_1_1 from ((eF90 1 1).trans ey90_1_1)] at h1; exact h1
                  refine Ew_of (pc' := 234) (fun _ => x_iload rfl lc227_6) ?_
                  refine Ew_of (pc' := 236) (fun _ => x_iload rfl lc227_5) ?_
                  refine w_iadd rfl ?_
                  refine Ew_of (pc' := 239) (fun _ => x_istore rfl) ?_
                  refine Ew_of (pc' := 82) (fun _ => x_goto rfl rfl) ?_
                  exact ih82 _ (by omega) _ _ _ _ _ _ _ _ ((x82_6 + v38)) ((rk_o (lc227_0) rfl rfl).trans (congrArg (fun q : Nat => some (Value.ref q)) (((show D90 0 = D77 0 from (eD90 0).trans (hD90 0 rfl)))).symm)) ((rk_o (lc227_1) rfl rfl).trans (congrArg (fun q : Nat => some (Value.ref q)) (((show D90 1 = D77 1 from (eD90 1).trans (hD90 1 rfl)))).symm)) ((rk_o (lc227_2) rfl rfl).trans (congrArg (fun q : Nat => some (Value.ref q)) (((show D90 2 = D77 2 from (eD90 2)))).symm)) ((rk_o (lc227_3) rfl rfl).trans (congrArg (fun q : Nat => some (Value.ref q)) (((show D90 8 = D77 8 from (eD90 8).trans (hD90 4 rfl)))).symm)) (rk_o (lc227_4) rfl rfl) (rk_o (lc227_5) rfl rfl) (rk_s) H O (SD_trans (SD_trans (SD_trans (hD_82) (SD_glu (ι := [8, 4, 9]) hD68 eD68 (by decide +kernel)) (any_subA (l' := [9]) rfl)) (SD_glu (ι := [0, 10, 11, 7, 8, 9, 14, 13, 15, 16, 17]) hD77 eD77 (by decide +kernel)) (any_subA (l' := [11, 14, 15, 16, 17]) rfl)) (SD_glu (ι := [0, 1, 3, 7, 8, 9]) hD90 eD90 (by decide +kernel)) (any_subA (l' := [3]) rfl)) (SD_trans (SD_trans (SD_trans (hN_82) (SD_glu (ι := [8, 4, 9]) hN68 eN68 (by decide +kernel)) (any_subA (l' := [9]) rfl)) (SD_glu (ι := [0, 10, 11, 7, 8, 9, 14, 13, 15, 16, 17]) hN77 eN77 (by decide +kernel)) (any_subA (l' := [11, 14, 15, 16, 17]) rfl)) (SD_glu (ι := [0, 1, 3, 7, 8, 9]) hN90 eN90 (by decide +kernel)) (any_subA (l' := [3]) rfl)) (SF_trans (SF_trans (SF_trans (SF_trans (SF_trans (SF_trans (SF_trans (hS_82) hS_c147 (any_sub rfl)) (SF_glu (ι := [8, 4, 9]) hS68 eF68 (by decide +kernel)) (any_sub (l' := [(8, 0), (8, 1), (8, 2)]) rfl)) (SF_glu (ι := [10]) hS73 eF73 (by decide +kernel)) (any_sub (l' := [(10, 1), (10, 2), (10, 3), (10, 4)]) rfl)) (SF_glu (ι := [0, 10, 11, 7, 8, 9, 14, 13, 15, 16, 17]) hS77 eF77 (by decide +kernel)) (any_sub (l' := [(7, 1), (7, 2), (7, 3), (7, 4), (7, 5), (7, 6), (7, 8), (7, 12), (7, 13), (7, 14), (7, 15), (7, 16), (7, 17), (7, 18), (10, 0), (10, 1), (10, 2)]) rfl)) hS_c199 (any_sub rfl)) hS_c227 (any_sub rfl)) (SF_glu (ι := [0, 1, 3, 7, 8, 9]) hS90 eF90 (by decide +kernel)) (any_sub (l' := [(1, 0), (1, 1), (1, 2)]) rfl)) (SA_trans (SA_trans (SA_trans (SA_trans (SA_trans (SA_trans (SA_trans (hA_82) hA_c147 (any_subA rfl)) (SA_glu (ι := [8, 4, 9]) hA68 eA68 (by decide +kernel)) (any_subA (l' := [9]) rfl)) (SA_glu (ι := [10]) hA73 eA73 (by decide +kernel)) (any_subA (l' := []) rfl)) (SA_glu (ι := [0, 10, 11, 7, 8, 9, 14, 13, 15, 16, 17]) hA77 eA77 (by decide +kernel)) (any_subA (l' := [11, 13, 14, 15, 16, 17]) rfl)) hA_c199 (any_subA rfl)) hA_c227 (any_subA rfl)) (SA_glu (ι := [0, 1, 3, 7, 8, 9]) hA90 eA90 (by decide +kernel)) (any_subA (l' := [3]) rfl)) (pf90_1_0) (pf90_8_0) (pf90_10_0) (pf90_7_8) (pf90_7_1) (pf90_7_2) (pf90_7_3) (m90_2) ((congrArg (fun q : Nat => (q : Int)) (eN90 3)).trans em90_2) (m68_2) ((congrArg (fun q : Nat => (q : Int)) (show N90 9 = N77 9 from (eN90 9).trans (hN90 5 rfl))).trans ((congrArg (fun q : Nat => (q : Int)) (show N77 9 = N68 9 from (eN77 9).trans (hN77 5 rfl))).trans ((congrArg (fun q : Nat => (q : Int)) (eN68 9)).trans em68_2))) (m77_2) ((congrArg (fun q : Nat => (q : Int)) (show N90 11 = N77 11 from (eN90 11))).trans ((congrArg (fun q : Nat => (q : Int)) (eN77 11)).trans em77_2)) (m77_6) ((congrArg (fun q : Nat => (q : Int)) (show N90 14 = N77 14 from (eN90 14))).trans ((congrArg (fun q : Nat => (q : Int)) (eN77 14)).trans em77_6)) (m77_8) ((congrArg (fun q : Nat => (q : Int)) (show N90 15 = N77 15 from (eN90 15))).trans ((congrArg (fun q : Nat => (q : Int)) (eN77 15)).trans em77_8)) (m77_9) ((congrArg (fun q : Nat => (q : Int)) (show N90 16 = N77 16 from (eN90 16))).trans ((congrArg (fun q : Nat => (q : Int)) (eN77 16)).trans em77_9)) (m77_10) ((congrArg (fun q : Nat => (q : Int)) (show N90 17 = N77 17 from (eN90 17))).trans ((congrArg (fun q : Nat => (q : Int)) (eN77 17)).trans em77_10)) (y90_1_1) (((eF90 1 1).trans ey90_1_1)) (y77_3_6) ((((((show F90 7 6 = F_c227 7 6 from (eF90 7 6).trans (hS90 3 6 rfl))).trans (hS_c227 7 6 rfl)).trans (hS_c199 7 6 rfl)).trans ((eF77 7 6).trans ey77_3_6))) (y68_0_1) ((((((((show F90 8 1 = F_c227 8 1 from (eF90 8 1).trans (hS90 4 1 rfl))).trans (hS_c227 8 1 rfl)).trans (hS_c199 8 1 rfl)).trans ((show F77 8 1 = F73 8 1 from (eF77 8 1).trans (hS77 4 1 rfl)))).trans ((show F73 8 1 = F68 8 1 from (eF73 8 1)))).trans ((eF68 8 1).trans ey68_0_1))) (y77_1_1) ((((((show F90 10 1 = F_c227 10 1 from (eF90 10 1))).trans (hS_c227 10 1 rfl)).trans (hS_c199 10 1 rfl)).trans ((eF77 10 1).trans ey77_1_1))) (w68_2) (((show A90 9 = A_c227 9 from (eA90 9).trans (funext (hA90 5 rfl)))).trans ((funext (hA_c227 9 rfl)).trans ((funext (hA_c199 9 rfl)).trans (((show A77 9 = A73 9 from (eA77 9).trans (funext (hA77 5 rfl)))).trans (((show A73 9 = A68 9 from (eA73 9))).trans ((eA68 9).trans ew68_2)))))) (w77_7) (((show A90 13 = A_c227 13 from (eA90 13))).trans ((funext (hA_c227 13 rfl)).trans ((funext (hA_c199 13 rfl)).trans ((eA77 13).trans ew77_7)))) (w77_6) (((show A90 14 = A_c227 14 from (eA90 14))).trans ((funext (hA_c227 14 rfl)).trans ((funext (hA_c199 14 rfl)).trans ((eA77 14).trans ew77_6)))) (show inr ((x82_6 + v38)) by omega) (show 0 ≤ (y90_1_1) ∧ (y90_1_1) ≤ (m90_2) ∧ (m90_2) ≤ 65536 by omega) (show 0 ≤ ((x82_6 + v38)) ∧ ((x82_6 + v38)) ≤ (u2_1) + 65536 by omega) (show 0 ≤ (y68_0_1) ∧ (y68_0_1) ≤ (m68_2) ∧ (m68_2) ≤ 65536 ∧ (y68_0_1) ≤ 16384 by omega) (show 0 ≤ (y77_1_1) ∧ (y77_1_1) ≤ (m77_2) ∧ (m77_2) ≤ 65536 by omega) (show (m29_1) = 2048 by omega) (show 0 ≤ (y77_3_6) ∧ (y77_3_6) ≤ (m77_6) ∧ (m77_6) ≤ 16384 by omega) (show (y77_3_6) = 0 ∨ (y77_3_6) + 4 ≤ (y68_0_1) + 1 by omega) (show BKI ((w68_2)) ((w77_6)) ((y29_0_10)) ((y77_3_6)) by assumption) (show HDI ((w68_2)) ((w77_7)) ((y29_0_10)) ((y77_3_6)) by assumption) (show (m77_8) = (m77_9) ∧ (m77_10) = (m77_9) ∧ (m77_9) ≤ 65536 ∧ ((m77_9) = 0 ∨ 64 ≤ (m77_9)) ∧ lgq ((m77_9)) = 0 by omega) (show 0 ≤ (y35_0_6) ∧ (y35_0_6) ≤ (y77_3_6) by omega) (show (y35_0_6) = 0 ∨ (y35_0_6) + 4 ≤ (u5_1) + 1 by omega) (show (u5_1) ≤ (y68_0_1) ∧ (y68_0_1) ≤ (u5_1) + ((x82_6 + v38)) by omega) rfl
                refine w_ifeq (t := 226) rfl rfl (show inr (tc199_0) by omega) (fun b93 => ?_) (fun b93 => ?_)
                · refine Ew_of (pc' := 227) (fun _ => x_iconst rfl) ?_
                  exact hc227 (0) _ _ _ _  (rk_o (lc199_0) rfl rfl) (rk_o (lc199_1) rfl rfl) (rk_o (lc199_2) rfl rfl) (rk_o (lc199_3) rfl rfl) (rk_o (lc199_4) rfl rfl) (rk_o (lc199_5) rfl rfl) (rk_o (lc199_6) rfl rfl) (rk_s) H O (SF_refl) (SA_refl)     (show inr (0) by omega) (show ((tc199_0) = (0) ∧ (0) = (0)) ∨ ((tc199_0) ≠ (0) ∧ (0) = (yc147_8_1)) by omega)
                · refine Ew_of (pc' := 223) (fun _ => x_iload rfl (rk_o (lc199_8) rfl rfl)) ?_
                  refine Ew_of (pc' := 227) (fun _ => x_goto rfl rfl) ?_
                  exact hc227 (yc147_8_1) _ _ _ _  (rk_o (lc199_0) rfl rfl) (rk_o (lc199_1) rfl rfl) (rk_o (lc199_2) rfl rfl) (rk_o (lc199_3) rfl rfl) (rk_o (lc199_4) rfl rfl) (rk_o (lc199_5) rfl rfl) (rk_o (lc199_6) rfl rfl) (rk_s) H O (SF_refl) (SA_refl)     (show inr (yc147_8_1) by omega) (show ((tc199_0) = (0) ∧ (yc147_8_1) = (0)) ∨ ((tc199_0) ≠ (0) ∧ (yc147_8_1) = (yc147_8_1)) by omega)
            refine w_icmplt (t := 198) rfl rfl (show inr (y77_1_1) by omega) (show inr (z65) by omega) (fun b94 => ?_) (fun b94 => ?_)
            · refine Ew_of (pc' := 199) (fun _ => x_iconst rfl) ?_
              exact hc199 (0) _ _ _ _  ((rk_o (lc147_0) rfl rfl).trans (congrArg (fun q : Nat => some (Value.ref q)) ((((show D77 0 = D68 0 from (eD77 0).trans (hD77 0 rfl))).trans ((show D68 0 = D_82 0 from (eD68 0))))).symm)) ((rk_o (lc147_1) rfl rfl).trans (congrArg (fun q : Nat => some (Value.ref q)) ((((show D77 1 = D68 1 from (eD77 1))).trans ((show D68 1 = D_82 1 from (eD68 1))))).symm)) ((rk_o (lc147_2) rfl rfl).trans (congrArg (fun q : Nat => some (Value.ref q)) ((((show D77 2 = D68 2 from (eD77 2))).trans ((show D68 2 = D_82 2 from (eD68 2))))).symm)) ((rk_o (lc147_3) rfl rfl).trans (congrArg (fun q : Nat => some (Value.ref q)) ((((show D77 8 = D68 8 from (eD77 8).trans (hD77 4 rfl))).trans ((show D68 8 = D_82 8 from (eD68 8).trans (hD68 0 rfl))))).symm)) (rk_o (lc147_4) rfl rfl) (rk_o (lc147_5) rfl rfl) (rk_o (lc147_6) rfl rfl) (rk_s) H O (SF_refl) (SA_refl)     (show inr (0) by omega) (show ((y77_1_1) < (z65) ∧ (0) = (0)) ∨ ((y77_1_1) ≥ (z65) ∧ (0) = (1)) by omega)
            · refine Ew_of (pc' := 195) (fun _ => x_iconst rfl) ?_
              refine Ew_of (pc' := 199) (fun _ => x_goto rfl rfl) ?_
              exact hc199 (1) _ _ _ _  ((rk_o (lc147_0) rfl rfl).trans (congrArg (fun q : Nat => some (Value.ref q)) ((((show D77 0 = D68 0 from (eD77 0).trans (hD77 0 rfl))).trans ((show D68 0 = D_82 0 from (eD68 0))))).symm)) ((rk_o (lc147_1) rfl rfl).trans (congrArg (fun q : Nat => some (Value.ref q)) ((((show D77 1 = D68 1 from (eD77 1))).trans ((show D68 1 = D_82 1 from (eD68 1))))).symm)) ((rk_o (lc147_2) rfl rfl).trans (congrArg (fun q : Nat => some (Value.ref q)) ((((show D77 2 = D68 2 from (eD77 2))).trans ((show D68 2 = D_82 2 from (eD68 2))))).symm)) ((rk_o (lc147_3) rfl rfl).trans (congrArg (fun q : Nat => some (Value.ref q)) ((((show D77 8 = D68 8 from (eD77 8).trans (hD77 4 rfl))).trans ((show D68 8 = D_82 8 from (eD68 8).trans (hD68 0 rfl))))).symm)) (rk_o (lc147_4) rfl rfl) (rk_o (lc147_5) rfl rfl) (rk_o (lc147_6) rfl rfl) (rk_s) H O (SF_refl) (SA_refl)     (show inr (1) by omega) (show ((y77_1_1) < (z65) ∧ (1) = (0)) ∨ ((y77_1_1) ≥ (z65) ∧ (1) = (1)) by omega)
          refine Ew_of (pc' := 118) (fun _ => x_aload_n rfl (rk_o (l82_0) rfl rfl)) ?_
          refine v_g H (o := 0) (v := I (v17)) rfl rfl rfl rfl rfl (congrArg (fun z : Int => I z) ((((((hS_82 0 8 rfl).trans ((show F35 0 8 = F29 0 8 from (eF35 0 8)))).trans ((show F29 0 8 = F21 0 8 from (eF29 0 8)))).trans ((show F21 0 8 = F18 0 8 from (eF21 0 8)))).trans ((show F18 0 8 = (updF F 0 8 (v17)) 0 8 from (eF18 0 8).trans (hS18 0 8 rfl)))) : F_82 0 8 = v17)) ?_
          refine Ew_of (pc' := 123) (fun _ => x_bipush (z := 32) rfl (by decide)) ?_
          refine w_iand rfl (show inr (v17) by omega) (show inr (32) by omega) (fun z95 gz95 gaz95 gbz95 => ?_)
          refine w_ifeq (t := 147) rfl rfl (show inr (z95) by omega) (fun b96 => ?_) (fun b96 => ?_)
          · exact hc147  _ _ _ _  (rk_o (l82_0) rfl rfl) (rk_o (l82_1) rfl rfl) (rk_o (l82_2) rfl rfl) (rk_o (l82_3) rfl rfl) (rk_o (l82_4) rfl rfl) (rk_o (l82_5) rfl rfl) (rk_o (l82_6) rfl rfl) (rk_s) H O (SF_refl) (SA_refl)   (y82_7_6) ((ey82_7_6)) (y82_8_1) ((ey82_8_1)) (w82_13) (ew82_13) (show 0 ≤ (y82_8_1) ∧ (y82_8_1) ≤ (m82_9) ∧ (m82_9) ≤ 65536 ∧ (y82_8_1) ≤ 16384 by omega) (show 0 ≤ (y82_10_1) ∧ (y82_10_1) ≤ (m82_11) ∧ (m82_11) ≤ 65536 by omega) (show (m29_1) = 2048 by omega) (show 0 ≤ (y82_7_6) ∧ (y82_7_6) ≤ (m82_14) ∧ (m82_14) ≤ 16384 by omega) (show (y82_7_6) = 0 ∨ (y82_7_6) + 4 ≤ (y82_8_1) + 1 by omega) (show BKI ((w82_9)) ((w82_14)) ((y29_0_10)) ((y82_7_6)) by assumption) (show HDI ((w82_9)) ((w82_13)) ((y29_0_10)) ((y82_7_6)) by assumption) (show (m82_15) = (m82_16) ∧ (m82_17) = (m82_16) ∧ (m82_16) ≤ 65536 ∧ ((m82_16) = 0 ∨ 64 ≤ (m82_16)) ∧ lgq ((m82_16)) = 0 by omega) (show 0 ≤ (y35_0_6) ∧ (y35_0_6) ≤ (y82_7_6) by omega) (show (y35_0_6) = 0 ∨ (y35_0_6) + 4 ≤ (u5_1) + 1 by omega) (show (u5_1) ≤ (y82_8_1) ∧ (y82_8_1) ≤ (u5_1) + (x82_6) by omega)
          · refine Ew_of (pc' := 128) (fun _ => x_aload_n rfl (rk_o (l82_0) rfl rfl)) ?_
            refine v_g H (o := 0) (v := .ref (D_82 7)) rfl rfl rfl rfl rfl (vrf (pf_82_0_2)) ?_
            refine Ew_of (pc' := 133) (fun _ => x_iload rfl (rk_o (l82_4) rfl rfl)) ?_
            refine v_inv H (o := 7) rfl rfl rfl rfl rfl rfl (by rfl) (C124 (D := pul [7, 8, 9, 14, 13] D_82) (N := pul [7, 8, 9, 14, 13] N_82) (HW_sub H (VS_of (show vsub V218_Row_Row V124 [7, 8, 9, 14, 13] = true by decide +kernel))) (pf_82_7_0) (pm82_9) (pm82_14) (pf_82_7_7) (m82_9) (em82_9) (m82_14) (em82_14) (m29_1) ((congrArg (fun q : Nat => (q : Int)) (hN_82 13 rfl)).trans ((congrArg (fun q : Nat => (q : Int)) (show N35 13 = N29 13 from (eN35 13).trans (hN35 4 rfl))).trans ((congrArg (fun q : Nat => (q : Int)) (eN29 13)).trans em29_1))) (y82_7_6) ((ey82_7_6)) (y29_0_10) ((((hS_82 7 10 rfl).trans ((show F35 7 10 = F29 7 10 from (eF35 7 10).trans (hS35 0 10 rfl)))).trans ((eF29 7 10).trans ey29_0_10))) (y82_8_1) ((ey82_8_1)) (w82_9) (ew82_9) (w82_14) (ew82_14) (w82_13) (ew82_13) (show inr (y35_0_6) by omega) (show 0 ≤ (y82_8_1) ∧ (y82_8_1) ≤ (m82_9) ∧ (m82_9) ≤ 65536 ∧ (y82_8_1) ≤ 16384 by omega) (show 1 ≤ (y29_0_10) ∧ (y29_0_10) ≤ 8 by omega) (show 0 ≤ (y35_0_6) ∧ (y35_0_6) ≤ (y82_7_6) by omega) (show (y82_7_6) = 0 ∨ (y82_7_6) + (y29_0_10) ≤ (y82_8_1) + 1 by omega) (show BKI ((w82_9)) ((w82_14)) ((y29_0_10)) ((y82_7_6)) by assumption) (show HDI ((w82_9)) ((w82_13)) ((y29_0_10)) ((y82_7_6)) by assumption) (show (m29_1) = 2048 by omega) (show 0 ≤ (y82_7_6) ∧ (y82_7_6) ≤ (m82_14) ∧ (m82_14) ≤ 16384 by omega) (fun σ97 F97' A97' H' O' hS97 hA97 y97_0_6 ey97_0_6 w97_4 ew97_4 pz97_0 pz97_1 pz97_2 => ⟨rfl, ?_⟩))
            replace ey97_0_6 := HIDm ey97_0_6
            refine v_back (c := c_82) (s := s_82) H (show vsub V218_Row_Row V124 [7, 8, 9, 14, 13] = true by decide +kernel) H' O' (fun F97 A97 H O' eF97 eA97 => ?_)
            have O := OUT_trans O O'
            -- Finder.unlay
            have r98 : (-2147483648 : Int) ≤ y97_0_6 ∧ y97_0_6 ≤ 2147483647 := by have h1 : (-2147483648 : Int) ≤ F97 7 6 ∧ F97 7 6 ≤ 2147483647 := H.krg 7 6 (by decide); rw [show F97 7 6 = y97_0_6 from ((eF97 7 6).trans ey97_0_6)] at h1; exact h1
            have hld2 : (y97_0_6) = 0 ∨ (y97_0_6) + 4 ≤ (u5_1) + 1 := by omega
            refine Ew_of (pc' := 137) (fun _ => x_aload_n rfl (rk_o (l82_3) rfl rfl)) ?_
            refine Ew_of (pc' := 138) (fun _ => x_aload_n rfl (rk_o (l82_0) rfl rfl)) ?_
            refine v_g H (o := 0) (v := .ref (D_82 5)) rfl rfl rfl rfl rfl (vrf ((((show F97 0 1 = F_82 0 1 from (eF97 0 1)))).trans (pf_82_0_1))) ?_
            refine v_g H (o := 5) (v := I (u5_1)) rfl rfl rfl rfl rfl (congrArg (fun z : Int => I z) (((((((((show F97 5 1 = F_82 5 1 from (eF97 5 1))).trans (hS_82 5 1 rfl)).trans ((show F35 5 1 = F29 5 1 from (eF35 5 1)))).trans ((show F29 5 1 = F21 5 1 from (eF29 5 1)))).trans ((show F21 5 1 = F18 5 1 from (eF21 5 1).trans (hS21 1 1 rfl)))).trans ((show F18 5 1 = (updF F 0 8 (v17)) 5 1 from (eF18 5 1)))).trans (eu5_1)) : F97 5 1 = u5_1)) ?_
            refine v_p H (o := 8) (z := u5_1) (v := I (u5_1)) rfl rfl rfl rfl rfl rfl rfl rfl (show (-2147483648 : Int) ≤ u5_1 ∧ u5_1 ≤ 2147483647 by omega) (fun σ H O' => ?_)
            have O := OUT_trans O O'
            exact hc147  _ _ _ _  (rk_o (l82_0) rfl rfl) (rk_o (l82_1) rfl rfl) (rk_o (l82_2) rfl rfl) (rk_o (l82_3) rfl rfl) (rk_o (l82_4) rfl rfl) (rk_o (l82_5) rfl rfl) (rk_o (l82_6) rfl rfl) (rk_s) H O (SF_upd (SF_trans (SF_refl) (SF_glu (ι := [7, 8, 9, 14, 13]) hS97 eF97 (by decide +kernel)) (any_sub (l' := [(7, 6)]) rfl)) rfl) (SA_trans (SA_refl) (SA_glu (ι := [7, 8, 9, 14, 13]) hA97 eA97 (by decide +kernel)) (any_subA (l' := [13]) rfl))   (y97_0_6) (((eF97 7 6).trans ey97_0_6)) (u5_1) (rfl) (w97_4) ((eA97 13).trans ew97_4) (show 0 ≤ (u5_1) ∧ (u5_1) ≤ (m82_9) ∧ (m82_9) ≤ 65536 ∧ (u5_1) ≤ 16384 by omega) (show 0 ≤ (y82_10_1) ∧ (y82_10_1) ≤ (m82_11) ∧ (m82_11) ≤ 65536 by omega) (show (m29_1) = 2048 by omega) (show 0 ≤ (y97_0_6) ∧ (y97_0_6) ≤ (m82_14) ∧ (m82_14) ≤ 16384 by omega) (show (y97_0_6) = 0 ∨ (y97_0_6) + 4 ≤ (u5_1) + 1 by omega) (show BKI ((w82_9)) ((w82_14)) ((y29_0_10)) ((y97_0_6)) by assumption) (show HDI ((w82_9)) ((w97_4)) ((y29_0_10)) ((y97_0_6)) by assumption) (show (m82_15) = (m82_16) ∧ (m82_17) = (m82_16) ∧ (m82_16) ≤ 65536 ∧ ((m82_16) = 0 ∨ 64 ≤ (m82_16)) ∧ lgq ((m82_16)) = 0 by omega) (show 0 ≤ (y35_0_6) ∧ (y35_0_6) ≤ (y97_0_6) by omega) (show (y35_0_6) = 0 ∨ (y35_0_6) + 4 ≤ (u5_1) + 1 by omega) (show (u5_1) ≤ (u5_1) ∧ (u5_1) ≤ (u5_1) + (x82_6) by omega)
