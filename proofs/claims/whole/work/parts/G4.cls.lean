abbrev V216_thispackeda : vV := [(0, 11, [(4, 0), (4, 0), (4, 0), (4, 0), (4, 0), (0, 0), (4, 0), (0, 0), (0, 0), (0, 0), (0, 0), (0, 0), (0, 0)]), (0, 7, [(4, 0), (0, 0), (1, 0), (0, 0), (0, 0)]), (1, 0, []), (0, 5, [(4, 0), (4, 0), (4, 0), (4, 0), (0, 0), (0, 0), (0, 0), (4, 0), (4, 0), (0, 0), (0, 0), (0, 0), (0, 0), (0, 0), (0, 0), (0, 0), (0, 0), (0, 0), (0, 0)]), (0, 7, [(4, 0), (0, 0), (1, 0), (0, 0), (0, 0)]), (1, 0, [])]
/-- Tokens.packLiterals: this, this.packed, this.packed.bytes, this.finder, this.finder.data, this.finder.data.bytes -/
theorem C216_thispackeda {σE : rS} {D N : Nat → Nat} {F : hF} {A : hA} {d c s : Nat} {Q : wQ} (H : HW V216_thispackeda σE D N F A) {a2 a3 a4 : Int} (pf1 : F 0 3 = (D 1 : Int)) (pf2 : F 1 0 = (D 2 : Int)) (pf3 : F 0 2 = (D 3 : Int)) (pf4 : F 3 0 = (D 4 : Int)) (pf5 : F 4 0 = (D 5 : Int)) (n2 : Int) (en2 : (N 2 : Int) = n2) (n5 : Int) (en5 : (N 5 : Int) = n5) (u1_1 : Int) (eu1_1 : F 1 1 = u1_1) (u1_2 : Int) (eu1_2 : F 1 2 = u1_2) (u4_1 : Int) (eu4_1 : F 4 1 = u4_1) (w2 : Int → Int) (ew2 : A 2 = w2) (w5 : Int → Int) (ew5 : A 5 = w5) (h0 : inr (a2)) (h1 : inr (a3)) (h2 : inr (a4)) (h3 : 0 ≤ (u1_1) ∧ (u1_1) ≤ (n2) ∧ (n2) ≤ 65536) (h4 : 0 ≤ (u4_1) ∧ (u4_1) ≤ (n5) ∧ (n5) ≤ 65536) (h5 : 0 ≤ (a2) ∧ 0 ≤ (a3) ∧ (a2) + (a3) ≤ (n5)) (h6 : 0 ≤ (a4)) (k : ∀ (σ : rS) (D' N' : Nat → Nat) (F' : hF) (A' : hA) (c' s' : Nat), HW V216_thispackeda σ D' N' F' A' → OUT (V216_thispackeda).length D N σE c s D' N' σ c' s' → SD [2] D D' → SD [2] N N' → SF [(1, 0), (1, 1), (1, 2)] F F' → SA [2] A A' → F' 1 0 = (D' 2 : Int) → ∀ m2 : Int, (N' 2 : Int) = m2 → ∀ y1_1 : Int, F' 1 1 = y1_1 → ∀ y1_2 : Int, F' 1 2 = y1_2 → ∀ v2 : Int → Int, A' 2 = v2 → (0 ≤ (y1_1) ∧ (y1_1) ≤ (m2) ∧ (m2) ≤ 65536) → (RAP ((u1_2)) ((w2)) ((u1_1)) ((y1_2)) ((v2)) ((y1_1)) ([cap15 ((a3)) * 16 + cap15 ((a4))] ++ (exr ((a3) - 15) ++ sc ((w5)) ((a2)) ((a2) + (a3))))) → Q none σ c' s') : Ew 216 (d + 4) 0 (rargs 0 [.ref (D 0), .ref (D 1), I a2, I a3, I a4]) [] σE c s Q := by
  have O := OUT_refl (n := (V216_thispackeda).length) (D := D) (N := N) (σ := σE) (c := c) (s := s)
  have HE := H
  have r1 : (-2147483648 : Int) ≤ u1_1 ∧ u1_1 ≤ 2147483647 := by have h1 : (-2147483648 : Int) ≤ F 1 1 ∧ F 1 1 ≤ 2147483647 := H.krg 1 1 (by decide); rw [show F 1 1 = u1_1 from (eu1_1)] at h1; exact h1
  have r2 : (0 : Int) ≤ u1_2 ∧ u1_2 ≤ 1 := by have h1 : (0 : Int) ≤ F 1 2 ∧ F 1 2 ≤ 1 := H.krg 1 2 (by decide); rw [show F 1 2 = u1_2 from (eu1_2)] at h1; exact h1
  have r3 : (-2147483648 : Int) ≤ u4_1 ∧ u4_1 ≤ 2147483647 := by have h1 : (-2147483648 : Int) ≤ F 4 1 ∧ F 4 1 ≤ 2147483647 := H.krg 4 1 (by decide); rw [show F 4 1 = u4_1 from (eu4_1)] at h1; exact h1
  replace pf1 := HIDm pf1
  replace pf2 := HIDm pf2
  replace pf3 := HIDm pf3
  replace pf4 := HIDm pf4
  replace pf5 := HIDm pf5
  replace en2 := HIDm en2
  replace en5 := HIDm en5
  replace eu1_1 := HIDm eu1_1
  replace eu1_2 := HIDm eu1_2
  replace eu4_1 := HIDm eu4_1
  have r4 : (0 : Int) ≤ n2 ∧ n2 ≤ 1000000 := by have h1 := H.nle 2 (by decide); have h2 : (N 2 : Int) = n2 := en2; omega
  have r5 : (0 : Int) ≤ n5 ∧ n5 ≤ 1000000 := by have h1 := H.nle 5 (by decide); have h2 : (N 5 : Int) = n5 := en5; omega
  refine Ew_of (pc' := 1) (fun _ => x_aload_n rfl rfl) ?_
  refine Ew_of (pc' := 2) (fun _ => x_iload_n rfl rfl) ?_
  refine Ew_of (pc' := 4) (fun _ => x_bipush (z := 15) rfl (by decide)) ?_
  refine v_min rfl rfl (show inr (a3) by omega) (show inr (15) by omega) (fun z6 gz6 => ?_)
  refine Ew_of (pc' := 8) (fun _ => x_iconst rfl) ?_
  refine w_ishlK 4 16 (by decide) (by decide) rfl (fun z7 gz7 dz7 => ?_)
  refine Ew_of (pc' := 11) (fun _ => x_iload rfl rfl) ?_
  refine Ew_of (pc' := 13) (fun _ => x_bipush (z := 15) rfl (by decide)) ?_
  refine v_min rfl rfl (show inr (a4) by omega) (show inr (15) by omega) (fun z8 gz8 => ?_)
  refine w_iorX 4 16 rfl rfl (fun z9 gz9 dz9 => ?_)
  have hx : (z9) = cap15 ((a3)) * 16 + cap15 ((a4)) := by unfold cap15; split <;> split <;> omega
  refine v_inv H (o := 1) rfl rfl rfl rfl rfl rfl (by rfl) (C159 (D := pul [1, 2] D) (N := pul [1, 2] N) (HW_sub H (VS_of (show vsub V216_thispackeda V159 [1, 2] = true by decide +kernel))) (pf2) (n2) (en2) (u1_1) ((eu1_1)) (u1_2) ((eu1_2)) (w2) (ew2) (show inr (z9) by omega) (show 0 ≤ (u1_1) ∧ (u1_1) ≤ (n2) ∧ (n2) ≤ 65536 by omega) (fun σ10 D10' N10' F10' A10' c10 s10 H' O' hD10 hN10 hS10 hA10 pm10_1 m10_1 em10_1 y10_0_1 ey10_0_1 y10_0_2 ey10_0_2 w10_1 ew10_1 pz10_0 pz10_1 pz10_2 pz10_3 => ⟨rfl, ?_⟩))
  replace pm10_1 := HIDm pm10_1
  replace em10_1 := HIDm em10_1
  replace ey10_0_1 := HIDm ey10_0_1
  replace ey10_0_2 := HIDm ey10_0_2
  refine v_backM (c := c) (s := s) H (show vsub V216_thispackeda V159 [1, 2] = true by decide +kernel) H' O' hD10 (show vmov V216_thispackeda [1, 2] [1] = true by decide +kernel) (fun D10 N10 F10 A10 H O' eD10 eN10 eF10 eA10 => ?_)
  have O := OUT_trans O O'
  -- Row.add
  have pf10_0_2 : HID (F10 0 2 = (D10 3 : Int)) := ((show F10 0 2 = F 0 2 from (eF10 0 2))).trans ((pf3).trans (congrArg (fun q : Nat => (q : Int)) ((show D10 3 = D 3 from (eD10 3))).symm))
  have pf10_0_3 : HID (F10 0 3 = (D10 1 : Int)) := ((show F10 0 3 = F 0 3 from (eF10 0 3))).trans ((pf1).trans (congrArg (fun q : Nat => (q : Int)) ((show D10 1 = D 1 from (eD10 1).trans (hD10 0 rfl))).symm))
  have pf10_1_0 : HID (F10 1 0 = (D10 2 : Int)) := (eF10 1 0).trans (pm10_1.trans (congrArg (fun q : Nat => (q : Int)) (eD10 2).symm))
  have pf10_3_0 : HID (F10 3 0 = (D10 4 : Int)) := ((show F10 3 0 = F 3 0 from (eF10 3 0))).trans ((pf4).trans (congrArg (fun q : Nat => (q : Int)) ((show D10 4 = D 4 from (eD10 4))).symm))
  have pf10_4_0 : HID (F10 4 0 = (D10 5 : Int)) := ((show F10 4 0 = F 4 0 from (eF10 4 0))).trans ((pf5).trans (congrArg (fun q : Nat => (q : Int)) ((show D10 5 = D 5 from (eD10 5))).symm))
  have r11 : (0 : Int) ≤ m10_1 ∧ m10_1 ≤ 1000000 := by have h1 := H.nle 2 (by decide); have h2 : (N10 2 : Int) = m10_1 := (congrArg (fun q : Nat => (q : Int)) (eN10 2)).trans em10_1; omega
  have r12 : (-2147483648 : Int) ≤ y10_0_1 ∧ y10_0_1 ≤ 2147483647 := by have h1 : (-2147483648 : Int) ≤ F10 1 1 ∧ F10 1 1 ≤ 2147483647 := H.krg 1 1 (by decide); rw [show F10 1 1 = y10_0_1 from ((eF10 1 1).trans ey10_0_1)] at h1; exact h1
  have r13 : (0 : Int) ≤ y10_0_2 ∧ y10_0_2 ≤ 1 := by have h1 : (0 : Int) ≤ F10 1 2 ∧ F10 1 2 ≤ 1 := H.krg 1 2 (by decide); rw [show F10 1 2 = y10_0_2 from ((eF10 1 2).trans ey10_0_2)] at h1; exact h1
  have h1 := pz10_3
  rw [hx, u8_id (z := cap15 ((a3)) * 16 + cap15 ((a4))) (by unfold cap15; split <;> split <;> omega)] at h1
  refine Ew_of (pc' := 21) (fun _ => x_aload_n rfl rfl) ?_
  refine Ew_of (pc' := 22) (fun _ => x_iload_n rfl rfl) ?_
  refine Ew_stk (show ([I (a3), .ref (D 1)] : List Value) = [I (a3), .ref (D10 1)] by rw [show D10 1 = D 1 from ((show D10 1 = D 1 from (eD10 1).trans (hD10 0 rfl)))]) ?_
  refine w_stat24 rfl rfl (by rfl) (C217_Row (D := pul [1, 2] D10) (N := pul [1, 2] N10) (HW_sub H (VS_of (show vsub V216_thispackeda V217_Row [1, 2] = true by decide +kernel))) (pf10_1_0) (m10_1) ((congrArg (fun q : Nat => (q : Int)) (eN10 2)).trans em10_1) (y10_0_1) (((eF10 1 1).trans ey10_0_1)) (y10_0_2) (((eF10 1 2).trans ey10_0_2)) (w10_1) ((eA10 2).trans ew10_1) (show inr (a3) by omega) (show 0 ≤ (y10_0_1) ∧ (y10_0_1) ≤ (m10_1) ∧ (m10_1) ≤ 65536 by omega) (show 0 ≤ (a3) by omega) (fun σ14 D14' N14' F14' A14' c14 s14 H' O' hD14 hN14 hS14 hA14 pm14_1 m14_1 em14_1 y14_0_1 ey14_0_1 y14_0_2 ey14_0_2 w14_1 ew14_1 pz14_0 pz14_1 => ⟨rfl, ?_⟩))
  replace pm14_1 := HIDm pm14_1
  replace em14_1 := HIDm em14_1
  replace ey14_0_1 := HIDm ey14_0_1
  replace ey14_0_2 := HIDm ey14_0_2
  refine v_backM (c := (c + c10)) (s := (s + s10)) H (show vsub V216_thispackeda V217_Row [1, 2] = true by decide +kernel) H' O' hD14 (show vmov V216_thispackeda [1, 2] [1] = true by decide +kernel) (fun D14 N14 F14 A14 H O' eD14 eN14 eF14 eA14 => ?_)
  have O := OUT_trans O O'
  -- Tokens.packRest
  have pf14_0_2 : HID (F14 0 2 = (D14 3 : Int)) := ((show F14 0 2 = F10 0 2 from (eF14 0 2))).trans ((pf10_0_2).trans (congrArg (fun q : Nat => (q : Int)) ((show D14 3 = D10 3 from (eD14 3))).symm))
  have pf14_0_3 : HID (F14 0 3 = (D14 1 : Int)) := ((show F14 0 3 = F10 0 3 from (eF14 0 3))).trans ((pf10_0_3).trans (congrArg (fun q : Nat => (q : Int)) ((show D14 1 = D10 1 from (eD14 1).trans (hD14 0 rfl))).symm))
  have pf14_1_0 : HID (F14 1 0 = (D14 2 : Int)) := (eF14 1 0).trans (pm14_1.trans (congrArg (fun q : Nat => (q : Int)) (eD14 2).symm))
  have pf14_3_0 : HID (F14 3 0 = (D14 4 : Int)) := ((show F14 3 0 = F10 3 0 from (eF14 3 0))).trans ((pf10_3_0).trans (congrArg (fun q : Nat => (q : Int)) ((show D14 4 = D10 4 from (eD14 4))).symm))
  have pf14_4_0 : HID (F14 4 0 = (D14 5 : Int)) := ((show F14 4 0 = F10 4 0 from (eF14 4 0))).trans ((pf10_4_0).trans (congrArg (fun q : Nat => (q : Int)) ((show D14 5 = D10 5 from (eD14 5))).symm))
  have r15 : (0 : Int) ≤ m14_1 ∧ m14_1 ≤ 1000000 := by have h1 := H.nle 2 (by decide); have h2 : (N14 2 : Int) = m14_1 := (congrArg (fun q : Nat => (q : Int)) (eN14 2)).trans em14_1; omega
  have r16 : (-2147483648 : Int) ≤ y14_0_1 ∧ y14_0_1 ≤ 2147483647 := by have h1 : (-2147483648 : Int) ≤ F14 1 1 ∧ F14 1 1 ≤ 2147483647 := H.krg 1 1 (by decide); rw [show F14 1 1 = y14_0_1 from ((eF14 1 1).trans ey14_0_1)] at h1; exact h1
  have r17 : (0 : Int) ≤ y14_0_2 ∧ y14_0_2 ≤ 1 := by have h1 : (0 : Int) ≤ F14 1 2 ∧ F14 1 2 ≤ 1 := H.krg 1 2 (by decide); rw [show F14 1 2 = y14_0_2 from ((eF14 1 2).trans ey14_0_2)] at h1; exact h1
  have h2 := pz14_1
  refine Ew_of (pc' := 26) (fun _ => x_aload_n rfl rfl) ?_
  refine Ew_of (pc' := 27) (fun _ => x_aload_n rfl rfl) ?_
  refine Ew_stk (show ([.ref (D 0), .ref (D 1)] : List Value) = [.ref (D14 0), .ref (D14 1)] by rw [show D14 0 = D 0 from (((show D14 0 = D10 0 from (eD14 0))).trans ((show D10 0 = D 0 from (eD10 0)))), show D14 1 = D 1 from (((show D14 1 = D10 1 from (eD14 1).trans (hD14 0 rfl))).trans ((show D10 1 = D 1 from (eD10 1).trans (hD10 0 rfl))))]) ?_
  refine v_g H (o := 0) (v := .ref (D14 3)) rfl rfl rfl rfl rfl (vrf (pf14_0_2)) ?_
  refine v_g H (o := 3) (v := .ref (D14 4)) rfl rfl rfl rfl rfl (vrf (pf14_3_0)) ?_
  refine v_g H (o := 4) (v := .ref (D14 5)) rfl rfl rfl rfl rfl (vrf (pf14_4_0)) ?_
  refine Ew_of (pc' := 37) (fun _ => x_iload_n rfl rfl) ?_
  refine Ew_of (pc' := 38) (fun _ => x_iload_n rfl rfl) ?_
  refine v_inv H (o := 1) rfl rfl rfl rfl rfl rfl (by rfl) (C161_Br (D := pul [1, 5, 2] D14) (N := pul [1, 5, 2] N14) (HW_sub H (VS_of (show vsub V216_thispackeda V161_Br [1, 5, 2] = true by decide +kernel))) (pf14_1_0) (n5) ((congrArg (fun q : Nat => (q : Int)) (show N14 5 = N10 5 from (eN14 5))).trans ((congrArg (fun q : Nat => (q : Int)) (show N10 5 = N 5 from (eN10 5))).trans (en5))) (m14_1) ((congrArg (fun q : Nat => (q : Int)) (eN14 2)).trans em14_1) (y14_0_1) (((eF14 1 1).trans ey14_0_1)) (y14_0_2) (((eF14 1 2).trans ey14_0_2)) (w5) (((show A14 5 = A10 5 from (eA14 5))).trans (((show A10 5 = A 5 from (eA10 5))).trans (ew5))) (w14_1) ((eA14 2).trans ew14_1) (show inr (a2) by omega) (show inr (a3) by omega) (show 0 ≤ (y14_0_1) ∧ (y14_0_1) ≤ (m14_1) ∧ (m14_1) ≤ 65536 by omega) (show (a3) < 0 ∨ 0 ≤ (a2) ∧ (a2) + (a3) ≤ (n5) by omega) (fun σ18 D18' N18' F18' A18' c18 s18 H' O' hD18 hN18 hS18 hA18 pm18_2 m18_2 em18_2 y18_0_1 ey18_0_1 y18_0_2 ey18_0_2 w18_2 ew18_2 pz18_0 pz18_1 pz18_2 pz18_3 => ⟨rfl, ?_⟩))
  replace pm18_2 := HIDm pm18_2
  replace em18_2 := HIDm em18_2
  replace ey18_0_1 := HIDm ey18_0_1
  replace ey18_0_2 := HIDm ey18_0_2
  refine v_backM (c := ((c + c10) + c14)) (s := ((s + s10) + s14)) H (show vsub V216_thispackeda V161_Br [1, 5, 2] = true by decide +kernel) H' O' hD18 (show vmov V216_thispackeda [1, 5, 2] [2] = true by decide +kernel) (fun D18 N18 F18 A18 H O' eD18 eN18 eF18 eA18 => ?_)
  have O := OUT_trans O O'
  -- Row.addPart
  have pf18_0_2 : HID (F18 0 2 = (D18 3 : Int)) := ((show F18 0 2 = F14 0 2 from (eF18 0 2))).trans ((pf14_0_2).trans (congrArg (fun q : Nat => (q : Int)) ((show D18 3 = D14 3 from (eD18 3))).symm))
  have pf18_0_3 : HID (F18 0 3 = (D18 1 : Int)) := ((show F18 0 3 = F14 0 3 from (eF18 0 3))).trans ((pf14_0_3).trans (congrArg (fun q : Nat => (q : Int)) ((show D18 1 = D14 1 from (eD18 1).trans (hD18 0 rfl))).symm))
  have pf18_1_0 : HID (F18 1 0 = (D18 2 : Int)) := (eF18 1 0).trans (pm18_2.trans (congrArg (fun q : Nat => (q : Int)) (eD18 2).symm))
  have pf18_3_0 : HID (F18 3 0 = (D18 4 : Int)) := ((show F18 3 0 = F14 3 0 from (eF18 3 0))).trans ((pf14_3_0).trans (congrArg (fun q : Nat => (q : Int)) ((show D18 4 = D14 4 from (eD18 4))).symm))
  have pf18_4_0 : HID (F18 4 0 = (D18 5 : Int)) := ((show F18 4 0 = F14 4 0 from (eF18 4 0))).trans ((pf14_4_0).trans (congrArg (fun q : Nat => (q : Int)) ((show D18 5 = D14 5 from (eD18 5).trans (hD18 1 rfl))).symm))
  have r19 : (0 : Int) ≤ m18_2 ∧ m18_2 ≤ 1000000 := by have h1 := H.nle 2 (by decide); have h2 : (N18 2 : Int) = m18_2 := (congrArg (fun q : Nat => (q : Int)) (eN18 2)).trans em18_2; omega
  have r20 : (-2147483648 : Int) ≤ y18_0_1 ∧ y18_0_1 ≤ 2147483647 := by have h1 : (-2147483648 : Int) ≤ F18 1 1 ∧ F18 1 1 ≤ 2147483647 := H.krg 1 1 (by decide); rw [show F18 1 1 = y18_0_1 from ((eF18 1 1).trans ey18_0_1)] at h1; exact h1
  have r21 : (0 : Int) ≤ y18_0_2 ∧ y18_0_2 ≤ 1 := by have h1 : (0 : Int) ≤ F18 1 2 ∧ F18 1 2 ≤ 1 := H.krg 1 2 (by decide); rw [show F18 1 2 = y18_0_2 from ((eF18 1 2).trans ey18_0_2)] at h1; exact h1
  have : RAP ((u1_2)) ((w2)) ((u1_1)) ((y18_0_2)) ((w18_2)) ((y18_0_1)) ([cap15 ((a3)) * 16 + cap15 ((a4))] ++ (exr ((a3) - 15) ++ sc ((w5)) ((a2)) ((a2) + (a3)))) := RAP_trans h1 (RAP_trans h2 (pz18_3 (by omega)))
  exact w_ret rfl (k _ _ _ _ _ _ _ H O (SD_trans (SD_trans (SD_trans (SD_refl) (SD_glu (ι := [1, 2]) hD10 eD10 (by decide +kernel)) (any_subA (l' := [2]) rfl)) (SD_glu (ι := [1, 2]) hD14 eD14 (by decide +kernel)) (any_subA (l' := [2]) rfl)) (SD_glu (ι := [1, 5, 2]) hD18 eD18 (by decide +kernel)) (any_subA (l' := [2]) rfl)) (SD_trans (SD_trans (SD_trans (SD_refl) (SD_glu (ι := [1, 2]) hN10 eN10 (by decide +kernel)) (any_subA (l' := [2]) rfl)) (SD_glu (ι := [1, 2]) hN14 eN14 (by decide +kernel)) (any_subA (l' := [2]) rfl)) (SD_glu (ι := [1, 5, 2]) hN18 eN18 (by decide +kernel)) (any_subA (l' := [2]) rfl)) (SF_trans (SF_trans (SF_trans (SF_refl) (SF_glu (ι := [1, 2]) hS10 eF10 (by decide +kernel)) (any_sub (l' := [(1, 0), (1, 1), (1, 2)]) rfl)) (SF_glu (ι := [1, 2]) hS14 eF14 (by decide +kernel)) (any_sub (l' := [(1, 0), (1, 1), (1, 2)]) rfl)) (SF_glu (ι := [1, 5, 2]) hS18 eF18 (by decide +kernel)) (any_sub (l' := [(1, 0), (1, 1), (1, 2)]) rfl)) (SA_trans (SA_trans (SA_trans (SA_refl) (SA_glu (ι := [1, 2]) hA10 eA10 (by decide +kernel)) (any_subA (l' := [2]) rfl)) (SA_glu (ι := [1, 2]) hA14 eA14 (by decide +kernel)) (any_subA (l' := [2]) rfl)) (SA_glu (ι := [1, 5, 2]) hA18 eA18 (by decide +kernel)) (any_subA (l' := [2]) rfl)) (pf18_1_0) (m18_2) ((congrArg (fun q : Nat => (q : Int)) (eN18 2)).trans em18_2) (y18_0_1) (((eF18 1 1).trans ey18_0_1)) (y18_0_2) (((eF18 1 2).trans ey18_0_2)) (w18_2) ((eA18 2).trans ew18_2) (show 0 ≤ (y18_0_1) ∧ (y18_0_1) ≤ (m18_2) ∧ (m18_2) ≤ 65536 by omega) (show RAP ((u1_2)) ((w2)) ((u1_1)) ((y18_0_2)) ((w18_2)) ((y18_0_1)) ([cap15 (a3) * 16 + cap15 (a4)] ++ (exr (a3 - 15) ++ sc ((w5)) (a2) (a2 + a3))) by assumption))
abbrev V215_thispackeda : vV := [(0, 11, [(4, 0), (4, 0), (4, 0), (4, 0), (4, 0), (0, 0), (4, 0), (0, 0), (0, 0), (0, 0), (0, 0), (0, 0), (0, 0)]), (0, 7, [(4, 0), (0, 0), (1, 0), (0, 0), (0, 0)]), (1, 0, []), (0, 5, [(4, 0), (4, 0), (4, 0), (4, 0), (0, 0), (0, 0), (0, 0), (4, 0), (4, 0), (0, 0), (0, 0), (0, 0), (0, 0), (0, 0), (0, 0), (0, 0), (0, 0), (0, 0), (0, 0)]), (0, 7, [(4, 0), (0, 0), (1, 0), (0, 0), (0, 0)]), (1, 0, []), (1, 1, []), (1, 1, []), (1, 1, []), (1, 1, []), (1, 1, [])]
/-- Tokens.packBlock: this, this.packed, this.packed.bytes, this.finder, this.finder.data, this.finder.data.bytes, this.finder.back, this.finder.heads, this.finder.literals, this.finder.lengths, this.finder.distances -/
theorem C215_thispackeda {σE : rS} {D N : Nat → Nat} {F : hF} {A : hA} {d c s : Nat} {Q : wQ} (H : HW V215_thispackeda σE D N F A) {a2 : Int} (pf1 : F 0 3 = (D 1 : Int)) (pf2 : F 1 0 = (D 2 : Int)) (pf3 : F 0 2 = (D 3 : Int)) (pf4 : F 3 0 = (D 4 : Int)) (pf5 : F 4 0 = (D 5 : Int)) (pf6 : F 3 8 = (D 6 : Int)) (pf7 : F 3 7 = (D 7 : Int)) (pf8 : F 3 1 = (D 8 : Int)) (pf9 : F 3 2 = (D 9 : Int)) (pf10 : F 3 3 = (D 10 : Int)) (n2 : Int) (en2 : (N 2 : Int) = n2) (n5 : Int) (en5 : (N 5 : Int) = n5) (n6 : Int) (en6 : (N 6 : Int) = n6) (n7 : Int) (en7 : (N 7 : Int) = n7) (n8 : Int) (en8 : (N 8 : Int) = n8) (n9 : Int) (en9 : (N 9 : Int) = n9) (n10 : Int) (en10 : (N 10 : Int) = n10) (u1_1 : Int) (eu1_1 : F 1 1 = u1_1) (u1_2 : Int) (eu1_2 : F 1 2 = u1_2) (u3_6 : Int) (eu3_6 : F 3 6 = u3_6) (u3_9 : Int) (eu3_9 : F 3 9 = u3_9) (u3_10 : Int) (eu3_10 : F 3 10 = u3_10) (u3_11 : Int) (eu3_11 : F 3 11 = u3_11) (u4_1 : Int) (eu4_1 : F 4 1 = u4_1) (w2 : Int → Int) (ew2 : A 2 = w2) (w5 : Int → Int) (ew5 : A 5 = w5) (w6 : Int → Int) (ew6 : A 6 = w6) (w7 : Int → Int) (ew7 : A 7 = w7) (h0 : inr (a2)) (h1 : 0 ≤ (u1_1) ∧ (u1_1) ≤ (n2) ∧ (n2) ≤ 65536) (h2 : 0 ≤ (u4_1) ∧ (u4_1) ≤ (n5) ∧ (n5) ≤ 65536 ∧ (u4_1) ≤ 16384) (h3 : (u3_10) = 4) (h4 : 0 ≤ (a2) ∧ (a2) ≤ (u4_1)) (h5 : BKI ((w5)) ((w6)) ((u3_10)) ((u3_6))) (h6 : HDI ((w5)) ((w7)) ((u3_10)) ((u3_6))) (h7 : (n8) = (n9) ∧ (n10) = (n9) ∧ (n9) ≤ 65536 ∧ ((n9) = 0 ∨ 64 ≤ (n9)) ∧ lgq ((n9)) = 0) (h8 : (n7) = 2048) (h9 : 0 ≤ (u3_6) ∧ (u3_6) ≤ (n6) ∧ (n6) ≤ 16384) (h10 : (u3_11) = 65535) (k : ∀ (σ : rS) (D' N' : Nat → Nat) (F' : hF) (A' : hA) (c' s' : Nat), HW V215_thispackeda σ D' N' F' A' → OUT (V215_thispackeda).length D N σE c s D' N' σ c' s' → SD [2, 6, 8, 9, 10] D D' → SD [2, 6, 8, 9, 10] N N' → SF [(1, 0), (1, 1), (1, 2), (3, 1), (3, 2), (3, 3), (3, 4), (3, 5), (3, 6), (3, 8), (3, 12), (3, 13), (3, 14), (3, 15), (3, 16), (3, 17), (3, 18)] F F' → SA [2, 6, 7, 8, 9, 10] A A' → F' 1 0 = (D' 2 : Int) → F' 3 8 = (D' 6 : Int) → F' 3 1 = (D' 8 : Int) → F' 3 2 = (D' 9 : Int) → F' 3 3 = (D' 10 : Int) → ∀ m2 : Int, (N' 2 : Int) = m2 → ∀ m6 : Int, (N' 6 : Int) = m6 → ∀ m8 : Int, (N' 8 : Int) = m8 → ∀ m9 : Int, (N' 9 : Int) = m9 → ∀ m10 : Int, (N' 10 : Int) = m10 → ∀ y1_1 : Int, F' 1 1 = y1_1 → ∀ y1_2 : Int, F' 1 2 = y1_2 → ∀ y3_6 : Int, F' 3 6 = y3_6 → ∀ v2 : Int → Int, A' 2 = v2 → ∀ v6 : Int → Int, A' 6 = v6 → ∀ v7 : Int → Int, A' 7 = v7 → (0 ≤ (y1_1) ∧ (y1_1) ≤ (m2) ∧ (m2) ≤ 65536) → (0 ≤ (y3_6) ∧ (u3_6) ≤ (y3_6) ∧ (y3_6) ≤ (m6) ∧ (m6) ≤ 16384) → ((m8) = (m9) ∧ (m10) = (m9) ∧ (m9) ≤ 65536 ∧ ((m9) = 0 ∨ 64 ≤ (m9)) ∧ lgq ((m9)) = 0) → (BKI ((w5)) ((v6)) ((u3_10)) ((y3_6))) → (HDI ((w5)) ((v7)) ((u3_10)) ((y3_6))) → ((y3_6) = (u3_6) ∨ (y3_6) + 4 ≤ (u4_1) + 1) → (PKB ((u3_9)) ((a2)) (sc ((w5)) 0 ((u4_1))) ((u1_2)) ((w2)) ((u1_1)) ((y1_2)) ((v2)) ((y1_1))) → Q none σ c' s') : Ew 215 (d + 5) 0 (rargs 0 [.ref (D 0), .ref (D 1), I a2]) [] σE c s Q := by
  have O := OUT_refl (n := (V215_thispackeda).length) (D := D) (N := N) (σ := σE) (c := c) (s := s)
  have HE := H
  have r1 : (-2147483648 : Int) ≤ u1_1 ∧ u1_1 ≤ 2147483647 := by have h1 : (-2147483648 : Int) ≤ F 1 1 ∧ F 1 1 ≤ 2147483647 := H.krg 1 1 (by decide); rw [show F 1 1 = u1_1 from (eu1_1)] at h1; exact h1
  have r2 : (0 : Int) ≤ u1_2 ∧ u1_2 ≤ 1 := by have h1 : (0 : Int) ≤ F 1 2 ∧ F 1 2 ≤ 1 := H.krg 1 2 (by decide); rw [show F 1 2 = u1_2 from (eu1_2)] at h1; exact h1
  have r3 : (-2147483648 : Int) ≤ u3_6 ∧ u3_6 ≤ 2147483647 := by have h1 : (-2147483648 : Int) ≤ F 3 6 ∧ F 3 6 ≤ 2147483647 := H.krg 3 6 (by decide); rw [show F 3 6 = u3_6 from (eu3_6)] at h1; exact h1
  have r4 : (-2147483648 : Int) ≤ u3_9 ∧ u3_9 ≤ 2147483647 := by have h1 : (-2147483648 : Int) ≤ F 3 9 ∧ F 3 9 ≤ 2147483647 := H.krg 3 9 (by decide); rw [show F 3 9 = u3_9 from (eu3_9)] at h1; exact h1
  have r5 : (-2147483648 : Int) ≤ u3_10 ∧ u3_10 ≤ 2147483647 := by have h1 : (-2147483648 : Int) ≤ F 3 10 ∧ F 3 10 ≤ 2147483647 := H.krg 3 10 (by decide); rw [show F 3 10 = u3_10 from (eu3_10)] at h1; exact h1
  have r6 : (-2147483648 : Int) ≤ u3_11 ∧ u3_11 ≤ 2147483647 := by have h1 : (-2147483648 : Int) ≤ F 3 11 ∧ F 3 11 ≤ 2147483647 := H.krg 3 11 (by decide); rw [show F 3 11 = u3_11 from (eu3_11)] at h1; exact h1
  have r7 : (-2147483648 : Int) ≤ u4_1 ∧ u4_1 ≤ 2147483647 := by have h1 : (-2147483648 : Int) ≤ F 4 1 ∧ F 4 1 ≤ 2147483647 := H.krg 4 1 (by decide); rw [show F 4 1 = u4_1 from (eu4_1)] at h1; exact h1
  replace pf1 := HIDm pf1
  replace pf2 := HIDm pf2
  replace pf3 := HIDm pf3
  replace pf4 := HIDm pf4
  replace pf5 := HIDm pf5
  replace pf6 := HIDm pf6
  replace pf7 := HIDm pf7
  replace pf8 := HIDm pf8
  replace pf9 := HIDm pf9
  replace pf10 := HIDm pf10
  replace en2 := HIDm en2
  replace en5 := HIDm en5
  replace en6 := HIDm en6
  replace en7 := HIDm en7
  replace en8 := HIDm en8
  replace en9 := HIDm en9
  replace en10 := HIDm en10
  replace eu1_1 := HIDm eu1_1
  replace eu1_2 := HIDm eu1_2
  replace eu3_6 := HIDm eu3_6
  replace eu3_9 := HIDm eu3_9
  replace eu3_10 := HIDm eu3_10
  replace eu3_11 := HIDm eu3_11
  replace eu4_1 := HIDm eu4_1
  have r8 : (0 : Int) ≤ n2 ∧ n2 ≤ 1000000 := by have h1 := H.nle 2 (by decide); have h2 : (N 2 : Int) = n2 := en2; omega
  have r9 : (0 : Int) ≤ n5 ∧ n5 ≤ 1000000 := by have h1 := H.nle 5 (by decide); have h2 : (N 5 : Int) = n5 := en5; omega
  have r10 : (0 : Int) ≤ n6 ∧ n6 ≤ 1000000 := by have h1 := H.nle 6 (by decide); have h2 : (N 6 : Int) = n6 := en6; omega
  have r11 : (0 : Int) ≤ n7 ∧ n7 ≤ 1000000 := by have h1 := H.nle 7 (by decide); have h2 : (N 7 : Int) = n7 := en7; omega
  have r12 : (0 : Int) ≤ n8 ∧ n8 ≤ 1000000 := by have h1 := H.nle 8 (by decide); have h2 : (N 8 : Int) = n8 := en8; omega
  have r13 : (0 : Int) ≤ n9 ∧ n9 ≤ 1000000 := by have h1 := H.nle 9 (by decide); have h2 : (N 9 : Int) = n9 := en9; omega
  have r14 : (0 : Int) ≤ n10 ∧ n10 ≤ 1000000 := by have h1 := H.nle 10 (by decide); have h2 : (N 10 : Int) = n10 := en10; omega
  refine Ew_of (pc' := 1) (fun _ => x_aload_n rfl rfl) ?_
  refine v_g H (o := 0) (v := .ref (D 3)) rfl rfl rfl rfl rfl (vrf (pf3)) ?_
  refine v_g H (o := 3) (v := .ref (D 4)) rfl rfl rfl rfl rfl (vrf (pf4)) ?_
  refine v_g H (o := 4) (v := I (u4_1)) rfl rfl rfl rfl rfl (congrArg (fun z : Int => I z) ((eu4_1) : F 4 1 = u4_1)) ?_
  refine Ew_of (pc' := 11) (fun _ => x_istore_n rfl) ?_
  refine Ew_of (pc' := 12) (fun _ => x_aload_n rfl (rk_o (rfl) rfl rfl)) ?_
  refine v_g H (o := 0) (v := .ref (D 3)) rfl rfl rfl rfl rfl (vrf (pf3)) ?_
  refine Ew_of (pc' := 16) (fun _ => x_iload_n rfl rk_s) ?_
  refine v_inv H (o := 3) rfl rfl rfl rfl rfl rfl (by rfl) (C123 (D := pul [3, 4, 5, 6, 7] D) (N := pul [3, 4, 5, 6, 7] N) (HW_sub H (VS_of (show vsub V215_thispackeda V123 [3, 4, 5, 6, 7] = true by decide +kernel))) (pf4) (pf5) (pf6) (pf7) (n5) (en5) (n6) (en6) (n7) (en7) (u3_6) ((eu3_6)) (u3_10) ((eu3_10)) (u4_1) ((eu4_1)) (w5) (ew5) (w6) (ew6) (w7) (ew7) (show inr (u4_1) by omega) (show 0 ≤ (u4_1) ∧ (u4_1) ≤ (n5) ∧ (n5) ≤ 65536 ∧ (u4_1) ≤ 16384 by omega) (show 1 ≤ (u3_10) ∧ (u3_10) ≤ 8 by omega) (show 0 ≤ (u4_1) ∧ (u4_1) ≤ (u4_1) by omega) (show BKI ((w5)) ((w6)) ((u3_10)) ((u3_6)) by assumption) (show HDI ((w5)) ((w7)) ((u3_10)) ((u3_6)) by assumption) (show (n7) = 2048 by omega) (show 0 ≤ (u3_6) ∧ (u3_6) ≤ (n6) ∧ (n6) ≤ 16384 by omega) (fun σ15 D15' N15' F15' A15' c15 s15 H' O' hD15 hN15 hS15 hA15 pm15_3 m15_3 em15_3 y15_0_6 ey15_0_6 w15_3 ew15_3 w15_4 ew15_4 pz15_0 pz15_1 pz15_2 pz15_3 pz15_4 => ⟨rfl, ?_⟩))
  replace pm15_3 := HIDm pm15_3
  replace em15_3 := HIDm em15_3
  replace ey15_0_6 := HIDm ey15_0_6
  refine v_backM (c := c) (s := s) H (show vsub V215_thispackeda V123 [3, 4, 5, 6, 7] = true by decide +kernel) H' O' hD15 (show vmov V215_thispackeda [3, 4, 5, 6, 7] [3] = true by decide +kernel) (fun D15 N15 F15 A15 H O' eD15 eN15 eF15 eA15 => ?_)
  have O := OUT_trans O O'
  -- Finder.lay
  have pf15_0_2 : HID (F15 0 2 = (D15 3 : Int)) := ((show F15 0 2 = F 0 2 from (eF15 0 2))).trans ((pf3).trans (congrArg (fun q : Nat => (q : Int)) ((show D15 3 = D 3 from (eD15 3).trans (hD15 0 rfl))).symm))
  have pf15_0_3 : HID (F15 0 3 = (D15 1 : Int)) := ((show F15 0 3 = F 0 3 from (eF15 0 3))).trans ((pf1).trans (congrArg (fun q : Nat => (q : Int)) ((show D15 1 = D 1 from (eD15 1))).symm))
  have pf15_1_0 : HID (F15 1 0 = (D15 2 : Int)) := ((show F15 1 0 = F 1 0 from (eF15 1 0))).trans ((pf2).trans (congrArg (fun q : Nat => (q : Int)) ((show D15 2 = D 2 from (eD15 2))).symm))
  have pf15_3_0 : HID (F15 3 0 = (D15 4 : Int)) := ((show F15 3 0 = F 3 0 from (eF15 3 0).trans (hS15 0 0 rfl))).trans ((pf4).trans (congrArg (fun q : Nat => (q : Int)) ((show D15 4 = D 4 from (eD15 4).trans (hD15 1 rfl))).symm))
  have pf15_3_1 : HID (F15 3 1 = (D15 8 : Int)) := ((show F15 3 1 = F 3 1 from (eF15 3 1).trans (hS15 0 1 rfl))).trans ((pf8).trans (congrArg (fun q : Nat => (q : Int)) ((show D15 8 = D 8 from (eD15 8))).symm))
  have pf15_3_2 : HID (F15 3 2 = (D15 9 : Int)) := ((show F15 3 2 = F 3 2 from (eF15 3 2).trans (hS15 0 2 rfl))).trans ((pf9).trans (congrArg (fun q : Nat => (q : Int)) ((show D15 9 = D 9 from (eD15 9))).symm))
  have pf15_3_3 : HID (F15 3 3 = (D15 10 : Int)) := ((show F15 3 3 = F 3 3 from (eF15 3 3).trans (hS15 0 3 rfl))).trans ((pf10).trans (congrArg (fun q : Nat => (q : Int)) ((show D15 10 = D 10 from (eD15 10))).symm))
  have pf15_3_7 : HID (F15 3 7 = (D15 7 : Int)) := ((show F15 3 7 = F 3 7 from (eF15 3 7).trans (hS15 0 7 rfl))).trans ((pf7).trans (congrArg (fun q : Nat => (q : Int)) ((show D15 7 = D 7 from (eD15 7).trans (hD15 4 rfl))).symm))
  have pf15_3_8 : HID (F15 3 8 = (D15 6 : Int)) := (eF15 3 8).trans (pm15_3.trans (congrArg (fun q : Nat => (q : Int)) (eD15 6).symm))
  have pf15_4_0 : HID (F15 4 0 = (D15 5 : Int)) := ((show F15 4 0 = F 4 0 from (eF15 4 0).trans (hS15 1 0 rfl))).trans ((pf5).trans (congrArg (fun q : Nat => (q : Int)) ((show D15 5 = D 5 from (eD15 5).trans (hD15 2 rfl))).symm))
  have r16 : (0 : Int) ≤ m15_3 ∧ m15_3 ≤ 1000000 := by have h1 := H.nle 6 (by decide); have h2 : (N15 6 : Int) = m15_3 := (congrArg (fun q : Nat => (q : Int)) (eN15 6)).trans em15_3; omega
  have r17 : (-2147483648 : Int) ≤ y15_0_6 ∧ y15_0_6 ≤ 2147483647 := by have h1 : (-2147483648 : Int) ≤ F15 3 6 ∧ F15 3 6 ≤ 2147483647 := H.krg 3 6 (by decide); rw [show F15 3 6 = y15_0_6 from ((eF15 3 6).trans ey15_0_6)] at h1; exact h1
  refine Ew_of (pc' := 20) (fun _ => x_aload_n rfl (rk_o (rfl) rfl rfl)) ?_
  refine Ew_stk (show ([.ref (D 0)] : List Value) = [.ref (D15 0)] by rw [show D15 0 = D 0 from ((show D15 0 = D 0 from (eD15 0)))]) ?_
  refine v_g H (o := 0) (v := .ref (D15 3)) rfl rfl rfl rfl rfl (vrf (pf15_0_2)) ?_
  refine Ew_of (pc' := 24) (fun _ => x_iload_n rfl (rk_o (rfl) rfl rfl)) ?_
  refine Ew_of (pc' := 25) (fun _ => x_iload_n rfl rk_s) ?_
  refine Ew_of (pc' := 26) (fun _ => x_iload_n rfl rk_s) ?_
  refine Ew_of (pc' := 27) (fun _ => x_iconst rfl) ?_
  refine w_isub rfl ?_
  refine Ew_of (pc' := 29) (fun _ => x_iload_n rfl rk_s) ?_
  refine Ew_of (pc' := 31) (fun _ => x_bipush (z := 12) rfl (by decide)) ?_
  refine w_isub rfl ?_
  have r18 : (-2147483648 : Int) ≤ F 3 4 ∧ F 3 4 ≤ 2147483647 := by have h1 : (-2147483648 : Int) ≤ F15 3 4 ∧ F15 3 4 ≤ 2147483647 := H.krg 3 4 (by decide); rw [show F15 3 4 = F 3 4 from ((show F15 3 4 = F 3 4 from (eF15 3 4).trans (hS15 0 4 rfl)))] at h1; exact h1
  have r19 : (-2147483648 : Int) ≤ F 3 5 ∧ F 3 5 ≤ 2147483647 := by have h1 : (-2147483648 : Int) ≤ F15 3 5 ∧ F15 3 5 ≤ 2147483647 := H.krg 3 5 (by decide); rw [show F15 3 5 = F 3 5 from ((show F15 3 5 = F 3 5 from (eF15 3 5).trans (hS15 0 5 rfl)))] at h1; exact h1
  refine v_inv H (o := 3) rfl rfl rfl rfl rfl rfl (by rfl) (C125 (D := pul [3, 4, 5, 6, 8, 9, 10] D15) (N := pul [3, 4, 5, 6, 8, 9, 10] N15) (HW_sub H (VS_of (show vsub V215_thispackeda V125 [3, 4, 5, 6, 8, 9, 10] = true by decide +kernel))) (pf15_3_0) (pf15_4_0) (pf15_3_8) (pf15_3_1) (pf15_3_2) (pf15_3_3) (n5) ((congrArg (fun q : Nat => (q : Int)) (show N15 5 = N 5 from (eN15 5).trans (hN15 2 rfl))).trans (en5)) (m15_3) ((congrArg (fun q : Nat => (q : Int)) (eN15 6)).trans em15_3) (n8) ((congrArg (fun q : Nat => (q : Int)) (show N15 8 = N 8 from (eN15 8))).trans (en8)) (n9) ((congrArg (fun q : Nat => (q : Int)) (show N15 9 = N 9 from (eN15 9))).trans (en9)) (n10) ((congrArg (fun q : Nat => (q : Int)) (show N15 10 = N 10 from (eN15 10))).trans (en10)) (F 3 4) (((show F15 3 4 = F 3 4 from (eF15 3 4).trans (hS15 0 4 rfl)))) (F 3 5) (((show F15 3 5 = F 3 5 from (eF15 3 5).trans (hS15 0 5 rfl)))) (y15_0_6) (((eF15 3 6).trans ey15_0_6)) (u3_9) ((((show F15 3 9 = F 3 9 from (eF15 3 9).trans (hS15 0 9 rfl))).trans (eu3_9))) (u3_10) ((((show F15 3 10 = F 3 10 from (eF15 3 10).trans (hS15 0 10 rfl))).trans (eu3_10))) (u3_11) ((((show F15 3 11 = F 3 11 from (eF15 3 11).trans (hS15 0 11 rfl))).trans (eu3_11))) (u4_1) ((((show F15 4 1 = F 4 1 from (eF15 4 1).trans (hS15 1 1 rfl))).trans (eu4_1))) (w5) (((show A15 5 = A 5 from (eA15 5).trans (funext (hA15 2 rfl)))).trans (ew5)) (w15_3) ((eA15 6).trans ew15_3) (A 8) ((show A15 8 = A 8 from (eA15 8))) (A 9) ((show A15 9 = A 9 from (eA15 9))) (A 10) ((show A15 10 = A 10 from (eA15 10))) (show inr (a2) by omega) (show inr (u4_1) by omega) (show inr ((u4_1 - 5)) by omega) (show inr ((u4_1 - 12)) by omega) (show 0 ≤ (u4_1) ∧ (u4_1) ≤ (n5) ∧ (n5) ≤ 65536 ∧ (u4_1) ≤ 16384 by omega) (show 1 ≤ (u3_10) ∧ (u3_10) ≤ 8 by omega) (show 0 ≤ (a2) ∧ (a2) ≤ (u4_1) ∧ (u4_1) ≤ (u4_1) by omega) (show ((u4_1 - 5)) ≤ (u4_1) ∧ ((u4_1 - 12)) < (u4_1) ∧ ((u4_1 - 12)) < (y15_0_6) by omega) (show 0 ≤ (y15_0_6) ∧ (y15_0_6) ≤ (m15_3) ∧ (m15_3) ≤ 16384 by omega) (show BKI ((w5)) ((w15_3)) ((u3_10)) ((y15_0_6)) by assumption) (show (n8) = (n9) ∧ (n10) = (n9) ∧ (n9) ≤ 65536 ∧ ((n9) = 0 ∨ 64 ≤ (n9)) ∧ lgq ((n9)) = 0 by omega) (fun σ20 D20' N20' F20' A20' c20 s20 H' O' hD20 hN20 hS20 hA20 pm20_4 pm20_5 pm20_6 m20_4 em20_4 m20_5 em20_5 m20_6 em20_6 y20_0_4 ey20_0_4 y20_0_5 ey20_0_5 w20_4 ew20_4 w20_5 ew20_5 w20_6 ew20_6 pz20_0 pz20_1 pz20_2 pz20_3 pz20_4 => ⟨rfl, ?_⟩))
  replace pm20_4 := HIDm pm20_4
  replace pm20_5 := HIDm pm20_5
  replace pm20_6 := HIDm pm20_6
  replace em20_4 := HIDm em20_4
  replace em20_5 := HIDm em20_5
  replace em20_6 := HIDm em20_6
  replace ey20_0_4 := HIDm ey20_0_4
  replace ey20_0_5 := HIDm ey20_0_5
  refine v_backM (c := (c + c15)) (s := (s + s15)) H (show vsub V215_thispackeda V125 [3, 4, 5, 6, 8, 9, 10] = true by decide +kernel) H' O' hD20 (show vmov V215_thispackeda [3, 4, 5, 6, 8, 9, 10] [4, 5, 6] = true by decide +kernel) (fun D20 N20 F20 A20 H O' eD20 eN20 eF20 eA20 => ?_)
  have O := OUT_trans O O'
  -- Finder.go
  have pf20_0_2 : HID (F20 0 2 = (D20 3 : Int)) := ((show F20 0 2 = F15 0 2 from (eF20 0 2))).trans ((pf15_0_2).trans (congrArg (fun q : Nat => (q : Int)) ((show D20 3 = D15 3 from (eD20 3).trans (hD20 0 rfl))).symm))
  have pf20_0_3 : HID (F20 0 3 = (D20 1 : Int)) := ((show F20 0 3 = F15 0 3 from (eF20 0 3))).trans ((pf15_0_3).trans (congrArg (fun q : Nat => (q : Int)) ((show D20 1 = D15 1 from (eD20 1))).symm))
  have pf20_1_0 : HID (F20 1 0 = (D20 2 : Int)) := ((show F20 1 0 = F15 1 0 from (eF20 1 0))).trans ((pf15_1_0).trans (congrArg (fun q : Nat => (q : Int)) ((show D20 2 = D15 2 from (eD20 2))).symm))
  have pf20_3_0 : HID (F20 3 0 = (D20 4 : Int)) := ((show F20 3 0 = F15 3 0 from (eF20 3 0).trans (hS20 0 0 rfl))).trans ((pf15_3_0).trans (congrArg (fun q : Nat => (q : Int)) ((show D20 4 = D15 4 from (eD20 4).trans (hD20 1 rfl))).symm))
  have pf20_3_1 : HID (F20 3 1 = (D20 8 : Int)) := (eF20 3 1).trans (pm20_4.trans (congrArg (fun q : Nat => (q : Int)) (eD20 8).symm))
  have pf20_3_2 : HID (F20 3 2 = (D20 9 : Int)) := (eF20 3 2).trans (pm20_5.trans (congrArg (fun q : Nat => (q : Int)) (eD20 9).symm))
  have pf20_3_3 : HID (F20 3 3 = (D20 10 : Int)) := (eF20 3 3).trans (pm20_6.trans (congrArg (fun q : Nat => (q : Int)) (eD20 10).symm))
  have pf20_3_7 : HID (F20 3 7 = (D20 7 : Int)) := ((show F20 3 7 = F15 3 7 from (eF20 3 7).trans (hS20 0 7 rfl))).trans ((pf15_3_7).trans (congrArg (fun q : Nat => (q : Int)) ((show D20 7 = D15 7 from (eD20 7))).symm))
  have pf20_3_8 : HID (F20 3 8 = (D20 6 : Int)) := ((show F20 3 8 = F15 3 8 from (eF20 3 8).trans (hS20 0 8 rfl))).trans ((pf15_3_8).trans (congrArg (fun q : Nat => (q : Int)) ((show D20 6 = D15 6 from (eD20 6).trans (hD20 3 rfl))).symm))
  have pf20_4_0 : HID (F20 4 0 = (D20 5 : Int)) := ((show F20 4 0 = F15 4 0 from (eF20 4 0).trans (hS20 1 0 rfl))).trans ((pf15_4_0).trans (congrArg (fun q : Nat => (q : Int)) ((show D20 5 = D15 5 from (eD20 5).trans (hD20 2 rfl))).symm))
  have r21 : (0 : Int) ≤ m20_4 ∧ m20_4 ≤ 1000000 := by have h1 := H.nle 8 (by decide); have h2 : (N20 8 : Int) = m20_4 := (congrArg (fun q : Nat => (q : Int)) (eN20 8)).trans em20_4; omega
  have r22 : (0 : Int) ≤ m20_5 ∧ m20_5 ≤ 1000000 := by have h1 := H.nle 9 (by decide); have h2 : (N20 9 : Int) = m20_5 := (congrArg (fun q : Nat => (q : Int)) (eN20 9)).trans em20_5; omega
  have r23 : (0 : Int) ≤ m20_6 ∧ m20_6 ≤ 1000000 := by have h1 := H.nle 10 (by decide); have h2 : (N20 10 : Int) = m20_6 := (congrArg (fun q : Nat => (q : Int)) (eN20 10)).trans em20_6; omega
  have r24 : (-2147483648 : Int) ≤ y20_0_4 ∧ y20_0_4 ≤ 2147483647 := by have h1 : (-2147483648 : Int) ≤ F20 3 4 ∧ F20 3 4 ≤ 2147483647 := H.krg 3 4 (by decide); rw [show F20 3 4 = y20_0_4 from ((eF20 3 4).trans ey20_0_4)] at h1; exact h1
  have r25 : (-2147483648 : Int) ≤ y20_0_5 ∧ y20_0_5 ≤ 2147483647 := by have h1 : (-2147483648 : Int) ≤ F20 3 5 ∧ F20 3 5 ≤ 2147483647 := H.krg 3 5 (by decide); rw [show F20 3 5 = y20_0_5 from ((eF20 3 5).trans ey20_0_5)] at h1; exact h1
  refine Ew_of (pc' := 36) (fun _ => x_iload_n rfl (rk_o (rfl) rfl rfl)) ?_
  refine Ew_of (pc' := 38) (fun _ => x_istore rfl) ?_
  refine Ew_of (pc' := 39) (fun _ => x_iconst rfl) ?_
  refine Ew_of (pc' := 41) (fun _ => x_istore rfl) ?_
  have : su (fun j => ((w20_4)) j + ((w20_5)) j) (0 : Int).toNat = 0 := rfl
  have hfd : FDI ((w20_4)) ((w20_5)) ((w20_6)) ((y20_0_4)) ((u4_1) - (a2) - (y20_0_5)) ((u3_10)) := pz20_3
  have hgo := pz20_4
  have : RTO ((u1_2)) ((w2)) ((u1_1)) ((u1_2)) ((w2)) ((u1_1)) (tokE ((w5)) ((a2)) (sq ((w20_4)) ((w20_5)) ((w20_6)) ((y20_0_4))) ((y20_0_5))) (tokE ((w5)) ((a2)) (sqd ((w20_4)) ((w20_5)) ((w20_6)) (0) ((y20_0_4))) ((y20_0_5))) := by rw [sqd_0]; exact RTO_0
  suffices hl41 : ∀ (m : Nat), ∀ (ls : rO) (σ : rS) (D_41 N_41 : Nat → Nat) (c_41 s_41 : Nat) (F_41 : hF) (A_41 : hA) (x41_4 : Int) (x41_5 : Int), rlook ls 0 = some (.ref (D_41 0)) → rlook ls 1 = some (.ref (D_41 1)) → rlook ls 4 = some (I (x41_4)) → rlook ls 5 = some (I (x41_5)) → HW V215_thispackeda σ D_41 N_41 F_41 A_41 → OUT (V215_thispackeda).length D N σE c s D_41 N_41 σ c_41 s_41 → SD [2] D20 D_41 → SD [2] N20 N_41 → SF [(1, 0), (1, 1), (1, 2)] F20 F_41 → SA [2] A20 A_41 → F_41 1 0 = (D_41 2 : Int) → ∀ m41_2 : Int, (N_41 2 : Int) = m41_2 → ∀ y41_1_1 : Int, F_41 1 1 = y41_1_1 → ∀ y41_1_2 : Int, F_41 1 2 = y41_1_2 → ∀ w41_2 : Int → Int, A_41 2 = w41_2 → (inr (x41_4)) → (inr (x41_5)) → ((0) ≤ (x41_5)) → ((x41_5) ≤ (0) ∨ (x41_5) ≤ ((y20_0_4))) → (0 ≤ (y41_1_1) ∧ (y41_1_1) ≤ (m41_2) ∧ (m41_2) ≤ 65536) → ((x41_4) = (a2) + su (fun j => ((w20_4)) j + ((w20_5)) j) ((x41_5) : Int).toNat) → (RTO ((u1_2)) ((w2)) ((u1_1)) ((y41_1_2)) ((w41_2)) ((y41_1_1)) (tokE ((w5)) ((a2)) (sq ((w20_4)) ((w20_5)) ((w20_6)) ((y20_0_4))) ((y20_0_5))) (tokE ((w5)) ((x41_4)) (sqd ((w20_4)) ((w20_5)) ((w20_6)) ((x41_5)) ((y20_0_4))) ((y20_0_5)))) → (((y20_0_4)) - (x41_5)).toNat = m → Ew 215 (d + 5) 41 ls [] σ c_41 s_41 Q from
    hl41 _ _ _ _ _ _ _ _ _ (a2) (0) ((rk_o (rk_o (rk_o (rfl) rfl rfl) rfl rfl) rfl rfl).trans (congrArg (fun q : Nat => some (Value.ref q)) ((((show D20 0 = D15 0 from (eD20 0))).trans ((show D15 0 = D 0 from (eD15 0))))).symm)) ((rk_o (rk_o (rk_o (rfl) rfl rfl) rfl rfl) rfl rfl).trans (congrArg (fun q : Nat => some (Value.ref q)) ((((show D20 1 = D15 1 from (eD20 1))).trans ((show D15 1 = D 1 from (eD15 1))))).symm)) (rk_o (rk_s) rfl rfl) (rk_s) H O (SD_refl) (SD_refl) (SF_refl) (SA_refl) (pf20_1_0) (n2) ((congrArg (fun q : Nat => (q : Int)) (show N20 2 = N15 2 from (eN20 2))).trans ((congrArg (fun q : Nat => (q : Int)) (show N15 2 = N 2 from (eN15 2))).trans (en2))) (u1_1) (((((show F20 1 1 = F15 1 1 from (eF20 1 1))).trans ((show F15 1 1 = F 1 1 from (eF15 1 1)))).trans (eu1_1))) (u1_2) (((((show F20 1 2 = F15 1 2 from (eF20 1 2))).trans ((show F15 1 2 = F 1 2 from (eF15 1 2)))).trans (eu1_2))) (w2) (((show A20 2 = A15 2 from (eA20 2))).trans (((show A15 2 = A 2 from (eA15 2))).trans (ew2))) (show inr (a2) by omega) (show inr (0) by omega) (show (0) ≤ (0) by omega) (show (0) ≤ (0) ∨ (0) ≤ ((y20_0_4)) by omega) (show 0 ≤ (u1_1) ∧ (u1_1) ≤ (n2) ∧ (n2) ≤ 65536 by omega) (show (a2) = (a2) + su (fun j => ((w20_4)) j + ((w20_5)) j) ((0) : Int).toNat by omega) (show RTO ((u1_2)) ((w2)) ((u1_1)) ((u1_2)) ((w2)) ((u1_1)) (tokE ((w5)) ((a2)) (sq ((w20_4)) ((w20_5)) ((w20_6)) ((y20_0_4))) ((y20_0_5))) (tokE ((w5)) ((a2)) (sqd ((w20_4)) ((w20_5)) ((w20_6)) ((0)) ((y20_0_4))) ((y20_0_5))) by assumption) rfl
  as_aux_lemma =>
  intro m
  induction m using Nat.strongRecOn with
  | _ m ih41 =>
    intro ls σ D_41 N_41 c_41 s_41 F_41 A_41 x41_4 x41_5 l41_0 l41_1 l41_4 l41_5 H O hD_41 hN_41 hS_41 hA_41 pm41_2 m41_2 em41_2 y41_1_1 ey41_1_1 y41_1_2 ey41_1_2 w41_2 ew41_2 j41_0 j41_1 j41_2 j41_3 j41_4 j41_5 j41_6 hm41
    replace pm41_2 := HIDm pm41_2
    replace em41_2 := HIDm em41_2
    replace ey41_1_1 := HIDm ey41_1_1
    replace ey41_1_2 := HIDm ey41_1_2
    have pf_41_0_2 : HID (F_41 0 2 = (D_41 3 : Int)) := (hS_41 0 2 rfl).trans ((pf20_0_2).trans (congrArg (fun q : Nat => (q : Int)) (hD_41 3 rfl).symm))
    have pf_41_0_3 : HID (F_41 0 3 = (D_41 1 : Int)) := (hS_41 0 3 rfl).trans ((pf20_0_3).trans (congrArg (fun q : Nat => (q : Int)) (hD_41 1 rfl).symm))
    have pf_41_3_0 : HID (F_41 3 0 = (D_41 4 : Int)) := (hS_41 3 0 rfl).trans ((pf20_3_0).trans (congrArg (fun q : Nat => (q : Int)) (hD_41 4 rfl).symm))
    have pf_41_3_1 : HID (F_41 3 1 = (D_41 8 : Int)) := (hS_41 3 1 rfl).trans ((pf20_3_1).trans (congrArg (fun q : Nat => (q : Int)) (hD_41 8 rfl).symm))
    have pf_41_3_2 : HID (F_41 3 2 = (D_41 9 : Int)) := (hS_41 3 2 rfl).trans ((pf20_3_2).trans (congrArg (fun q : Nat => (q : Int)) (hD_41 9 rfl).symm))
    have pf_41_3_3 : HID (F_41 3 3 = (D_41 10 : Int)) := (hS_41 3 3 rfl).trans ((pf20_3_3).trans (congrArg (fun q : Nat => (q : Int)) (hD_41 10 rfl).symm))
    have pf_41_3_7 : HID (F_41 3 7 = (D_41 7 : Int)) := (hS_41 3 7 rfl).trans ((pf20_3_7).trans (congrArg (fun q : Nat => (q : Int)) (hD_41 7 rfl).symm))
    have pf_41_3_8 : HID (F_41 3 8 = (D_41 6 : Int)) := (hS_41 3 8 rfl).trans ((pf20_3_8).trans (congrArg (fun q : Nat => (q : Int)) (hD_41 6 rfl).symm))
    have pf_41_4_0 : HID (F_41 4 0 = (D_41 5 : Int)) := (hS_41 4 0 rfl).trans ((pf20_4_0).trans (congrArg (fun q : Nat => (q : Int)) (hD_41 5 rfl).symm))
    have r26 : (0 : Int) ≤ m41_2 ∧ m41_2 ≤ 1000000 := by have h1 := H.nle 2 (by decide); have h2 : (N_41 2 : Int) = m41_2 := em41_2; omega
    have r27 : (-2147483648 : Int) ≤ y41_1_1 ∧ y41_1_1 ≤ 2147483647 := by have h1 : (-2147483648 : Int) ≤ F_41 1 1 ∧ F_41 1 1 ≤ 2147483647 := H.krg 1 1 (by decide); rw [show F_41 1 1 = y41_1_1 from (ey41_1_1)] at h1; exact h1
    have r28 : (0 : Int) ≤ y41_1_2 ∧ y41_1_2 ≤ 1 := by have h1 : (0 : Int) ≤ F_41 1 2 ∧ F_41 1 2 ≤ 1 := H.krg 1 2 (by decide); rw [show F_41 1 2 = y41_1_2 from (ey41_1_2)] at h1; exact h1
    have j41_q : RTO ((u1_2)) ((w2)) ((u1_1)) ((y41_1_2)) ((w41_2)) ((y41_1_1)) (tokE ((w5)) ((a2)) (sq ((w20_4)) ((w20_5)) ((w20_6)) ((y20_0_4))) ((y20_0_5))) (tokE ((w5)) ((x41_4)) (sqd ((w20_4)) ((w20_5)) ((w20_6)) ((x41_5)) ((y20_0_4))) ((y20_0_5))) := by assumption
    refine Ew_of (pc' := 43) (fun _ => x_iload rfl l41_5) ?_
    refine Ew_of (pc' := 44) (fun _ => x_aload_n rfl l41_0) ?_
    refine v_g H (o := 0) (v := .ref (D_41 3)) rfl rfl rfl rfl rfl (vrf (pf_41_0_2)) ?_
    refine v_g H (o := 3) (v := I (y20_0_4)) rfl rfl rfl rfl rfl (congrArg (fun z : Int => I z) (((hS_41 3 4 rfl).trans ((eF20 3 4).trans ey20_0_4)) : F_41 3 4 = y20_0_4)) ?_
    refine w_icmpge (t := 136) rfl rfl (show inr (x41_5) by omega) (show inr (y20_0_4) by omega) (fun b29 => ?_) (fun b29 => ?_)
    · have hle : (x41_5) = (y20_0_4) := by omega
      have hst : su (fun j => ((w20_4)) j + ((w20_5)) j) ((x41_5) : Int).toNat = (u4_1) - (a2) - (y20_0_5) := by rw [hle]; exact hfd.2
      refine Ew_of (pc' := 137) (fun _ => x_aload_n rfl l41_0) ?_
      refine Ew_of (pc' := 138) (fun _ => x_aload_n rfl l41_1) ?_
      refine Ew_of (pc' := 140) (fun _ => x_iload rfl l41_4) ?_
      refine Ew_of (pc' := 141) (fun _ => x_aload_n rfl l41_0) ?_
      refine v_g H (o := 0) (v := .ref (D_41 3)) rfl rfl rfl rfl rfl (vrf (pf_41_0_2)) ?_
      refine v_g H (o := 3) (v := I (y20_0_5)) rfl rfl rfl rfl rfl (congrArg (fun z : Int => I z) (((hS_41 3 5 rfl).trans ((eF20 3 5).trans ey20_0_5)) : F_41 3 5 = y20_0_5)) ?_
      refine Ew_of (pc' := 148) (fun _ => x_iconst rfl) ?_
      refine v_inv H (o := 0) rfl rfl rfl rfl rfl rfl (by rfl) (C216_thispackeda (D := pul [0, 1, 2, 3, 4, 5] D_41) (N := pul [0, 1, 2, 3, 4, 5] N_41) (HW_sub H (VS_of (show vsub V215_thispackeda V216_thispackeda [0, 1, 2, 3, 4, 5] = true by decide +kernel))) (pf_41_0_3) (pm41_2) (pf_41_0_2) (pf_41_3_0) (pf_41_4_0) (m41_2) (em41_2) (n5) ((congrArg (fun q : Nat => (q : Int)) (hN_41 5 rfl)).trans ((congrArg (fun q : Nat => (q : Int)) (show N20 5 = N15 5 from (eN20 5).trans (hN20 2 rfl))).trans ((congrArg (fun q : Nat => (q : Int)) (show N15 5 = N 5 from (eN15 5).trans (hN15 2 rfl))).trans (en5)))) (y41_1_1) ((ey41_1_1)) (y41_1_2) ((ey41_1_2)) (u4_1) (((((hS_41 4 1 rfl).trans ((show F20 4 1 = F15 4 1 from (eF20 4 1).trans (hS20 1 1 rfl)))).trans ((show F15 4 1 = F 4 1 from (eF15 4 1).trans (hS15 1 1 rfl)))).trans (eu4_1))) (w41_2) (ew41_2) (w5) ((funext (hA_41 5 rfl)).trans (((show A20 5 = A15 5 from (eA20 5).trans (funext (hA20 2 rfl)))).trans (((show A15 5 = A 5 from (eA15 5).trans (funext (hA15 2 rfl)))).trans (ew5)))) (show inr (x41_4) by omega) (show inr (y20_0_5) by omega) (show inr (0) by omega) (show 0 ≤ (y41_1_1) ∧ (y41_1_1) ≤ (m41_2) ∧ (m41_2) ≤ 65536 by omega) (show 0 ≤ (u4_1) ∧ (u4_1) ≤ (n5) ∧ (n5) ≤ 65536 by omega) (show 0 ≤ (x41_4) ∧ 0 ≤ (y20_0_5) ∧ (x41_4) + (y20_0_5) ≤ (n5) by omega) (show 0 ≤ (0) by omega) (fun σ30 D30' N30' F30' A30' c30 s30 H' O' hD30 hN30 hS30 hA30 pm30_2 m30_2 em30_2 y30_1_1 ey30_1_1 y30_1_2 ey30_1_2 w30_2 ew30_2 pz30_0 pz30_1 => ⟨rfl, ?_⟩))
      replace pm30_2 := HIDm pm30_2
      replace em30_2 := HIDm em30_2
      replace ey30_1_1 := HIDm ey30_1_1
      replace ey30_1_2 := HIDm ey30_1_2
      refine v_backM (c := c_41) (s := s_41) H (show vsub V215_thispackeda V216_thispackeda [0, 1, 2, 3, 4, 5] = true by decide +kernel) H' O' hD30 (show vmov V215_thispackeda [0, 1, 2, 3, 4, 5] [2] = true by decide +kernel) (fun D30 N30 F30 A30 H O' eD30 eN30 eF30 eA30 => ?_)
      have O := OUT_trans O O'
      -- Tokens.packLiterals
      have pf30_0_2 : HID (F30 0 2 = (D30 3 : Int)) := ((show F30 0 2 = F_41 0 2 from (eF30 0 2).trans (hS30 0 2 rfl))).trans ((pf_41_0_2).trans (congrArg (fun q : Nat => (q : Int)) ((show D30 3 = D_41 3 from (eD30 3).trans (hD30 3 rfl))).symm))
      have pf30_0_3 : HID (F30 0 3 = (D30 1 : Int)) := ((show F30 0 3 = F_41 0 3 from (eF30 0 3).trans (hS30 0 3 rfl))).trans ((pf_41_0_3).trans (congrArg (fun q : Nat => (q : Int)) ((show D30 1 = D_41 1 from (eD30 1).trans (hD30 1 rfl))).symm))
      have pf30_1_0 : HID (F30 1 0 = (D30 2 : Int)) := (eF30 1 0).trans (pm30_2.trans (congrArg (fun q : Nat => (q : Int)) (eD30 2).symm))
      have pf30_3_0 : HID (F30 3 0 = (D30 4 : Int)) := ((show F30 3 0 = F_41 3 0 from (eF30 3 0).trans (hS30 3 0 rfl))).trans ((pf_41_3_0).trans (congrArg (fun q : Nat => (q : Int)) ((show D30 4 = D_41 4 from (eD30 4).trans (hD30 4 rfl))).symm))
      have pf30_3_1 : HID (F30 3 1 = (D30 8 : Int)) := ((show F30 3 1 = F_41 3 1 from (eF30 3 1).trans (hS30 3 1 rfl))).trans ((pf_41_3_1).trans (congrArg (fun q : Nat => (q : Int)) ((show D30 8 = D_41 8 from (eD30 8))).symm))
      have pf30_3_2 : HID (F30 3 2 = (D30 9 : Int)) := ((show F30 3 2 = F_41 3 2 from (eF30 3 2).trans (hS30 3 2 rfl))).trans ((pf_41_3_2).trans (congrArg (fun q : Nat => (q : Int)) ((show D30 9 = D_41 9 from (eD30 9))).symm))
      have pf30_3_3 : HID (F30 3 3 = (D30 10 : Int)) := ((show F30 3 3 = F_41 3 3 from (eF30 3 3).trans (hS30 3 3 rfl))).trans ((pf_41_3_3).trans (congrArg (fun q : Nat => (q : Int)) ((show D30 10 = D_41 10 from (eD30 10))).symm))
      have pf30_3_7 : HID (F30 3 7 = (D30 7 : Int)) := ((show F30 3 7 = F_41 3 7 from (eF30 3 7).trans (hS30 3 7 rfl))).trans ((pf_41_3_7).trans (congrArg (fun q : Nat => (q : Int)) ((show D30 7 = D_41 7 from (eD30 7))).symm))
      have pf30_3_8 : HID (F30 3 8 = (D30 6 : Int)) := ((show F30 3 8 = F_41 3 8 from (eF30 3 8).trans (hS30 3 8 rfl))).trans ((pf_41_3_8).trans (congrArg (fun q : Nat => (q : Int)) ((show D30 6 = D_41 6 from (eD30 6))).symm))
      have pf30_4_0 : HID (F30 4 0 = (D30 5 : Int)) := ((show F30 4 0 = F_41 4 0 from (eF30 4 0).trans (hS30 4 0 rfl))).trans ((pf_41_4_0).trans (congrArg (fun q : Nat => (q : Int)) ((show D30 5 = D_41 5 from (eD30 5).trans (hD30 5 rfl))).symm))
      have r31 : (0 : Int) ≤ m30_2 ∧ m30_2 ≤ 1000000 := by have h1 := H.nle 2 (by decide); have h2 : (N30 2 : Int) = m30_2 := (congrArg (fun q : Nat => (q : Int)) (eN30 2)).trans em30_2; omega
      have r32 : (-2147483648 : Int) ≤ y30_1_1 ∧ y30_1_1 ≤ 2147483647 := by have h1 : (-2147483648 : Int) ≤ F30 1 1 ∧ F30 1 1 ≤ 2147483647 := H.krg 1 1 (by decide); rw [show F30 1 1 = y30_1_1 from ((eF30 1 1).trans ey30_1_1)] at h1; exact h1
      have r33 : (0 : Int) ≤ y30_1_2 ∧ y30_1_2 ≤ 1 := by have h1 : (0 : Int) ≤ F30 1 2 ∧ F30 1 2 ≤ 1 := H.krg 1 2 (by decide); rw [show F30 1 2 = y30_1_2 from ((eF30 1 2).trans ey30_1_2)] at h1; exact h1
      have hBd : ∀ i, (-128 : Int) ≤ (w5) i ∧ (w5) i ≤ 127 := fun i => by have h1 : (-128 : Int) ≤ A30 5 i ∧ A30 5 i ≤ 127 := H.arg 5 i (by decide) rfl; rw [show A30 5 = w5 from ((show A30 5 = A_41 5 from (eA30 5).trans (funext (hA30 5 rfl)))).trans ((funext (hA_41 5 rfl)).trans (((show A20 5 = A15 5 from (eA20 5).trans (funext (hA20 2 rfl)))).trans (((show A15 5 = A 5 from (eA15 5).trans (funext (hA15 2 rfl)))).trans (ew5))))] at h1; exact h1
      have : PKB ((u3_9)) ((a2)) (sc ((w5)) 0 ((u4_1))) ((u1_2)) ((w2)) ((u1_1)) ((y30_1_2)) ((w30_2)) ((y30_1_1)) := ⟨_, TOB_of2 (BYI_s hBd) (by omega) (by omega) hgo (by omega) (by omega) (by omega) (by omega) (by omega), RTO_e j41_q (by rw [sqd_e (by omega), tokE_nil (by omega)]; exact pz30_1)⟩
      exact w_ret rfl (k _ _ _ _ _ _ _ H O (SD_trans (SD_trans (SD_trans (SD_trans (SD_refl) (SD_glu (ι := [3, 4, 5, 6, 7]) hD15 eD15 (by decide +kernel)) (any_subA (l' := [6]) rfl)) (SD_glu (ι := [3, 4, 5, 6, 8, 9, 10]) hD20 eD20 (by decide +kernel)) (any_subA (l' := [8, 9, 10]) rfl)) hD_41 (any_subA rfl)) (SD_glu (ι := [0, 1, 2, 3, 4, 5]) hD30 eD30 (by decide +kernel)) (any_subA (l' := [2]) rfl)) (SD_trans (SD_trans (SD_trans (SD_trans (SD_refl) (SD_glu (ι := [3, 4, 5, 6, 7]) hN15 eN15 (by decide +kernel)) (any_subA (l' := [6]) rfl)) (SD_glu (ι := [3, 4, 5, 6, 8, 9, 10]) hN20 eN20 (by decide +kernel)) (any_subA (l' := [8, 9, 10]) rfl)) hN_41 (any_subA rfl)) (SD_glu (ι := [0, 1, 2, 3, 4, 5]) hN30 eN30 (by decide +kernel)) (any_subA (l' := [2]) rfl)) (SF_trans (SF_trans (SF_trans (SF_trans (SF_refl) (SF_glu (ι := [3, 4, 5, 6, 7]) hS15 eF15 (by decide +kernel)) (any_sub (l' := [(3, 6), (3, 8)]) rfl)) (SF_glu (ι := [3, 4, 5, 6, 8, 9, 10]) hS20 eF20 (by decide +kernel)) (any_sub (l' := [(3, 1), (3, 2), (3, 3), (3, 4), (3, 5), (3, 12), (3, 13), (3, 14), (3, 15), (3, 16), (3, 17), (3, 18)]) rfl)) hS_41 (any_sub rfl)) (SF_glu (ι := [0, 1, 2, 3, 4, 5]) hS30 eF30 (by decide +kernel)) (any_sub (l' := [(1, 0), (1, 1), (1, 2)]) rfl)) (SA_trans (SA_trans (SA_trans (SA_trans (SA_refl) (SA_glu (ι := [3, 4, 5, 6, 7]) hA15 eA15 (by decide +kernel)) (any_subA (l' := [6, 7]) rfl)) (SA_glu (ι := [3, 4, 5, 6, 8, 9, 10]) hA20 eA20 (by decide +kernel)) (any_subA (l' := [8, 9, 10]) rfl)) hA_41 (any_subA rfl)) (SA_glu (ι := [0, 1, 2, 3, 4, 5]) hA30 eA30 (by decide +kernel)) (any_subA (l' := [2]) rfl)) (pf30_1_0) (pf30_3_8) (pf30_3_1) (pf30_3_2) (pf30_3_3) (m30_2) ((congrArg (fun q : Nat => (q : Int)) (eN30 2)).trans em30_2) (m15_3) ((congrArg (fun q : Nat => (q : Int)) (show N30 6 = N_41 6 from (eN30 6))).trans ((congrArg (fun q : Nat => (q : Int)) (hN_41 6 rfl)).trans ((congrArg (fun q : Nat => (q : Int)) (show N20 6 = N15 6 from (eN20 6).trans (hN20 3 rfl))).trans ((congrArg (fun q : Nat => (q : Int)) (eN15 6)).trans em15_3)))) (m20_4) ((congrArg (fun q : Nat => (q : Int)) (show N30 8 = N_41 8 from (eN30 8))).trans ((congrArg (fun q : Nat => (q : Int)) (hN_41 8 rfl)).trans ((congrArg (fun q : Nat => (q : Int)) (eN20 8)).trans em20_4))) (m20_5) ((congrArg (fun q : Nat => (q : Int)) (show N30 9 = N_41 9 from (eN30 9))).trans ((congrArg (fun q : Nat => (q : Int)) (hN_41 9 rfl)).trans ((congrArg (fun q : Nat => (q : Int)) (eN20 9)).trans em20_5))) (m20_6) ((congrArg (fun q : Nat => (q : Int)) (show N30 10 = N_41 10 from (eN30 10))).trans ((congrArg (fun q : Nat => (q : Int)) (hN_41 10 rfl)).trans ((congrArg (fun q : Nat => (q : Int)) (eN20 10)).trans em20_6))) (y30_1_1) (((eF30 1 1).trans ey30_1_1)) (y30_1_2) (((eF30 1 2).trans ey30_1_2)) (y15_0_6) ((((((show F30 3 6 = F_41 3 6 from (eF30 3 6).trans (hS30 3 6 rfl))).trans (hS_41 3 6 rfl)).trans ((show F20 3 6 = F15 3 6 from (eF20 3 6).trans (hS20 0 6 rfl)))).trans ((eF15 3 6).trans ey15_0_6))) (w30_2) ((eA30 2).trans ew30_2) (w15_3) (((show A30 6 = A_41 6 from (eA30 6))).trans ((funext (hA_41 6 rfl)).trans (((show A20 6 = A15 6 from (eA20 6).trans (funext (hA20 3 rfl)))).trans ((eA15 6).trans ew15_3)))) (w15_4) (((show A30 7 = A_41 7 from (eA30 7))).trans ((funext (hA_41 7 rfl)).trans (((show A20 7 = A15 7 from (eA20 7))).trans ((eA15 7).trans ew15_4)))) (show 0 ≤ (y30_1_1) ∧ (y30_1_1) ≤ (m30_2) ∧ (m30_2) ≤ 65536 by omega) (show 0 ≤ (y15_0_6) ∧ (u3_6) ≤ (y15_0_6) ∧ (y15_0_6) ≤ (m15_3) ∧ (m15_3) ≤ 16384 by omega) (show (m20_4) = (m20_5) ∧ (m20_6) = (m20_5) ∧ (m20_5) ≤ 65536 ∧ ((m20_5) = 0 ∨ 64 ≤ (m20_5)) ∧ lgq ((m20_5)) = 0 by omega) (show BKI ((w5)) ((w15_3)) ((u3_10)) ((y15_0_6)) by assumption) (show HDI ((w5)) ((w15_4)) ((u3_10)) ((y15_0_6)) by assumption) (show (y15_0_6) = (u3_6) ∨ (y15_0_6) + 4 ≤ (u4_1) + 1 by omega) (show PKB ((u3_9)) (a2) (sc ((w5)) 0 ((u4_1))) ((u1_2)) ((w2)) ((u1_1)) ((y30_1_2)) ((w30_2)) ((y30_1_1)) by assumption))
    · have hfp := FDI_part (i := (x41_5)) hfd (by omega) (by omega) (by omega)
      have hfj := hfd.1 ((x41_5)) (by omega) (by omega)
      refine Ew_of (pc' := 54) (fun _ => x_aload_n rfl l41_0) ?_
      refine v_g H (o := 0) (v := .ref (D_41 3)) rfl rfl rfl rfl rfl (vrf (pf_41_0_2)) ?_
      refine v_g H (o := 3) (v := .ref (D_41 8)) rfl rfl rfl rfl rfl (vrf (pf_41_3_1)) ?_
      refine Ew_of (pc' := 62) (fun _ => x_iload rfl l41_5) ?_
      refine v_lI H (o := 8) rfl rfl rfl rfl (n := m20_4) ((congrArg (fun q : Nat => (q : Int)) (hN_41 8 rfl)).trans ((congrArg (fun q : Nat => (q : Int)) (eN20 8)).trans em20_4)) (show 0 ≤ x41_5 ∧ x41_5 < m20_4 by omega) (fun v34 ev34 qv34 => ?_)
      have ev34 : (w20_4) (x41_5) = v34 := (congrFun ((funext (hA_41 8 rfl)).trans ((eA20 8).trans ew20_4)) (x41_5)).symm.trans ev34
      refine Ew_of (pc' := 65) (fun _ => x_istore rfl) ?_
      have hl6 := ev34
      refine Ew_of (pc' := 66) (fun _ => x_aload_n rfl (rk_o (l41_0) rfl rfl)) ?_
      refine v_g H (o := 0) (v := .ref (D_41 3)) rfl rfl rfl rfl rfl (vrf (pf_41_0_2)) ?_
      refine v_g H (o := 3) (v := .ref (D_41 9)) rfl rfl rfl rfl rfl (vrf (pf_41_3_2)) ?_
      refine Ew_of (pc' := 74) (fun _ => x_iload rfl (rk_o (l41_5) rfl rfl)) ?_
      refine v_lI H (o := 9) rfl rfl rfl rfl (n := m20_5) ((congrArg (fun q : Nat => (q : Int)) (hN_41 9 rfl)).trans ((congrArg (fun q : Nat => (q : Int)) (eN20 9)).trans em20_5)) (show 0 ≤ x41_5 ∧ x41_5 < m20_5 by omega) (fun v35 ev35 qv35 => ?_)
      have ev35 : (w20_5) (x41_5) = v35 := (congrFun ((funext (hA_41 9 rfl)).trans ((eA20 9).trans ew20_5)) (x41_5)).symm.trans ev35
      have hlv := ev35
      refine Ew_of (pc' := 76) (fun _ => x_iconst rfl) ?_
      refine w_isub rfl ?_
      refine Ew_of (pc' := 79) (fun _ => x_istore rfl) ?_
      refine Ew_of (pc' := 80) (fun _ => x_aload_n rfl (rk_o (rk_o (l41_0) rfl rfl) rfl rfl)) ?_
      refine Ew_of (pc' := 81) (fun _ => x_aload_n rfl (rk_o (rk_o (l41_1) rfl rfl) rfl rfl)) ?_
      refine Ew_of (pc' := 83) (fun _ => x_iload rfl (rk_o (rk_o (l41_4) rfl rfl) rfl rfl)) ?_
      refine Ew_of (pc' := 85) (fun _ => x_iload rfl (rk_o (rk_s) rfl rfl)) ?_
      refine Ew_of (pc' := 87) (fun _ => x_iload rfl rk_s) ?_
      refine v_inv H (o := 0) rfl rfl rfl rfl rfl rfl (by rfl) (C216_thispackeda (D := pul [0, 1, 2, 3, 4, 5] D_41) (N := pul [0, 1, 2, 3, 4, 5] N_41) (HW_sub H (VS_of (show vsub V215_thispackeda V216_thispackeda [0, 1, 2, 3, 4, 5] = true by decide +kernel))) (pf_41_0_3) (pm41_2) (pf_41_0_2) (pf_41_3_0) (pf_41_4_0) (m41_2) (em41_2) (n5) ((congrArg (fun q : Nat => (q : Int)) (hN_41 5 rfl)).trans ((congrArg (fun q : Nat => (q : Int)) (show N20 5 = N15 5 from (eN20 5).trans (hN20 2 rfl))).trans ((congrArg (fun q : Nat => (q : Int)) (show N15 5 = N 5 from (eN15 5).trans (hN15 2 rfl))).trans (en5)))) (y41_1_1) ((ey41_1_1)) (y41_1_2) ((ey41_1_2)) (u4_1) (((((hS_41 4 1 rfl).trans ((show F20 4 1 = F15 4 1 from (eF20 4 1).trans (hS20 1 1 rfl)))).trans ((show F15 4 1 = F 4 1 from (eF15 4 1).trans (hS15 1 1 rfl)))).trans (eu4_1))) (w41_2) (ew41_2) (w5) ((funext (hA_41 5 rfl)).trans (((show A20 5 = A15 5 from (eA20 5).trans (funext (hA20 2 rfl)))).trans (((show A15 5 = A 5 from (eA15 5).trans (funext (hA15 2 rfl)))).trans (ew5)))) (show inr (x41_4) by omega) (show inr (v34) by omega) (show inr ((v35 - 4)) by omega) (show 0 ≤ (y41_1_1) ∧ (y41_1_1) ≤ (m41_2) ∧ (m41_2) ≤ 65536 by omega) (show 0 ≤ (u4_1) ∧ (u4_1) ≤ (n5) ∧ (n5) ≤ 65536 by omega) (show 0 ≤ (x41_4) ∧ 0 ≤ (v34) ∧ (x41_4) + (v34) ≤ (n5) by omega) (show 0 ≤ ((v35 - 4)) by omega) (fun σ36 D36' N36' F36' A36' c36 s36 H' O' hD36 hN36 hS36 hA36 pm36_2 m36_2 em36_2 y36_1_1 ey36_1_1 y36_1_2 ey36_1_2 w36_2 ew36_2 pz36_0 pz36_1 => ⟨rfl, ?_⟩))
      replace pm36_2 := HIDm pm36_2
      replace em36_2 := HIDm em36_2
      replace ey36_1_1 := HIDm ey36_1_1
      replace ey36_1_2 := HIDm ey36_1_2
      refine v_backM (c := c_41) (s := s_41) H (show vsub V215_thispackeda V216_thispackeda [0, 1, 2, 3, 4, 5] = true by decide +kernel) H' O' hD36 (show vmov V215_thispackeda [0, 1, 2, 3, 4, 5] [2] = true by decide +kernel) (fun D36 N36 F36 A36 H O' eD36 eN36 eF36 eA36 => ?_)
      have O := OUT_trans O O'
      -- Tokens.packLiterals
      have pf36_0_2 : HID (F36 0 2 = (D36 3 : Int)) := ((show F36 0 2 = F_41 0 2 from (eF36 0 2).trans (hS36 0 2 rfl))).trans ((pf_41_0_2).trans (congrArg (fun q : Nat => (q : Int)) ((show D36 3 = D_41 3 from (eD36 3).trans (hD36 3 rfl))).symm))
      have pf36_0_3 : HID (F36 0 3 = (D36 1 : Int)) := ((show F36 0 3 = F_41 0 3 from (eF36 0 3).trans (hS36 0 3 rfl))).trans ((pf_41_0_3).trans (congrArg (fun q : Nat => (q : Int)) ((show D36 1 = D_41 1 from (eD36 1).trans (hD36 1 rfl))).symm))
      have pf36_1_0 : HID (F36 1 0 = (D36 2 : Int)) := (eF36 1 0).trans (pm36_2.trans (congrArg (fun q : Nat => (q : Int)) (eD36 2).symm))
      have pf36_3_0 : HID (F36 3 0 = (D36 4 : Int)) := ((show F36 3 0 = F_41 3 0 from (eF36 3 0).trans (hS36 3 0 rfl))).trans ((pf_41_3_0).trans (congrArg (fun q : Nat => (q : Int)) ((show D36 4 = D_41 4 from (eD36 4).trans (hD36 4 rfl))).symm))
      have pf36_3_1 : HID (F36 3 1 = (D36 8 : Int)) := ((show F36 3 1 = F_41 3 1 from (eF36 3 1).trans (hS36 3 1 rfl))).trans ((pf_41_3_1).trans (congrArg (fun q : Nat => (q : Int)) ((show D36 8 = D_41 8 from (eD36 8))).symm))
      have pf36_3_2 : HID (F36 3 2 = (D36 9 : Int)) := ((show F36 3 2 = F_41 3 2 from (eF36 3 2).trans (hS36 3 2 rfl))).trans ((pf_41_3_2).trans (congrArg (fun q : Nat => (q : Int)) ((show D36 9 = D_41 9 from (eD36 9))).symm))
      have pf36_3_3 : HID (F36 3 3 = (D36 10 : Int)) := ((show F36 3 3 = F_41 3 3 from (eF36 3 3).trans (hS36 3 3 rfl))).trans ((pf_41_3_3).trans (congrArg (fun q : Nat => (q : Int)) ((show D36 10 = D_41 10 from (eD36 10))).symm))
      have pf36_3_7 : HID (F36 3 7 = (D36 7 : Int)) := ((show F36 3 7 = F_41 3 7 from (eF36 3 7).trans (hS36 3 7 rfl))).trans ((pf_41_3_7).trans (congrArg (fun q : Nat => (q : Int)) ((show D36 7 = D_41 7 from (eD36 7))).symm))
      have pf36_3_8 : HID (F36 3 8 = (D36 6 : Int)) := ((show F36 3 8 = F_41 3 8 from (eF36 3 8).trans (hS36 3 8 rfl))).trans ((pf_41_3_8).trans (congrArg (fun q : Nat => (q : Int)) ((show D36 6 = D_41 6 from (eD36 6))).symm))
      have pf36_4_0 : HID (F36 4 0 = (D36 5 : Int)) := ((show F36 4 0 = F_41 4 0 from (eF36 4 0).trans (hS36 4 0 rfl))).trans ((pf_41_4_0).trans (congrArg (fun q : Nat => (q : Int)) ((show D36 5 = D_41 5 from (eD36 5).trans (hD36 5 rfl))).symm))
      have r37 : (0 : Int) ≤ m36_2 ∧ m36_2 ≤ 1000000 := by have h1 := H.nle 2 (by decide); have h2 : (N36 2 : Int) = m36_2 := (congrArg (fun q : Nat => (q : Int)) (eN36 2)).trans em36_2; omega
      have r38 : (-2147483648 : Int) ≤ y36_1_1 ∧ y36_1_1 ≤ 2147483647 := by have h1 : (-2147483648 : Int) ≤ F36 1 1 ∧ F36 1 1 ≤ 2147483647 := H.krg 1 1 (by decide); rw [show F36 1 1 = y36_1_1 from ((eF36 1 1).trans ey36_1_1)] at h1; exact h1
      have r39 : (0 : Int) ≤ y36_1_2 ∧ y36_1_2 ≤ 1 := by have h1 : (0 : Int) ≤ F36 1 2 ∧ F36 1 2 ≤ 1 := H.krg 1 2 (by decide); rw [show F36 1 2 = y36_1_2 from ((eF36 1 2).trans ey36_1_2)] at h1; exact h1
      have hp1 := pz36_1
      refine Ew_of (pc' := 91) (fun _ => x_aload_n rfl (rk_o (rk_o (l41_1) rfl rfl) rfl rfl)) ?_
      refine Ew_of (pc' := 92) (fun _ => x_aload_n rfl (rk_o (rk_o (l41_0) rfl rfl) rfl rfl)) ?_
      refine Ew_stk (show ([.ref (D_41 0), .ref (D_41 1)] : List Value) = [.ref (D36 0), .ref (D36 1)] by rw [show D36 0 = D_41 0 from ((show D36 0 = D_41 0 from (eD36 0).trans (hD36 0 rfl))), show D36 1 = D_41 1 from ((show D36 1 = D_41 1 from (eD36 1).trans (hD36 1 rfl)))]) ?_
      refine v_g H (o := 0) (v := .ref (D36 3)) rfl rfl rfl rfl rfl (vrf (pf36_0_2)) ?_
      refine v_g H (o := 3) (v := .ref (D36 10)) rfl rfl rfl rfl rfl (vrf (pf36_3_3)) ?_
      refine Ew_of (pc' := 100) (fun _ => x_iload rfl (rk_o (rk_o (l41_5) rfl rfl) rfl rfl)) ?_
      refine v_lI H (o := 10) rfl rfl rfl rfl (n := m20_6) ((congrArg (fun q : Nat => (q : Int)) (show N36 10 = N_41 10 from (eN36 10))).trans ((congrArg (fun q : Nat => (q : Int)) (hN_41 10 rfl)).trans ((congrArg (fun q : Nat => (q : Int)) (eN20 10)).trans em20_6))) (show 0 ≤ x41_5 ∧ x41_5 < m20_6 by omega) (fun v40 ev40 qv40 => ?_)
      have ev40 : (w20_6) (x41_5) = v40 := (congrFun (((show A36 10 = A_41 10 from (eA36 10))).trans ((funext (hA_41 10 rfl)).trans ((eA20 10).trans ew20_6))) (x41_5)).symm.trans ev40
      have hdv := ev40
      refine w_i2l rfl (show inr (v40) by omega) ?_
      refine Ew_of (pc' := 103) (fun _ => x_iconst rfl) ?_
      refine v_inv H (o := 1) rfl rfl rfl rfl rfl rfl (by rfl) (C160 (D := pul [1, 2] D36) (N := pul [1, 2] N36) (HW_sub H (VS_of (show vsub V215_thispackeda V160 [1, 2] = true by decide +kernel))) (pf36_1_0) (m36_2) ((congrArg (fun q : Nat => (q : Int)) (eN36 2)).trans em36_2) (y36_1_1) (((eF36 1 1).trans ey36_1_1)) (y36_1_2) (((eF36 1 2).trans ey36_1_2)) (w36_2) ((eA36 2).trans ew36_2) (show inrJ (v40) by omega) (show inr (2) by omega) (show 0 ≤ (y36_1_1) ∧ (y36_1_1) ≤ (m36_2) ∧ (m36_2) ≤ 65536 by omega) (show 0 ≤ (2) ∧ (2) ≤ 8 by omega) (fun σ41 D41' N41' F41' A41' c41 s41 H' O' hD41 hN41 hS41 hA41 pm41_1 m41_1 em41_1 y41_0_1 ey41_0_1 y41_0_2 ey41_0_2 w41_1 ew41_1 pz41_0 pz41_1 pz41_2 => ⟨rfl, ?_⟩))
      replace pm41_1 := HIDm pm41_1
      replace em41_1 := HIDm em41_1
      replace ey41_0_1 := HIDm ey41_0_1
      replace ey41_0_2 := HIDm ey41_0_2
      refine v_backM (c := (c_41 + c36)) (s := (s_41 + s36)) H (show vsub V215_thispackeda V160 [1, 2] = true by decide +kernel) H' O' hD41 (show vmov V215_thispackeda [1, 2] [1] = true by decide +kernel) (fun D41 N41 F41 A41 H O' eD41 eN41 eF41 eA41 => ?_)
      have O := OUT_trans O O'
      -- Row.addNumber
      have pf41_0_2 : HID (F41 0 2 = (D41 3 : Int)) := ((show F41 0 2 = F36 0 2 from (eF41 0 2))).trans ((pf36_0_2).trans (congrArg (fun q : Nat => (q : Int)) ((show D41 3 = D36 3 from (eD41 3))).symm))
      have pf41_0_3 : HID (F41 0 3 = (D41 1 : Int)) := ((show F41 0 3 = F36 0 3 from (eF41 0 3))).trans ((pf36_0_3).trans (congrArg (fun q : Nat => (q : Int)) ((show D41 1 = D36 1 from (eD41 1).trans (hD41 0 rfl))).symm))
      have pf41_1_0 : HID (F41 1 0 = (D41 2 : Int)) := (eF41 1 0).trans (pm41_1.trans (congrArg (fun q : Nat => (q : Int)) (eD41 2).symm))
      have pf41_3_0 : HID (F41 3 0 = (D41 4 : Int)) := ((show F41 3 0 = F36 3 0 from (eF41 3 0))).trans ((pf36_3_0).trans (congrArg (fun q : Nat => (q : Int)) ((show D41 4 = D36 4 from (eD41 4))).symm))
      have pf41_3_1 : HID (F41 3 1 = (D41 8 : Int)) := ((show F41 3 1 = F36 3 1 from (eF41 3 1))).trans ((pf36_3_1).trans (congrArg (fun q : Nat => (q : Int)) ((show D41 8 = D36 8 from (eD41 8))).symm))
      have pf41_3_2 : HID (F41 3 2 = (D41 9 : Int)) := ((show F41 3 2 = F36 3 2 from (eF41 3 2))).trans ((pf36_3_2).trans (congrArg (fun q : Nat => (q : Int)) ((show D41 9 = D36 9 from (eD41 9))).symm))
      have pf41_3_3 : HID (F41 3 3 = (D41 10 : Int)) := ((show F41 3 3 = F36 3 3 from (eF41 3 3))).trans ((pf36_3_3).trans (congrArg (fun q : Nat => (q : Int)) ((show D41 10 = D36 10 from (eD41 10))).symm))
      have pf41_3_7 : HID (F41 3 7 = (D41 7 : Int)) := ((show F41 3 7 = F36 3 7 from (eF41 3 7))).trans ((pf36_3_7).trans (congrArg (fun q : Nat => (q : Int)) ((show D41 7 = D36 7 from (eD41 7))).symm))
      have pf41_3_8 : HID (F41 3 8 = (D41 6 : Int)) := ((show F41 3 8 = F36 3 8 from (eF41 3 8))).trans ((pf36_3_8).trans (congrArg (fun q : Nat => (q : Int)) ((show D41 6 = D36 6 from (eD41 6))).symm))
      have pf41_4_0 : HID (F41 4 0 = (D41 5 : Int)) := ((show F41 4 0 = F36 4 0 from (eF41 4 0))).trans ((pf36_4_0).trans (congrArg (fun q : Nat => (q : Int)) ((show D41 5 = D36 5 from (eD41 5))).symm))
      have r42 : (0 : Int) ≤ m41_1 ∧ m41_1 ≤ 1000000 := by have h1 := H.nle 2 (by decide); have h2 : (N41 2 : Int) = m41_1 := (congrArg (fun q : Nat => (q : Int)) (eN41 2)).trans em41_1; omega
      have r43 : (-2147483648 : Int) ≤ y41_0_1 ∧ y41_0_1 ≤ 2147483647 := by have h1 : (-2147483648 : Int) ≤ F41 1 1 ∧ F41 1 1 ≤ 2147483647 := H.krg 1 1 (by decide); rw [show F41 1 1 = y41_0_1 from ((eF41 1 1).trans ey41_0_1)] at h1; exact h1
      have r44 : (0 : Int) ≤ y41_0_2 ∧ y41_0_2 ≤ 1 := by have h1 : (0 : Int) ≤ F41 1 2 ∧ F41 1 2 ≤ 1 := H.krg 1 2 (by decide); rw [show F41 1 2 = y41_0_2 from ((eF41 1 2).trans ey41_0_2)] at h1; exact h1
      have hp2 := pz41_2
      refine Ew_of (pc' := 107) (fun _ => x_aload_n rfl (rk_o (rk_o (l41_1) rfl rfl) rfl rfl)) ?_
      refine Ew_of (pc' := 109) (fun _ => x_iload rfl rk_s) ?_
      refine Ew_stk (show ([I ((v35 - 4)), .ref (D_41 1)] : List Value) = [I ((v35 - 4)), .ref (D41 1)] by rw [show D41 1 = D_41 1 from (((show D41 1 = D36 1 from (eD41 1).trans (hD41 0 rfl))).trans ((show D36 1 = D_41 1 from (eD36 1).trans (hD36 1 rfl))))]) ?_
      refine w_stat24 rfl rfl (by rfl) (C217_Row (D := pul [1, 2] D41) (N := pul [1, 2] N41) (HW_sub H (VS_of (show vsub V215_thispackeda V217_Row [1, 2] = true by decide +kernel))) (pf41_1_0) (m41_1) ((congrArg (fun q : Nat => (q : Int)) (eN41 2)).trans em41_1) (y41_0_1) (((eF41 1 1).trans ey41_0_1)) (y41_0_2) (((eF41 1 2).trans ey41_0_2)) (w41_1) ((eA41 2).trans ew41_1) (show inr ((v35 - 4)) by omega) (show 0 ≤ (y41_0_1) ∧ (y41_0_1) ≤ (m41_1) ∧ (m41_1) ≤ 65536 by omega) (show 0 ≤ ((v35 - 4)) by omega) (fun σ45 D45' N45' F45' A45' c45 s45 H' O' hD45 hN45 hS45 hA45 pm45_1 m45_1 em45_1 y45_0_1 ey45_0_1 y45_0_2 ey45_0_2 w45_1 ew45_1 pz45_0 pz45_1 => ⟨rfl, ?_⟩))
      replace pm45_1 := HIDm pm45_1
      replace em45_1 := HIDm em45_1
      replace ey45_0_1 := HIDm ey45_0_1
      replace ey45_0_2 := HIDm ey45_0_2
      refine v_backM (c := ((c_41 + c36) + c41)) (s := ((s_41 + s36) + s41)) H (show vsub V215_thispackeda V217_Row [1, 2] = true by decide +kernel) H' O' hD45 (show vmov V215_thispackeda [1, 2] [1] = true by decide +kernel) (fun D45 N45 F45 A45 H O' eD45 eN45 eF45 eA45 => ?_)
      have O := OUT_trans O O'
      -- Tokens.packRest
      have pf45_0_2 : HID (F45 0 2 = (D45 3 : Int)) := ((show F45 0 2 = F41 0 2 from (eF45 0 2))).trans ((pf41_0_2).trans (congrArg (fun q : Nat => (q : Int)) ((show D45 3 = D41 3 from (eD45 3))).symm))
      have pf45_0_3 : HID (F45 0 3 = (D45 1 : Int)) := ((show F45 0 3 = F41 0 3 from (eF45 0 3))).trans ((pf41_0_3).trans (congrArg (fun q : Nat => (q : Int)) ((show D45 1 = D41 1 from (eD45 1).trans (hD45 0 rfl))).symm))
      have pf45_1_0 : HID (F45 1 0 = (D45 2 : Int)) := (eF45 1 0).trans (pm45_1.trans (congrArg (fun q : Nat => (q : Int)) (eD45 2).symm))
      have pf45_3_0 : HID (F45 3 0 = (D45 4 : Int)) := ((show F45 3 0 = F41 3 0 from (eF45 3 0))).trans ((pf41_3_0).trans (congrArg (fun q : Nat => (q : Int)) ((show D45 4 = D41 4 from (eD45 4))).symm))
      have pf45_3_1 : HID (F45 3 1 = (D45 8 : Int)) := ((show F45 3 1 = F41 3 1 from (eF45 3 1))).trans ((pf41_3_1).trans (congrArg (fun q : Nat => (q : Int)) ((show D45 8 = D41 8 from (eD45 8))).symm))
      have pf45_3_2 : HID (F45 3 2 = (D45 9 : Int)) := ((show F45 3 2 = F41 3 2 from (eF45 3 2))).trans ((pf41_3_2).trans (congrArg (fun q : Nat => (q : Int)) ((show D45 9 = D41 9 from (eD45 9))).symm))
      have pf45_3_3 : HID (F45 3 3 = (D45 10 : Int)) := ((show F45 3 3 = F41 3 3 from (eF45 3 3))).trans ((pf41_3_3).trans (congrArg (fun q : Nat => (q : Int)) ((show D45 10 = D41 10 from (eD45 10))).symm))
      have pf45_3_7 : HID (F45 3 7 = (D45 7 : Int)) := ((show F45 3 7 = F41 3 7 from (eF45 3 7))).trans ((pf41_3_7).trans (congrArg (fun q : Nat => (q : Int)) ((show D45 7 = D41 7 from (eD45 7))).symm))
      have pf45_3_8 : HID (F45 3 8 = (D45 6 : Int)) := ((show F45 3 8 = F41 3 8 from (eF45 3 8))).trans ((pf41_3_8).trans (congrArg (fun q : Nat => (q : Int)) ((show D45 6 = D41 6 from (eD45 6))).symm))
      have pf45_4_0 : HID (F45 4 0 = (D45 5 : Int)) := ((show F45 4 0 = F41 4 0 from (eF45 4 0))).trans ((pf41_4_0).trans (congrArg (fun q : Nat => (q : Int)) ((show D45 5 = D41 5 from (eD45 5))).symm))
      have r46 : (0 : Int) ≤ m45_1 ∧ m45_1 ≤ 1000000 := by have h1 := H.nle 2 (by decide); have h2 : (N45 2 : Int) = m45_1 := (congrArg (fun q : Nat => (q : Int)) (eN45 2)).trans em45_1; omega
      have r47 : (-2147483648 : Int) ≤ y45_0_1 ∧ y45_0_1 ≤ 2147483647 := by have h1 : (-2147483648 : Int) ≤ F45 1 1 ∧ F45 1 1 ≤ 2147483647 := H.krg 1 1 (by decide); rw [show F45 1 1 = y45_0_1 from ((eF45 1 1).trans ey45_0_1)] at h1; exact h1
      have r48 : (0 : Int) ≤ y45_0_2 ∧ y45_0_2 ≤ 1 := by have h1 : (0 : Int) ≤ F45 1 2 ∧ F45 1 2 ≤ 1 := H.krg 1 2 (by decide); rw [show F45 1 2 = y45_0_2 from ((eF45 1 2).trans ey45_0_2)] at h1; exact h1
      have hp3 := pz45_1
      refine Ew_of (pc' := 114) (fun _ => x_iload rfl (rk_o (rk_o (l41_4) rfl rfl) rfl rfl)) ?_
      refine Ew_of (pc' := 116) (fun _ => x_iload rfl (rk_o (rk_s) rfl rfl)) ?_
      refine Ew_of (pc' := 117) (fun _ => x_aload_n rfl (rk_o (rk_o (l41_0) rfl rfl) rfl rfl)) ?_
      refine Ew_stk (show ([.ref (D_41 0), I (v34), I (x41_4)] : List Value) = [.ref (D45 0), I (v34), I (x41_4)] by rw [show D45 0 = D_41 0 from ((((show D45 0 = D41 0 from (eD45 0))).trans ((show D41 0 = D36 0 from (eD41 0)))).trans ((show D36 0 = D_41 0 from (eD36 0).trans (hD36 0 rfl))))]) ?_
      refine v_g H (o := 0) (v := .ref (D45 3)) rfl rfl rfl rfl rfl (vrf (pf45_0_2)) ?_
      refine v_g H (o := 3) (v := .ref (D45 9)) rfl rfl rfl rfl rfl (vrf (pf45_3_2)) ?_
      refine Ew_of (pc' := 125) (fun _ => x_iload rfl (rk_o (rk_o (l41_5) rfl rfl) rfl rfl)) ?_
      refine v_lI H (o := 9) rfl rfl rfl rfl (n := m20_5) ((congrArg (fun q : Nat => (q : Int)) (show N45 9 = N41 9 from (eN45 9))).trans ((congrArg (fun q : Nat => (q : Int)) (show N41 9 = N36 9 from (eN41 9))).trans ((congrArg (fun q : Nat => (q : Int)) (show N36 9 = N_41 9 from (eN36 9))).trans ((congrArg (fun q : Nat => (q : Int)) (hN_41 9 rfl)).trans ((congrArg (fun q : Nat => (q : Int)) (eN20 9)).trans em20_5))))) (show 0 ≤ x41_5 ∧ x41_5 < m20_5 by omega) (fun v49 ev49 qv49 => ?_)
      have ev49 : (w20_5) (x41_5) = v49 := (congrFun (((show A45 9 = A41 9 from (eA45 9))).trans (((show A41 9 = A36 9 from (eA41 9))).trans (((show A36 9 = A_41 9 from (eA36 9))).trans ((funext (hA_41 9 rfl)).trans ((eA20 9).trans ew20_5))))) (x41_5)).symm.trans ev49
      have hlv2 := ev49
      refine w_iadd rfl ?_
      refine w_iadd rfl ?_
      refine Ew_of (pc' := 130) (fun _ => x_istore rfl) ?_
      refine Ew_of (pc' := 133) (fun _ => x_iinc (len := 3) rfl (rk_o (rk_o (rk_o (l41_5) rfl rfl) rfl rfl) rfl rfl)) ?_
      refine Ew_of (pc' := 41) (fun _ => x_goto rfl rfl) ?_
      have : RTO ((u1_2)) ((w2)) ((u1_1)) ((y45_0_2)) ((w45_1)) ((y45_0_1)) (tokE ((w5)) ((a2)) (sq ((w20_4)) ((w20_5)) ((w20_6)) ((y20_0_4))) ((y20_0_5))) (tokE ((w5)) (((x41_4 + (v34 + v49)))) (sqd ((w20_4)) ((w20_5)) ((w20_6)) (((x41_5 + 1))) ((y20_0_4))) ((y20_0_5))) := RTO_s j41_q (tok_step (by omega) (by omega) hl6 hlv hdv (by omega) (by omega) (by omega) (by omega) (by omega) (by omega)) (RAP_trans hp1 (RAP_trans hp2 hp3))
      exact ih41 _ (by omega) _ _ _ _ _ _ _ _ ((x41_4 + (v34 + v49))) ((x41_5 + 1)) ((rk_o (rk_o (rk_o (rk_o (l41_0) rfl rfl) rfl rfl) rfl rfl) rfl rfl).trans (congrArg (fun q : Nat => some (Value.ref q)) (((((show D45 0 = D41 0 from (eD45 0))).trans ((show D41 0 = D36 0 from (eD41 0)))).trans ((show D36 0 = D_41 0 from (eD36 0).trans (hD36 0 rfl))))).symm)) ((rk_o (rk_o (rk_o (rk_o (l41_1) rfl rfl) rfl rfl) rfl rfl) rfl rfl).trans (congrArg (fun q : Nat => some (Value.ref q)) (((((show D45 1 = D41 1 from (eD45 1).trans (hD45 0 rfl))).trans ((show D41 1 = D36 1 from (eD41 1).trans (hD41 0 rfl)))).trans ((show D36 1 = D_41 1 from (eD36 1).trans (hD36 1 rfl))))).symm)) (rk_o (rk_s) rfl rfl) (rk_s) H O (SD_trans (SD_trans (SD_trans (hD_41) (SD_glu (ι := [0, 1, 2, 3, 4, 5]) hD36 eD36 (by decide +kernel)) (any_subA (l' := [2]) rfl)) (SD_glu (ι := [1, 2]) hD41 eD41 (by decide +kernel)) (any_subA (l' := [2]) rfl)) (SD_glu (ι := [1, 2]) hD45 eD45 (by decide +kernel)) (any_subA (l' := [2]) rfl)) (SD_trans (SD_trans (SD_trans (hN_41) (SD_glu (ι := [0, 1, 2, 3, 4, 5]) hN36 eN36 (by decide +kernel)) (any_subA (l' := [2]) rfl)) (SD_glu (ι := [1, 2]) hN41 eN41 (by decide +kernel)) (any_subA (l' := [2]) rfl)) (SD_glu (ι := [1, 2]) hN45 eN45 (by decide +kernel)) (any_subA (l' := [2]) rfl)) (SF_trans (SF_trans (SF_trans (hS_41) (SF_glu (ι := [0, 1, 2, 3, 4, 5]) hS36 eF36 (by decide +kernel)) (any_sub (l' := [(1, 0), (1, 1), (1, 2)]) rfl)) (SF_glu (ι := [1, 2]) hS41 eF41 (by decide +kernel)) (any_sub (l' := [(1, 0), (1, 1), (1, 2)]) rfl)) (SF_glu (ι := [1, 2]) hS45 eF45 (by decide +kernel)) (any_sub (l' := [(1, 0), (1, 1), (1, 2)]) rfl)) (SA_trans (SA_trans (SA_trans (hA_41) (SA_glu (ι := [0, 1, 2, 3, 4, 5]) hA36 eA36 (by decide +kernel)) (any_subA (l' := [2]) rfl)) (SA_glu (ι := [1, 2]) hA41 eA41 (by decide +kernel)) (any_subA (l' := [2]) rfl)) (SA_glu (ι := [1, 2]) hA45 eA45 (by decide +kernel)) (any_subA (l' := [2]) rfl)) (pf45_1_0) (m45_1) ((congrArg (fun q : Nat => (q : Int)) (eN45 2)).trans em45_1) (y45_0_1) (((eF45 1 1).trans ey45_0_1)) (y45_0_2) (((eF45 1 2).trans ey45_0_2)) (w45_1) ((eA45 2).trans ew45_1) (show inr ((x41_4 + (v34 + v49))) by omega) (show inr ((x41_5 + 1)) by omega) (show (0) ≤ ((x41_5 + 1)) by omega) (show ((x41_5 + 1)) ≤ (0) ∨ ((x41_5 + 1)) ≤ ((y20_0_4)) by omega) (show 0 ≤ (y45_0_1) ∧ (y45_0_1) ≤ (m45_1) ∧ (m45_1) ≤ 65536 by omega) (show ((x41_4 + (v34 + v49))) = (a2) + su (fun j => ((w20_4)) j + ((w20_5)) j) (((x41_5 + 1)) : Int).toNat by omega) (show RTO ((u1_2)) ((w2)) ((u1_1)) ((y45_0_2)) ((w45_1)) ((y45_0_1)) (tokE ((w5)) ((a2)) (sq ((w20_4)) ((w20_5)) ((w20_6)) ((y20_0_4))) ((y20_0_5))) (tokE ((w5)) (((x41_4 + (v34 + v49)))) (sqd ((w20_4)) ((w20_5)) ((w20_6)) (((x41_5 + 1))) ((y20_0_4))) ((y20_0_5))) by assumption) rfl
abbrev V220_Row_thisfinderdataa : vV := [(0, 11, [(4, 0), (4, 0), (4, 0), (4, 0), (4, 0), (0, 0), (4, 0), (0, 0), (0, 0), (0, 0), (0, 0), (0, 0), (0, 0)]), (0, 7, [(4, 0), (0, 0), (1, 0), (0, 0), (0, 0)]), (1, 0, []), (0, 5, [(4, 0), (4, 0), (4, 0), (4, 0), (0, 0), (0, 0), (0, 0), (4, 0), (4, 0), (0, 0), (0, 0), (0, 0), (0, 0), (0, 0), (0, 0), (0, 0), (0, 0), (0, 0), (0, 0)]), (0, 7, [(4, 0), (0, 0), (1, 0), (0, 0), (0, 0)]), (1, 0, [])]
/-- Tokens.addBlock: this, #1, #1.bytes, this.finder, this.finder.data, this.finder.data.bytes -/
theorem C220_Row_thisfinderdataa {σE : rS} {D N : Nat → Nat} {F : hF} {A : hA} {d c s : Nat} {Q : wQ} (H : HW V220_Row_thisfinderdataa σE D N F A) {a3 a4 : Int} (pf2 : F 1 0 = (D 2 : Int)) (pf3 : F 0 2 = (D 3 : Int)) (pf4 : F 3 0 = (D 4 : Int)) (pf5 : F 4 0 = (D 5 : Int)) (n2 : Int) (en2 : (N 2 : Int) = n2) (n5 : Int) (en5 : (N 5 : Int) = n5) (u0_8 : Int) (eu0_8 : F 0 8 = u0_8) (u1_1 : Int) (eu1_1 : F 1 1 = u1_1) (u1_2 : Int) (eu1_2 : F 1 2 = u1_2) (u4_1 : Int) (eu4_1 : F 4 1 = u4_1) (w2 : Int → Int) (ew2 : A 2 = w2) (w5 : Int → Int) (ew5 : A 5 = w5) (h0 : inr (a3)) (h1 : inr (a4)) (h2 : (a4) = 0 ∨ (a4) = 1) (h3 : 0 ≤ (u1_1) ∧ (u1_1) ≤ (n2) ∧ (n2) ≤ 65536) (h4 : 0 ≤ (u4_1) ∧ (u4_1) ≤ (n5) ∧ (n5) ≤ 65536) (h5 : 0 ≤ (a3) ∧ (a3) ≤ (u4_1)) (k : ∀ (σ : rS) (D' N' : Nat → Nat) (F' : hF) (A' : hA) (c' s' : Nat), HW V220_Row_thisfinderdataa σ D' N' F' A' → OUT (V220_Row_thisfinderdataa).length D N σE c s D' N' σ c' s' → SD [2] D D' → SD [2] N N' → SF [(1, 0), (1, 1), (1, 2)] F F' → SA [2] A A' → F' 1 0 = (D' 2 : Int) → ∀ m2 : Int, (N' 2 : Int) = m2 → ∀ y1_1 : Int, F' 1 1 = y1_1 → ∀ y1_2 : Int, F' 1 2 = y1_2 → ∀ v2 : Int → Int, A' 2 = v2 → (0 ≤ (y1_1) ∧ (y1_1) ≤ (m2) ∧ (m2) ≤ 65536) → (RAP ((u1_2)) ((w2)) ((u1_1)) ((y1_2)) ((v2)) ((y1_1)) (TFB ((u0_8)) ((a4)) (sc ((w5)) ((a3)) ((u4_1))))) → Q none σ c' s') : Ew 220 (d + 3) 0 (rargs 0 [.ref (D 0), .ref (D 1), .ref (D 4), I a3, I a4]) [] σE c s Q := by
  have O := OUT_refl (n := (V220_Row_thisfinderdataa).length) (D := D) (N := N) (σ := σE) (c := c) (s := s)
  have HE := H
  have r1 : (-2147483648 : Int) ≤ u0_8 ∧ u0_8 ≤ 2147483647 := by have h1 : (-2147483648 : Int) ≤ F 0 8 ∧ F 0 8 ≤ 2147483647 := H.krg 0 8 (by decide); rw [show F 0 8 = u0_8 from (eu0_8)] at h1; exact h1
  have r2 : (-2147483648 : Int) ≤ u1_1 ∧ u1_1 ≤ 2147483647 := by have h1 : (-2147483648 : Int) ≤ F 1 1 ∧ F 1 1 ≤ 2147483647 := H.krg 1 1 (by decide); rw [show F 1 1 = u1_1 from (eu1_1)] at h1; exact h1
  have r3 : (0 : Int) ≤ u1_2 ∧ u1_2 ≤ 1 := by have h1 : (0 : Int) ≤ F 1 2 ∧ F 1 2 ≤ 1 := H.krg 1 2 (by decide); rw [show F 1 2 = u1_2 from (eu1_2)] at h1; exact h1
  have r4 : (-2147483648 : Int) ≤ u4_1 ∧ u4_1 ≤ 2147483647 := by have h1 : (-2147483648 : Int) ≤ F 4 1 ∧ F 4 1 ≤ 2147483647 := H.krg 4 1 (by decide); rw [show F 4 1 = u4_1 from (eu4_1)] at h1; exact h1
  replace pf2 := HIDm pf2
  replace pf3 := HIDm pf3
  replace pf4 := HIDm pf4
  replace pf5 := HIDm pf5
  replace en2 := HIDm en2
  replace en5 := HIDm en5
  replace eu0_8 := HIDm eu0_8
  replace eu1_1 := HIDm eu1_1
  replace eu1_2 := HIDm eu1_2
  replace eu4_1 := HIDm eu4_1
  have r5 : (0 : Int) ≤ n2 ∧ n2 ≤ 1000000 := by have h1 := H.nle 2 (by decide); have h2 : (N 2 : Int) = n2 := en2; omega
  have r6 : (0 : Int) ≤ n5 ∧ n5 ≤ 1000000 := by have h1 := H.nle 5 (by decide); have h2 : (N 5 : Int) = n5 := en5; omega
  refine Ew_of (pc' := 1) (fun _ => x_aload_n rfl rfl) ?_
  refine v_g H (o := 4) (v := I (u4_1)) rfl rfl rfl rfl rfl (congrArg (fun z : Int => I z) ((eu4_1) : F 4 1 = u4_1)) ?_
  refine Ew_of (pc' := 5) (fun _ => x_iload_n rfl rfl) ?_
  refine w_isub rfl ?_
  refine Ew_of (pc' := 8) (fun _ => x_istore rfl) ?_
  refine Ew_of (pc' := 9) (fun _ => x_aload_n rfl (rk_o (rfl) rfl rfl)) ?_
  have hc26 : ∀ (tc26_0 : Int), ∀ (ls : rO) (σ : rS) (F_c26 : hF) (A_c26 : hA) , rlook ls 0 = some (.ref (D 0)) → rlook ls 1 = some (.ref (D 1)) → rlook ls 2 = some (.ref (D 4)) → rlook ls 3 = some (I (a3)) → rlook ls 5 = some (I ((u4_1 - a3))) → HW V220_Row_thisfinderdataa σ D N F_c26 A_c26 → OUT (V220_Row_thisfinderdataa).length D N σE c s D N σ c s → SF [] F F_c26 → SA [] A A_c26 → (inrJ (tc26_0)) → (nb ((tc26_0)) 4 = nb (if (a4) = 0 then ((sc ((w5)) ((a3)) ((u4_1))).length : Int) else 2147483648 + ((sc ((w5)) ((a3)) ((u4_1))).length : Int)) 4) → Ew 220 (d + 3) 26 ls [J (tc26_0), .ref (D 1)] σ c s Q := by
   as_aux_lemma =>
    intro tc26_0 ls σ F_c26 A_c26  lc26_0 lc26_1 lc26_2 lc26_3 lc26_5 H O hS_c26 hA_c26     jc26_0 jc26_1
    have hn4 : nb ((tc26_0)) 4 = nb (if (a4) = 0 then ((sc ((w5)) ((a3)) ((u4_1))).length : Int) else 2147483648 + ((sc ((w5)) ((a3)) ((u4_1))).length : Int)) 4 := by assumption
    refine Ew_of (pc' := 27) (fun _ => x_iconst rfl) ?_
    refine v_inv H (o := 1) rfl rfl rfl rfl rfl rfl (by rfl) (C160 (D := pul [1, 2] D) (N := pul [1, 2] N) (HW_sub H (VS_of (show vsub V220_Row_thisfinderdataa V160 [1, 2] = true by decide +kernel))) (((hS_c26 1 0 rfl)).trans (pf2)) (n2) (en2) (u1_1) (((hS_c26 1 1 rfl).trans (eu1_1))) (u1_2) (((hS_c26 1 2 rfl).trans (eu1_2))) (w2) ((funext (hA_c26 2 rfl)).trans (ew2)) (show inrJ (tc26_0) by omega) (show inr (4) by omega) (show 0 ≤ (u1_1) ∧ (u1_1) ≤ (n2) ∧ (n2) ≤ 65536 by omega) (show 0 ≤ (4) ∧ (4) ≤ 8 by omega) (fun σ7 D7' N7' F7' A7' c7 s7 H' O' hD7 hN7 hS7 hA7 pm7_1 m7_1 em7_1 y7_0_1 ey7_0_1 y7_0_2 ey7_0_2 w7_1 ew7_1 pz7_0 pz7_1 pz7_2 => ⟨rfl, ?_⟩))
    replace pm7_1 := HIDm pm7_1
    replace em7_1 := HIDm em7_1
    replace ey7_0_1 := HIDm ey7_0_1
    replace ey7_0_2 := HIDm ey7_0_2
    refine v_backM (c := c) (s := s) H (show vsub V220_Row_thisfinderdataa V160 [1, 2] = true by decide +kernel) H' O' hD7 (show vmov V220_Row_thisfinderdataa [1, 2] [1] = true by decide +kernel) (fun D7 N7 F7 A7 H O' eD7 eN7 eF7 eA7 => ?_)
    have O := OUT_trans O O'
    -- Row.addNumber
    have pf7_0_2 : HID (F7 0 2 = (D7 3 : Int)) := ((show F7 0 2 = F_c26 0 2 from (eF7 0 2))).trans ((((hS_c26 0 2 rfl)).trans (pf3)).trans (congrArg (fun q : Nat => (q : Int)) ((show D7 3 = D 3 from (eD7 3))).symm))
    have pf7_1_0 : HID (F7 1 0 = (D7 2 : Int)) := (eF7 1 0).trans (pm7_1.trans (congrArg (fun q : Nat => (q : Int)) (eD7 2).symm))
    have pf7_3_0 : HID (F7 3 0 = (D7 4 : Int)) := ((show F7 3 0 = F_c26 3 0 from (eF7 3 0))).trans ((((hS_c26 3 0 rfl)).trans (pf4)).trans (congrArg (fun q : Nat => (q : Int)) ((show D7 4 = D 4 from (eD7 4))).symm))
    have pf7_4_0 : HID (F7 4 0 = (D7 5 : Int)) := ((show F7 4 0 = F_c26 4 0 from (eF7 4 0))).trans ((((hS_c26 4 0 rfl)).trans (pf5)).trans (congrArg (fun q : Nat => (q : Int)) ((show D7 5 = D 5 from (eD7 5))).symm))
    have r8 : (0 : Int) ≤ m7_1 ∧ m7_1 ≤ 1000000 := by have h1 := H.nle 2 (by decide); have h2 : (N7 2 : Int) = m7_1 := (congrArg (fun q : Nat => (q : Int)) (eN7 2)).trans em7_1; omega
    have r9 : (-2147483648 : Int) ≤ y7_0_1 ∧ y7_0_1 ≤ 2147483647 := by have h1 : (-2147483648 : Int) ≤ F7 1 1 ∧ F7 1 1 ≤ 2147483647 := H.krg 1 1 (by decide); rw [show F7 1 1 = y7_0_1 from ((eF7 1 1).trans ey7_0_1)] at h1; exact h1
    have r10 : (0 : Int) ≤ y7_0_2 ∧ y7_0_2 ≤ 1 := by have h1 : (0 : Int) ≤ F7 1 2 ∧ F7 1 2 ≤ 1 := H.krg 1 2 (by decide); rw [show F7 1 2 = y7_0_2 from ((eF7 1 2).trans ey7_0_2)] at h1; exact h1
    have h1_ := pz7_2
    rw [hn4] at h1_
    refine Ew_of (pc' := 31) (fun _ => x_aload_n rfl lc26_1) ?_
    refine Ew_of (pc' := 32) (fun _ => x_aload_n rfl lc26_2) ?_
    refine Ew_stk (show ([.ref (D 4), .ref (D 1)] : List Value) = [.ref (D7 4), .ref (D7 1)] by rw [show D7 1 = D 1 from ((show D7 1 = D 1 from (eD7 1).trans (hD7 0 rfl))), show D7 4 = D 4 from ((show D7 4 = D 4 from (eD7 4)))]) ?_
    refine v_g H (o := 4) (v := .ref (D7 5)) rfl rfl rfl rfl rfl (vrf (pf7_4_0)) ?_
    refine Ew_of (pc' := 36) (fun _ => x_iload_n rfl lc26_3) ?_
    refine Ew_of (pc' := 38) (fun _ => x_iload rfl lc26_5) ?_
    refine v_inv H (o := 1) rfl rfl rfl rfl rfl rfl (by rfl) (C161_Br (D := pul [1, 5, 2] D7) (N := pul [1, 5, 2] N7) (HW_sub H (VS_of (show vsub V220_Row_thisfinderdataa V161_Br [1, 5, 2] = true by decide +kernel))) (pf7_1_0) (n5) ((congrArg (fun q : Nat => (q : Int)) (show N7 5 = N 5 from (eN7 5))).trans (en5)) (m7_1) ((congrArg (fun q : Nat => (q : Int)) (eN7 2)).trans em7_1) (y7_0_1) (((eF7 1 1).trans ey7_0_1)) (y7_0_2) (((eF7 1 2).trans ey7_0_2)) (w5) (((show A7 5 = A_c26 5 from (eA7 5))).trans ((funext (hA_c26 5 rfl)).trans (ew5))) (w7_1) ((eA7 2).trans ew7_1) (show inr (a3) by omega) (show inr ((u4_1 - a3)) by omega) (show 0 ≤ (y7_0_1) ∧ (y7_0_1) ≤ (m7_1) ∧ (m7_1) ≤ 65536 by omega) (show ((u4_1 - a3)) < 0 ∨ 0 ≤ (a3) ∧ (a3) + ((u4_1 - a3)) ≤ (n5) by omega) (fun σ11 D11' N11' F11' A11' c11 s11 H' O' hD11 hN11 hS11 hA11 pm11_2 m11_2 em11_2 y11_0_1 ey11_0_1 y11_0_2 ey11_0_2 w11_2 ew11_2 pz11_0 pz11_1 pz11_2 pz11_3 => ⟨rfl, ?_⟩))
    replace pm11_2 := HIDm pm11_2
    replace em11_2 := HIDm em11_2
    replace ey11_0_1 := HIDm ey11_0_1
    replace ey11_0_2 := HIDm ey11_0_2
    refine v_backM (c := (c + c7)) (s := (s + s7)) H (show vsub V220_Row_thisfinderdataa V161_Br [1, 5, 2] = true by decide +kernel) H' O' hD11 (show vmov V220_Row_thisfinderdataa [1, 5, 2] [2] = true by decide +kernel) (fun D11 N11 F11 A11 H O' eD11 eN11 eF11 eA11 => ?_)
    have O := OUT_trans O O'
    -- Row.addPart
    have pf11_0_2 : HID (F11 0 2 = (D11 3 : Int)) := ((show F11 0 2 = F7 0 2 from (eF11 0 2))).trans ((pf7_0_2).trans (congrArg (fun q : Nat => (q : Int)) ((show D11 3 = D7 3 from (eD11 3))).symm))
    have pf11_1_0 : HID (F11 1 0 = (D11 2 : Int)) := (eF11 1 0).trans (pm11_2.trans (congrArg (fun q : Nat => (q : Int)) (eD11 2).symm))
    have pf11_3_0 : HID (F11 3 0 = (D11 4 : Int)) := ((show F11 3 0 = F7 3 0 from (eF11 3 0))).trans ((pf7_3_0).trans (congrArg (fun q : Nat => (q : Int)) ((show D11 4 = D7 4 from (eD11 4))).symm))
    have pf11_4_0 : HID (F11 4 0 = (D11 5 : Int)) := ((show F11 4 0 = F7 4 0 from (eF11 4 0))).trans ((pf7_4_0).trans (congrArg (fun q : Nat => (q : Int)) ((show D11 5 = D7 5 from (eD11 5).trans (hD11 1 rfl))).symm))
    have r12 : (0 : Int) ≤ m11_2 ∧ m11_2 ≤ 1000000 := by have h1 := H.nle 2 (by decide); have h2 : (N11 2 : Int) = m11_2 := (congrArg (fun q : Nat => (q : Int)) (eN11 2)).trans em11_2; omega
    have r13 : (-2147483648 : Int) ≤ y11_0_1 ∧ y11_0_1 ≤ 2147483647 := by have h1 : (-2147483648 : Int) ≤ F11 1 1 ∧ F11 1 1 ≤ 2147483647 := H.krg 1 1 (by decide); rw [show F11 1 1 = y11_0_1 from ((eF11 1 1).trans ey11_0_1)] at h1; exact h1
    have r14 : (0 : Int) ≤ y11_0_2 ∧ y11_0_2 ≤ 1 := by have h1 : (0 : Int) ≤ F11 1 2 ∧ F11 1 2 ≤ 1 := H.krg 1 2 (by decide); rw [show F11 1 2 = y11_0_2 from ((eF11 1 2).trans ey11_0_2)] at h1; exact h1
    have hc70 : ∀ (ls : rO) (σ : rS) (D_c70 N_c70 : Nat → Nat) (c_c70 s_c70 : Nat) (F_c70 : hF) (A_c70 : hA) , HW V220_Row_thisfinderdataa σ D_c70 N_c70 F_c70 A_c70 → OUT (V220_Row_thisfinderdataa).length D N σE c s D_c70 N_c70 σ c_c70 s_c70 → SD [2] D11 D_c70 → SD [2] N11 N_c70 → SF [(1, 0), (1, 1), (1, 2)] F11 F_c70 → SA [2] A11 A_c70 → F_c70 1 0 = (D_c70 2 : Int) → ∀ mc70_2 : Int, (N_c70 2 : Int) = mc70_2 → ∀ yc70_1_1 : Int, F_c70 1 1 = yc70_1_1 → ∀ yc70_1_2 : Int, F_c70 1 2 = yc70_1_2 → ∀ wc70_2 : Int → Int, A_c70 2 = wc70_2 → (0 ≤ (yc70_1_1) ∧ (yc70_1_1) ≤ (mc70_2) ∧ (mc70_2) ≤ 65536) → (RAP ((u1_2)) ((w2)) ((u1_1)) ((yc70_1_2)) ((wc70_2)) ((yc70_1_1)) (TFB ((u0_8)) ((a4)) (sc ((w5)) ((a3)) ((u4_1))))) → Ew 220 (d + 3) 70 ls [] σ c_c70 s_c70 Q := by
     as_aux_lemma =>
      intro  ls σ D_c70 N_c70 c_c70 s_c70 F_c70 A_c70   H O hD_c70 hN_c70 hS_c70 hA_c70 pmc70_2 mc70_2 emc70_2 yc70_1_1 eyc70_1_1 yc70_1_2 eyc70_1_2 wc70_2 ewc70_2 jc70_0 jc70_1
      replace pmc70_2 := HIDm pmc70_2
      replace emc70_2 := HIDm emc70_2
      replace eyc70_1_1 := HIDm eyc70_1_1
      replace eyc70_1_2 := HIDm eyc70_1_2
      have pf_c70_0_2 : HID (F_c70 0 2 = (D_c70 3 : Int)) := (hS_c70 0 2 rfl).trans ((pf11_0_2).trans (congrArg (fun q : Nat => (q : Int)) (hD_c70 3 rfl).symm))
      have pf_c70_3_0 : HID (F_c70 3 0 = (D_c70 4 : Int)) := (hS_c70 3 0 rfl).trans ((pf11_3_0).trans (congrArg (fun q : Nat => (q : Int)) (hD_c70 4 rfl).symm))
      have pf_c70_4_0 : HID (F_c70 4 0 = (D_c70 5 : Int)) := (hS_c70 4 0 rfl).trans ((pf11_4_0).trans (congrArg (fun q : Nat => (q : Int)) (hD_c70 5 rfl).symm))
      have r15 : (0 : Int) ≤ mc70_2 ∧ mc70_2 ≤ 1000000 := by have h1 := H.nle 2 (by decide); have h2 : (N_c70 2 : Int) = mc70_2 := emc70_2; omega
      have r16 : (-2147483648 : Int) ≤ yc70_1_1 ∧ yc70_1_1 ≤ 2147483647 := by have h1 : (-2147483648 : Int) ≤ F_c70 1 1 ∧ F_c70 1 1 ≤ 2147483647 := H.krg 1 1 (by decide); rw [show F_c70 1 1 = yc70_1_1 from (eyc70_1_1)] at h1; exact h1
      have r17 : (0 : Int) ≤ yc70_1_2 ∧ yc70_1_2 ≤ 1 := by have h1 : (0 : Int) ≤ F_c70 1 2 ∧ F_c70 1 2 ≤ 1 := H.krg 1 2 (by decide); rw [show F_c70 1 2 = yc70_1_2 from (eyc70_1_2)] at h1; exact h1
      exact w_ret rfl (k _ _ _ _ _ _ _ H O (SD_trans (SD_trans (SD_trans (SD_refl) (SD_glu (ι := [1, 2]) hD7 eD7 (by decide +kernel)) (any_subA (l' := [2]) rfl)) (SD_glu (ι := [1, 5, 2]) hD11 eD11 (by decide +kernel)) (any_subA (l' := [2]) rfl)) hD_c70 (any_subA rfl)) (SD_trans (SD_trans (SD_trans (SD_refl) (SD_glu (ι := [1, 2]) hN7 eN7 (by decide +kernel)) (any_subA (l' := [2]) rfl)) (SD_glu (ι := [1, 5, 2]) hN11 eN11 (by decide +kernel)) (any_subA (l' := [2]) rfl)) hN_c70 (any_subA rfl)) (SF_trans (SF_trans (SF_trans (SF_trans (SF_refl) hS_c26 (any_sub rfl)) (SF_glu (ι := [1, 2]) hS7 eF7 (by decide +kernel)) (any_sub (l' := [(1, 0), (1, 1), (1, 2)]) rfl)) (SF_glu (ι := [1, 5, 2]) hS11 eF11 (by decide +kernel)) (any_sub (l' := [(1, 0), (1, 1), (1, 2)]) rfl)) hS_c70 (any_sub rfl)) (SA_trans (SA_trans (SA_trans (SA_trans (SA_refl) hA_c26 (any_subA rfl)) (SA_glu (ι := [1, 2]) hA7 eA7 (by decide +kernel)) (any_subA (l' := [2]) rfl)) (SA_glu (ι := [1, 5, 2]) hA11 eA11 (by decide +kernel)) (any_subA (l' := [2]) rfl)) hA_c70 (any_subA rfl)) (pmc70_2) (mc70_2) (emc70_2) (yc70_1_1) ((eyc70_1_1)) (yc70_1_2) ((eyc70_1_2)) (wc70_2) (ewc70_2) (show 0 ≤ (yc70_1_1) ∧ (yc70_1_1) ≤ (mc70_2) ∧ (mc70_2) ≤ 65536 by omega) (show RAP ((u1_2)) ((w2)) ((u1_1)) ((yc70_1_2)) ((wc70_2)) ((yc70_1_1)) (TFB ((u0_8)) (a4) (sc ((w5)) (a3) ((u4_1)))) by assumption))
    have h2_ := pz11_3 (by omega)
    rw [show (a3) + ((u4_1 - a3)) = (u4_1) by omega] at h2_
    have h3_ := RAP_trans h1_ h2_
    refine Ew_of (pc' := 42) (fun _ => x_aload_n rfl lc26_0) ?_
    refine Ew_stk (show ([.ref (D 0)] : List Value) = [.ref (D11 0)] by rw [show D11 0 = D 0 from (((show D11 0 = D7 0 from (eD11 0))).trans ((show D7 0 = D 0 from (eD7 0))))]) ?_
    refine v_g H (o := 0) (v := I (u0_8)) rfl rfl rfl rfl rfl (congrArg (fun z : Int => I z) ((((((show F11 0 8 = F7 0 8 from (eF11 0 8))).trans ((show F7 0 8 = F_c26 0 8 from (eF7 0 8)))).trans (hS_c26 0 8 rfl)).trans (eu0_8)) : F11 0 8 = u0_8)) ?_
    refine Ew_of (pc' := 47) (fun _ => x_bipush (z := 16) rfl (by decide)) ?_
    refine w_iandE rfl (show inr (u0_8) by omega) (show inr (16) by omega) (fun z18 gz18 gaz18 gbz18 gez18 => ?_)
    refine w_ifeq (t := 70) rfl rfl (show inr (z18) by omega) (fun b19 => ?_) (fun b19 => ?_)
    · have : RAP ((u1_2)) ((w2)) ((u1_1)) ((y11_0_2)) ((w11_2)) ((y11_0_1)) (TFB ((u0_8)) ((a4)) (sc ((w5)) ((a3)) ((u4_1)))) := by first | exact RAP_c (RAP_o0 (c := andI ((u0_8)) 16) (L := nb (NSL (sc ((w5)) ((a3)) ((u4_1))) 0) 4) h3_ (by omega)) (by unfold TFB; simp only [List.append_assoc]) | exact RAP_c (RAP_o1 (c := andI ((u0_8)) 16) (L := nb (NSL (sc ((w5)) ((a3)) ((u4_1))) 0) 4) h3_ (by have h := pNONE_2; rw [nb_sumI hns (by omega) (by omega) rfl] at h; exact h) (by omega)) (by unfold TFB; simp only [List.append_assoc])
      exact hc70  _ _ _ _ _ _ _ _   H O (SD_refl) (SD_refl) (SF_refl) (SA_refl) (pf11_1_0) (m11_2) ((congrArg (fun q : Nat => (q : Int)) (eN11 2)).trans em11_2) (y11_0_1) (((eF11 1 1).trans ey11_0_1)) (y11_0_2) (((eF11 1 2).trans ey11_0_2)) (w11_2) ((eA11 2).trans ew11_2) (show 0 ≤ (y11_0_1) ∧ (y11_0_1) ≤ (m11_2) ∧ (m11_2) ≤ 65536 by omega) (show RAP ((u1_2)) ((w2)) ((u1_1)) ((y11_0_2)) ((w11_2)) ((y11_0_1)) (TFB ((u0_8)) ((a4)) (sc ((w5)) ((a3)) ((u4_1)))) by assumption)
    · refine Ew_of (pc' := 52) (fun _ => x_aload_n rfl lc26_1) ?_
      refine Ew_of (pc' := 53) (fun _ => x_aload_n rfl lc26_2) ?_
      refine Ew_stk (show ([.ref (D 4), .ref (D 1)] : List Value) = [.ref (D11 4), .ref (D11 1)] by rw [show D11 1 = D 1 from (((show D11 1 = D7 1 from (eD11 1).trans (hD11 0 rfl))).trans ((show D7 1 = D 1 from (eD7 1).trans (hD7 0 rfl)))), show D11 4 = D 4 from (((show D11 4 = D7 4 from (eD11 4))).trans ((show D7 4 = D 4 from (eD7 4))))]) ?_
      refine v_g H (o := 4) (v := .ref (D11 5)) rfl rfl rfl rfl rfl (vrf (pf11_4_0)) ?_
      refine Ew_of (pc' := 57) (fun _ => x_iload_n rfl lc26_3) ?_
      refine Ew_of (pc' := 58) (fun _ => x_aload_n rfl lc26_2) ?_
      refine Ew_stk (show ([.ref (D 4), I (a3), .ref (D11 5), .ref (D11 1)] : List Value) = [.ref (D11 4), I (a3), .ref (D11 5), .ref (D11 1)] by rw [show D11 4 = D 4 from (((show D11 4 = D7 4 from (eD11 4))).trans ((show D7 4 = D 4 from (eD7 4))))]) ?_
      refine v_g H (o := 4) (v := I (u4_1)) rfl rfl rfl rfl rfl (congrArg (fun z : Int => I z) ((((((show F11 4 1 = F7 4 1 from (eF11 4 1))).trans ((show F7 4 1 = F_c26 4 1 from (eF7 4 1)))).trans (hS_c26 4 1 rfl)).trans (eu4_1)) : F11 4 1 = u4_1)) ?_
      refine Ew_of (pc' := 62) (fun _ => x_iconst rfl) ?_
      refine w_stat25 rfl rfl (by rfl) (C49_Br (D := pul [5] D11) (N := pul [5] N11) (HW_sub H (VS_of (show vsub V220_Row_thisfinderdataa V49_Br [5] = true by decide +kernel))) (n5) ((congrArg (fun q : Nat => (q : Int)) (show N11 5 = N7 5 from (eN11 5).trans (hN11 1 rfl))).trans ((congrArg (fun q : Nat => (q : Int)) (show N7 5 = N 5 from (eN7 5))).trans (en5))) (w5) (((show A11 5 = A7 5 from (eA11 5).trans (funext (hA11 1 rfl)))).trans (((show A7 5 = A_c26 5 from (eA7 5))).trans ((funext (hA_c26 5 rfl)).trans (ew5)))) (show inr (a3) by omega) (show inr (u4_1) by omega) (show inr (0) by omega) (show 0 ≤ (a3) ∧ (a3) ≤ (u4_1) ∧ (u4_1) ≤ (n5) by omega) (fun z20 σ20 F20' A20' H' O' hS20 hA20 pz20_0 pz20_1 => ⟨rfl, ?_⟩))
      refine v_back (c := ((c + c7) + c11)) (s := ((s + s7) + s11)) H (show vsub V220_Row_thisfinderdataa V49_Br [5] = true by decide +kernel) H' O' (fun F20 A20 H O' eF20 eA20 => ?_)
      have O := OUT_trans O O'
      -- PackHouse.narrowSum
      have hns := pz20_1
      refine w_i2l rfl (show inr (z20) by omega) ?_
      refine Ew_of (pc' := 67) (fun _ => x_iconst rfl) ?_
      refine v_inv H (o := 1) rfl rfl rfl rfl rfl rfl (by rfl) (C160 (D := pul [1, 2] D11) (N := pul [1, 2] N11) (HW_sub H (VS_of (show vsub V220_Row_thisfinderdataa V160 [1, 2] = true by decide +kernel))) ((((show F20 1 0 = F11 1 0 from (eF20 1 0)))).trans (pf11_1_0)) (m11_2) ((congrArg (fun q : Nat => (q : Int)) (eN11 2)).trans em11_2) (y11_0_1) ((((show F20 1 1 = F11 1 1 from (eF20 1 1))).trans ((eF11 1 1).trans ey11_0_1))) (y11_0_2) ((((show F20 1 2 = F11 1 2 from (eF20 1 2))).trans ((eF11 1 2).trans ey11_0_2))) (w11_2) (((show A20 2 = A11 2 from (eA20 2))).trans ((eA11 2).trans ew11_2)) (show inrJ (z20) by omega) (show inr (4) by omega) (show 0 ≤ (y11_0_1) ∧ (y11_0_1) ≤ (m11_2) ∧ (m11_2) ≤ 65536 by omega) (show 0 ≤ (4) ∧ (4) ≤ 8 by omega) (fun σ21 D21' N21' F21' A21' c21 s21 H' O' hD21 hN21 hS21 hA21 pm21_1 m21_1 em21_1 y21_0_1 ey21_0_1 y21_0_2 ey21_0_2 w21_1 ew21_1 pz21_0 pz21_1 pz21_2 => ⟨rfl, ?_⟩))
      replace pm21_1 := HIDm pm21_1
      replace em21_1 := HIDm em21_1
      replace ey21_0_1 := HIDm ey21_0_1
      replace ey21_0_2 := HIDm ey21_0_2
      refine v_backM (c := ((c + c7) + c11)) (s := ((s + s7) + s11)) H (show vsub V220_Row_thisfinderdataa V160 [1, 2] = true by decide +kernel) H' O' hD21 (show vmov V220_Row_thisfinderdataa [1, 2] [1] = true by decide +kernel) (fun D21 N21 F21 A21 H O' eD21 eN21 eF21 eA21 => ?_)
      have O := OUT_trans O O'
      -- Row.addNumber
      have pf21_0_2 : HID (F21 0 2 = (D21 3 : Int)) := ((show F21 0 2 = F20 0 2 from (eF21 0 2))).trans (((((show F20 0 2 = F11 0 2 from (eF20 0 2)))).trans (pf11_0_2)).trans (congrArg (fun q : Nat => (q : Int)) ((show D21 3 = D11 3 from (eD21 3))).symm))
      have pf21_1_0 : HID (F21 1 0 = (D21 2 : Int)) := (eF21 1 0).trans (pm21_1.trans (congrArg (fun q : Nat => (q : Int)) (eD21 2).symm))
      have pf21_3_0 : HID (F21 3 0 = (D21 4 : Int)) := ((show F21 3 0 = F20 3 0 from (eF21 3 0))).trans (((((show F20 3 0 = F11 3 0 from (eF20 3 0)))).trans (pf11_3_0)).trans (congrArg (fun q : Nat => (q : Int)) ((show D21 4 = D11 4 from (eD21 4))).symm))
      have pf21_4_0 : HID (F21 4 0 = (D21 5 : Int)) := ((show F21 4 0 = F20 4 0 from (eF21 4 0))).trans (((((show F20 4 0 = F11 4 0 from (eF20 4 0)))).trans (pf11_4_0)).trans (congrArg (fun q : Nat => (q : Int)) ((show D21 5 = D11 5 from (eD21 5))).symm))
      have r22 : (0 : Int) ≤ m21_1 ∧ m21_1 ≤ 1000000 := by have h1 := H.nle 2 (by decide); have h2 : (N21 2 : Int) = m21_1 := (congrArg (fun q : Nat => (q : Int)) (eN21 2)).trans em21_1; omega
      have r23 : (-2147483648 : Int) ≤ y21_0_1 ∧ y21_0_1 ≤ 2147483647 := by have h1 : (-2147483648 : Int) ≤ F21 1 1 ∧ F21 1 1 ≤ 2147483647 := H.krg 1 1 (by decide); rw [show F21 1 1 = y21_0_1 from ((eF21 1 1).trans ey21_0_1)] at h1; exact h1
      have r24 : (0 : Int) ≤ y21_0_2 ∧ y21_0_2 ≤ 1 := by have h1 : (0 : Int) ≤ F21 1 2 ∧ F21 1 2 ≤ 1 := H.krg 1 2 (by decide); rw [show F21 1 2 = y21_0_2 from ((eF21 1 2).trans ey21_0_2)] at h1; exact h1
      have : RAP ((u1_2)) ((w2)) ((u1_1)) ((y21_0_2)) ((w21_1)) ((y21_0_1)) (TFB ((u0_8)) ((a4)) (sc ((w5)) ((a3)) ((u4_1)))) := by first | exact RAP_c (RAP_o0 (c := andI ((u0_8)) 16) (L := nb (NSL (sc ((w5)) ((a3)) ((u4_1))) 0) 4) h3_ (by omega)) (by unfold TFB; simp only [List.append_assoc]) | exact RAP_c (RAP_o1 (c := andI ((u0_8)) 16) (L := nb (NSL (sc ((w5)) ((a3)) ((u4_1))) 0) 4) h3_ (by have h := pz21_2; rw [nb_sumI hns (by omega) (by omega) rfl] at h; exact h) (by omega)) (by unfold TFB; simp only [List.append_assoc])
      exact hc70  _ _ _ _ _ _ _ _   H O (SD_trans (SD_refl) (SD_glu (ι := [1, 2]) hD21 eD21 (by decide +kernel)) (any_subA (l' := [2]) rfl)) (SD_trans (SD_refl) (SD_glu (ι := [1, 2]) hN21 eN21 (by decide +kernel)) (any_subA (l' := [2]) rfl)) (SF_trans (SF_trans (SF_refl) (SF_glu (ι := [5]) hS20 eF20 (by decide +kernel)) (any_sub (l' := []) rfl)) (SF_glu (ι := [1, 2]) hS21 eF21 (by decide +kernel)) (any_sub (l' := [(1, 0), (1, 1), (1, 2)]) rfl)) (SA_trans (SA_trans (SA_refl) (SA_glu (ι := [5]) hA20 eA20 (by decide +kernel)) (any_subA (l' := []) rfl)) (SA_glu (ι := [1, 2]) hA21 eA21 (by decide +kernel)) (any_subA (l' := [2]) rfl)) (pf21_1_0) (m21_1) ((congrArg (fun q : Nat => (q : Int)) (eN21 2)).trans em21_1) (y21_0_1) (((eF21 1 1).trans ey21_0_1)) (y21_0_2) (((eF21 1 2).trans ey21_0_2)) (w21_1) ((eA21 2).trans ew21_1) (show 0 ≤ (y21_0_1) ∧ (y21_0_1) ≤ (m21_1) ∧ (m21_1) ≤ 65536 by omega) (show RAP ((u1_2)) ((w2)) ((u1_1)) ((y21_0_2)) ((w21_1)) ((y21_0_1)) (TFB ((u0_8)) ((a4)) (sc ((w5)) ((a3)) ((u4_1)))) by assumption)
  have hbl : ((sc ((w5)) ((a3)) ((u4_1))).length : Int) = ((u4_1 - a3)) := by rw [sc_lenI (by omega)]
  refine Ew_of (pc' := 11) (fun _ => x_iload rfl (rk_o (rfl) rfl rfl)) ?_
  refine w_ifeq (t := 23) rfl rfl (show inr (a4) by omega) (fun b25 => ?_) (fun b25 => ?_)
  · refine Ew_of (pc' := 25) (fun _ => x_iload rfl rk_s) ?_
    refine w_i2l rfl (show inr ((u4_1 - a3)) by omega) ?_
    have : nb (((u4_1 - a3))) 4 = nb (if (a4) = 0 then ((sc ((w5)) ((a3)) ((u4_1))).length : Int) else 2147483648 + ((sc ((w5)) ((a3)) ((u4_1))).length : Int)) 4 := by rw [hbl]; first | (rw [if_neg (by omega)]; exact nb4_m (or31 (by omega))) | (rw [if_pos (by omega)])
    exact hc26 ((u4_1 - a3)) _ _ _ _  (rk_o (rfl) rfl rfl) (rk_o (rfl) rfl rfl) (rk_o (rfl) rfl rfl) (rk_o (rfl) rfl rfl) (rk_s) H O (SF_refl) (SA_refl)     (show inrJ ((u4_1 - a3)) by omega) (show nb (((u4_1 - a3))) 4 = nb (if (a4) = 0 then ((sc ((w5)) ((a3)) ((u4_1))).length : Int) else 2147483648 + ((sc ((w5)) ((a3)) ((u4_1))).length : Int)) 4 by assumption)
  · refine Ew_of (pc' := 16) (fun _ => x_iload rfl rk_s) ?_
    refine Ew_of (pc' := 18) (fun _ => x_ldc (z := -2147483648) rfl (by decide)) ?_
    refine w_iorE rfl ?_
    have g26 : inr (orI ((u4_1 - a3)) ((-2147483648))) := toI_inr _
    refine w_i2l rfl (show inr ((orI ((u4_1 - a3)) ((-2147483648)))) by omega) ?_
    refine Ew_of (pc' := 26) (fun _ => x_goto rfl rfl) ?_
    have : nb (((orI ((u4_1 - a3)) ((-2147483648))))) 4 = nb (if (a4) = 0 then ((sc ((w5)) ((a3)) ((u4_1))).length : Int) else 2147483648 + ((sc ((w5)) ((a3)) ((u4_1))).length : Int)) 4 := by rw [hbl]; first | (rw [if_neg (by omega)]; exact nb4_m (or31 (by omega))) | (rw [if_pos (by omega)])
    exact hc26 ((orI ((u4_1 - a3)) ((-2147483648)))) _ _ _ _  (rk_o (rfl) rfl rfl) (rk_o (rfl) rfl rfl) (rk_o (rfl) rfl rfl) (rk_o (rfl) rfl rfl) (rk_s) H O (SF_refl) (SA_refl)     (show inrJ ((orI ((u4_1 - a3)) ((-2147483648)))) by omega) (show nb (((orI ((u4_1 - a3)) ((-2147483648))))) 4 = nb (if (a4) = 0 then ((sc ((w5)) ((a3)) ((u4_1))).length : Int) else 2147483648 + ((sc ((w5)) ((a3)) ((u4_1))).length : Int)) 4 by assumption)
