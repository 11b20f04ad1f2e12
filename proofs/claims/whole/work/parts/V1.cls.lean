abbrev V32_Row_Ir_c24_va4 : vV := [(0, 0, [(4, 0), (4, 0), (4, 0), (4, 0), (4, 0), (4, 0), (4, 0), (4, 0), (4, 0), (4, 0), (4, 0), (4, 0), (4, 0), (4, 0), (4, 0), (4, 0), (4, 0), (0, 0), (0, 0)]), (0, 7, [(4, 0), (0, 0), (1, 0), (0, 0), (0, 0)]), (1, 1, []), (1, 0, []), (0, 7, [(4, 0), (0, 0), (1, 0), (0, 0), (0, 0)]), (1, 0, [])]
/-- PackHouse.unpackRow: this, #1, #2, #1.bytes, this.content, this.content.bytes -/
theorem C32_Row_Ir_c24_va4 {σE : rS} {D N : Nat → Nat} {F : hF} {A : hA} {d c s : Nat} {Q : wQ} (H : HW V32_Row_Ir_c24_va4 σE D N F A) {a3 : Int} (pf3 : F 1 0 = (D 3 : Int)) (pf4 : F 0 6 = (D 4 : Int)) (pf5 : F 4 0 = (D 5 : Int)) (n2 : Int) (en2 : (N 2 : Int) = n2) (n3 : Int) (en3 : (N 3 : Int) = n3) (n5 : Int) (en5 : (N 5 : Int) = n5) (u1_1 : Int) (eu1_1 : F 1 1 = u1_1) (u4_1 : Int) (eu4_1 : F 4 1 = u4_1) (h0 : inr (4)) (h1 : inr (a3)) (h2 : 0 ≤ (u1_1) ∧ (u1_1) ≤ (n3) ∧ (n3) ≤ 65536) (h3 : 0 ≤ (u4_1) ∧ (u4_1) ≤ (n5) ∧ (n5) ≤ 65536) (hc157 : ∀ (ls : rO) (σ : rS) (F_c157 : hF) (A_c157 : hA) , rlook ls 0 = some (.ref (D 0)) → rlook ls 1 = some (.ref (D 1)) → rlook ls 3 = some (I (a3)) → rlook ls 4 = some (.ref (D 2)) → HW V32_Row_Ir_c24_va4 σ D N F_c157 A_c157 → OUT (V32_Row_Ir_c24_va4).length D N σE c s D N σ c s → SF [(4, 1), (4, 2), (4, 3), (4, 4)] F F_c157 → SA [] A A_c157 → ∀ yc157_4_1 : Int, F_c157 4 1 = yc157_4_1 → ∀ yc157_4_2 : Int, F_c157 4 2 = yc157_4_2 → (0 ≤ (u1_1) ∧ (u1_1) ≤ (n3) ∧ (n3) ≤ 65536) → (0 ≤ (yc157_4_1) ∧ (yc157_4_1) ≤ (n5) ∧ (n5) ≤ 65536) → ((yc157_4_1) = 0) → ((yc157_4_2) = 0) → Ew 32 (d + 1) 157 ls [.ref (D 0)] σ c s Q) (k : ∀ (z : Int) (σ : rS) (F' : hF) (A' : hA), HW V32_Row_Ir_c24_va4 σ D N F' A' → OUT (V32_Row_Ir_c24_va4).length D N σE c s D N σ c s → SF [(4, 1), (4, 2), (4, 3), (4, 4)] F F' → SA [] A A' → ∀ y4_1 : Int, F' 4 1 = y4_1 → (inr (z)) → (0 ≤ (y4_1) ∧ (y4_1) ≤ (n5) ∧ (n5) ≤ 65536) → ((0 : Int) = 1) → Q (some (I z)) σ c s) : Ew 32 (d + 1) 0 (rargs 0 [.ref (D 0), .ref (D 1), I 4, I a3, .ref (D 2)]) [] σE c s Q := by
  have O := OUT_refl (n := (V32_Row_Ir_c24_va4).length) (D := D) (N := N) (σ := σE) (c := c) (s := s)
  have HE := H
  have r1 : HID ((-2147483648 : Int) ≤ u1_1 ∧ u1_1 ≤ 2147483647) := krg_e (show (-2147483648 : Int) ≤ F 1 1 ∧ F 1 1 ≤ 2147483647 from H.krg 1 1 (by decide)) (show F 1 1 = u1_1 from (eu1_1))
  have r2 : HID ((-2147483648 : Int) ≤ u4_1 ∧ u4_1 ≤ 2147483647) := krg_e (show (-2147483648 : Int) ≤ F 4 1 ∧ F 4 1 ≤ 2147483647 from H.krg 4 1 (by decide)) (show F 4 1 = u4_1 from (eu4_1))
  replace pf3 := HIDm pf3
  replace pf4 := HIDm pf4
  replace pf5 := HIDm pf5
  replace en2 := HIDm en2
  replace en3 := HIDm en3
  replace en5 := HIDm en5
  replace eu1_1 := HIDm eu1_1
  replace eu4_1 := HIDm eu4_1
  have r3 : HID ((0 : Int) ≤ n3 ∧ n3 ≤ 1000000) := nrng (H.nle 3 (by decide)) (show (N 3 : Int) = n3 from en3)
  have r4 : HID ((0 : Int) ≤ n5 ∧ n5 ≤ 1000000) := nrng (H.nle 5 (by decide)) (show (N 5 : Int) = n5 from en5)
  have r5 : HID ((0 : Int) ≤ F 4 2 ∧ F 4 2 ≤ 1) := krg_e (show (0 : Int) ≤ F 4 2 ∧ F 4 2 ≤ 1 from H.krg 4 2 (by decide)) (show F 4 2 = F 4 2 from rfl)
  refine Ew_of (pc' := 1) (fun _ => x_aload_n rfl rfl) ?_
  refine v_g H (o := 0) (v := .ref (D 4)) rfl rfl rfl rfl rfl (vrf (pf4)) ?_
  have r6 : HID ((-2147483648 : Int) ≤ F 4 3 ∧ F 4 3 ≤ 2147483647) := krg_e (show (-2147483648 : Int) ≤ F 4 3 ∧ F 4 3 ≤ 2147483647 from H.krg 4 3 (by decide)) (show F 4 3 = F 4 3 from rfl)
  have r7 : HID ((-2147483648 : Int) ≤ F 4 4 ∧ F 4 4 ≤ 2147483647) := krg_e (show (-2147483648 : Int) ≤ F 4 4 ∧ F 4 4 ≤ 2147483647 from H.krg 4 4 (by decide)) (show F 4 4 = F 4 4 from rfl)
  refine v_inv H (o := 4) rfl rfl rfl rfl rfl rfl (by rfl) (C156h (D := pul [4] D) (N := pul [4] N) (HW_sub H (VS_of (show vsub V32_Row_Ir_c24_va4 V156 [4] = true by decide +kernel))) (u4_1) ((eu4_1)) (F 4 2) (rfl) (F 4 3) (rfl) (F 4 4) (rfl)  (fun σ8 F8' A8' H' O' hS8 hA8 y8_0_1 ey8_0_1 y8_0_2 ey8_0_2 y8_0_3 ey8_0_3 y8_0_4 ey8_0_4 pz8_0 pz8_1 => ⟨rfl, ?_⟩))
  replace ey8_0_1 := HIDm ey8_0_1
  replace ey8_0_2 := HIDm ey8_0_2
  replace ey8_0_3 := HIDm ey8_0_3
  replace ey8_0_4 := HIDm ey8_0_4
  refine v_back (c := c) (s := s) H (show vsub V32_Row_Ir_c24_va4 V156 [4] = true by decide +kernel) H' O' (fun F8 A8 H O' eF8 eA8 => ?_)
  have O := OUT_trans O O'
  -- Row.clear
  have r9 : HID ((-2147483648 : Int) ≤ y8_0_1 ∧ y8_0_1 ≤ 2147483647) := krg_e (show (-2147483648 : Int) ≤ F8 4 1 ∧ F8 4 1 ≤ 2147483647 from H.krg 4 1 (by decide)) (show F8 4 1 = y8_0_1 from ((eF8 4 1).trans ey8_0_1))
  have r10 : HID ((0 : Int) ≤ y8_0_2 ∧ y8_0_2 ≤ 1) := krg_e (show (0 : Int) ≤ F8 4 2 ∧ F8 4 2 ≤ 1 from H.krg 4 2 (by decide)) (show F8 4 2 = y8_0_2 from ((eF8 4 2).trans ey8_0_2))
  have r11 : HID ((-2147483648 : Int) ≤ y8_0_3 ∧ y8_0_3 ≤ 2147483647) := krg_e (show (-2147483648 : Int) ≤ F8 4 3 ∧ F8 4 3 ≤ 2147483647 from H.krg 4 3 (by decide)) (show F8 4 3 = y8_0_3 from ((eF8 4 3).trans ey8_0_3))
  have r12 : HID ((-2147483648 : Int) ≤ y8_0_4 ∧ y8_0_4 ≤ 2147483647) := krg_e (show (-2147483648 : Int) ≤ F8 4 4 ∧ F8 4 4 ≤ 2147483647 from H.krg 4 4 (by decide)) (show F8 4 4 = y8_0_4 from ((eF8 4 4).trans ey8_0_4))
  refine Ew_of (pc' := 8) (fun _ => x_iconst rfl) ?_
  refine Ew_of (pc' := 10) (fun _ => x_istore rfl) ?_
  refine Ew_of (pc' := 11) (fun _ => x_iload_n rfl (rk_o (rfl) rfl rfl)) ?_
  refine w_tsd 156 rfl (show inr (4) by omega) (by omega) rfl ?_
  refine Ew_of (pc' := 157) (fun _ => x_aload_n rfl (rk_o (rfl) rfl rfl)) ?_
  exact hc157  _ _ _ _  (rk_o (rfl) rfl rfl) (rk_o (rfl) rfl rfl) (rk_o (rfl) rfl rfl) (rk_o (rfl) rfl rfl) H O (SF_trans (SF_refl) (SF_glu (ι := [4]) hS8 eF8 (by decide +kernel)) (any_sub (l' := [(4, 1), (4, 2), (4, 3), (4, 4)]) rfl)) (SA_trans (SA_refl) (SA_glu (ι := [4]) hA8 eA8 (by decide +kernel)) (any_subA (l' := []) rfl))   (y8_0_1) (((eF8 4 1).trans ey8_0_1)) (y8_0_2) (((eF8 4 2).trans ey8_0_2))  (show 0 ≤ (u1_1) ∧ (u1_1) ≤ (n3) ∧ (n3) ≤ 65536 by have qh0 := HIDe r1; have qh1 := HIDe r3; omega) (show 0 ≤ (y8_0_1) ∧ (y8_0_1) ≤ (n5) ∧ (n5) ≤ 65536 by have qh0 := HIDe r4; have qh1 := HIDe r9; omega) (show (y8_0_1) = 0 by have qh0 := HIDe r9; omega) (show (y8_0_2) = 0 by have qh0 := HIDe r10; omega)
