abbrev V32_Row_Ir_c24_va4 : vV := [(0, 0, [(4, 0), (4, 0), (4, 0), (4, 0), (4, 0), (4, 0), (4, 0), (4, 0), (4, 0), (4, 0), (4, 0), (4, 0), (4, 0), (4, 0), (4, 0), (4, 0), (4, 0), (0, 0), (0, 0)]), (0, 7, [(4, 0), (0, 0), (1, 0), (0, 0), (0, 0)]), (1, 1, []), (1, 0, []), (0, 7, [(4, 0), (0, 0), (1, 0), (0, 0), (0, 0)]), (1, 0, [])]
/-- PackHouse.unpackRow: this, #1, #2, #1.bytes, this.content, this.content.bytes -/
theorem C32_Row_Ir_c24_va4 {σE : rS} {D N : Nat → Nat} {F : hF} {A : hA} {d c s : Nat} {Q : wQ} (H : HW V32_Row_Ir_c24_va4 σE D N F A) {a3 : Int} (pf3 : F 1 0 = (D 3 : Int)) (pf4 : F 0 6 = (D 4 : Int)) (pf5 : F 4 0 = (D 5 : Int)) (n2 : Int) (en2 : (N 2 : Int) = n2) (n3 : Int) (en3 : (N 3 : Int) = n3) (n5 : Int) (en5 : (N 5 : Int) = n5) (u1_1 : Int) (eu1_1 : F 1 1 = u1_1) (u4_1 : Int) (eu4_1 : F 4 1 = u4_1) (h0 : inr (4)) (h1 : inr (a3)) (h2 : 0 ≤ (u1_1) ∧ (u1_1) ≤ (n3) ∧ (n3) ≤ 65536) (h3 : 0 ≤ (u4_1) ∧ (u4_1) ≤ (n5) ∧ (n5) ≤ 65536) (hc157 : ∀ (ls : rO) (σ : rS) (F_c157 : hF) (A_c157 : hA) , rlook ls 0 = some (.ref (D 0)) → rlook ls 1 = some (.ref (D 1)) → rlook ls 3 = some (I (a3)) → rlook ls 4 = some (.ref (D 2)) → HW V32_Row_Ir_c24_va4 σ D N F_c157 A_c157 → OUT (V32_Row_Ir_c24_va4).length D N σE c s D N σ c s → SF [(4, 1), (4, 2), (4, 3), (4, 4)] F F_c157 → SA [] A A_c157 → ∀ yc157_4_1 : Int, F_c157 4 1 = yc157_4_1 → (0 ≤ (u1_1) ∧ (u1_1) ≤ (n3) ∧ (n3) ≤ 65536) → (0 ≤ (yc157_4_1) ∧ (yc157_4_1) ≤ (n5) ∧ (n5) ≤ 65536) → ((yc157_4_1) = 0) → Ew 32 (d + 1) 157 ls [.ref (D 0)] σ c s Q) (k : ∀ (z : Int) (σ : rS) (Fₚ : hF) (Aₚ : hA), HW V32_Row_Ir_c24_va4 σ D N Fₚ Aₚ → OUT (V32_Row_Ir_c24_va4).length D N σE c s D N σ c s → SF [(4, 1), (4, 2), (4, 3), (4, 4)] F Fₚ → SA [] A Aₚ → ∀ y4_1 : Int, Fₚ 4 1 = y4_1 → (inr (z)) → (0 ≤ (y4_1) ∧ (y4_1) ≤ (n5) ∧ (n5) ≤ 65536) → Q (some (I z)) σ c s) : Ew 32 (d + 1) 0 (rargs 0 [.ref (D 0), .ref (D 1), I 4, I a3, .ref (D 2)]) [] σE c s Q := by
  have O := OUT_refl (n := (V32_Row_Ir_c24_va4).length) (D := D) (N := N) (σ := σE) (c := c) (s := s)
  have HE := H
  have r1 : HID ((-2147483648 : Int) ≤ u1_1 ∧ u1_1 ≤ 2147483647) := krg_e (show (-2147483648 : Int) ≤ F 1 1 ∧ F 1 1 ≤ 2147483647 from H.krg 1 1 (by decide)) (show F 1 1 = u1_1 from (eu1_1))
  have r2 : HID ((-2147483648 : Int) ≤ u4_1 ∧ u4_1 ≤ 2147483647) := krg_e (show (-2147483648 : Int) ≤ F 4 1 ∧ F 4 1 ≤ 2147483647 from H.krg 4 1 (by decide)) (show F 4 1 = u4_1 from (eu4_1))
  replace pf3 := HIDm pf3
  replace pf4 := HIDm pf4
  replace pf5 := HIDm pf5
  replace en2 := HIDm en2
  replace en3 := HIDm en3
  replace en5 := HIDm en5
  replace eu1_1 := HIDm eu1_1
  replace eu4_1 := HIDm eu4_1
  have r3 : HID ((0 : Int) ≤ n3 ∧ n3 ≤ 1000000) := nrng (H.nle 3 (by decide)) (show (N 3 : Int) = n3 from en3)
  have r4 : HID ((0 : Int) ≤ n5 ∧ n5 ≤ 1000000) := nrng (H.nle 5 (by decide)) (show (N 5 : Int) = n5 from en5)
  refine Ew_of (pcₚ := 1) (fun _ => x_aload_n rfl rfl) ?_
  refine v_g H (o := 0) (v := .ref (D 4)) rfl rfl rfl rfl rfl (vrf (pf4)) ?_
  have r5 : HID ((0 : Int) ≤ F 4 2 ∧ F 4 2 ≤ 1) := krg_e (show (0 : Int) ≤ F 4 2 ∧ F 4 2 ≤ 1 from H.krg 4 2 (by decide)) (show F 4 2 = F 4 2 from rfl)
  have r6 : HID ((-2147483648 : Int) ≤ F 4 4 ∧ F 4 4 ≤ 2147483647) := krg_e (show (-2147483648 : Int) ≤ F 4 4 ∧ F 4 4 ≤ 2147483647 from H.krg 4 4 (by decide)) (show F 4 4 = F 4 4 from rfl)
  refine v_inv H (o := 4) rfl rfl rfl rfl rfl rfl (by rfl) (C156h (D := pul [4] D) (N := pul [4] N) (HW_sub H (VS_of (show vsub V32_Row_Ir_c24_va4 V156 [4] = true by decide +kernel))) (u4_1) ((eu4_1)) (F 4 2) (rfl) (F 4 4) (rfl)  (fun σ7 F7ₚ A7ₚ Hₚ Oₚ hS7 hA7 y7_0_1 ey7_0_1 y7_0_2 ey7_0_2 y7_0_4 ey7_0_4 pz7_0 => ⟨rfl, ?_⟩))
  replace ey7_0_1 := HIDm ey7_0_1
  replace ey7_0_2 := HIDm ey7_0_2
  replace ey7_0_4 := HIDm ey7_0_4
  refine v_back (c := c) (s := s) H (show vsub V32_Row_Ir_c24_va4 V156 [4] = true by decide +kernel) Hₚ Oₚ (fun F7 A7 H Oₚ eF7 eA7 => ?_)
  have O := OUT_trans O Oₚ
  -- Row.clear
  have r8 : HID ((-2147483648 : Int) ≤ y7_0_1 ∧ y7_0_1 ≤ 2147483647) := krg_e (show (-2147483648 : Int) ≤ F7 4 1 ∧ F7 4 1 ≤ 2147483647 from H.krg 4 1 (by decide)) (show F7 4 1 = y7_0_1 from ((eF7 4 1).trans ey7_0_1))
  have r9 : HID ((0 : Int) ≤ y7_0_2 ∧ y7_0_2 ≤ 1) := krg_e (show (0 : Int) ≤ F7 4 2 ∧ F7 4 2 ≤ 1 from H.krg 4 2 (by decide)) (show F7 4 2 = y7_0_2 from ((eF7 4 2).trans ey7_0_2))
  have r10 : HID ((-2147483648 : Int) ≤ y7_0_4 ∧ y7_0_4 ≤ 2147483647) := krg_e (show (-2147483648 : Int) ≤ F7 4 4 ∧ F7 4 4 ≤ 2147483647 from H.krg 4 4 (by decide)) (show F7 4 4 = y7_0_4 from ((eF7 4 4).trans ey7_0_4))
  refine Ew_of (pcₚ := 8) (fun _ => x_iconst rfl) ?_
  refine Ew_of (pcₚ := 10) (fun _ => x_istore rfl) ?_
  refine Ew_of (pcₚ := 11) (fun _ => x_iload_n rfl (rk_o (rfl) rfl rfl)) ?_
  refine w_tsd 156 rfl (show inr (4) by omega) (by omega) rfl ?_
  refine Ew_of (pcₚ := 157) (fun _ => x_aload_n rfl (rk_o (rfl) rfl rfl)) ?_
  exact hc157  _ _ _ _  (rk_o (rfl) rfl rfl) (rk_o (rfl) rfl rfl) (rk_o (rfl) rfl rfl) (rk_o (rfl) rfl rfl) H O (SF_trans (SF_refl) (SF_glu (ι := [4]) hS7 eF7 (by decide +kernel)) (any_sub (lₚ := [(4, 1), (4, 2), (4, 3), (4, 4)]) rfl)) (SA_trans (SA_refl) (SA_glu (ι := [4]) hA7 eA7 (by decide +kernel)) (any_subA (lₚ := []) rfl))   (y7_0_1) (((eF7 4 1).trans ey7_0_1))  (show 0 ≤ (u1_1) ∧ (u1_1) ≤ (n3) ∧ (n3) ≤ 65536 by have qh0 := HIDe r1; have qh1 := HIDe r3; omega) (show 0 ≤ (y7_0_1) ∧ (y7_0_1) ≤ (n5) ∧ (n5) ≤ 65536 by have qh0 := HIDe r4; have qh1 := HIDe r8; omega) (show (y7_0_1) = 0 by have qh0 := HIDe r8; omega)
