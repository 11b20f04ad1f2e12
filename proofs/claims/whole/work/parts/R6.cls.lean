abbrev V32_Row_Ir_c20_va0 : vV := [(0, 0, [(4, 0), (4, 0), (4, 0), (4, 0), (4, 0), (4, 0), (4, 0), (4, 0), (4, 0), (4, 0), (4, 0), (4, 0), (4, 0), (4, 0), (4, 0), (4, 0), (4, 0), (0, 0), (0, 0)]), (0, 7, [(4, 0), (0, 0), (1, 0), (0, 0), (0, 0)]), (1, 1, []), (1, 0, []), (0, 7, [(4, 0), (0, 0), (1, 0), (0, 0), (0, 0)]), (1, 0, [])]
/-- PackHouse.unpackRow: this, #1, #2, #1.bytes, this.content, this.content.bytes -/
theorem C32_Row_Ir_c20_va0 {σE : rS} {D N : Nat → Nat} {F : hF} {A : hA} {d c s : Nat} {Q : wQ} (H : HW V32_Row_Ir_c20_va0 σE D N F A) {a3 : Int} (pf3 : F 1 0 = (D 3 : Int)) (pf4 : F 0 6 = (D 4 : Int)) (pf5 : F 4 0 = (D 5 : Int)) (n2 : Int) (en2 : (N 2 : Int) = n2) (n3 : Int) (en3 : (N 3 : Int) = n3) (n5 : Int) (en5 : (N 5 : Int) = n5) (u1_1 : Int) (eu1_1 : F 1 1 = u1_1) (u4_1 : Int) (eu4_1 : F 4 1 = u4_1) (h0 : inr (0)) (h1 : inr (a3)) (h2 : 0 ≤ (u1_1) ∧ (u1_1) ≤ (n3) ∧ (n3) ≤ 65536) (h3 : 0 ≤ (u4_1) ∧ (u4_1) ≤ (n5) ∧ (n5) ≤ 65536) (hc41 : ∀ (ls : rO) (σ : rS) (F_c41 : hF) (A_c41 : hA) , rlook ls 0 = some (.ref (D 0)) → rlook ls 1 = some (.ref (D 1)) → rlook ls 3 = some (I (a3)) → HW V32_Row_Ir_c20_va0 σ D N F_c41 A_c41 → OUT (V32_Row_Ir_c20_va0).length D N σE c s D N σ c s → SF [(4, 1), (4, 2), (4, 3), (4, 4)] F F_c41 → SA [] A A_c41 → ∀ yc41_4_1 : Int, F_c41 4 1 = yc41_4_1 → ∀ yc41_4_2 : Int, F_c41 4 2 = yc41_4_2 → (0 ≤ (u1_1) ∧ (u1_1) ≤ (n3) ∧ (n3) ≤ 65536) → (0 ≤ (yc41_4_1) ∧ (yc41_4_1) ≤ (n5) ∧ (n5) ≤ 65536) → ((yc41_4_1) = 0) → ((yc41_4_2) = 0) → Ew 32 (d + 1) 41 ls [.ref (D 0)] σ c s Q) (k : ∀ (z : Int) (σ : rS) (F' : hF) (A' : hA), HW V32_Row_Ir_c20_va0 σ D N F' A' → OUT (V32_Row_Ir_c20_va0).length D N σE c s D N σ c s → SF [(4, 1), (4, 2), (4, 3), (4, 4)] F F' → SA [] A A' → ∀ y4_1 : Int, F' 4 1 = y4_1 → (inr (z)) → (0 ≤ (y4_1) ∧ (y4_1) ≤ (n5) ∧ (n5) ≤ 65536) → ((0 : Int) = 1) → Q (some (I z)) σ c s) : Ew 32 (d + 1) 0 (rargs 0 [.ref (D 0), .ref (D 1), I 0, I a3, .ref (D 2)]) [] σE c s Q := by
  have O := OUT_refl (n := (V32_Row_Ir_c20_va0).length) (D := D) (N := N) (σ := σE) (c := c) (s := s)
  have HE := H
  have r1 : HID ((-2147483648 : Int) ≤ u1_1 ∧ u1_1 ≤ 2147483647) := krg_e (show (-2147483648 : Int) ≤ F 1 1 ∧ F 1 1 ≤ 2147483647 from H.krg 1 1 (by decide)) (show F 1 1 = u1_1 from (eu1_1))
  have r2 : HID ((-2147483648 : Int) ≤ u4_1 ∧ u4_1 ≤ 2147483647) := krg_e (show (-2147483648 : Int) ≤ F 4 1 ∧ F 4 1 ≤ 2147483647 from H.krg 4 1 (by decide)) (show F 4 1 = u4_1 from (eu4_1))
  replace pf3 := HIDm pf3
  replace pf4 := HIDm pf4
  replace pf5 := HIDm pf5
  replace en2 := HIDm en2
  replace en3 := HIDm en3
  replace en5 := HIDm en5
  replace eu1_1 := HIDm eu1_1
  replace eu4_1 := HIDm eu4_1
  have r3 : HID ((0 : Int) ≤ n3 ∧ n3 ≤ 1000000) := nrng (H.nle 3 (by decide)) (show (N 3 : Int) = n3 from en3)
  have r4 : HID ((0 : Int) ≤ n5 ∧ n5 ≤ 1000000) := nrng (H.nle 5 (by decide)) (show (N 5 : Int) = n5 from en5)
  have r5 : HID ((0 : Int) ≤ F 4 2 ∧ F 4 2 ≤ 1) := krg_e (show (0 : Int) ≤ F 4 2 ∧ F 4 2 ≤ 1 from H.krg 4 2 (by decide)) (show F 4 2 = F 4 2 from rfl)
  refine Ew_of (pc' := 1) (fun _ => x_aload_n rfl rfl) ?_
  refine v_g H (o := 0) (v := .ref (D 4)) rfl rfl rfl rfl rfl (vrf (pf4)) ?_
  have r6 : HID ((-2147483648 : Int) ≤ F 4 3 ∧ F 4 3 ≤ 2147483647) := krg_e (show (-2147483648 : Int) ≤ F 4 3 ∧ F 4 3 ≤ 2147483647 from H.krg 4 3 (by decide)) (show F 4 3 = F 4 3 from rfl)
  have r7 : HID ((-2147483648 : Int) ≤ F 4 4 ∧ F 4 4 ≤ 2147483647) := krg_e (show (-2147483648 : Int) ≤ F 4 4 ∧ F 4 4 ≤ 2147483647 from H.krg 4 4 (by decide)) (show F 4 4 = F 4 4 from rfl)
  refine v_inv H (o := 4) rfl rfl rfl rfl rfl rfl (by rfl) (C156h (D := pul [4] D) (N := pul [4] N) (HW_sub H (VS_of (show vsub V32_Row_Ir_c20_va0 V156 [4] = true by decide +kernel))) (u4_1) ((eu4_1)) (F 4 2) (rfl) (F 4 3) (rfl) (F 4 4) (rfl)  (fun σ8 F8' A8' H' O' hS8 hA8 y8_0_1 ey8_0_1 y8_0_2 ey8_0_2 y8_0_3 ey8_0_3 y8_0_4 ey8_0_4 pz8_0 pz8_1 => ⟨rfl, ?_⟩))
  replace ey8_0_1 := HIDm ey8_0_1
  replace ey8_0_2 := HIDm ey8_0_2
  replace ey8_0_3 := HIDm ey8_0_3
  replace ey8_0_4 := HIDm ey8_0_4
  refine v_back (c := c) (s := s) H (show vsub V32_Row_Ir_c20_va0 V156 [4] = true by decide +kernel) H' O' (fun F8 A8 H O' eF8 eA8 => ?_)
  have O := OUT_trans O O'
  -- Row.clear
  have r9 : HID ((-2147483648 : Int) ≤ y8_0_1 ∧ y8_0_1 ≤ 2147483647) := krg_e (show (-2147483648 : Int) ≤ F8 4 1 ∧ F8 4 1 ≤ 2147483647 from H.krg 4 1 (by decide)) (show F8 4 1 = y8_0_1 from ((eF8 4 1).trans ey8_0_1))
  have r10 : HID ((0 : Int) ≤ y8_0_2 ∧ y8_0_2 ≤ 1) := krg_e (show (0 : Int) ≤ F8 4 2 ∧ F8 4 2 ≤ 1 from H.krg 4 2 (by decide)) (show F8 4 2 = y8_0_2 from ((eF8 4 2).trans ey8_0_2))
  have r11 : HID ((-2147483648 : Int) ≤ y8_0_3 ∧ y8_0_3 ≤ 2147483647) := krg_e (show (-2147483648 : Int) ≤ F8 4 3 ∧ F8 4 3 ≤ 2147483647 from H.krg 4 3 (by decide)) (show F8 4 3 = y8_0_3 from ((eF8 4 3).trans ey8_0_3))
  have r12 : HID ((-2147483648 : Int) ≤ y8_0_4 ∧ y8_0_4 ≤ 2147483647) := krg_e (show (-2147483648 : Int) ≤ F8 4 4 ∧ F8 4 4 ≤ 2147483647 from H.krg 4 4 (by decide)) (show F8 4 4 = y8_0_4 from ((eF8 4 4).trans ey8_0_4))
  refine Ew_of (pc' := 8) (fun _ => x_iconst rfl) ?_
  refine Ew_of (pc' := 10) (fun _ => x_istore rfl) ?_
  refine Ew_of (pc' := 11) (fun _ => x_iload_n rfl (rk_o (rfl) rfl rfl)) ?_
  refine w_tsk 0 40 rfl (show inr (0) by omega) (by omega) (by decide) rfl rfl ?_
  refine Ew_of (pc' := 41) (fun _ => x_aload_n rfl (rk_o (rfl) rfl rfl)) ?_
  exact hc41  _ _ _ _  (rk_o (rfl) rfl rfl) (rk_o (rfl) rfl rfl) (rk_o (rfl) rfl rfl) H O (SF_trans (SF_refl) (SF_glu (ι := [4]) hS8 eF8 (by decide +kernel)) (any_sub (l' := [(4, 1), (4, 2), (4, 3), (4, 4)]) rfl)) (SA_trans (SA_refl) (SA_glu (ι := [4]) hA8 eA8 (by decide +kernel)) (any_subA (l' := []) rfl))   (y8_0_1) (((eF8 4 1).trans ey8_0_1)) (y8_0_2) (((eF8 4 2).trans ey8_0_2))  (show 0 ≤ (u1_1) ∧ (u1_1) ≤ (n3) ∧ (n3) ≤ 65536 by have qh0 := HIDe r1; have qh1 := HIDe r3; omega) (show 0 ≤ (y8_0_1) ∧ (y8_0_1) ≤ (n5) ∧ (n5) ≤ 65536 by have qh0 := HIDe r4; have qh1 := HIDe r9; omega) (show (y8_0_1) = 0 by have qh0 := HIDe r9; omega) (show (y8_0_2) = 0 by have qh0 := HIDe r10; omega)
abbrev V32_Row_Ir_vb0 : vV := [(0, 0, [(4, 0), (4, 0), (4, 0), (4, 0), (4, 0), (4, 0), (4, 0), (4, 0), (4, 0), (4, 0), (4, 0), (4, 0), (4, 0), (4, 0), (4, 0), (4, 0), (4, 0), (0, 0), (0, 0)]), (0, 7, [(4, 0), (0, 0), (1, 0), (0, 0), (0, 0)]), (1, 1, []), (1, 0, []), (0, 7, [(4, 0), (0, 0), (1, 0), (0, 0), (0, 0)]), (1, 0, []), (0, 11, [(4, 0), (4, 0), (4, 0), (4, 0), (4, 0), (0, 0), (4, 0), (0, 0), (0, 0), (0, 0), (0, 0), (0, 0), (0, 0)]), (0, 7, [(4, 0), (0, 0), (1, 0), (0, 0), (0, 0)]), (1, 0, [])]
/-- PackHouse.unpackRow: this, #1, #2, #1.bytes, this.content, this.content.bytes, this.tokens, this.tokens.past, this.tokens.past.bytes -/
theorem C32_Row_Ir_vb0 {σE : rS} {D N : Nat → Nat} {F : hF} {A : hA} {d c s : Nat} {Q : wQ} (H : HW V32_Row_Ir_vb0 σE D N F A) {x3 : Int} (pf3 : F 1 0 = (D 3 : Int)) (pf4 : F 0 6 = (D 4 : Int)) (pf5 : F 4 0 = (D 5 : Int)) (pf6 : F 0 8 = (D 6 : Int)) (pf7 : F 6 1 = (D 7 : Int)) (pf8 : F 7 0 = (D 8 : Int)) (n2 : Int) (en2 : (N 2 : Int) = n2) (n3 : Int) (en3 : (N 3 : Int) = n3) (n5 : Int) (en5 : (N 5 : Int) = n5) (n8 : Int) (en8 : (N 8 : Int) = n8) (u0_17 : Int) (eu0_17 : F 0 17 = u0_17) (u1_1 : Int) (eu1_1 : F 1 1 = u1_1) (u4_1 : Int) (eu4_1 : F 4 1 = u4_1) (u4_2 : Int) (eu4_2 : F 4 2 = u4_2) (u7_1 : Int) (eu7_1 : F 7 1 = u7_1) (w3 : Int → Int) (ew3 : A 3 = w3) (w5 : Int → Int) (ew5 : A 5 = w5) (w8 : Int → Int) (ew8 : A 8 = w8) {ls : rO} (hl0 : rlook ls 0 = some (.ref (D 0))) (hl1 : rlook ls 1 = some (.ref (D 1))) (hl3 : rlook ls 3 = some (I (x3))) (h0 : inr (x3)) (h1 : 0 ≤ (u1_1) ∧ (u1_1) ≤ (n3) ∧ (n3) ≤ 65536) (h2 : 0 ≤ (u4_1) ∧ (u4_1) ≤ (n5) ∧ (n5) ≤ 65536) (h3 : (u4_1) = 0) (h4 : (u4_2) = 0) (h5 : 0 ≤ (x3) ∧ (x3) ≤ 65536) (h6 : 0 ≤ (u7_1) ∧ (u7_1) ≤ (n8) ∧ (n8) ≤ 65536) (k : ∀ (z : Int) (σ : rS) (D' N' : Nat → Nat) (F' : hF) (A' : hA) (c' s' : Nat), HW V32_Row_Ir_vb0 σ D' N' F' A' → OUT (V32_Row_Ir_vb0).length D N σE c s D' N' σ c' s' → SD [5] D D' → SD [5] N N' → SF [(0, 17), (4, 0), (4, 1), (4, 2), (6, 4), (6, 5), (6, 6), (6, 7), (6, 11), (6, 12)] F F' → SA [5] A A' → F' 4 0 = (D' 5 : Int) → ∀ m5 : Int, (N' 5 : Int) = m5 → ∀ y0_17 : Int, F' 0 17 = y0_17 → ∀ y4_1 : Int, F' 4 1 = y4_1 → ∀ y4_2 : Int, F' 4 2 = y4_2 → ∀ v5 : Int → Int, A' 5 = v5 → (inr (z)) → (0 ≤ (y4_1) ∧ (y4_1) ≤ (m5) ∧ (m5) ≤ 65536) → ((y4_2) = 0) → (RDQ 0 (sc ((w3)) 0 ((u1_1))) (sc ((w8)) 0 ((u7_1))) DCE ((x3)) ((z)) ((y0_17)) (sc ((v5)) 0 ((y4_1)))) → Q (some (I z)) σ c' s') : Ew 32 (d + 5) 44 ls [.ref (D 6)] σE c s Q := by
  have O := OUT_refl (n := (V32_Row_Ir_vb0).length) (D := D) (N := N) (σ := σE) (c := c) (s := s)
  have HE := H
  have r1 : HID ((-2147483648 : Int) ≤ u0_17 ∧ u0_17 ≤ 2147483647) := krg_e (show (-2147483648 : Int) ≤ F 0 17 ∧ F 0 17 ≤ 2147483647 from H.krg 0 17 (by decide)) (show F 0 17 = u0_17 from (eu0_17))
  have r2 : HID ((-2147483648 : Int) ≤ u1_1 ∧ u1_1 ≤ 2147483647) := krg_e (show (-2147483648 : Int) ≤ F 1 1 ∧ F 1 1 ≤ 2147483647 from H.krg 1 1 (by decide)) (show F 1 1 = u1_1 from (eu1_1))
  have r3 : HID ((-2147483648 : Int) ≤ u4_1 ∧ u4_1 ≤ 2147483647) := krg_e (show (-2147483648 : Int) ≤ F 4 1 ∧ F 4 1 ≤ 2147483647 from H.krg 4 1 (by decide)) (show F 4 1 = u4_1 from (eu4_1))
  have r4 : HID ((0 : Int) ≤ u4_2 ∧ u4_2 ≤ 1) := krg_e (show (0 : Int) ≤ F 4 2 ∧ F 4 2 ≤ 1 from H.krg 4 2 (by decide)) (show F 4 2 = u4_2 from (eu4_2))
  have r5 : HID ((-2147483648 : Int) ≤ u7_1 ∧ u7_1 ≤ 2147483647) := krg_e (show (-2147483648 : Int) ≤ F 7 1 ∧ F 7 1 ≤ 2147483647 from H.krg 7 1 (by decide)) (show F 7 1 = u7_1 from (eu7_1))
  replace pf3 := HIDm pf3
  replace pf4 := HIDm pf4
  replace pf5 := HIDm pf5
  replace pf6 := HIDm pf6
  replace pf7 := HIDm pf7
  replace pf8 := HIDm pf8
  replace en2 := HIDm en2
  replace en3 := HIDm en3
  replace en5 := HIDm en5
  replace en8 := HIDm en8
  replace eu0_17 := HIDm eu0_17
  replace eu1_1 := HIDm eu1_1
  replace eu4_1 := HIDm eu4_1
  replace eu4_2 := HIDm eu4_2
  replace eu7_1 := HIDm eu7_1
  have r6 : HID ((0 : Int) ≤ n3 ∧ n3 ≤ 1000000) := nrng (H.nle 3 (by decide)) (show (N 3 : Int) = n3 from en3)
  have r7 : HID ((0 : Int) ≤ n5 ∧ n5 ≤ 1000000) := nrng (H.nle 5 (by decide)) (show (N 5 : Int) = n5 from en5)
  have r8 : HID ((0 : Int) ≤ n8 ∧ n8 ≤ 1000000) := nrng (H.nle 8 (by decide)) (show (N 8 : Int) = n8 from en8)
  refine Ew_of (pc' := 45) (fun _ => x_aload_n rfl hl1) ?_
  refine Ew_of (pc' := 46) (fun _ => x_aload_n rfl hl0) ?_
  refine v_g H (o := 0) (v := .ref (D 4)) rfl rfl rfl rfl rfl (vrf (pf4)) ?_
  refine Ew_of (pc' := 50) (fun _ => x_iload_n rfl hl3) ?_
  have r9 : HID ((-2147483648 : Int) ≤ F 6 12 ∧ F 6 12 ≤ 2147483647) := krg_e (show (-2147483648 : Int) ≤ F 6 12 ∧ F 6 12 ≤ 2147483647 from H.krg 6 12 (by decide)) (show F 6 12 = F 6 12 from rfl)
  refine v_inv H (o := 6) rfl rfl rfl rfl rfl rfl (by rfl) (C223_Row_Row (D := pul [6, 1, 4, 3, 5, 7, 8] D) (N := pul [6, 1, 4, 3, 5, 7, 8] N) (HW_sub H (VS_of (show vsub V32_Row_Ir_vb0 V223_Row_Row [6, 1, 4, 3, 5, 7, 8] = true by decide +kernel))) (pf3) (pf5) (pf7) (pf8) (n3) (en3) (n5) (en5) (n8) (en8) (F 6 12) (rfl) (u1_1) ((eu1_1)) (u4_1) ((eu4_1)) (u4_2) ((eu4_2)) (u7_1) ((eu7_1)) (w3) (ew3) (w5) (ew5) (w8) (ew8) (show inr (x3) by omega) (show 0 ≤ (u1_1) ∧ (u1_1) ≤ (n3) ∧ (n3) ≤ 65536 by have qh0 := HIDe r2; have qh1 := HIDe r6; omega) (show 0 ≤ (u4_1) ∧ (u4_1) ≤ (n5) ∧ (n5) ≤ 65536 by have qh0 := HIDe r3; have qh1 := HIDe r7; omega) (show 0 ≤ (u7_1) ∧ (u7_1) ≤ (n8) ∧ (n8) ≤ 65536 by have qh0 := HIDe r5; have qh1 := HIDe r8; omega) (show 0 ≤ (x3) ∧ (x3) ≤ 65536 by omega) (show (u4_1) = 0 ∧ (u4_2) = 0 by have qh0 := HIDe r3; have qh1 := HIDe r4; omega) (fun z10 σ10 D10' N10' F10' A10' c10 s10 H' O' hD10 hN10 hS10 hA10 pm10_4 m10_4 em10_4 y10_0_12 ey10_0_12 y10_2_1 ey10_2_1 y10_2_2 ey10_2_2 w10_4 ew10_4 pz10_0 pz10_1 pz10_2 pz10_3 pz10_4 pz10_5 => ⟨rfl, ?_⟩))
  replace pm10_4 := HIDm pm10_4
  replace em10_4 := HIDm em10_4
  replace ey10_0_12 := HIDm ey10_0_12
  replace ey10_2_1 := HIDm ey10_2_1
  replace ey10_2_2 := HIDm ey10_2_2
  refine v_backM (c := c) (s := s) H (show vsub V32_Row_Ir_vb0 V223_Row_Row [6, 1, 4, 3, 5, 7, 8] = true by decide +kernel) H' O' hD10 (show vmov V32_Row_Ir_vb0 [6, 1, 4, 3, 5, 7, 8] [4] = true by decide +kernel) (fun D10 N10 F10 A10 H O' eD10 eN10 eF10 eA10 => ?_)
  have O := OUT_trans O O'
  -- Tokens.unpackAlone
  have pf10_0_6 : HID (F10 0 6 = (D10 4 : Int)) := ((show F10 0 6 = F 0 6 from (eF10 0 6))).trans ((pf4).trans (congrArg (fun q : Nat => (q : Int)) ((show D10 4 = D 4 from (eD10 4).trans (hD10 2 rfl))).symm))
  have pf10_0_8 : HID (F10 0 8 = (D10 6 : Int)) := ((show F10 0 8 = F 0 8 from (eF10 0 8))).trans ((pf6).trans (congrArg (fun q : Nat => (q : Int)) ((show D10 6 = D 6 from (eD10 6).trans (hD10 0 rfl))).symm))
  have pf10_1_0 : HID (F10 1 0 = (D10 3 : Int)) := ((show F10 1 0 = F 1 0 from (eF10 1 0).trans (hS10 1 0 rfl))).trans ((pf3).trans (congrArg (fun q : Nat => (q : Int)) ((show D10 3 = D 3 from (eD10 3).trans (hD10 3 rfl))).symm))
  have pf10_4_0 : HID (F10 4 0 = (D10 5 : Int)) := (eF10 4 0).trans (pm10_4.trans (congrArg (fun q : Nat => (q : Int)) (eD10 5).symm))
  have pf10_6_1 : HID (F10 6 1 = (D10 7 : Int)) := ((show F10 6 1 = F 6 1 from (eF10 6 1).trans (hS10 0 1 rfl))).trans ((pf7).trans (congrArg (fun q : Nat => (q : Int)) ((show D10 7 = D 7 from (eD10 7).trans (hD10 5 rfl))).symm))
  have pf10_7_0 : HID (F10 7 0 = (D10 8 : Int)) := ((show F10 7 0 = F 7 0 from (eF10 7 0).trans (hS10 5 0 rfl))).trans ((pf8).trans (congrArg (fun q : Nat => (q : Int)) ((show D10 8 = D 8 from (eD10 8).trans (hD10 6 rfl))).symm))
  have r11 : HID ((0 : Int) ≤ m10_4 ∧ m10_4 ≤ 1000000) := nrng (H.nle 5 (by decide)) (show (N10 5 : Int) = m10_4 from (congrArg (fun q : Nat => (q : Int)) (eN10 5)).trans em10_4)
  have r12 : HID ((-2147483648 : Int) ≤ y10_0_12 ∧ y10_0_12 ≤ 2147483647) := krg_e (show (-2147483648 : Int) ≤ F10 6 12 ∧ F10 6 12 ≤ 2147483647 from H.krg 6 12 (by decide)) (show F10 6 12 = y10_0_12 from ((eF10 6 12).trans ey10_0_12))
  have r13 : HID ((-2147483648 : Int) ≤ y10_2_1 ∧ y10_2_1 ≤ 2147483647) := krg_e (show (-2147483648 : Int) ≤ F10 4 1 ∧ F10 4 1 ≤ 2147483647 from H.krg 4 1 (by decide)) (show F10 4 1 = y10_2_1 from ((eF10 4 1).trans ey10_2_1))
  have r14 : HID ((0 : Int) ≤ y10_2_2 ∧ y10_2_2 ≤ 1) := krg_e (show (0 : Int) ≤ F10 4 2 ∧ F10 4 2 ≤ 1 from H.krg 4 2 (by decide)) (show F10 4 2 = y10_2_2 from ((eF10 4 2).trans ey10_2_2))
  refine Ew_of (pc' := 55) (fun _ => x_istore rfl) ?_
  refine Ew_of (pc' := 56) (fun _ => x_aload_n rfl (rk_o (hl0) rfl rfl)) ?_
  refine Ew_of (pc' := 57) (fun _ => x_aload_n rfl (rk_o (hl0) rfl rfl)) ?_
  refine Ew_stk (show ([.ref (D 0), .ref (D 0)] : List Value) = [.ref (D10 0), .ref (D10 0)] by rw [show D10 0 = D 0 from ((show D10 0 = D 0 from (eD10 0)))]) ?_
  refine v_g H (o := 0) (v := .ref (D10 6)) rfl rfl rfl rfl rfl (vrf (pf10_0_8)) ?_
  refine v_g H (o := 6) (v := I (y10_0_12)) rfl rfl rfl rfl rfl (congrArg (fun z : Int => I z) (((eF10 6 12).trans ey10_0_12) : F10 6 12 = y10_0_12)) ?_
  refine v_p H (o := 0) (z := y10_0_12) (v := I (y10_0_12)) rfl rfl rfl rfl rfl rfl rfl rfl (show (-2147483648 : Int) ≤ y10_0_12 ∧ y10_0_12 ≤ 2147483647 by have qh0 := HIDe r12; omega) (fun σ H O' => ?_)
  have O := OUT_trans O O'
  refine Ew_of (pc' := 188) (fun _ => x_goto rfl rfl) ?_
  refine Ew_of (pc' := 190) (fun _ => x_iload rfl rk_s) ?_
  refine w_ifne (t := 203) rfl rfl (show inr (z10) by omega) (fun b15 => ?_) (fun b15 => ?_)
  · refine Ew_of (pc' := 205) (fun _ => x_iload rfl rk_s) ?_
    refine w_ineg rfl ?_
    have : RDQ 0 (sc ((w3)) 0 ((u1_1))) (sc ((w8)) 0 ((u7_1))) DCE ((x3)) (((-z10))) ((y10_0_12)) (sc ((w10_4)) 0 ((y10_2_1))) := RDQ_c0 pz10_4 (by (have qg0 := HIDe r12; have qg1 := HIDe r13; have qg2 := HIDe r2; have qg3 := HIDe r5; omega)) (by (have qg0 := HIDe r12; have qg1 := HIDe r13; have qg2 := HIDe r2; have qg3 := HIDe r5; omega)) (by (have qg0 := HIDe r12; have qg1 := HIDe r13; have qg2 := HIDe r2; have qg3 := HIDe r5; omega)) (by (have qg0 := HIDe r12; have qg1 := HIDe r13; have qg2 := HIDe r2; have qg3 := HIDe r5; omega))
    exact w_ireturn rfl (k ((-z10)) _ _ _ _ _ _ _ H O (SD_trans (SD_refl) (SD_glu (ι := [6, 1, 4, 3, 5, 7, 8]) hD10 eD10 (by decide +kernel)) (any_subA (l' := [5]) rfl)) (SD_trans (SD_refl) (SD_glu (ι := [6, 1, 4, 3, 5, 7, 8]) hN10 eN10 (by decide +kernel)) (any_subA (l' := [5]) rfl)) (SF_upd (SF_trans (SF_refl) (SF_glu (ι := [6, 1, 4, 3, 5, 7, 8]) hS10 eF10 (by decide +kernel)) (any_sub (l' := [(4, 0), (4, 1), (4, 2), (6, 4), (6, 5), (6, 6), (6, 7), (6, 11), (6, 12)]) rfl)) rfl) (SA_trans (SA_refl) (SA_glu (ι := [6, 1, 4, 3, 5, 7, 8]) hA10 eA10 (by decide +kernel)) (any_subA (l' := [5]) rfl)) (pf10_4_0) (m10_4) ((congrArg (fun q : Nat => (q : Int)) (eN10 5)).trans em10_4) (y10_0_12) (rfl) (y10_2_1) (((eF10 4 1).trans ey10_2_1)) (y10_2_2) (((eF10 4 2).trans ey10_2_2)) (w10_4) ((eA10 5).trans ew10_4) (show inr ((-z10)) by omega) (show 0 ≤ (y10_2_1) ∧ (y10_2_1) ≤ (m10_4) ∧ (m10_4) ≤ 65536 by have qh0 := HIDe r11; have qh1 := HIDe r13; omega) (show (y10_2_2) = 0 by have qh0 := HIDe r14; omega) (by assumption))
  · refine Ew_of (pc' := 194) (fun _ => x_aload_n rfl (rk_o (hl0) rfl rfl)) ?_
    refine Ew_stk (show ([.ref (D 0)] : List Value) = [.ref (D10 0)] by rw [show D10 0 = D 0 from ((show D10 0 = D 0 from (eD10 0)))]) ?_
    refine v_g H (o := 0) (v := .ref (D10 4)) rfl rfl rfl rfl rfl (vrf (pf10_0_6)) ?_
    refine v_g H (o := 4) (v := I (y10_2_1)) rfl rfl rfl rfl rfl (congrArg (fun z : Int => I z) (((eF10 4 1).trans ey10_2_1) : (updF F10 0 17 (y10_0_12)) 4 1 = y10_2_1)) ?_
    refine Ew_of (pc' := 206) (fun _ => x_goto rfl rfl) ?_
    have : RDQ 0 (sc ((w3)) 0 ((u1_1))) (sc ((w8)) 0 ((u7_1))) DCE ((x3)) ((y10_2_1)) ((y10_0_12)) (sc ((w10_4)) 0 ((y10_2_1))) := RDQ_c0 pz10_4 (by (have qg0 := HIDe r12; have qg1 := HIDe r13; have qg2 := HIDe r2; have qg3 := HIDe r5; omega)) (by (have qg0 := HIDe r12; have qg1 := HIDe r13; have qg2 := HIDe r2; have qg3 := HIDe r5; omega)) (by (have qg0 := HIDe r12; have qg1 := HIDe r13; have qg2 := HIDe r2; have qg3 := HIDe r5; omega)) (by (have qg0 := HIDe r12; have qg1 := HIDe r13; have qg2 := HIDe r2; have qg3 := HIDe r5; omega))
    exact w_ireturn rfl (k (y10_2_1) _ _ _ _ _ _ _ H O (SD_trans (SD_refl) (SD_glu (ι := [6, 1, 4, 3, 5, 7, 8]) hD10 eD10 (by decide +kernel)) (any_subA (l' := [5]) rfl)) (SD_trans (SD_refl) (SD_glu (ι := [6, 1, 4, 3, 5, 7, 8]) hN10 eN10 (by decide +kernel)) (any_subA (l' := [5]) rfl)) (SF_upd (SF_trans (SF_refl) (SF_glu (ι := [6, 1, 4, 3, 5, 7, 8]) hS10 eF10 (by decide +kernel)) (any_sub (l' := [(4, 0), (4, 1), (4, 2), (6, 4), (6, 5), (6, 6), (6, 7), (6, 11), (6, 12)]) rfl)) rfl) (SA_trans (SA_refl) (SA_glu (ι := [6, 1, 4, 3, 5, 7, 8]) hA10 eA10 (by decide +kernel)) (any_subA (l' := [5]) rfl)) (pf10_4_0) (m10_4) ((congrArg (fun q : Nat => (q : Int)) (eN10 5)).trans em10_4) (y10_0_12) (rfl) (y10_2_1) (((eF10 4 1).trans ey10_2_1)) (y10_2_2) (((eF10 4 2).trans ey10_2_2)) (w10_4) ((eA10 5).trans ew10_4) (show inr (y10_2_1) by have qh0 := HIDe r13; omega) (show 0 ≤ (y10_2_1) ∧ (y10_2_1) ≤ (m10_4) ∧ (m10_4) ≤ 65536 by have qh0 := HIDe r11; have qh1 := HIDe r13; omega) (show (y10_2_2) = 0 by have qh0 := HIDe r14; omega) (by assumption))
abbrev V32_Row_Ir_c21_va1 : vV := [(0, 0, [(4, 0), (4, 0), (4, 0), (4, 0), (4, 0), (4, 0), (4, 0), (4, 0), (4, 0), (4, 0), (4, 0), (4, 0), (4, 0), (4, 0), (4, 0), (4, 0), (4, 0), (0, 0), (0, 0)]), (0, 7, [(4, 0), (0, 0), (1, 0), (0, 0), (0, 0)]), (1, 1, []), (1, 0, []), (0, 7, [(4, 0), (0, 0), (1, 0), (0, 0), (0, 0)]), (1, 0, [])]
/-- PackHouse.unpackRow: this, #1, #2, #1.bytes, this.content, this.content.bytes -/
theorem C32_Row_Ir_c21_va1 {σE : rS} {D N : Nat → Nat} {F : hF} {A : hA} {d c s : Nat} {Q : wQ} (H : HW V32_Row_Ir_c21_va1 σE D N F A) {a3 : Int} (pf3 : F 1 0 = (D 3 : Int)) (pf4 : F 0 6 = (D 4 : Int)) (pf5 : F 4 0 = (D 5 : Int)) (n2 : Int) (en2 : (N 2 : Int) = n2) (n3 : Int) (en3 : (N 3 : Int) = n3) (n5 : Int) (en5 : (N 5 : Int) = n5) (u1_1 : Int) (eu1_1 : F 1 1 = u1_1) (u4_1 : Int) (eu4_1 : F 4 1 = u4_1) (h0 : inr (1)) (h1 : inr (a3)) (h2 : 0 ≤ (u1_1) ∧ (u1_1) ≤ (n3) ∧ (n3) ≤ 65536) (h3 : 0 ≤ (u4_1) ∧ (u4_1) ≤ (n5) ∧ (n5) ≤ 65536) (hc70 : ∀ (ls : rO) (σ : rS) (F_c70 : hF) (A_c70 : hA) , rlook ls 0 = some (.ref (D 0)) → rlook ls 1 = some (.ref (D 1)) → rlook ls 3 = some (I (a3)) → HW V32_Row_Ir_c21_va1 σ D N F_c70 A_c70 → OUT (V32_Row_Ir_c21_va1).length D N σE c s D N σ c s → SF [(4, 1), (4, 2), (4, 3), (4, 4)] F F_c70 → SA [] A A_c70 → ∀ yc70_4_1 : Int, F_c70 4 1 = yc70_4_1 → ∀ yc70_4_2 : Int, F_c70 4 2 = yc70_4_2 → (0 ≤ (u1_1) ∧ (u1_1) ≤ (n3) ∧ (n3) ≤ 65536) → (0 ≤ (yc70_4_1) ∧ (yc70_4_1) ≤ (n5) ∧ (n5) ≤ 65536) → ((yc70_4_1) = 0) → ((yc70_4_2) = 0) → Ew 32 (d + 1) 70 ls [.ref (D 0)] σ c s Q) (k : ∀ (z : Int) (σ : rS) (F' : hF) (A' : hA), HW V32_Row_Ir_c21_va1 σ D N F' A' → OUT (V32_Row_Ir_c21_va1).length D N σE c s D N σ c s → SF [(4, 1), (4, 2), (4, 3), (4, 4)] F F' → SA [] A A' → ∀ y4_1 : Int, F' 4 1 = y4_1 → (inr (z)) → (0 ≤ (y4_1) ∧ (y4_1) ≤ (n5) ∧ (n5) ≤ 65536) → ((0 : Int) = 1) → Q (some (I z)) σ c s) : Ew 32 (d + 1) 0 (rargs 0 [.ref (D 0), .ref (D 1), I 1, I a3, .ref (D 2)]) [] σE c s Q := by
  have O := OUT_refl (n := (V32_Row_Ir_c21_va1).length) (D := D) (N := N) (σ := σE) (c := c) (s := s)
  have HE := H
  have r1 : HID ((-2147483648 : Int) ≤ u1_1 ∧ u1_1 ≤ 2147483647) := krg_e (show (-2147483648 : Int) ≤ F 1 1 ∧ F 1 1 ≤ 2147483647 from H.krg 1 1 (by decide)) (show F 1 1 = u1_1 from (eu1_1))
  have r2 : HID ((-2147483648 : Int) ≤ u4_1 ∧ u4_1 ≤ 2147483647) := krg_e (show (-2147483648 : Int) ≤ F 4 1 ∧ F 4 1 ≤ 2147483647 from H.krg 4 1 (by decide)) (show F 4 1 = u4_1 from (eu4_1))
  replace pf3 := HIDm pf3
  replace pf4 := HIDm pf4
  replace pf5 := HIDm pf5
  replace en2 := HIDm en2
  replace en3 := HIDm en3
  replace en5 := HIDm en5
  replace eu1_1 := HIDm eu1_1
  replace eu4_1 := HIDm eu4_1
  have r3 : HID ((0 : Int) ≤ n3 ∧ n3 ≤ 1000000) := nrng (H.nle 3 (by decide)) (show (N 3 : Int) = n3 from en3)
  have r4 : HID ((0 : Int) ≤ n5 ∧ n5 ≤ 1000000) := nrng (H.nle 5 (by decide)) (show (N 5 : Int) = n5 from en5)
  have r5 : HID ((0 : Int) ≤ F 4 2 ∧ F 4 2 ≤ 1) := krg_e (show (0 : Int) ≤ F 4 2 ∧ F 4 2 ≤ 1 from H.krg 4 2 (by decide)) (show F 4 2 = F 4 2 from rfl)
  refine Ew_of (pc' := 1) (fun _ => x_aload_n rfl rfl) ?_
  refine v_g H (o := 0) (v := .ref (D 4)) rfl rfl rfl rfl rfl (vrf (pf4)) ?_
  have r6 : HID ((-2147483648 : Int) ≤ F 4 3 ∧ F 4 3 ≤ 2147483647) := krg_e (show (-2147483648 : Int) ≤ F 4 3 ∧ F 4 3 ≤ 2147483647 from H.krg 4 3 (by decide)) (show F 4 3 = F 4 3 from rfl)
  have r7 : HID ((-2147483648 : Int) ≤ F 4 4 ∧ F 4 4 ≤ 2147483647) := krg_e (show (-2147483648 : Int) ≤ F 4 4 ∧ F 4 4 ≤ 2147483647 from H.krg 4 4 (by decide)) (show F 4 4 = F 4 4 from rfl)
  refine v_inv H (o := 4) rfl rfl rfl rfl rfl rfl (by rfl) (C156h (D := pul [4] D) (N := pul [4] N) (HW_sub H (VS_of (show vsub V32_Row_Ir_c21_va1 V156 [4] = true by decide +kernel))) (u4_1) ((eu4_1)) (F 4 2) (rfl) (F 4 3) (rfl) (F 4 4) (rfl)  (fun σ8 F8' A8' H' O' hS8 hA8 y8_0_1 ey8_0_1 y8_0_2 ey8_0_2 y8_0_3 ey8_0_3 y8_0_4 ey8_0_4 pz8_0 pz8_1 => ⟨rfl, ?_⟩))
  replace ey8_0_1 := HIDm ey8_0_1
  replace ey8_0_2 := HIDm ey8_0_2
  replace ey8_0_3 := HIDm ey8_0_3
  replace ey8_0_4 := HIDm ey8_0_4
  refine v_back (c := c) (s := s) H (show vsub V32_Row_Ir_c21_va1 V156 [4] = true by decide +kernel) H' O' (fun F8 A8 H O' eF8 eA8 => ?_)
  have O := OUT_trans O O'
  -- Row.clear
  have r9 : HID ((-2147483648 : Int) ≤ y8_0_1 ∧ y8_0_1 ≤ 2147483647) := krg_e (show (-2147483648 : Int) ≤ F8 4 1 ∧ F8 4 1 ≤ 2147483647 from H.krg 4 1 (by decide)) (show F8 4 1 = y8_0_1 from ((eF8 4 1).trans ey8_0_1))
  have r10 : HID ((0 : Int) ≤ y8_0_2 ∧ y8_0_2 ≤ 1) := krg_e (show (0 : Int) ≤ F8 4 2 ∧ F8 4 2 ≤ 1 from H.krg 4 2 (by decide)) (show F8 4 2 = y8_0_2 from ((eF8 4 2).trans ey8_0_2))
  have r11 : HID ((-2147483648 : Int) ≤ y8_0_3 ∧ y8_0_3 ≤ 2147483647) := krg_e (show (-2147483648 : Int) ≤ F8 4 3 ∧ F8 4 3 ≤ 2147483647 from H.krg 4 3 (by decide)) (show F8 4 3 = y8_0_3 from ((eF8 4 3).trans ey8_0_3))
  have r12 : HID ((-2147483648 : Int) ≤ y8_0_4 ∧ y8_0_4 ≤ 2147483647) := krg_e (show (-2147483648 : Int) ≤ F8 4 4 ∧ F8 4 4 ≤ 2147483647 from H.krg 4 4 (by decide)) (show F8 4 4 = y8_0_4 from ((eF8 4 4).trans ey8_0_4))
  refine Ew_of (pc' := 8) (fun _ => x_iconst rfl) ?_
  refine Ew_of (pc' := 10) (fun _ => x_istore rfl) ?_
  refine Ew_of (pc' := 11) (fun _ => x_iload_n rfl (rk_o (rfl) rfl rfl)) ?_
  refine w_tsk 1 69 rfl (show inr (1) by omega) (by omega) (by decide) rfl rfl ?_
  refine Ew_of (pc' := 70) (fun _ => x_aload_n rfl (rk_o (rfl) rfl rfl)) ?_
  exact hc70  _ _ _ _  (rk_o (rfl) rfl rfl) (rk_o (rfl) rfl rfl) (rk_o (rfl) rfl rfl) H O (SF_trans (SF_refl) (SF_glu (ι := [4]) hS8 eF8 (by decide +kernel)) (any_sub (l' := [(4, 1), (4, 2), (4, 3), (4, 4)]) rfl)) (SA_trans (SA_refl) (SA_glu (ι := [4]) hA8 eA8 (by decide +kernel)) (any_subA (l' := []) rfl))   (y8_0_1) (((eF8 4 1).trans ey8_0_1)) (y8_0_2) (((eF8 4 2).trans ey8_0_2))  (show 0 ≤ (u1_1) ∧ (u1_1) ≤ (n3) ∧ (n3) ≤ 65536 by have qh0 := HIDe r1; have qh1 := HIDe r3; omega) (show 0 ≤ (y8_0_1) ∧ (y8_0_1) ≤ (n5) ∧ (n5) ≤ 65536 by have qh0 := HIDe r4; have qh1 := HIDe r9; omega) (show (y8_0_1) = 0 by have qh0 := HIDe r9; omega) (show (y8_0_2) = 0 by have qh0 := HIDe r10; omega)
abbrev V32_Row_Ir_vb1 : vV := [(0, 0, [(4, 0), (4, 0), (4, 0), (4, 0), (4, 0), (4, 0), (4, 0), (4, 0), (4, 0), (4, 0), (4, 0), (4, 0), (4, 0), (4, 0), (4, 0), (4, 0), (4, 0), (0, 0), (0, 0)]), (0, 7, [(4, 0), (0, 0), (1, 0), (0, 0), (0, 0)]), (1, 1, []), (1, 0, []), (0, 7, [(4, 0), (0, 0), (1, 0), (0, 0), (0, 0)]), (1, 0, []), (0, 11, [(4, 0), (4, 0), (4, 0), (4, 0), (4, 0), (0, 0), (4, 0), (0, 0), (0, 0), (0, 0), (0, 0), (0, 0), (0, 0)]), (0, 7, [(4, 0), (0, 0), (1, 0), (0, 0), (0, 0)]), (1, 0, [])]
/-- PackHouse.unpackRow: this, #1, #2, #1.bytes, this.content, this.content.bytes, this.tokens, this.tokens.past, this.tokens.past.bytes -/
theorem C32_Row_Ir_vb1 {σE : rS} {D N : Nat → Nat} {F : hF} {A : hA} {d c s : Nat} {Q : wQ} (H : HW V32_Row_Ir_vb1 σE D N F A) {x3 : Int} (pf3 : F 1 0 = (D 3 : Int)) (pf4 : F 0 6 = (D 4 : Int)) (pf5 : F 4 0 = (D 5 : Int)) (pf6 : F 0 8 = (D 6 : Int)) (pf7 : F 6 1 = (D 7 : Int)) (pf8 : F 7 0 = (D 8 : Int)) (n2 : Int) (en2 : (N 2 : Int) = n2) (n3 : Int) (en3 : (N 3 : Int) = n3) (n5 : Int) (en5 : (N 5 : Int) = n5) (n8 : Int) (en8 : (N 8 : Int) = n8) (u0_17 : Int) (eu0_17 : F 0 17 = u0_17) (u1_1 : Int) (eu1_1 : F 1 1 = u1_1) (u4_1 : Int) (eu4_1 : F 4 1 = u4_1) (u4_2 : Int) (eu4_2 : F 4 2 = u4_2) (u7_1 : Int) (eu7_1 : F 7 1 = u7_1) (w3 : Int → Int) (ew3 : A 3 = w3) (w5 : Int → Int) (ew5 : A 5 = w5) (w8 : Int → Int) (ew8 : A 8 = w8) {ls : rO} (hl0 : rlook ls 0 = some (.ref (D 0))) (hl1 : rlook ls 1 = some (.ref (D 1))) (hl3 : rlook ls 3 = some (I (x3))) (h0 : inr (x3)) (h1 : 0 ≤ (u1_1) ∧ (u1_1) ≤ (n3) ∧ (n3) ≤ 65536) (h2 : 0 ≤ (u4_1) ∧ (u4_1) ≤ (n5) ∧ (n5) ≤ 65536) (h3 : (u4_1) = 0) (h4 : (u4_2) = 0) (h5 : 0 ≤ (x3) ∧ (x3) ≤ 65536) (h6 : 0 ≤ (u7_1) ∧ (u7_1) ≤ (n8) ∧ (n8) ≤ 65536) (k : ∀ (z : Int) (σ : rS) (D' N' : Nat → Nat) (F' : hF) (A' : hA) (c' s' : Nat), HW V32_Row_Ir_vb1 σ D' N' F' A' → OUT (V32_Row_Ir_vb1).length D N σE c s D' N' σ c' s' → SD [5] D D' → SD [5] N N' → SF [(0, 17), (4, 0), (4, 1), (4, 2), (6, 4), (6, 5), (6, 6), (6, 7), (6, 8), (6, 9), (6, 10), (6, 11), (6, 12)] F F' → SA [5] A A' → F' 4 0 = (D' 5 : Int) → ∀ m5 : Int, (N' 5 : Int) = m5 → ∀ y0_17 : Int, F' 0 17 = y0_17 → ∀ y4_1 : Int, F' 4 1 = y4_1 → ∀ y4_2 : Int, F' 4 2 = y4_2 → ∀ v5 : Int → Int, A' 5 = v5 → (inr (z)) → (0 ≤ (y4_1) ∧ (y4_1) ≤ (m5) ∧ (m5) ≤ 65536) → ((y4_2) = 0) → (RDQ 1 (sc ((w3)) 0 ((u1_1))) (sc ((w8)) 0 ((u7_1))) DCE ((x3)) ((z)) ((y0_17)) (sc ((v5)) 0 ((y4_1)))) → Q (some (I z)) σ c' s') : Ew 32 (d + 6) 73 ls [.ref (D 6)] σE c s Q := by
  have O := OUT_refl (n := (V32_Row_Ir_vb1).length) (D := D) (N := N) (σ := σE) (c := c) (s := s)
  have HE := H
  have r1 : HID ((-2147483648 : Int) ≤ u0_17 ∧ u0_17 ≤ 2147483647) := krg_e (show (-2147483648 : Int) ≤ F 0 17 ∧ F 0 17 ≤ 2147483647 from H.krg 0 17 (by decide)) (show F 0 17 = u0_17 from (eu0_17))
  have r2 : HID ((-2147483648 : Int) ≤ u1_1 ∧ u1_1 ≤ 2147483647) := krg_e (show (-2147483648 : Int) ≤ F 1 1 ∧ F 1 1 ≤ 2147483647 from H.krg 1 1 (by decide)) (show F 1 1 = u1_1 from (eu1_1))
  have r3 : HID ((-2147483648 : Int) ≤ u4_1 ∧ u4_1 ≤ 2147483647) := krg_e (show (-2147483648 : Int) ≤ F 4 1 ∧ F 4 1 ≤ 2147483647 from H.krg 4 1 (by decide)) (show F 4 1 = u4_1 from (eu4_1))
  have r4 : HID ((0 : Int) ≤ u4_2 ∧ u4_2 ≤ 1) := krg_e (show (0 : Int) ≤ F 4 2 ∧ F 4 2 ≤ 1 from H.krg 4 2 (by decide)) (show F 4 2 = u4_2 from (eu4_2))
  have r5 : HID ((-2147483648 : Int) ≤ u7_1 ∧ u7_1 ≤ 2147483647) := krg_e (show (-2147483648 : Int) ≤ F 7 1 ∧ F 7 1 ≤ 2147483647 from H.krg 7 1 (by decide)) (show F 7 1 = u7_1 from (eu7_1))
  replace pf3 := HIDm pf3
  replace pf4 := HIDm pf4
  replace pf5 := HIDm pf5
  replace pf6 := HIDm pf6
  replace pf7 := HIDm pf7
  replace pf8 := HIDm pf8
  replace en2 := HIDm en2
  replace en3 := HIDm en3
  replace en5 := HIDm en5
  replace en8 := HIDm en8
  replace eu0_17 := HIDm eu0_17
  replace eu1_1 := HIDm eu1_1
  replace eu4_1 := HIDm eu4_1
  replace eu4_2 := HIDm eu4_2
  replace eu7_1 := HIDm eu7_1
  have r6 : HID ((0 : Int) ≤ n3 ∧ n3 ≤ 1000000) := nrng (H.nle 3 (by decide)) (show (N 3 : Int) = n3 from en3)
  have r7 : HID ((0 : Int) ≤ n5 ∧ n5 ≤ 1000000) := nrng (H.nle 5 (by decide)) (show (N 5 : Int) = n5 from en5)
  have r8 : HID ((0 : Int) ≤ n8 ∧ n8 ≤ 1000000) := nrng (H.nle 8 (by decide)) (show (N 8 : Int) = n8 from en8)
  refine Ew_of (pc' := 74) (fun _ => x_aload_n rfl hl1) ?_
  refine Ew_of (pc' := 75) (fun _ => x_aload_n rfl hl0) ?_
  refine v_g H (o := 0) (v := .ref (D 4)) rfl rfl rfl rfl rfl (vrf (pf4)) ?_
  refine Ew_of (pc' := 79) (fun _ => x_iload_n rfl hl3) ?_
  have r9 : HID ((-2147483648 : Int) ≤ F 6 12 ∧ F 6 12 ≤ 2147483647) := krg_e (show (-2147483648 : Int) ≤ F 6 12 ∧ F 6 12 ≤ 2147483647 from H.krg 6 12 (by decide)) (show F 6 12 = F 6 12 from rfl)
  refine v_inv H (o := 6) rfl rfl rfl rfl rfl rfl (by rfl) (C226_Row_Row (D := pul [6, 1, 4, 3, 5, 7, 8] D) (N := pul [6, 1, 4, 3, 5, 7, 8] N) (HW_sub H (VS_of (show vsub V32_Row_Ir_vb1 V226_Row_Row [6, 1, 4, 3, 5, 7, 8] = true by decide +kernel))) (pf3) (pf5) (pf7) (pf8) (n3) (en3) (n5) (en5) (n8) (en8) (F 6 12) (rfl) (u1_1) ((eu1_1)) (u4_1) ((eu4_1)) (u4_2) ((eu4_2)) (u7_1) ((eu7_1)) (w3) (ew3) (w5) (ew5) (w8) (ew8) (show inr (x3) by omega) (show 0 ≤ (u1_1) ∧ (u1_1) ≤ (n3) ∧ (n3) ≤ 65536 by have qh0 := HIDe r2; have qh1 := HIDe r6; omega) (show 0 ≤ (u4_1) ∧ (u4_1) ≤ (n5) ∧ (n5) ≤ 65536 by have qh0 := HIDe r3; have qh1 := HIDe r7; omega) (show 0 ≤ (u7_1) ∧ (u7_1) ≤ (n8) ∧ (n8) ≤ 65536 by have qh0 := HIDe r5; have qh1 := HIDe r8; omega) (show 0 ≤ (x3) ∧ (x3) ≤ 65536 by omega) (show (u4_1) = 0 ∧ (u4_2) = 0 by have qh0 := HIDe r3; have qh1 := HIDe r4; omega) (fun z10 σ10 D10' N10' F10' A10' c10 s10 H' O' hD10 hN10 hS10 hA10 pm10_4 m10_4 em10_4 y10_0_12 ey10_0_12 y10_2_1 ey10_2_1 y10_2_2 ey10_2_2 w10_4 ew10_4 pz10_0 pz10_1 pz10_2 pz10_3 pz10_4 pz10_5 pz10_6 => ⟨rfl, ?_⟩))
  replace pm10_4 := HIDm pm10_4
  replace em10_4 := HIDm em10_4
  replace ey10_0_12 := HIDm ey10_0_12
  replace ey10_2_1 := HIDm ey10_2_1
  replace ey10_2_2 := HIDm ey10_2_2
  refine v_backM (c := c) (s := s) H (show vsub V32_Row_Ir_vb1 V226_Row_Row [6, 1, 4, 3, 5, 7, 8] = true by decide +kernel) H' O' hD10 (show vmov V32_Row_Ir_vb1 [6, 1, 4, 3, 5, 7, 8] [4] = true by decide +kernel) (fun D10 N10 F10 A10 H O' eD10 eN10 eF10 eA10 => ?_)
  have O := OUT_trans O O'
  -- Tokens.unpackFrames
  have pf10_0_6 : HID (F10 0 6 = (D10 4 : Int)) := ((show F10 0 6 = F 0 6 from (eF10 0 6))).trans ((pf4).trans (congrArg (fun q : Nat => (q : Int)) ((show D10 4 = D 4 from (eD10 4).trans (hD10 2 rfl))).symm))
  have pf10_0_8 : HID (F10 0 8 = (D10 6 : Int)) := ((show F10 0 8 = F 0 8 from (eF10 0 8))).trans ((pf6).trans (congrArg (fun q : Nat => (q : Int)) ((show D10 6 = D 6 from (eD10 6).trans (hD10 0 rfl))).symm))
  have pf10_1_0 : HID (F10 1 0 = (D10 3 : Int)) := ((show F10 1 0 = F 1 0 from (eF10 1 0).trans (hS10 1 0 rfl))).trans ((pf3).trans (congrArg (fun q : Nat => (q : Int)) ((show D10 3 = D 3 from (eD10 3).trans (hD10 3 rfl))).symm))
  have pf10_4_0 : HID (F10 4 0 = (D10 5 : Int)) := (eF10 4 0).trans (pm10_4.trans (congrArg (fun q : Nat => (q : Int)) (eD10 5).symm))
  have pf10_6_1 : HID (F10 6 1 = (D10 7 : Int)) := ((show F10 6 1 = F 6 1 from (eF10 6 1).trans (hS10 0 1 rfl))).trans ((pf7).trans (congrArg (fun q : Nat => (q : Int)) ((show D10 7 = D 7 from (eD10 7).trans (hD10 5 rfl))).symm))
  have pf10_7_0 : HID (F10 7 0 = (D10 8 : Int)) := ((show F10 7 0 = F 7 0 from (eF10 7 0).trans (hS10 5 0 rfl))).trans ((pf8).trans (congrArg (fun q : Nat => (q : Int)) ((show D10 8 = D 8 from (eD10 8).trans (hD10 6 rfl))).symm))
  have r11 : HID ((0 : Int) ≤ m10_4 ∧ m10_4 ≤ 1000000) := nrng (H.nle 5 (by decide)) (show (N10 5 : Int) = m10_4 from (congrArg (fun q : Nat => (q : Int)) (eN10 5)).trans em10_4)
  have r12 : HID ((-2147483648 : Int) ≤ y10_0_12 ∧ y10_0_12 ≤ 2147483647) := krg_e (show (-2147483648 : Int) ≤ F10 6 12 ∧ F10 6 12 ≤ 2147483647 from H.krg 6 12 (by decide)) (show F10 6 12 = y10_0_12 from ((eF10 6 12).trans ey10_0_12))
  have r13 : HID ((-2147483648 : Int) ≤ y10_2_1 ∧ y10_2_1 ≤ 2147483647) := krg_e (show (-2147483648 : Int) ≤ F10 4 1 ∧ F10 4 1 ≤ 2147483647 from H.krg 4 1 (by decide)) (show F10 4 1 = y10_2_1 from ((eF10 4 1).trans ey10_2_1))
  have r14 : HID ((0 : Int) ≤ y10_2_2 ∧ y10_2_2 ≤ 1) := krg_e (show (0 : Int) ≤ F10 4 2 ∧ F10 4 2 ≤ 1 from H.krg 4 2 (by decide)) (show F10 4 2 = y10_2_2 from ((eF10 4 2).trans ey10_2_2))
  refine Ew_of (pc' := 84) (fun _ => x_istore rfl) ?_
  refine Ew_of (pc' := 85) (fun _ => x_aload_n rfl (rk_o (hl0) rfl rfl)) ?_
  refine Ew_of (pc' := 86) (fun _ => x_aload_n rfl (rk_o (hl0) rfl rfl)) ?_
  refine Ew_stk (show ([.ref (D 0), .ref (D 0)] : List Value) = [.ref (D10 0), .ref (D10 0)] by rw [show D10 0 = D 0 from ((show D10 0 = D 0 from (eD10 0)))]) ?_
  refine v_g H (o := 0) (v := .ref (D10 6)) rfl rfl rfl rfl rfl (vrf (pf10_0_8)) ?_
  refine v_g H (o := 6) (v := I (y10_0_12)) rfl rfl rfl rfl rfl (congrArg (fun z : Int => I z) (((eF10 6 12).trans ey10_0_12) : F10 6 12 = y10_0_12)) ?_
  refine v_p H (o := 0) (z := y10_0_12) (v := I (y10_0_12)) rfl rfl rfl rfl rfl rfl rfl rfl (show (-2147483648 : Int) ≤ y10_0_12 ∧ y10_0_12 ≤ 2147483647 by have qh0 := HIDe r12; omega) (fun σ H O' => ?_)
  have O := OUT_trans O O'
  refine Ew_of (pc' := 188) (fun _ => x_goto rfl rfl) ?_
  refine Ew_of (pc' := 190) (fun _ => x_iload rfl rk_s) ?_
  refine w_ifne (t := 203) rfl rfl (show inr (z10) by omega) (fun b15 => ?_) (fun b15 => ?_)
  · refine Ew_of (pc' := 205) (fun _ => x_iload rfl rk_s) ?_
    refine w_ineg rfl ?_
    have : RDQ 1 (sc ((w3)) 0 ((u1_1))) (sc ((w8)) 0 ((u7_1))) DCE ((x3)) (((-z10))) ((y10_0_12)) (sc ((w10_4)) 0 ((y10_2_1))) := RDQ_c1 pz10_4 pz10_5 (by (have qg0 := HIDe r12; have qg1 := HIDe r13; have qg2 := HIDe r2; have qg3 := HIDe r5; omega)) (by (have qg0 := HIDe r12; have qg1 := HIDe r13; have qg2 := HIDe r2; have qg3 := HIDe r5; omega)) (by (have qg0 := HIDe r12; have qg1 := HIDe r13; have qg2 := HIDe r2; have qg3 := HIDe r5; omega))
    exact w_ireturn rfl (k ((-z10)) _ _ _ _ _ _ _ H O (SD_trans (SD_refl) (SD_glu (ι := [6, 1, 4, 3, 5, 7, 8]) hD10 eD10 (by decide +kernel)) (any_subA (l' := [5]) rfl)) (SD_trans (SD_refl) (SD_glu (ι := [6, 1, 4, 3, 5, 7, 8]) hN10 eN10 (by decide +kernel)) (any_subA (l' := [5]) rfl)) (SF_upd (SF_trans (SF_refl) (SF_glu (ι := [6, 1, 4, 3, 5, 7, 8]) hS10 eF10 (by decide +kernel)) (any_sub (l' := [(4, 0), (4, 1), (4, 2), (6, 4), (6, 5), (6, 6), (6, 7), (6, 8), (6, 9), (6, 10), (6, 11), (6, 12)]) rfl)) rfl) (SA_trans (SA_refl) (SA_glu (ι := [6, 1, 4, 3, 5, 7, 8]) hA10 eA10 (by decide +kernel)) (any_subA (l' := [5]) rfl)) (pf10_4_0) (m10_4) ((congrArg (fun q : Nat => (q : Int)) (eN10 5)).trans em10_4) (y10_0_12) (rfl) (y10_2_1) (((eF10 4 1).trans ey10_2_1)) (y10_2_2) (((eF10 4 2).trans ey10_2_2)) (w10_4) ((eA10 5).trans ew10_4) (show inr ((-z10)) by omega) (show 0 ≤ (y10_2_1) ∧ (y10_2_1) ≤ (m10_4) ∧ (m10_4) ≤ 65536 by have qh0 := HIDe r11; have qh1 := HIDe r13; omega) (show (y10_2_2) = 0 by have qh0 := HIDe r14; omega) (by assumption))
  · refine Ew_of (pc' := 194) (fun _ => x_aload_n rfl (rk_o (hl0) rfl rfl)) ?_
    refine Ew_stk (show ([.ref (D 0)] : List Value) = [.ref (D10 0)] by rw [show D10 0 = D 0 from ((show D10 0 = D 0 from (eD10 0)))]) ?_
    refine v_g H (o := 0) (v := .ref (D10 4)) rfl rfl rfl rfl rfl (vrf (pf10_0_6)) ?_
    refine v_g H (o := 4) (v := I (y10_2_1)) rfl rfl rfl rfl rfl (congrArg (fun z : Int => I z) (((eF10 4 1).trans ey10_2_1) : (updF F10 0 17 (y10_0_12)) 4 1 = y10_2_1)) ?_
    refine Ew_of (pc' := 206) (fun _ => x_goto rfl rfl) ?_
    have : RDQ 1 (sc ((w3)) 0 ((u1_1))) (sc ((w8)) 0 ((u7_1))) DCE ((x3)) ((y10_2_1)) ((y10_0_12)) (sc ((w10_4)) 0 ((y10_2_1))) := RDQ_c1 pz10_4 pz10_5 (by (have qg0 := HIDe r12; have qg1 := HIDe r13; have qg2 := HIDe r2; have qg3 := HIDe r5; omega)) (by (have qg0 := HIDe r12; have qg1 := HIDe r13; have qg2 := HIDe r2; have qg3 := HIDe r5; omega)) (by (have qg0 := HIDe r12; have qg1 := HIDe r13; have qg2 := HIDe r2; have qg3 := HIDe r5; omega))
    exact w_ireturn rfl (k (y10_2_1) _ _ _ _ _ _ _ H O (SD_trans (SD_refl) (SD_glu (ι := [6, 1, 4, 3, 5, 7, 8]) hD10 eD10 (by decide +kernel)) (any_subA (l' := [5]) rfl)) (SD_trans (SD_refl) (SD_glu (ι := [6, 1, 4, 3, 5, 7, 8]) hN10 eN10 (by decide +kernel)) (any_subA (l' := [5]) rfl)) (SF_upd (SF_trans (SF_refl) (SF_glu (ι := [6, 1, 4, 3, 5, 7, 8]) hS10 eF10 (by decide +kernel)) (any_sub (l' := [(4, 0), (4, 1), (4, 2), (6, 4), (6, 5), (6, 6), (6, 7), (6, 8), (6, 9), (6, 10), (6, 11), (6, 12)]) rfl)) rfl) (SA_trans (SA_refl) (SA_glu (ι := [6, 1, 4, 3, 5, 7, 8]) hA10 eA10 (by decide +kernel)) (any_subA (l' := [5]) rfl)) (pf10_4_0) (m10_4) ((congrArg (fun q : Nat => (q : Int)) (eN10 5)).trans em10_4) (y10_0_12) (rfl) (y10_2_1) (((eF10 4 1).trans ey10_2_1)) (y10_2_2) (((eF10 4 2).trans ey10_2_2)) (w10_4) ((eA10 5).trans ew10_4) (show inr (y10_2_1) by have qh0 := HIDe r13; omega) (show 0 ≤ (y10_2_1) ∧ (y10_2_1) ≤ (m10_4) ∧ (m10_4) ≤ 65536 by have qh0 := HIDe r11; have qh1 := HIDe r13; omega) (show (y10_2_2) = 0 by have qh0 := HIDe r14; omega) (by assumption))
abbrev V32_Row_Ir_c22_va2 : vV := [(0, 0, [(4, 0), (4, 0), (4, 0), (4, 0), (4, 0), (4, 0), (4, 0), (4, 0), (4, 0), (4, 0), (4, 0), (4, 0), (4, 0), (4, 0), (4, 0), (4, 0), (4, 0), (0, 0), (0, 0)]), (0, 7, [(4, 0), (0, 0), (1, 0), (0, 0), (0, 0)]), (1, 1, []), (1, 0, []), (0, 7, [(4, 0), (0, 0), (1, 0), (0, 0), (0, 0)]), (1, 0, [])]
/-- PackHouse.unpackRow: this, #1, #2, #1.bytes, this.content, this.content.bytes -/
theorem C32_Row_Ir_c22_va2 {σE : rS} {D N : Nat → Nat} {F : hF} {A : hA} {d c s : Nat} {Q : wQ} (H : HW V32_Row_Ir_c22_va2 σE D N F A) {a3 : Int} (pf3 : F 1 0 = (D 3 : Int)) (pf4 : F 0 6 = (D 4 : Int)) (pf5 : F 4 0 = (D 5 : Int)) (n2 : Int) (en2 : (N 2 : Int) = n2) (n3 : Int) (en3 : (N 3 : Int) = n3) (n5 : Int) (en5 : (N 5 : Int) = n5) (u1_1 : Int) (eu1_1 : F 1 1 = u1_1) (u4_1 : Int) (eu4_1 : F 4 1 = u4_1) (h0 : inr (2)) (h1 : inr (a3)) (h2 : 0 ≤ (u1_1) ∧ (u1_1) ≤ (n3) ∧ (n3) ≤ 65536) (h3 : 0 ≤ (u4_1) ∧ (u4_1) ≤ (n5) ∧ (n5) ≤ 65536) (hc99 : ∀ (ls : rO) (σ : rS) (F_c99 : hF) (A_c99 : hA) , rlook ls 0 = some (.ref (D 0)) → rlook ls 1 = some (.ref (D 1)) → rlook ls 3 = some (I (a3)) → HW V32_Row_Ir_c22_va2 σ D N F_c99 A_c99 → OUT (V32_Row_Ir_c22_va2).length D N σE c s D N σ c s → SF [(4, 1), (4, 2), (4, 3), (4, 4)] F F_c99 → SA [] A A_c99 → ∀ yc99_4_1 : Int, F_c99 4 1 = yc99_4_1 → ∀ yc99_4_2 : Int, F_c99 4 2 = yc99_4_2 → (0 ≤ (u1_1) ∧ (u1_1) ≤ (n3) ∧ (n3) ≤ 65536) → (0 ≤ (yc99_4_1) ∧ (yc99_4_1) ≤ (n5) ∧ (n5) ≤ 65536) → ((yc99_4_1) = 0) → ((yc99_4_2) = 0) → Ew 32 (d + 1) 99 ls [.ref (D 0)] σ c s Q) (k : ∀ (z : Int) (σ : rS) (F' : hF) (A' : hA), HW V32_Row_Ir_c22_va2 σ D N F' A' → OUT (V32_Row_Ir_c22_va2).length D N σE c s D N σ c s → SF [(4, 1), (4, 2), (4, 3), (4, 4)] F F' → SA [] A A' → ∀ y4_1 : Int, F' 4 1 = y4_1 → (inr (z)) → (0 ≤ (y4_1) ∧ (y4_1) ≤ (n5) ∧ (n5) ≤ 65536) → ((0 : Int) = 1) → Q (some (I z)) σ c s) : Ew 32 (d + 1) 0 (rargs 0 [.ref (D 0), .ref (D 1), I 2, I a3, .ref (D 2)]) [] σE c s Q := by
  have O := OUT_refl (n := (V32_Row_Ir_c22_va2).length) (D := D) (N := N) (σ := σE) (c := c) (s := s)
  have HE := H
  have r1 : HID ((-2147483648 : Int) ≤ u1_1 ∧ u1_1 ≤ 2147483647) := krg_e (show (-2147483648 : Int) ≤ F 1 1 ∧ F 1 1 ≤ 2147483647 from H.krg 1 1 (by decide)) (show F 1 1 = u1_1 from (eu1_1))
  have r2 : HID ((-2147483648 : Int) ≤ u4_1 ∧ u4_1 ≤ 2147483647) := krg_e (show (-2147483648 : Int) ≤ F 4 1 ∧ F 4 1 ≤ 2147483647 from H.krg 4 1 (by decide)) (show F 4 1 = u4_1 from (eu4_1))
  replace pf3 := HIDm pf3
  replace pf4 := HIDm pf4
  replace pf5 := HIDm pf5
  replace en2 := HIDm en2
  replace en3 := HIDm en3
  replace en5 := HIDm en5
  replace eu1_1 := HIDm eu1_1
  replace eu4_1 := HIDm eu4_1
  have r3 : HID ((0 : Int) ≤ n3 ∧ n3 ≤ 1000000) := nrng (H.nle 3 (by decide)) (show (N 3 : Int) = n3 from en3)
  have r4 : HID ((0 : Int) ≤ n5 ∧ n5 ≤ 1000000) := nrng (H.nle 5 (by decide)) (show (N 5 : Int) = n5 from en5)
  have r5 : HID ((0 : Int) ≤ F 4 2 ∧ F 4 2 ≤ 1) := krg_e (show (0 : Int) ≤ F 4 2 ∧ F 4 2 ≤ 1 from H.krg 4 2 (by decide)) (show F 4 2 = F 4 2 from rfl)
  refine Ew_of (pc' := 1) (fun _ => x_aload_n rfl rfl) ?_
  refine v_g H (o := 0) (v := .ref (D 4)) rfl rfl rfl rfl rfl (vrf (pf4)) ?_
  have r6 : HID ((-2147483648 : Int) ≤ F 4 3 ∧ F 4 3 ≤ 2147483647) := krg_e (show (-2147483648 : Int) ≤ F 4 3 ∧ F 4 3 ≤ 2147483647 from H.krg 4 3 (by decide)) (show F 4 3 = F 4 3 from rfl)
  have r7 : HID ((-2147483648 : Int) ≤ F 4 4 ∧ F 4 4 ≤ 2147483647) := krg_e (show (-2147483648 : Int) ≤ F 4 4 ∧ F 4 4 ≤ 2147483647 from H.krg 4 4 (by decide)) (show F 4 4 = F 4 4 from rfl)
  refine v_inv H (o := 4) rfl rfl rfl rfl rfl rfl (by rfl) (C156h (D := pul [4] D) (N := pul [4] N) (HW_sub H (VS_of (show vsub V32_Row_Ir_c22_va2 V156 [4] = true by decide +kernel))) (u4_1) ((eu4_1)) (F 4 2) (rfl) (F 4 3) (rfl) (F 4 4) (rfl)  (fun σ8 F8' A8' H' O' hS8 hA8 y8_0_1 ey8_0_1 y8_0_2 ey8_0_2 y8_0_3 ey8_0_3 y8_0_4 ey8_0_4 pz8_0 pz8_1 => ⟨rfl, ?_⟩))
  replace ey8_0_1 := HIDm ey8_0_1
  replace ey8_0_2 := HIDm ey8_0_2
  replace ey8_0_3 := HIDm ey8_0_3
  replace ey8_0_4 := HIDm ey8_0_4
  refine v_back (c := c) (s := s) H (show vsub V32_Row_Ir_c22_va2 V156 [4] = true by decide +kernel) H' O' (fun F8 A8 H O' eF8 eA8 => ?_)
  have O := OUT_trans O O'
  -- Row.clear
  have r9 : HID ((-2147483648 : Int) ≤ y8_0_1 ∧ y8_0_1 ≤ 2147483647) := krg_e (show (-2147483648 : Int) ≤ F8 4 1 ∧ F8 4 1 ≤ 2147483647 from H.krg 4 1 (by decide)) (show F8 4 1 = y8_0_1 from ((eF8 4 1).trans ey8_0_1))
  have r10 : HID ((0 : Int) ≤ y8_0_2 ∧ y8_0_2 ≤ 1) := krg_e (show (0 : Int) ≤ F8 4 2 ∧ F8 4 2 ≤ 1 from H.krg 4 2 (by decide)) (show F8 4 2 = y8_0_2 from ((eF8 4 2).trans ey8_0_2))
  have r11 : HID ((-2147483648 : Int) ≤ y8_0_3 ∧ y8_0_3 ≤ 2147483647) := krg_e (show (-2147483648 : Int) ≤ F8 4 3 ∧ F8 4 3 ≤ 2147483647 from H.krg 4 3 (by decide)) (show F8 4 3 = y8_0_3 from ((eF8 4 3).trans ey8_0_3))
  have r12 : HID ((-2147483648 : Int) ≤ y8_0_4 ∧ y8_0_4 ≤ 2147483647) := krg_e (show (-2147483648 : Int) ≤ F8 4 4 ∧ F8 4 4 ≤ 2147483647 from H.krg 4 4 (by decide)) (show F8 4 4 = y8_0_4 from ((eF8 4 4).trans ey8_0_4))
  refine Ew_of (pc' := 8) (fun _ => x_iconst rfl) ?_
  refine Ew_of (pc' := 10) (fun _ => x_istore rfl) ?_
  refine Ew_of (pc' := 11) (fun _ => x_iload_n rfl (rk_o (rfl) rfl rfl)) ?_
  refine w_tsk 2 98 rfl (show inr (2) by omega) (by omega) (by decide) rfl rfl ?_
  refine Ew_of (pc' := 99) (fun _ => x_aload_n rfl (rk_o (rfl) rfl rfl)) ?_
  exact hc99  _ _ _ _  (rk_o (rfl) rfl rfl) (rk_o (rfl) rfl rfl) (rk_o (rfl) rfl rfl) H O (SF_trans (SF_refl) (SF_glu (ι := [4]) hS8 eF8 (by decide +kernel)) (any_sub (l' := [(4, 1), (4, 2), (4, 3), (4, 4)]) rfl)) (SA_trans (SA_refl) (SA_glu (ι := [4]) hA8 eA8 (by decide +kernel)) (any_subA (l' := []) rfl))   (y8_0_1) (((eF8 4 1).trans ey8_0_1)) (y8_0_2) (((eF8 4 2).trans ey8_0_2))  (show 0 ≤ (u1_1) ∧ (u1_1) ≤ (n3) ∧ (n3) ≤ 65536 by have qh0 := HIDe r1; have qh1 := HIDe r3; omega) (show 0 ≤ (y8_0_1) ∧ (y8_0_1) ≤ (n5) ∧ (n5) ≤ 65536 by have qh0 := HIDe r4; have qh1 := HIDe r9; omega) (show (y8_0_1) = 0 by have qh0 := HIDe r9; omega) (show (y8_0_2) = 0 by have qh0 := HIDe r10; omega)
abbrev V32_Row_Ir_vb2 : vV := [(0, 0, [(4, 0), (4, 0), (4, 0), (4, 0), (4, 0), (4, 0), (4, 0), (4, 0), (4, 0), (4, 0), (4, 0), (4, 0), (4, 0), (4, 0), (4, 0), (4, 0), (4, 0), (0, 0), (0, 0)]), (0, 7, [(4, 0), (0, 0), (1, 0), (0, 0), (0, 0)]), (1, 1, []), (1, 0, []), (0, 7, [(4, 0), (0, 0), (1, 0), (0, 0), (0, 0)]), (1, 0, []), (0, 10, [(4, 0), (4, 0), (4, 0), (4, 0), (0, 0), (4, 0), (0, 0), (2, 0), (0, 0)])]
/-- PackHouse.unpackRow: this, #1, #2, #1.bytes, this.content, this.content.bytes, this.tags -/
theorem C32_Row_Ir_vb2 {σE : rS} {D N : Nat → Nat} {F : hF} {A : hA} {d c s : Nat} {Q : wQ} (H : HW V32_Row_Ir_vb2 σE D N F A) {x3 : Int} (pf3 : F 1 0 = (D 3 : Int)) (pf4 : F 0 6 = (D 4 : Int)) (pf5 : F 4 0 = (D 5 : Int)) (pf6 : F 0 9 = (D 6 : Int)) (n2 : Int) (en2 : (N 2 : Int) = n2) (n3 : Int) (en3 : (N 3 : Int) = n3) (n5 : Int) (en5 : (N 5 : Int) = n5) (u0_17 : Int) (eu0_17 : F 0 17 = u0_17) (u1_1 : Int) (eu1_1 : F 1 1 = u1_1) (u4_1 : Int) (eu4_1 : F 4 1 = u4_1) (u4_2 : Int) (eu4_2 : F 4 2 = u4_2) (w3 : Int → Int) (ew3 : A 3 = w3) (w5 : Int → Int) (ew5 : A 5 = w5) {ls : rO} (hl0 : rlook ls 0 = some (.ref (D 0))) (hl1 : rlook ls 1 = some (.ref (D 1))) (hl3 : rlook ls 3 = some (I (x3))) (h0 : inr (x3)) (h1 : 0 ≤ (u1_1) ∧ (u1_1) ≤ (n3) ∧ (n3) ≤ 65536) (h2 : 0 ≤ (u4_1) ∧ (u4_1) ≤ (n5) ∧ (n5) ≤ 65536) (h3 : (u4_1) = 0) (h4 : (u4_2) = 0) (h5 : 0 ≤ (x3) ∧ (x3) ≤ 65536) (k : ∀ (z : Int) (σ : rS) (D' N' : Nat → Nat) (F' : hF) (A' : hA) (c' s' : Nat), HW V32_Row_Ir_vb2 σ D' N' F' A' → OUT (V32_Row_Ir_vb2).length D N σE c s D' N' σ c' s' → SD [5] D D' → SD [5] N N' → SF [(0, 17), (4, 0), (4, 1), (4, 2), (6, 3), (6, 4), (6, 5), (6, 6), (6, 7), (6, 8)] F F' → SA [5] A A' → F' 4 0 = (D' 5 : Int) → ∀ m5 : Int, (N' 5 : Int) = m5 → ∀ y0_17 : Int, F' 0 17 = y0_17 → ∀ y4_1 : Int, F' 4 1 = y4_1 → ∀ y4_2 : Int, F' 4 2 = y4_2 → ∀ v5 : Int → Int, A' 5 = v5 → (inr (z)) → (0 ≤ (y4_1) ∧ (y4_1) ≤ (m5) ∧ (m5) ≤ 65536) → ((y4_2) = 0) → (RDQ 2 (sc ((w3)) 0 ((u1_1))) ([]) DCE ((x3)) ((z)) ((y0_17)) (sc ((v5)) 0 ((y4_1)))) → Q (some (I z)) σ c' s') : Ew 32 (d + 5) 102 ls [.ref (D 6)] σE c s Q := by
  have O := OUT_refl (n := (V32_Row_Ir_vb2).length) (D := D) (N := N) (σ := σE) (c := c) (s := s)
  have HE := H
  have r1 : HID ((-2147483648 : Int) ≤ u0_17 ∧ u0_17 ≤ 2147483647) := krg_e (show (-2147483648 : Int) ≤ F 0 17 ∧ F 0 17 ≤ 2147483647 from H.krg 0 17 (by decide)) (show F 0 17 = u0_17 from (eu0_17))
  have r2 : HID ((-2147483648 : Int) ≤ u1_1 ∧ u1_1 ≤ 2147483647) := krg_e (show (-2147483648 : Int) ≤ F 1 1 ∧ F 1 1 ≤ 2147483647 from H.krg 1 1 (by decide)) (show F 1 1 = u1_1 from (eu1_1))
  have r3 : HID ((-2147483648 : Int) ≤ u4_1 ∧ u4_1 ≤ 2147483647) := krg_e (show (-2147483648 : Int) ≤ F 4 1 ∧ F 4 1 ≤ 2147483647 from H.krg 4 1 (by decide)) (show F 4 1 = u4_1 from (eu4_1))
  have r4 : HID ((0 : Int) ≤ u4_2 ∧ u4_2 ≤ 1) := krg_e (show (0 : Int) ≤ F 4 2 ∧ F 4 2 ≤ 1 from H.krg 4 2 (by decide)) (show F 4 2 = u4_2 from (eu4_2))
  replace pf3 := HIDm pf3
  replace pf4 := HIDm pf4
  replace pf5 := HIDm pf5
  replace pf6 := HIDm pf6
  replace en2 := HIDm en2
  replace en3 := HIDm en3
  replace en5 := HIDm en5
  replace eu0_17 := HIDm eu0_17
  replace eu1_1 := HIDm eu1_1
  replace eu4_1 := HIDm eu4_1
  replace eu4_2 := HIDm eu4_2
  have r5 : HID ((0 : Int) ≤ n3 ∧ n3 ≤ 1000000) := nrng (H.nle 3 (by decide)) (show (N 3 : Int) = n3 from en3)
  have r6 : HID ((0 : Int) ≤ n5 ∧ n5 ≤ 1000000) := nrng (H.nle 5 (by decide)) (show (N 5 : Int) = n5 from en5)
  refine Ew_of (pc' := 103) (fun _ => x_aload_n rfl hl1) ?_
  refine Ew_of (pc' := 104) (fun _ => x_aload_n rfl hl0) ?_
  refine v_g H (o := 0) (v := .ref (D 4)) rfl rfl rfl rfl rfl (vrf (pf4)) ?_
  refine Ew_of (pc' := 108) (fun _ => x_iload_n rfl hl3) ?_
  have r7 : HID ((-2147483648 : Int) ≤ F 6 8 ∧ F 6 8 ≤ 2147483647) := krg_e (show (-2147483648 : Int) ≤ F 6 8 ∧ F 6 8 ≤ 2147483647 from H.krg 6 8 (by decide)) (show F 6 8 = F 6 8 from rfl)
  refine v_inv H (o := 6) rfl rfl rfl rfl rfl rfl (by rfl) (C205_Row_Row (D := pul [6, 1, 4, 3, 5] D) (N := pul [6, 1, 4, 3, 5] N) (HW_sub H (VS_of (show vsub V32_Row_Ir_vb2 V205_Row_Row [6, 1, 4, 3, 5] = true by decide +kernel))) (pf3) (pf5) (n3) (en3) (n5) (en5) (F 6 8) (rfl) (u1_1) ((eu1_1)) (u4_1) ((eu4_1)) (u4_2) ((eu4_2)) (w3) (ew3) (w5) (ew5) (show inr (x3) by omega) (show 0 ≤ (u1_1) ∧ (u1_1) ≤ (n3) ∧ (n3) ≤ 65536 by have qh0 := HIDe r2; have qh1 := HIDe r5; omega) (show 0 ≤ (u4_1) ∧ (u4_1) ≤ (n5) ∧ (n5) ≤ 65536 by have qh0 := HIDe r3; have qh1 := HIDe r6; omega) (show 0 ≤ (x3) ∧ (x3) ≤ 65536 by omega) (show (u4_1) = 0 ∧ (u4_2) = 0 by have qh0 := HIDe r3; have qh1 := HIDe r4; omega) (fun z8 σ8 D8' N8' F8' A8' c8 s8 H' O' hD8 hN8 hS8 hA8 pm8_4 m8_4 em8_4 y8_0_8 ey8_0_8 y8_2_1 ey8_2_1 y8_2_2 ey8_2_2 w8_4 ew8_4 pz8_0 pz8_1 pz8_2 pz8_3 pz8_4 pz8_5 pz8_6 => ⟨rfl, ?_⟩))
  replace pm8_4 := HIDm pm8_4
  replace em8_4 := HIDm em8_4
  replace ey8_0_8 := HIDm ey8_0_8
  replace ey8_2_1 := HIDm ey8_2_1
  replace ey8_2_2 := HIDm ey8_2_2
  refine v_backM (c := c) (s := s) H (show vsub V32_Row_Ir_vb2 V205_Row_Row [6, 1, 4, 3, 5] = true by decide +kernel) H' O' hD8 (show vmov V32_Row_Ir_vb2 [6, 1, 4, 3, 5] [4] = true by decide +kernel) (fun D8 N8 F8 A8 H O' eD8 eN8 eF8 eA8 => ?_)
  have O := OUT_trans O O'
  -- Tags.unpackAlone
  have pf8_0_6 : HID (F8 0 6 = (D8 4 : Int)) := ((show F8 0 6 = F 0 6 from (eF8 0 6))).trans ((pf4).trans (congrArg (fun q : Nat => (q : Int)) ((show D8 4 = D 4 from (eD8 4).trans (hD8 2 rfl))).symm))
  have pf8_0_9 : HID (F8 0 9 = (D8 6 : Int)) := ((show F8 0 9 = F 0 9 from (eF8 0 9))).trans ((pf6).trans (congrArg (fun q : Nat => (q : Int)) ((show D8 6 = D 6 from (eD8 6).trans (hD8 0 rfl))).symm))
  have pf8_1_0 : HID (F8 1 0 = (D8 3 : Int)) := ((show F8 1 0 = F 1 0 from (eF8 1 0).trans (hS8 1 0 rfl))).trans ((pf3).trans (congrArg (fun q : Nat => (q : Int)) ((show D8 3 = D 3 from (eD8 3).trans (hD8 3 rfl))).symm))
  have pf8_4_0 : HID (F8 4 0 = (D8 5 : Int)) := (eF8 4 0).trans (pm8_4.trans (congrArg (fun q : Nat => (q : Int)) (eD8 5).symm))
  have r9 : HID ((0 : Int) ≤ m8_4 ∧ m8_4 ≤ 1000000) := nrng (H.nle 5 (by decide)) (show (N8 5 : Int) = m8_4 from (congrArg (fun q : Nat => (q : Int)) (eN8 5)).trans em8_4)
  have r10 : HID ((-2147483648 : Int) ≤ y8_0_8 ∧ y8_0_8 ≤ 2147483647) := krg_e (show (-2147483648 : Int) ≤ F8 6 8 ∧ F8 6 8 ≤ 2147483647 from H.krg 6 8 (by decide)) (show F8 6 8 = y8_0_8 from ((eF8 6 8).trans ey8_0_8))
  have r11 : HID ((-2147483648 : Int) ≤ y8_2_1 ∧ y8_2_1 ≤ 2147483647) := krg_e (show (-2147483648 : Int) ≤ F8 4 1 ∧ F8 4 1 ≤ 2147483647 from H.krg 4 1 (by decide)) (show F8 4 1 = y8_2_1 from ((eF8 4 1).trans ey8_2_1))
  have r12 : HID ((0 : Int) ≤ y8_2_2 ∧ y8_2_2 ≤ 1) := krg_e (show (0 : Int) ≤ F8 4 2 ∧ F8 4 2 ≤ 1 from H.krg 4 2 (by decide)) (show F8 4 2 = y8_2_2 from ((eF8 4 2).trans ey8_2_2))
  refine Ew_of (pc' := 113) (fun _ => x_istore rfl) ?_
  refine Ew_of (pc' := 114) (fun _ => x_aload_n rfl (rk_o (hl0) rfl rfl)) ?_
  refine Ew_of (pc' := 115) (fun _ => x_aload_n rfl (rk_o (hl0) rfl rfl)) ?_
  refine Ew_stk (show ([.ref (D 0), .ref (D 0)] : List Value) = [.ref (D8 0), .ref (D8 0)] by rw [show D8 0 = D 0 from ((show D8 0 = D 0 from (eD8 0)))]) ?_
  refine v_g H (o := 0) (v := .ref (D8 6)) rfl rfl rfl rfl rfl (vrf (pf8_0_9)) ?_
  refine v_g H (o := 6) (v := I (y8_0_8)) rfl rfl rfl rfl rfl (congrArg (fun z : Int => I z) (((eF8 6 8).trans ey8_0_8) : F8 6 8 = y8_0_8)) ?_
  refine v_p H (o := 0) (z := y8_0_8) (v := I (y8_0_8)) rfl rfl rfl rfl rfl rfl rfl rfl (show (-2147483648 : Int) ≤ y8_0_8 ∧ y8_0_8 ≤ 2147483647 by have qh0 := HIDe r10; omega) (fun σ H O' => ?_)
  have O := OUT_trans O O'
  refine Ew_of (pc' := 188) (fun _ => x_goto rfl rfl) ?_
  refine Ew_of (pc' := 190) (fun _ => x_iload rfl rk_s) ?_
  refine w_ifne (t := 203) rfl rfl (show inr (z8) by omega) (fun b13 => ?_) (fun b13 => ?_)
  · refine Ew_of (pc' := 205) (fun _ => x_iload rfl rk_s) ?_
    refine w_ineg rfl ?_
    have : RDQ 2 (sc ((w3)) 0 ((u1_1))) ([]) DCE ((x3)) (((-z8))) ((y8_0_8)) (sc ((w8_4)) 0 ((y8_2_1))) := RDQ_c2 pz8_4 pz8_5 (by (have qg0 := HIDe r10; have qg1 := HIDe r11; have qg2 := HIDe r2; omega)) (by (have qg0 := HIDe r10; have qg1 := HIDe r11; have qg2 := HIDe r2; omega)) (by (have qg0 := HIDe r10; have qg1 := HIDe r11; have qg2 := HIDe r2; omega)) (by (have qg0 := HIDe r10; have qg1 := HIDe r11; have qg2 := HIDe r2; omega))
    exact w_ireturn rfl (k ((-z8)) _ _ _ _ _ _ _ H O (SD_trans (SD_refl) (SD_glu (ι := [6, 1, 4, 3, 5]) hD8 eD8 (by decide +kernel)) (any_subA (l' := [5]) rfl)) (SD_trans (SD_refl) (SD_glu (ι := [6, 1, 4, 3, 5]) hN8 eN8 (by decide +kernel)) (any_subA (l' := [5]) rfl)) (SF_upd (SF_trans (SF_refl) (SF_glu (ι := [6, 1, 4, 3, 5]) hS8 eF8 (by decide +kernel)) (any_sub (l' := [(4, 0), (4, 1), (4, 2), (6, 3), (6, 4), (6, 5), (6, 6), (6, 7), (6, 8)]) rfl)) rfl) (SA_trans (SA_refl) (SA_glu (ι := [6, 1, 4, 3, 5]) hA8 eA8 (by decide +kernel)) (any_subA (l' := [5]) rfl)) (pf8_4_0) (m8_4) ((congrArg (fun q : Nat => (q : Int)) (eN8 5)).trans em8_4) (y8_0_8) (rfl) (y8_2_1) (((eF8 4 1).trans ey8_2_1)) (y8_2_2) (((eF8 4 2).trans ey8_2_2)) (w8_4) ((eA8 5).trans ew8_4) (show inr ((-z8)) by omega) (show 0 ≤ (y8_2_1) ∧ (y8_2_1) ≤ (m8_4) ∧ (m8_4) ≤ 65536 by have qh0 := HIDe r11; have qh1 := HIDe r9; omega) (show (y8_2_2) = 0 by have qh0 := HIDe r12; omega) (by assumption))
  · refine Ew_of (pc' := 194) (fun _ => x_aload_n rfl (rk_o (hl0) rfl rfl)) ?_
    refine Ew_stk (show ([.ref (D 0)] : List Value) = [.ref (D8 0)] by rw [show D8 0 = D 0 from ((show D8 0 = D 0 from (eD8 0)))]) ?_
    refine v_g H (o := 0) (v := .ref (D8 4)) rfl rfl rfl rfl rfl (vrf (pf8_0_6)) ?_
    refine v_g H (o := 4) (v := I (y8_2_1)) rfl rfl rfl rfl rfl (congrArg (fun z : Int => I z) (((eF8 4 1).trans ey8_2_1) : (updF F8 0 17 (y8_0_8)) 4 1 = y8_2_1)) ?_
    refine Ew_of (pc' := 206) (fun _ => x_goto rfl rfl) ?_
    have : RDQ 2 (sc ((w3)) 0 ((u1_1))) ([]) DCE ((x3)) ((y8_2_1)) ((y8_0_8)) (sc ((w8_4)) 0 ((y8_2_1))) := RDQ_c2 pz8_4 pz8_5 (by (have qg0 := HIDe r10; have qg1 := HIDe r11; have qg2 := HIDe r2; omega)) (by (have qg0 := HIDe r10; have qg1 := HIDe r11; have qg2 := HIDe r2; omega)) (by (have qg0 := HIDe r10; have qg1 := HIDe r11; have qg2 := HIDe r2; omega)) (by (have qg0 := HIDe r10; have qg1 := HIDe r11; have qg2 := HIDe r2; omega))
    exact w_ireturn rfl (k (y8_2_1) _ _ _ _ _ _ _ H O (SD_trans (SD_refl) (SD_glu (ι := [6, 1, 4, 3, 5]) hD8 eD8 (by decide +kernel)) (any_subA (l' := [5]) rfl)) (SD_trans (SD_refl) (SD_glu (ι := [6, 1, 4, 3, 5]) hN8 eN8 (by decide +kernel)) (any_subA (l' := [5]) rfl)) (SF_upd (SF_trans (SF_refl) (SF_glu (ι := [6, 1, 4, 3, 5]) hS8 eF8 (by decide +kernel)) (any_sub (l' := [(4, 0), (4, 1), (4, 2), (6, 3), (6, 4), (6, 5), (6, 6), (6, 7), (6, 8)]) rfl)) rfl) (SA_trans (SA_refl) (SA_glu (ι := [6, 1, 4, 3, 5]) hA8 eA8 (by decide +kernel)) (any_subA (l' := [5]) rfl)) (pf8_4_0) (m8_4) ((congrArg (fun q : Nat => (q : Int)) (eN8 5)).trans em8_4) (y8_0_8) (rfl) (y8_2_1) (((eF8 4 1).trans ey8_2_1)) (y8_2_2) (((eF8 4 2).trans ey8_2_2)) (w8_4) ((eA8 5).trans ew8_4) (show inr (y8_2_1) by have qh0 := HIDe r11; omega) (show 0 ≤ (y8_2_1) ∧ (y8_2_1) ≤ (m8_4) ∧ (m8_4) ≤ 65536 by have qh0 := HIDe r11; have qh1 := HIDe r9; omega) (show (y8_2_2) = 0 by have qh0 := HIDe r12; omega) (by assumption))
abbrev V32_Row_Ir_c23_va3 : vV := [(0, 0, [(4, 0), (4, 0), (4, 0), (4, 0), (4, 0), (4, 0), (4, 0), (4, 0), (4, 0), (4, 0), (4, 0), (4, 0), (4, 0), (4, 0), (4, 0), (4, 0), (4, 0), (0, 0), (0, 0)]), (0, 7, [(4, 0), (0, 0), (1, 0), (0, 0), (0, 0)]), (1, 1, []), (1, 0, []), (0, 7, [(4, 0), (0, 0), (1, 0), (0, 0), (0, 0)]), (1, 0, [])]
/-- PackHouse.unpackRow: this, #1, #2, #1.bytes, this.content, this.content.bytes -/
theorem C32_Row_Ir_c23_va3 {σE : rS} {D N : Nat → Nat} {F : hF} {A : hA} {d c s : Nat} {Q : wQ} (H : HW V32_Row_Ir_c23_va3 σE D N F A) {a3 : Int} (pf3 : F 1 0 = (D 3 : Int)) (pf4 : F 0 6 = (D 4 : Int)) (pf5 : F 4 0 = (D 5 : Int)) (n2 : Int) (en2 : (N 2 : Int) = n2) (n3 : Int) (en3 : (N 3 : Int) = n3) (n5 : Int) (en5 : (N 5 : Int) = n5) (u1_1 : Int) (eu1_1 : F 1 1 = u1_1) (u4_1 : Int) (eu4_1 : F 4 1 = u4_1) (h0 : inr (3)) (h1 : inr (a3)) (h2 : 0 ≤ (u1_1) ∧ (u1_1) ≤ (n3) ∧ (n3) ≤ 65536) (h3 : 0 ≤ (u4_1) ∧ (u4_1) ≤ (n5) ∧ (n5) ≤ 65536) (hc128 : ∀ (ls : rO) (σ : rS) (F_c128 : hF) (A_c128 : hA) , rlook ls 0 = some (.ref (D 0)) → rlook ls 1 = some (.ref (D 1)) → rlook ls 3 = some (I (a3)) → HW V32_Row_Ir_c23_va3 σ D N F_c128 A_c128 → OUT (V32_Row_Ir_c23_va3).length D N σE c s D N σ c s → SF [(4, 1), (4, 2), (4, 3), (4, 4)] F F_c128 → SA [] A A_c128 → ∀ yc128_4_1 : Int, F_c128 4 1 = yc128_4_1 → ∀ yc128_4_2 : Int, F_c128 4 2 = yc128_4_2 → (0 ≤ (u1_1) ∧ (u1_1) ≤ (n3) ∧ (n3) ≤ 65536) → (0 ≤ (yc128_4_1) ∧ (yc128_4_1) ≤ (n5) ∧ (n5) ≤ 65536) → ((yc128_4_1) = 0) → ((yc128_4_2) = 0) → Ew 32 (d + 1) 128 ls [.ref (D 0)] σ c s Q) (k : ∀ (z : Int) (σ : rS) (F' : hF) (A' : hA), HW V32_Row_Ir_c23_va3 σ D N F' A' → OUT (V32_Row_Ir_c23_va3).length D N σE c s D N σ c s → SF [(4, 1), (4, 2), (4, 3), (4, 4)] F F' → SA [] A A' → ∀ y4_1 : Int, F' 4 1 = y4_1 → (inr (z)) → (0 ≤ (y4_1) ∧ (y4_1) ≤ (n5) ∧ (n5) ≤ 65536) → ((0 : Int) = 1) → Q (some (I z)) σ c s) : Ew 32 (d + 1) 0 (rargs 0 [.ref (D 0), .ref (D 1), I 3, I a3, .ref (D 2)]) [] σE c s Q := by
  have O := OUT_refl (n := (V32_Row_Ir_c23_va3).length) (D := D) (N := N) (σ := σE) (c := c) (s := s)
  have HE := H
  have r1 : HID ((-2147483648 : Int) ≤ u1_1 ∧ u1_1 ≤ 2147483647) := krg_e (show (-2147483648 : Int) ≤ F 1 1 ∧ F 1 1 ≤ 2147483647 from H.krg 1 1 (by decide)) (show F 1 1 = u1_1 from (eu1_1))
  have r2 : HID ((-2147483648 : Int) ≤ u4_1 ∧ u4_1 ≤ 2147483647) := krg_e (show (-2147483648 : Int) ≤ F 4 1 ∧ F 4 1 ≤ 2147483647 from H.krg 4 1 (by decide)) (show F 4 1 = u4_1 from (eu4_1))
  replace pf3 := HIDm pf3
  replace pf4 := HIDm pf4
  replace pf5 := HIDm pf5
  replace en2 := HIDm en2
  replace en3 := HIDm en3
  replace en5 := HIDm en5
  replace eu1_1 := HIDm eu1_1
  replace eu4_1 := HIDm eu4_1
  have r3 : HID ((0 : Int) ≤ n3 ∧ n3 ≤ 1000000) := nrng (H.nle 3 (by decide)) (show (N 3 : Int) = n3 from en3)
  have r4 : HID ((0 : Int) ≤ n5 ∧ n5 ≤ 1000000) := nrng (H.nle 5 (by decide)) (show (N 5 : Int) = n5 from en5)
  have r5 : HID ((0 : Int) ≤ F 4 2 ∧ F 4 2 ≤ 1) := krg_e (show (0 : Int) ≤ F 4 2 ∧ F 4 2 ≤ 1 from H.krg 4 2 (by decide)) (show F 4 2 = F 4 2 from rfl)
  refine Ew_of (pc' := 1) (fun _ => x_aload_n rfl rfl) ?_
  refine v_g H (o := 0) (v := .ref (D 4)) rfl rfl rfl rfl rfl (vrf (pf4)) ?_
  have r6 : HID ((-2147483648 : Int) ≤ F 4 3 ∧ F 4 3 ≤ 2147483647) := krg_e (show (-2147483648 : Int) ≤ F 4 3 ∧ F 4 3 ≤ 2147483647 from H.krg 4 3 (by decide)) (show F 4 3 = F 4 3 from rfl)
  have r7 : HID ((-2147483648 : Int) ≤ F 4 4 ∧ F 4 4 ≤ 2147483647) := krg_e (show (-2147483648 : Int) ≤ F 4 4 ∧ F 4 4 ≤ 2147483647 from H.krg 4 4 (by decide)) (show F 4 4 = F 4 4 from rfl)
  refine v_inv H (o := 4) rfl rfl rfl rfl rfl rfl (by rfl) (C156h (D := pul [4] D) (N := pul [4] N) (HW_sub H (VS_of (show vsub V32_Row_Ir_c23_va3 V156 [4] = true by decide +kernel))) (u4_1) ((eu4_1)) (F 4 2) (rfl) (F 4 3) (rfl) (F 4 4) (rfl)  (fun σ8 F8' A8' H' O' hS8 hA8 y8_0_1 ey8_0_1 y8_0_2 ey8_0_2 y8_0_3 ey8_0_3 y8_0_4 ey8_0_4 pz8_0 pz8_1 => ⟨rfl, ?_⟩))
  replace ey8_0_1 := HIDm ey8_0_1
  replace ey8_0_2 := HIDm ey8_0_2
  replace ey8_0_3 := HIDm ey8_0_3
  replace ey8_0_4 := HIDm ey8_0_4
  refine v_back (c := c) (s := s) H (show vsub V32_Row_Ir_c23_va3 V156 [4] = true by decide +kernel) H' O' (fun F8 A8 H O' eF8 eA8 => ?_)
  have O := OUT_trans O O'
  -- Row.clear
  have r9 : HID ((-2147483648 : Int) ≤ y8_0_1 ∧ y8_0_1 ≤ 2147483647) := krg_e (show (-2147483648 : Int) ≤ F8 4 1 ∧ F8 4 1 ≤ 2147483647 from H.krg 4 1 (by decide)) (show F8 4 1 = y8_0_1 from ((eF8 4 1).trans ey8_0_1))
  have r10 : HID ((0 : Int) ≤ y8_0_2 ∧ y8_0_2 ≤ 1) := krg_e (show (0 : Int) ≤ F8 4 2 ∧ F8 4 2 ≤ 1 from H.krg 4 2 (by decide)) (show F8 4 2 = y8_0_2 from ((eF8 4 2).trans ey8_0_2))
  have r11 : HID ((-2147483648 : Int) ≤ y8_0_3 ∧ y8_0_3 ≤ 2147483647) := krg_e (show (-2147483648 : Int) ≤ F8 4 3 ∧ F8 4 3 ≤ 2147483647 from H.krg 4 3 (by decide)) (show F8 4 3 = y8_0_3 from ((eF8 4 3).trans ey8_0_3))
  have r12 : HID ((-2147483648 : Int) ≤ y8_0_4 ∧ y8_0_4 ≤ 2147483647) := krg_e (show (-2147483648 : Int) ≤ F8 4 4 ∧ F8 4 4 ≤ 2147483647 from H.krg 4 4 (by decide)) (show F8 4 4 = y8_0_4 from ((eF8 4 4).trans ey8_0_4))
  refine Ew_of (pc' := 8) (fun _ => x_iconst rfl) ?_
  refine Ew_of (pc' := 10) (fun _ => x_istore rfl) ?_
  refine Ew_of (pc' := 11) (fun _ => x_iload_n rfl (rk_o (rfl) rfl rfl)) ?_
  refine w_tsk 3 127 rfl (show inr (3) by omega) (by omega) (by decide) rfl rfl ?_
  refine Ew_of (pc' := 128) (fun _ => x_aload_n rfl (rk_o (rfl) rfl rfl)) ?_
  exact hc128  _ _ _ _  (rk_o (rfl) rfl rfl) (rk_o (rfl) rfl rfl) (rk_o (rfl) rfl rfl) H O (SF_trans (SF_refl) (SF_glu (ι := [4]) hS8 eF8 (by decide +kernel)) (any_sub (l' := [(4, 1), (4, 2), (4, 3), (4, 4)]) rfl)) (SA_trans (SA_refl) (SA_glu (ι := [4]) hA8 eA8 (by decide +kernel)) (any_subA (l' := []) rfl))   (y8_0_1) (((eF8 4 1).trans ey8_0_1)) (y8_0_2) (((eF8 4 2).trans ey8_0_2))  (show 0 ≤ (u1_1) ∧ (u1_1) ≤ (n3) ∧ (n3) ≤ 65536 by have qh0 := HIDe r1; have qh1 := HIDe r3; omega) (show 0 ≤ (y8_0_1) ∧ (y8_0_1) ≤ (n5) ∧ (n5) ≤ 65536 by have qh0 := HIDe r4; have qh1 := HIDe r9; omega) (show (y8_0_1) = 0 by have qh0 := HIDe r9; omega) (show (y8_0_2) = 0 by have qh0 := HIDe r10; omega)
abbrev V32_Row_Ir_vb3 : vV := [(0, 0, [(4, 0), (4, 0), (4, 0), (4, 0), (4, 0), (4, 0), (4, 0), (4, 0), (4, 0), (4, 0), (4, 0), (4, 0), (4, 0), (4, 0), (4, 0), (4, 0), (4, 0), (0, 0), (0, 0)]), (0, 7, [(4, 0), (0, 0), (1, 0), (0, 0), (0, 0)]), (1, 1, []), (1, 0, []), (0, 7, [(4, 0), (0, 0), (1, 0), (0, 0), (0, 0)]), (1, 0, []), (0, 10, [(4, 0), (4, 0), (4, 0), (4, 0), (0, 0), (4, 0), (0, 0), (2, 0), (0, 0)])]
/-- PackHouse.unpackRow: this, #1, #2, #1.bytes, this.content, this.content.bytes, this.tags -/
theorem C32_Row_Ir_vb3 {σE : rS} {D N : Nat → Nat} {F : hF} {A : hA} {d c s : Nat} {Q : wQ} (H : HW V32_Row_Ir_vb3 σE D N F A) (HT : STC σE) {x3 : Int} (pf3 : F 1 0 = (D 3 : Int)) (pf4 : F 0 6 = (D 4 : Int)) (pf5 : F 4 0 = (D 5 : Int)) (pf6 : F 0 9 = (D 6 : Int)) (n2 : Int) (en2 : (N 2 : Int) = n2) (n3 : Int) (en3 : (N 3 : Int) = n3) (n5 : Int) (en5 : (N 5 : Int) = n5) (u0_17 : Int) (eu0_17 : F 0 17 = u0_17) (u1_1 : Int) (eu1_1 : F 1 1 = u1_1) (u4_1 : Int) (eu4_1 : F 4 1 = u4_1) (u4_2 : Int) (eu4_2 : F 4 2 = u4_2) (w3 : Int → Int) (ew3 : A 3 = w3) (w5 : Int → Int) (ew5 : A 5 = w5) {ls : rO} (hl0 : rlook ls 0 = some (.ref (D 0))) (hl1 : rlook ls 1 = some (.ref (D 1))) (hl3 : rlook ls 3 = some (I (x3))) (h0 : inr (x3)) (h1 : 0 ≤ (u1_1) ∧ (u1_1) ≤ (n3) ∧ (n3) ≤ 65536) (h2 : 0 ≤ (u4_1) ∧ (u4_1) ≤ (n5) ∧ (n5) ≤ 65536) (h3 : (u4_1) = 0) (h4 : (u4_2) = 0) (h5 : 0 ≤ (x3) ∧ (x3) ≤ 65536) (k : ∀ (z : Int) (σ : rS) (D' N' : Nat → Nat) (F' : hF) (A' : hA) (c' s' : Nat), HW V32_Row_Ir_vb3 σ D' N' F' A' → OUT (V32_Row_Ir_vb3).length D N σE c s D' N' σ c' s' → SD [5] D D' → SD [5] N N' → SF [(0, 17), (4, 0), (4, 1), (4, 2), (6, 3), (6, 4), (6, 5), (6, 6), (6, 7), (6, 8)] F F' → SA [5] A A' → F' 4 0 = (D' 5 : Int) → ∀ m5 : Int, (N' 5 : Int) = m5 → ∀ y0_17 : Int, F' 0 17 = y0_17 → ∀ y4_1 : Int, F' 4 1 = y4_1 → ∀ y4_2 : Int, F' 4 2 = y4_2 → ∀ v5 : Int → Int, A' 5 = v5 → (inr (z)) → (0 ≤ (y4_1) ∧ (y4_1) ≤ (m5) ∧ (m5) ≤ 65536) → ((y4_2) = 0) → (RDQ 3 (sc ((w3)) 0 ((u1_1))) ([]) DCE ((x3)) ((z)) ((y0_17)) (sc ((v5)) 0 ((y4_1)))) → Q (some (I z)) σ c' s') : Ew 32 (d + 6) 131 ls [.ref (D 6)] σE c s Q := by
  have O := OUT_refl (n := (V32_Row_Ir_vb3).length) (D := D) (N := N) (σ := σE) (c := c) (s := s)
  have HE := H
  have r1 : HID ((-2147483648 : Int) ≤ u0_17 ∧ u0_17 ≤ 2147483647) := krg_e (show (-2147483648 : Int) ≤ F 0 17 ∧ F 0 17 ≤ 2147483647 from H.krg 0 17 (by decide)) (show F 0 17 = u0_17 from (eu0_17))
  have r2 : HID ((-2147483648 : Int) ≤ u1_1 ∧ u1_1 ≤ 2147483647) := krg_e (show (-2147483648 : Int) ≤ F 1 1 ∧ F 1 1 ≤ 2147483647 from H.krg 1 1 (by decide)) (show F 1 1 = u1_1 from (eu1_1))
  have r3 : HID ((-2147483648 : Int) ≤ u4_1 ∧ u4_1 ≤ 2147483647) := krg_e (show (-2147483648 : Int) ≤ F 4 1 ∧ F 4 1 ≤ 2147483647 from H.krg 4 1 (by decide)) (show F 4 1 = u4_1 from (eu4_1))
  have r4 : HID ((0 : Int) ≤ u4_2 ∧ u4_2 ≤ 1) := krg_e (show (0 : Int) ≤ F 4 2 ∧ F 4 2 ≤ 1 from H.krg 4 2 (by decide)) (show F 4 2 = u4_2 from (eu4_2))
  replace pf3 := HIDm pf3
  replace pf4 := HIDm pf4
  replace pf5 := HIDm pf5
  replace pf6 := HIDm pf6
  replace en2 := HIDm en2
  replace en3 := HIDm en3
  replace en5 := HIDm en5
  replace eu0_17 := HIDm eu0_17
  replace eu1_1 := HIDm eu1_1
  replace eu4_1 := HIDm eu4_1
  replace eu4_2 := HIDm eu4_2
  have r5 : HID ((0 : Int) ≤ n3 ∧ n3 ≤ 1000000) := nrng (H.nle 3 (by decide)) (show (N 3 : Int) = n3 from en3)
  have r6 : HID ((0 : Int) ≤ n5 ∧ n5 ≤ 1000000) := nrng (H.nle 5 (by decide)) (show (N 5 : Int) = n5 from en5)
  refine Ew_of (pc' := 132) (fun _ => x_aload_n rfl hl1) ?_
  refine Ew_of (pc' := 133) (fun _ => x_aload_n rfl hl0) ?_
  refine v_g H (o := 0) (v := .ref (D 4)) rfl rfl rfl rfl rfl (vrf (pf4)) ?_
  refine Ew_of (pc' := 137) (fun _ => x_iload_n rfl hl3) ?_
  have r7 : HID ((-2147483648 : Int) ≤ F 6 8 ∧ F 6 8 ≤ 2147483647) := krg_e (show (-2147483648 : Int) ≤ F 6 8 ∧ F 6 8 ≤ 2147483647 from H.krg 6 8 (by decide)) (show F 6 8 = F 6 8 from rfl)
  refine v_inv H (o := 6) rfl rfl rfl rfl rfl rfl (by rfl) (C210_Row_Row (D := pul [6, 1, 4, 3, 5] D) (N := pul [6, 1, 4, 3, 5] N) (HW_sub H (VS_of (show vsub V32_Row_Ir_vb3 V210_Row_Row [6, 1, 4, 3, 5] = true by decide +kernel))) (STC_out HT HE O) (pf3) (pf5) (n3) (en3) (n5) (en5) (F 6 8) (rfl) (u1_1) ((eu1_1)) (u4_1) ((eu4_1)) (u4_2) ((eu4_2)) (w3) (ew3) (w5) (ew5) (show inr (x3) by omega) (show 0 ≤ (u1_1) ∧ (u1_1) ≤ (n3) ∧ (n3) ≤ 65536 by have qh0 := HIDe r2; have qh1 := HIDe r5; omega) (show 0 ≤ (u4_1) ∧ (u4_1) ≤ (n5) ∧ (n5) ≤ 65536 by have qh0 := HIDe r3; have qh1 := HIDe r6; omega) (show 0 ≤ (x3) ∧ (x3) ≤ 65536 by omega) (show (u4_1) = 0 ∧ (u4_2) = 0 by have qh0 := HIDe r3; have qh1 := HIDe r4; omega) (fun z8 σ8 D8' N8' F8' A8' c8 s8 H' O' hD8 hN8 hS8 hA8 pm8_4 m8_4 em8_4 y8_0_8 ey8_0_8 y8_2_1 ey8_2_1 y8_2_2 ey8_2_2 w8_4 ew8_4 pz8_0 pz8_1 pz8_2 pz8_3 pz8_4 pz8_5 pz8_6 => ⟨rfl, ?_⟩))
  replace pm8_4 := HIDm pm8_4
  replace em8_4 := HIDm em8_4
  replace ey8_0_8 := HIDm ey8_0_8
  replace ey8_2_1 := HIDm ey8_2_1
  replace ey8_2_2 := HIDm ey8_2_2
  refine v_backM (c := c) (s := s) H (show vsub V32_Row_Ir_vb3 V210_Row_Row [6, 1, 4, 3, 5] = true by decide +kernel) H' O' hD8 (show vmov V32_Row_Ir_vb3 [6, 1, 4, 3, 5] [4] = true by decide +kernel) (fun D8 N8 F8 A8 H O' eD8 eN8 eF8 eA8 => ?_)
  have O := OUT_trans O O'
  -- Tags.unpackStream
  have pf8_0_6 : HID (F8 0 6 = (D8 4 : Int)) := ((show F8 0 6 = F 0 6 from (eF8 0 6))).trans ((pf4).trans (congrArg (fun q : Nat => (q : Int)) ((show D8 4 = D 4 from (eD8 4).trans (hD8 2 rfl))).symm))
  have pf8_0_9 : HID (F8 0 9 = (D8 6 : Int)) := ((show F8 0 9 = F 0 9 from (eF8 0 9))).trans ((pf6).trans (congrArg (fun q : Nat => (q : Int)) ((show D8 6 = D 6 from (eD8 6).trans (hD8 0 rfl))).symm))
  have pf8_1_0 : HID (F8 1 0 = (D8 3 : Int)) := ((show F8 1 0 = F 1 0 from (eF8 1 0).trans (hS8 1 0 rfl))).trans ((pf3).trans (congrArg (fun q : Nat => (q : Int)) ((show D8 3 = D 3 from (eD8 3).trans (hD8 3 rfl))).symm))
  have pf8_4_0 : HID (F8 4 0 = (D8 5 : Int)) := (eF8 4 0).trans (pm8_4.trans (congrArg (fun q : Nat => (q : Int)) (eD8 5).symm))
  have r9 : HID ((0 : Int) ≤ m8_4 ∧ m8_4 ≤ 1000000) := nrng (H.nle 5 (by decide)) (show (N8 5 : Int) = m8_4 from (congrArg (fun q : Nat => (q : Int)) (eN8 5)).trans em8_4)
  have r10 : HID ((-2147483648 : Int) ≤ y8_0_8 ∧ y8_0_8 ≤ 2147483647) := krg_e (show (-2147483648 : Int) ≤ F8 6 8 ∧ F8 6 8 ≤ 2147483647 from H.krg 6 8 (by decide)) (show F8 6 8 = y8_0_8 from ((eF8 6 8).trans ey8_0_8))
  have r11 : HID ((-2147483648 : Int) ≤ y8_2_1 ∧ y8_2_1 ≤ 2147483647) := krg_e (show (-2147483648 : Int) ≤ F8 4 1 ∧ F8 4 1 ≤ 2147483647 from H.krg 4 1 (by decide)) (show F8 4 1 = y8_2_1 from ((eF8 4 1).trans ey8_2_1))
  have r12 : HID ((0 : Int) ≤ y8_2_2 ∧ y8_2_2 ≤ 1) := krg_e (show (0 : Int) ≤ F8 4 2 ∧ F8 4 2 ≤ 1 from H.krg 4 2 (by decide)) (show F8 4 2 = y8_2_2 from ((eF8 4 2).trans ey8_2_2))
  refine Ew_of (pc' := 142) (fun _ => x_istore rfl) ?_
  refine Ew_of (pc' := 143) (fun _ => x_aload_n rfl (rk_o (hl0) rfl rfl)) ?_
  refine Ew_of (pc' := 144) (fun _ => x_aload_n rfl (rk_o (hl0) rfl rfl)) ?_
  refine Ew_stk (show ([.ref (D 0), .ref (D 0)] : List Value) = [.ref (D8 0), .ref (D8 0)] by rw [show D8 0 = D 0 from ((show D8 0 = D 0 from (eD8 0)))]) ?_
  refine v_g H (o := 0) (v := .ref (D8 6)) rfl rfl rfl rfl rfl (vrf (pf8_0_9)) ?_
  refine v_g H (o := 6) (v := I (y8_0_8)) rfl rfl rfl rfl rfl (congrArg (fun z : Int => I z) (((eF8 6 8).trans ey8_0_8) : F8 6 8 = y8_0_8)) ?_
  refine v_p H (o := 0) (z := y8_0_8) (v := I (y8_0_8)) rfl rfl rfl rfl rfl rfl rfl rfl (show (-2147483648 : Int) ≤ y8_0_8 ∧ y8_0_8 ≤ 2147483647 by have qh0 := HIDe r10; omega) (fun σ H O' => ?_)
  have O := OUT_trans O O'
  refine Ew_of (pc' := 188) (fun _ => x_goto rfl rfl) ?_
  refine Ew_of (pc' := 190) (fun _ => x_iload rfl rk_s) ?_
  refine w_ifne (t := 203) rfl rfl (show inr (z8) by omega) (fun b13 => ?_) (fun b13 => ?_)
  · refine Ew_of (pc' := 205) (fun _ => x_iload rfl rk_s) ?_
    refine w_ineg rfl ?_
    have : RDQ 3 (sc ((w3)) 0 ((u1_1))) ([]) DCE ((x3)) (((-z8))) ((y8_0_8)) (sc ((w8_4)) 0 ((y8_2_1))) := RDQ_c3 pz8_4 pz8_5 (by (have qg0 := HIDe r10; have qg1 := HIDe r11; have qg2 := HIDe r2; omega)) (by (have qg0 := HIDe r10; have qg1 := HIDe r11; have qg2 := HIDe r2; omega)) (by (have qg0 := HIDe r10; have qg1 := HIDe r11; have qg2 := HIDe r2; omega))
    exact w_ireturn rfl (k ((-z8)) _ _ _ _ _ _ _ H O (SD_trans (SD_refl) (SD_glu (ι := [6, 1, 4, 3, 5]) hD8 eD8 (by decide +kernel)) (any_subA (l' := [5]) rfl)) (SD_trans (SD_refl) (SD_glu (ι := [6, 1, 4, 3, 5]) hN8 eN8 (by decide +kernel)) (any_subA (l' := [5]) rfl)) (SF_upd (SF_trans (SF_refl) (SF_glu (ι := [6, 1, 4, 3, 5]) hS8 eF8 (by decide +kernel)) (any_sub (l' := [(4, 0), (4, 1), (4, 2), (6, 3), (6, 4), (6, 5), (6, 6), (6, 7), (6, 8)]) rfl)) rfl) (SA_trans (SA_refl) (SA_glu (ι := [6, 1, 4, 3, 5]) hA8 eA8 (by decide +kernel)) (any_subA (l' := [5]) rfl)) (pf8_4_0) (m8_4) ((congrArg (fun q : Nat => (q : Int)) (eN8 5)).trans em8_4) (y8_0_8) (rfl) (y8_2_1) (((eF8 4 1).trans ey8_2_1)) (y8_2_2) (((eF8 4 2).trans ey8_2_2)) (w8_4) ((eA8 5).trans ew8_4) (show inr ((-z8)) by omega) (show 0 ≤ (y8_2_1) ∧ (y8_2_1) ≤ (m8_4) ∧ (m8_4) ≤ 65536 by have qh0 := HIDe r11; have qh1 := HIDe r9; omega) (show (y8_2_2) = 0 by have qh0 := HIDe r12; omega) (by assumption))
  · refine Ew_of (pc' := 194) (fun _ => x_aload_n rfl (rk_o (hl0) rfl rfl)) ?_
    refine Ew_stk (show ([.ref (D 0)] : List Value) = [.ref (D8 0)] by rw [show D8 0 = D 0 from ((show D8 0 = D 0 from (eD8 0)))]) ?_
    refine v_g H (o := 0) (v := .ref (D8 4)) rfl rfl rfl rfl rfl (vrf (pf8_0_6)) ?_
    refine v_g H (o := 4) (v := I (y8_2_1)) rfl rfl rfl rfl rfl (congrArg (fun z : Int => I z) (((eF8 4 1).trans ey8_2_1) : (updF F8 0 17 (y8_0_8)) 4 1 = y8_2_1)) ?_
    refine Ew_of (pc' := 206) (fun _ => x_goto rfl rfl) ?_
    have : RDQ 3 (sc ((w3)) 0 ((u1_1))) ([]) DCE ((x3)) ((y8_2_1)) ((y8_0_8)) (sc ((w8_4)) 0 ((y8_2_1))) := RDQ_c3 pz8_4 pz8_5 (by (have qg0 := HIDe r10; have qg1 := HIDe r11; have qg2 := HIDe r2; omega)) (by (have qg0 := HIDe r10; have qg1 := HIDe r11; have qg2 := HIDe r2; omega)) (by (have qg0 := HIDe r10; have qg1 := HIDe r11; have qg2 := HIDe r2; omega))
    exact w_ireturn rfl (k (y8_2_1) _ _ _ _ _ _ _ H O (SD_trans (SD_refl) (SD_glu (ι := [6, 1, 4, 3, 5]) hD8 eD8 (by decide +kernel)) (any_subA (l' := [5]) rfl)) (SD_trans (SD_refl) (SD_glu (ι := [6, 1, 4, 3, 5]) hN8 eN8 (by decide +kernel)) (any_subA (l' := [5]) rfl)) (SF_upd (SF_trans (SF_refl) (SF_glu (ι := [6, 1, 4, 3, 5]) hS8 eF8 (by decide +kernel)) (any_sub (l' := [(4, 0), (4, 1), (4, 2), (6, 3), (6, 4), (6, 5), (6, 6), (6, 7), (6, 8)]) rfl)) rfl) (SA_trans (SA_refl) (SA_glu (ι := [6, 1, 4, 3, 5]) hA8 eA8 (by decide +kernel)) (any_subA (l' := [5]) rfl)) (pf8_4_0) (m8_4) ((congrArg (fun q : Nat => (q : Int)) (eN8 5)).trans em8_4) (y8_0_8) (rfl) (y8_2_1) (((eF8 4 1).trans ey8_2_1)) (y8_2_2) (((eF8 4 2).trans ey8_2_2)) (w8_4) ((eA8 5).trans ew8_4) (show inr (y8_2_1) by have qh0 := HIDe r11; omega) (show 0 ≤ (y8_2_1) ∧ (y8_2_1) ≤ (m8_4) ∧ (m8_4) ≤ 65536 by have qh0 := HIDe r11; have qh1 := HIDe r9; omega) (show (y8_2_2) = 0 by have qh0 := HIDe r12; omega) (by assumption))
