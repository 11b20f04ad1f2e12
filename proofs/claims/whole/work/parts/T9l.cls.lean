abbrev V15_c10_vA : vV := [(0, 0, [(4, 0), (4, 0), (4, 0), (4, 0), (4, 0), (4, 0), (4, 0), (4, 0), (4, 0), (4, 0), (4, 0), (4, 0), (4, 0), (4, 0), (4, 0), (4, 0), (4, 0), (0, 0), (0, 0)]), (1, 4, []), (0, 7, [(4, 0), (0, 0), (1, 0), (0, 0), (0, 0)]), (1, 0, []), (0, 7, [(4, 0), (0, 0), (1, 0), (0, 0), (0, 0)]), (1, 0, []), (0, 7, [(4, 0), (0, 0), (1, 0), (0, 0), (0, 0)]), (1, 0, []), (0, 7, [(4, 0), (0, 0), (1, 0), (0, 0), (0, 0)]), (1, 0, []), (0, 4, [(4, 0), (4, 0), (0, 0), (4, 0), (4, 0)])]
/-- PackHouse.learn: this, this.rows, this.rows.0, this.rows.0.bytes, this.rows.1, this.rows.1.bytes, this.rows.2, this.rows.2.bytes, this.rows.3, this.rows.3.bytes, this.otherDictionary -/
theorem C15_c10_vA {σE : rS} {D N : Nat → Nat} {F : hF} {A : hA} {d c s : Nat} {Q : wQ} (H : HW V15_c10_vA σE D N F A)  (pf1 : F 0 0 = (D 1 : Int)) (pf2 : A 1 0 = (D 2 : Int)) (pf3 : F 2 0 = (D 3 : Int)) (pf4 : A 1 1 = (D 4 : Int)) (pf5 : F 4 0 = (D 5 : Int)) (pf6 : A 1 2 = (D 6 : Int)) (pf7 : F 6 0 = (D 7 : Int)) (pf8 : A 1 3 = (D 8 : Int)) (pf9 : F 8 0 = (D 9 : Int)) (pf10 : F 0 4 = (D 10 : Int)) (n1 : Int) (en1 : (N 1 : Int) = n1) (n3 : Int) (en3 : (N 3 : Int) = n3) (n5 : Int) (en5 : (N 5 : Int) = n5) (n7 : Int) (en7 : (N 7 : Int) = n7) (n9 : Int) (en9 : (N 9 : Int) = n9) (u2_1 : Int) (eu2_1 : F 2 1 = u2_1) (u4_1 : Int) (eu4_1 : F 4 1 = u4_1) (u6_1 : Int) (eu6_1 : F 6 1 = u6_1) (u8_1 : Int) (eu8_1 : F 8 1 = u8_1) (h0 : inr (0)) (h1 : (n1) = 4) (h2 : 0 ≤ (u2_1) ∧ (u2_1) ≤ (n3) ∧ (n3) ≤ 65536) (h3 : 0 ≤ (u4_1) ∧ (u4_1) ≤ (n5) ∧ (n5) ≤ 65536) (h4 : 0 ≤ (u6_1) ∧ (u6_1) ≤ (n7) ∧ (n7) ≤ 65536) (h5 : 0 ≤ (u8_1) ∧ (u8_1) ≤ (n9) ∧ (n9) ≤ 65536) (hc20 : ∀ (ls : rO) (σ : rS) (F_c20 : hF) (A_c20 : hA) , rlook ls 0 = some (.ref (D 0)) → HW V15_c10_vA σ D N F_c20 A_c20 → OUT (V15_c10_vA).length D N σE c s D N σ c s → SF [] F F_c20 → SA [] A A_c20 → Ew 15 (d + 1) 20 ls [.ref (D 2), .ref (D 10)] σ c s Q) (k : ∀ (z : Int) (σ : rS) (F' : hF) (A' : hA), HW V15_c10_vA σ D N F' A' → OUT (V15_c10_vA).length D N σE c s D N σ c s → SF [] F F' → SA [] A A' → (inr (z)) → ((0 : Int) = 1) → Q (some (I z)) σ c s) : Ew 15 (d + 1) 0 (rargs 0 [.ref (D 0), I 0]) [] σE c s Q := by
  have O := OUT_refl (n := (V15_c10_vA).length) (D := D) (N := N) (σ := σE) (c := c) (s := s)
  have HE := H
  have r1 : HID ((-2147483648 : Int) ≤ u2_1 ∧ u2_1 ≤ 2147483647) := krg_e (show (-2147483648 : Int) ≤ F 2 1 ∧ F 2 1 ≤ 2147483647 from H.krg 2 1 (by decide)) (show F 2 1 = u2_1 from (eu2_1))
  have r2 : HID ((-2147483648 : Int) ≤ u4_1 ∧ u4_1 ≤ 2147483647) := krg_e (show (-2147483648 : Int) ≤ F 4 1 ∧ F 4 1 ≤ 2147483647 from H.krg 4 1 (by decide)) (show F 4 1 = u4_1 from (eu4_1))
  have r3 : HID ((-2147483648 : Int) ≤ u6_1 ∧ u6_1 ≤ 2147483647) := krg_e (show (-2147483648 : Int) ≤ F 6 1 ∧ F 6 1 ≤ 2147483647 from H.krg 6 1 (by decide)) (show F 6 1 = u6_1 from (eu6_1))
  have r4 : HID ((-2147483648 : Int) ≤ u8_1 ∧ u8_1 ≤ 2147483647) := krg_e (show (-2147483648 : Int) ≤ F 8 1 ∧ F 8 1 ≤ 2147483647 from H.krg 8 1 (by decide)) (show F 8 1 = u8_1 from (eu8_1))
  replace pf1 := HIDm pf1
  replace pf2 := HIDm pf2
  replace pf3 := HIDm pf3
  replace pf4 := HIDm pf4
  replace pf5 := HIDm pf5
  replace pf6 := HIDm pf6
  replace pf7 := HIDm pf7
  replace pf8 := HIDm pf8
  replace pf9 := HIDm pf9
  replace pf10 := HIDm pf10
  replace en1 := HIDm en1
  replace en3 := HIDm en3
  replace en5 := HIDm en5
  replace en7 := HIDm en7
  replace en9 := HIDm en9
  replace eu2_1 := HIDm eu2_1
  replace eu4_1 := HIDm eu4_1
  replace eu6_1 := HIDm eu6_1
  replace eu8_1 := HIDm eu8_1
  have r5 : HID ((0 : Int) ≤ n1 ∧ n1 ≤ 1000000) := nrng (H.nle 1 (by decide)) (show (N 1 : Int) = n1 from en1)
  have r6 : HID ((0 : Int) ≤ n3 ∧ n3 ≤ 1000000) := nrng (H.nle 3 (by decide)) (show (N 3 : Int) = n3 from en3)
  have r7 : HID ((0 : Int) ≤ n5 ∧ n5 ≤ 1000000) := nrng (H.nle 5 (by decide)) (show (N 5 : Int) = n5 from en5)
  have r8 : HID ((0 : Int) ≤ n7 ∧ n7 ≤ 1000000) := nrng (H.nle 7 (by decide)) (show (N 7 : Int) = n7 from en7)
  have r9 : HID ((0 : Int) ≤ n9 ∧ n9 ≤ 1000000) := nrng (H.nle 9 (by decide)) (show (N 9 : Int) = n9 from en9)
  refine Ew_of (pc' := 1) (fun _ => x_iload_n rfl rfl) ?_
  refine w_stat24 rfl rfl (by rfl) (C24x (D := pul [] D) (N := pul [] N) (HW_sub H (VS_of (show vsub V15_c10_vA V24 [] = true by decide +kernel))) (show inr (0) by omega) (fun z10 σ10 F10' A10' H' O' hS10 hA10 pz10_0 pz10_1 => ⟨rretB rfl pz10_0, ?_⟩))
  refine v_back (c := c) (s := s) H (show vsub V15_c10_vA V24 [] = true by decide +kernel) H' O' (fun F10 A10 H O' eF10 eA10 => ?_)
  have O := OUT_trans O O'
  -- PackHouse.isRow
  refine w_ifne (t := 10) rfl rfl (show inr (z10) by omega) (fun b11 => ?_) (fun b11 => ?_)
  · refine Ew_of (pc' := 11) (fun _ => x_aload_n rfl rfl) ?_
    refine v_g H (o := 0) (v := .ref (D 10)) rfl rfl rfl rfl rfl (vrf ((((show F10 0 4 = F 0 4 from (eF10 0 4)))).trans (pf10))) ?_
    refine Ew_of (pc' := 15) (fun _ => x_aload_n rfl rfl) ?_
    refine v_g H (o := 0) (v := .ref (D 1)) rfl rfl rfl rfl rfl (vrf ((((show F10 0 0 = F 0 0 from (eF10 0 0)))).trans (pf1))) ?_
    refine Ew_of (pc' := 19) (fun _ => x_iload_n rfl rfl) ?_
    refine v_lR H (o := 1) rfl rfl rfl rfl rfl (n := n1) (en1) (show 0 ≤ 0 ∧ 0 < n1 by have qh0 := HIDe r5; omega) (z := ((D 2 : Nat) : Int)) (v := .ref (D 2)) ((congrFun (((show A10 1 = A 1 from (eA10 1)))) 0).trans (pf2)) (vrf rfl) ?_
    exact hc20  _ _ _ _  (rfl) H O (SF_trans (SF_refl) (SF_glu (ι := []) hS10 eF10 (by decide +kernel)) (any_sub (l' := []) rfl)) (SA_trans (SA_refl) (SA_glu (ι := []) hA10 eA10 (by decide +kernel)) (any_subA (l' := []) rfl))     
  · refine Ew_of (pc' := 9) (fun _ => x_bipush (z := -5) rfl (by decide)) ?_
    exact w_ireturn rfl (k ((-5)) _ _ _ H O (SF_trans (SF_refl) (SF_glu (ι := []) hS10 eF10 (by decide +kernel)) (any_sub (l' := []) rfl)) (SA_trans (SA_refl) (SA_glu (ι := []) hA10 eA10 (by decide +kernel)) (any_subA (l' := []) rfl)) (show inr ((-5)) by omega) (show (0 : Int) = 1 by omega))
abbrev V15_c11_vA : vV := [(0, 0, [(4, 0), (4, 0), (4, 0), (4, 0), (4, 0), (4, 0), (4, 0), (4, 0), (4, 0), (4, 0), (4, 0), (4, 0), (4, 0), (4, 0), (4, 0), (4, 0), (4, 0), (0, 0), (0, 0)]), (1, 4, []), (0, 7, [(4, 0), (0, 0), (1, 0), (0, 0), (0, 0)]), (1, 0, []), (0, 7, [(4, 0), (0, 0), (1, 0), (0, 0), (0, 0)]), (1, 0, []), (0, 7, [(4, 0), (0, 0), (1, 0), (0, 0), (0, 0)]), (1, 0, []), (0, 7, [(4, 0), (0, 0), (1, 0), (0, 0), (0, 0)]), (1, 0, []), (0, 4, [(4, 0), (4, 0), (0, 0), (4, 0), (4, 0)])]
/-- PackHouse.learn: this, this.rows, this.rows.0, this.rows.0.bytes, this.rows.1, this.rows.1.bytes, this.rows.2, this.rows.2.bytes, this.rows.3, this.rows.3.bytes, this.otherDictionary -/
theorem C15_c11_vA {σE : rS} {D N : Nat → Nat} {F : hF} {A : hA} {d c s : Nat} {Q : wQ} (H : HW V15_c11_vA σE D N F A)  (pf1 : F 0 0 = (D 1 : Int)) (pf2 : A 1 0 = (D 2 : Int)) (pf3 : F 2 0 = (D 3 : Int)) (pf4 : A 1 1 = (D 4 : Int)) (pf5 : F 4 0 = (D 5 : Int)) (pf6 : A 1 2 = (D 6 : Int)) (pf7 : F 6 0 = (D 7 : Int)) (pf8 : A 1 3 = (D 8 : Int)) (pf9 : F 8 0 = (D 9 : Int)) (pf10 : F 0 4 = (D 10 : Int)) (n1 : Int) (en1 : (N 1 : Int) = n1) (n3 : Int) (en3 : (N 3 : Int) = n3) (n5 : Int) (en5 : (N 5 : Int) = n5) (n7 : Int) (en7 : (N 7 : Int) = n7) (n9 : Int) (en9 : (N 9 : Int) = n9) (u2_1 : Int) (eu2_1 : F 2 1 = u2_1) (u4_1 : Int) (eu4_1 : F 4 1 = u4_1) (u6_1 : Int) (eu6_1 : F 6 1 = u6_1) (u8_1 : Int) (eu8_1 : F 8 1 = u8_1) (h0 : inr (1)) (h1 : (n1) = 4) (h2 : 0 ≤ (u2_1) ∧ (u2_1) ≤ (n3) ∧ (n3) ≤ 65536) (h3 : 0 ≤ (u4_1) ∧ (u4_1) ≤ (n5) ∧ (n5) ≤ 65536) (h4 : 0 ≤ (u6_1) ∧ (u6_1) ≤ (n7) ∧ (n7) ≤ 65536) (h5 : 0 ≤ (u8_1) ∧ (u8_1) ≤ (n9) ∧ (n9) ≤ 65536) (hc20 : ∀ (ls : rO) (σ : rS) (F_c20 : hF) (A_c20 : hA) , rlook ls 0 = some (.ref (D 0)) → HW V15_c11_vA σ D N F_c20 A_c20 → OUT (V15_c11_vA).length D N σE c s D N σ c s → SF [] F F_c20 → SA [] A A_c20 → Ew 15 (d + 1) 20 ls [.ref (D 4), .ref (D 10)] σ c s Q) (k : ∀ (z : Int) (σ : rS) (F' : hF) (A' : hA), HW V15_c11_vA σ D N F' A' → OUT (V15_c11_vA).length D N σE c s D N σ c s → SF [] F F' → SA [] A A' → (inr (z)) → ((0 : Int) = 1) → Q (some (I z)) σ c s) : Ew 15 (d + 1) 0 (rargs 0 [.ref (D 0), I 1]) [] σE c s Q := by
  have O := OUT_refl (n := (V15_c11_vA).length) (D := D) (N := N) (σ := σE) (c := c) (s := s)
  have HE := H
  have r1 : HID ((-2147483648 : Int) ≤ u2_1 ∧ u2_1 ≤ 2147483647) := krg_e (show (-2147483648 : Int) ≤ F 2 1 ∧ F 2 1 ≤ 2147483647 from H.krg 2 1 (by decide)) (show F 2 1 = u2_1 from (eu2_1))
  have r2 : HID ((-2147483648 : Int) ≤ u4_1 ∧ u4_1 ≤ 2147483647) := krg_e (show (-2147483648 : Int) ≤ F 4 1 ∧ F 4 1 ≤ 2147483647 from H.krg 4 1 (by decide)) (show F 4 1 = u4_1 from (eu4_1))
  have r3 : HID ((-2147483648 : Int) ≤ u6_1 ∧ u6_1 ≤ 2147483647) := krg_e (show (-2147483648 : Int) ≤ F 6 1 ∧ F 6 1 ≤ 2147483647 from H.krg 6 1 (by decide)) (show F 6 1 = u6_1 from (eu6_1))
  have r4 : HID ((-2147483648 : Int) ≤ u8_1 ∧ u8_1 ≤ 2147483647) := krg_e (show (-2147483648 : Int) ≤ F 8 1 ∧ F 8 1 ≤ 2147483647 from H.krg 8 1 (by decide)) (show F 8 1 = u8_1 from (eu8_1))
  replace pf1 := HIDm pf1
  replace pf2 := HIDm pf2
  replace pf3 := HIDm pf3
  replace pf4 := HIDm pf4
  replace pf5 := HIDm pf5
  replace pf6 := HIDm pf6
  replace pf7 := HIDm pf7
  replace pf8 := HIDm pf8
  replace pf9 := HIDm pf9
  replace pf10 := HIDm pf10
  replace en1 := HIDm en1
  replace en3 := HIDm en3
  replace en5 := HIDm en5
  replace en7 := HIDm en7
  replace en9 := HIDm en9
  replace eu2_1 := HIDm eu2_1
  replace eu4_1 := HIDm eu4_1
  replace eu6_1 := HIDm eu6_1
  replace eu8_1 := HIDm eu8_1
  have r5 : HID ((0 : Int) ≤ n1 ∧ n1 ≤ 1000000) := nrng (H.nle 1 (by decide)) (show (N 1 : Int) = n1 from en1)
  have r6 : HID ((0 : Int) ≤ n3 ∧ n3 ≤ 1000000) := nrng (H.nle 3 (by decide)) (show (N 3 : Int) = n3 from en3)
  have r7 : HID ((0 : Int) ≤ n5 ∧ n5 ≤ 1000000) := nrng (H.nle 5 (by decide)) (show (N 5 : Int) = n5 from en5)
  have r8 : HID ((0 : Int) ≤ n7 ∧ n7 ≤ 1000000) := nrng (H.nle 7 (by decide)) (show (N 7 : Int) = n7 from en7)
  have r9 : HID ((0 : Int) ≤ n9 ∧ n9 ≤ 1000000) := nrng (H.nle 9 (by decide)) (show (N 9 : Int) = n9 from en9)
  refine Ew_of (pc' := 1) (fun _ => x_iload_n rfl rfl) ?_
  refine w_stat24 rfl rfl (by rfl) (C24x (D := pul [] D) (N := pul [] N) (HW_sub H (VS_of (show vsub V15_c11_vA V24 [] = true by decide +kernel))) (show inr (1) by omega) (fun z10 σ10 F10' A10' H' O' hS10 hA10 pz10_0 pz10_1 => ⟨rretB rfl pz10_0, ?_⟩))
  refine v_back (c := c) (s := s) H (show vsub V15_c11_vA V24 [] = true by decide +kernel) H' O' (fun F10 A10 H O' eF10 eA10 => ?_)
  have O := OUT_trans O O'
  -- PackHouse.isRow
  refine w_ifne (t := 10) rfl rfl (show inr (z10) by omega) (fun b11 => ?_) (fun b11 => ?_)
  · refine Ew_of (pc' := 11) (fun _ => x_aload_n rfl rfl) ?_
    refine v_g H (o := 0) (v := .ref (D 10)) rfl rfl rfl rfl rfl (vrf ((((show F10 0 4 = F 0 4 from (eF10 0 4)))).trans (pf10))) ?_
    refine Ew_of (pc' := 15) (fun _ => x_aload_n rfl rfl) ?_
    refine v_g H (o := 0) (v := .ref (D 1)) rfl rfl rfl rfl rfl (vrf ((((show F10 0 0 = F 0 0 from (eF10 0 0)))).trans (pf1))) ?_
    refine Ew_of (pc' := 19) (fun _ => x_iload_n rfl rfl) ?_
    refine v_lR H (o := 1) rfl rfl rfl rfl rfl (n := n1) (en1) (show 0 ≤ 1 ∧ 1 < n1 by have qh0 := HIDe r5; omega) (z := ((D 4 : Nat) : Int)) (v := .ref (D 4)) ((congrFun (((show A10 1 = A 1 from (eA10 1)))) 1).trans (pf4)) (vrf rfl) ?_
    exact hc20  _ _ _ _  (rfl) H O (SF_trans (SF_refl) (SF_glu (ι := []) hS10 eF10 (by decide +kernel)) (any_sub (l' := []) rfl)) (SA_trans (SA_refl) (SA_glu (ι := []) hA10 eA10 (by decide +kernel)) (any_subA (l' := []) rfl))     
  · refine Ew_of (pc' := 9) (fun _ => x_bipush (z := -5) rfl (by decide)) ?_
    exact w_ireturn rfl (k ((-5)) _ _ _ H O (SF_trans (SF_refl) (SF_glu (ι := []) hS10 eF10 (by decide +kernel)) (any_sub (l' := []) rfl)) (SA_trans (SA_refl) (SA_glu (ι := []) hA10 eA10 (by decide +kernel)) (any_subA (l' := []) rfl)) (show inr ((-5)) by omega) (show (0 : Int) = 1 by omega))
abbrev V15_c12_vA : vV := [(0, 0, [(4, 0), (4, 0), (4, 0), (4, 0), (4, 0), (4, 0), (4, 0), (4, 0), (4, 0), (4, 0), (4, 0), (4, 0), (4, 0), (4, 0), (4, 0), (4, 0), (4, 0), (0, 0), (0, 0)]), (1, 4, []), (0, 7, [(4, 0), (0, 0), (1, 0), (0, 0), (0, 0)]), (1, 0, []), (0, 7, [(4, 0), (0, 0), (1, 0), (0, 0), (0, 0)]), (1, 0, []), (0, 7, [(4, 0), (0, 0), (1, 0), (0, 0), (0, 0)]), (1, 0, []), (0, 7, [(4, 0), (0, 0), (1, 0), (0, 0), (0, 0)]), (1, 0, []), (0, 4, [(4, 0), (4, 0), (0, 0), (4, 0), (4, 0)])]
/-- PackHouse.learn: this, this.rows, this.rows.0, this.rows.0.bytes, this.rows.1, this.rows.1.bytes, this.rows.2, this.rows.2.bytes, this.rows.3, this.rows.3.bytes, this.otherDictionary -/
theorem C15_c12_vA {σE : rS} {D N : Nat → Nat} {F : hF} {A : hA} {d c s : Nat} {Q : wQ} (H : HW V15_c12_vA σE D N F A)  (pf1 : F 0 0 = (D 1 : Int)) (pf2 : A 1 0 = (D 2 : Int)) (pf3 : F 2 0 = (D 3 : Int)) (pf4 : A 1 1 = (D 4 : Int)) (pf5 : F 4 0 = (D 5 : Int)) (pf6 : A 1 2 = (D 6 : Int)) (pf7 : F 6 0 = (D 7 : Int)) (pf8 : A 1 3 = (D 8 : Int)) (pf9 : F 8 0 = (D 9 : Int)) (pf10 : F 0 4 = (D 10 : Int)) (n1 : Int) (en1 : (N 1 : Int) = n1) (n3 : Int) (en3 : (N 3 : Int) = n3) (n5 : Int) (en5 : (N 5 : Int) = n5) (n7 : Int) (en7 : (N 7 : Int) = n7) (n9 : Int) (en9 : (N 9 : Int) = n9) (u2_1 : Int) (eu2_1 : F 2 1 = u2_1) (u4_1 : Int) (eu4_1 : F 4 1 = u4_1) (u6_1 : Int) (eu6_1 : F 6 1 = u6_1) (u8_1 : Int) (eu8_1 : F 8 1 = u8_1) (h0 : inr (2)) (h1 : (n1) = 4) (h2 : 0 ≤ (u2_1) ∧ (u2_1) ≤ (n3) ∧ (n3) ≤ 65536) (h3 : 0 ≤ (u4_1) ∧ (u4_1) ≤ (n5) ∧ (n5) ≤ 65536) (h4 : 0 ≤ (u6_1) ∧ (u6_1) ≤ (n7) ∧ (n7) ≤ 65536) (h5 : 0 ≤ (u8_1) ∧ (u8_1) ≤ (n9) ∧ (n9) ≤ 65536) (hc20 : ∀ (ls : rO) (σ : rS) (F_c20 : hF) (A_c20 : hA) , rlook ls 0 = some (.ref (D 0)) → HW V15_c12_vA σ D N F_c20 A_c20 → OUT (V15_c12_vA).length D N σE c s D N σ c s → SF [] F F_c20 → SA [] A A_c20 → Ew 15 (d + 1) 20 ls [.ref (D 6), .ref (D 10)] σ c s Q) (k : ∀ (z : Int) (σ : rS) (F' : hF) (A' : hA), HW V15_c12_vA σ D N F' A' → OUT (V15_c12_vA).length D N σE c s D N σ c s → SF [] F F' → SA [] A A' → (inr (z)) → ((0 : Int) = 1) → Q (some (I z)) σ c s) : Ew 15 (d + 1) 0 (rargs 0 [.ref (D 0), I 2]) [] σE c s Q := by
  have O := OUT_refl (n := (V15_c12_vA).length) (D := D) (N := N) (σ := σE) (c := c) (s := s)
  have HE := H
  have r1 : HID ((-2147483648 : Int) ≤ u2_1 ∧ u2_1 ≤ 2147483647) := krg_e (show (-2147483648 : Int) ≤ F 2 1 ∧ F 2 1 ≤ 2147483647 from H.krg 2 1 (by decide)) (show F 2 1 = u2_1 from (eu2_1))
  have r2 : HID ((-2147483648 : Int) ≤ u4_1 ∧ u4_1 ≤ 2147483647) := krg_e (show (-2147483648 : Int) ≤ F 4 1 ∧ F 4 1 ≤ 2147483647 from H.krg 4 1 (by decide)) (show F 4 1 = u4_1 from (eu4_1))
  have r3 : HID ((-2147483648 : Int) ≤ u6_1 ∧ u6_1 ≤ 2147483647) := krg_e (show (-2147483648 : Int) ≤ F 6 1 ∧ F 6 1 ≤ 2147483647 from H.krg 6 1 (by decide)) (show F 6 1 = u6_1 from (eu6_1))
  have r4 : HID ((-2147483648 : Int) ≤ u8_1 ∧ u8_1 ≤ 2147483647) := krg_e (show (-2147483648 : Int) ≤ F 8 1 ∧ F 8 1 ≤ 2147483647 from H.krg 8 1 (by decide)) (show F 8 1 = u8_1 from (eu8_1))
  replace pf1 := HIDm pf1
  replace pf2 := HIDm pf2
  replace pf3 := HIDm pf3
  replace pf4 := HIDm pf4
  replace pf5 := HIDm pf5
  replace pf6 := HIDm pf6
  replace pf7 := HIDm pf7
  replace pf8 := HIDm pf8
  replace pf9 := HIDm pf9
  replace pf10 := HIDm pf10
  replace en1 := HIDm en1
  replace en3 := HIDm en3
  replace en5 := HIDm en5
  replace en7 := HIDm en7
  replace en9 := HIDm en9
  replace eu2_1 := HIDm eu2_1
  replace eu4_1 := HIDm eu4_1
  replace eu6_1 := HIDm eu6_1
  replace eu8_1 := HIDm eu8_1
  have r5 : HID ((0 : Int) ≤ n1 ∧ n1 ≤ 1000000) := nrng (H.nle 1 (by decide)) (show (N 1 : Int) = n1 from en1)
  have r6 : HID ((0 : Int) ≤ n3 ∧ n3 ≤ 1000000) := nrng (H.nle 3 (by decide)) (show (N 3 : Int) = n3 from en3)
  have r7 : HID ((0 : Int) ≤ n5 ∧ n5 ≤ 1000000) := nrng (H.nle 5 (by decide)) (show (N 5 : Int) = n5 from en5)
  have r8 : HID ((0 : Int) ≤ n7 ∧ n7 ≤ 1000000) := nrng (H.nle 7 (by decide)) (show (N 7 : Int) = n7 from en7)
  have r9 : HID ((0 : Int) ≤ n9 ∧ n9 ≤ 1000000) := nrng (H.nle 9 (by decide)) (show (N 9 : Int) = n9 from en9)
  refine Ew_of (pc' := 1) (fun _ => x_iload_n rfl rfl) ?_
  refine w_stat24 rfl rfl (by rfl) (C24x (D := pul [] D) (N := pul [] N) (HW_sub H (VS_of (show vsub V15_c12_vA V24 [] = true by decide +kernel))) (show inr (2) by omega) (fun z10 σ10 F10' A10' H' O' hS10 hA10 pz10_0 pz10_1 => ⟨rretB rfl pz10_0, ?_⟩))
  refine v_back (c := c) (s := s) H (show vsub V15_c12_vA V24 [] = true by decide +kernel) H' O' (fun F10 A10 H O' eF10 eA10 => ?_)
  have O := OUT_trans O O'
  -- PackHouse.isRow
  refine w_ifne (t := 10) rfl rfl (show inr (z10) by omega) (fun b11 => ?_) (fun b11 => ?_)
  · refine Ew_of (pc' := 11) (fun _ => x_aload_n rfl rfl) ?_
    refine v_g H (o := 0) (v := .ref (D 10)) rfl rfl rfl rfl rfl (vrf ((((show F10 0 4 = F 0 4 from (eF10 0 4)))).trans (pf10))) ?_
    refine Ew_of (pc' := 15) (fun _ => x_aload_n rfl rfl) ?_
    refine v_g H (o := 0) (v := .ref (D 1)) rfl rfl rfl rfl rfl (vrf ((((show F10 0 0 = F 0 0 from (eF10 0 0)))).trans (pf1))) ?_
    refine Ew_of (pc' := 19) (fun _ => x_iload_n rfl rfl) ?_
    refine v_lR H (o := 1) rfl rfl rfl rfl rfl (n := n1) (en1) (show 0 ≤ 2 ∧ 2 < n1 by have qh0 := HIDe r5; omega) (z := ((D 6 : Nat) : Int)) (v := .ref (D 6)) ((congrFun (((show A10 1 = A 1 from (eA10 1)))) 2).trans (pf6)) (vrf rfl) ?_
    exact hc20  _ _ _ _  (rfl) H O (SF_trans (SF_refl) (SF_glu (ι := []) hS10 eF10 (by decide +kernel)) (any_sub (l' := []) rfl)) (SA_trans (SA_refl) (SA_glu (ι := []) hA10 eA10 (by decide +kernel)) (any_subA (l' := []) rfl))     
  · refine Ew_of (pc' := 9) (fun _ => x_bipush (z := -5) rfl (by decide)) ?_
    exact w_ireturn rfl (k ((-5)) _ _ _ H O (SF_trans (SF_refl) (SF_glu (ι := []) hS10 eF10 (by decide +kernel)) (any_sub (l' := []) rfl)) (SA_trans (SA_refl) (SA_glu (ι := []) hA10 eA10 (by decide +kernel)) (any_subA (l' := []) rfl)) (show inr ((-5)) by omega) (show (0 : Int) = 1 by omega))
abbrev V15_c13_vA : vV := [(0, 0, [(4, 0), (4, 0), (4, 0), (4, 0), (4, 0), (4, 0), (4, 0), (4, 0), (4, 0), (4, 0), (4, 0), (4, 0), (4, 0), (4, 0), (4, 0), (4, 0), (4, 0), (0, 0), (0, 0)]), (1, 4, []), (0, 7, [(4, 0), (0, 0), (1, 0), (0, 0), (0, 0)]), (1, 0, []), (0, 7, [(4, 0), (0, 0), (1, 0), (0, 0), (0, 0)]), (1, 0, []), (0, 7, [(4, 0), (0, 0), (1, 0), (0, 0), (0, 0)]), (1, 0, []), (0, 7, [(4, 0), (0, 0), (1, 0), (0, 0), (0, 0)]), (1, 0, []), (0, 4, [(4, 0), (4, 0), (0, 0), (4, 0), (4, 0)])]
/-- PackHouse.learn: this, this.rows, this.rows.0, this.rows.0.bytes, this.rows.1, this.rows.1.bytes, this.rows.2, this.rows.2.bytes, this.rows.3, this.rows.3.bytes, this.otherDictionary -/
theorem C15_c13_vA {σE : rS} {D N : Nat → Nat} {F : hF} {A : hA} {d c s : Nat} {Q : wQ} (H : HW V15_c13_vA σE D N F A)  (pf1 : F 0 0 = (D 1 : Int)) (pf2 : A 1 0 = (D 2 : Int)) (pf3 : F 2 0 = (D 3 : Int)) (pf4 : A 1 1 = (D 4 : Int)) (pf5 : F 4 0 = (D 5 : Int)) (pf6 : A 1 2 = (D 6 : Int)) (pf7 : F 6 0 = (D 7 : Int)) (pf8 : A 1 3 = (D 8 : Int)) (pf9 : F 8 0 = (D 9 : Int)) (pf10 : F 0 4 = (D 10 : Int)) (n1 : Int) (en1 : (N 1 : Int) = n1) (n3 : Int) (en3 : (N 3 : Int) = n3) (n5 : Int) (en5 : (N 5 : Int) = n5) (n7 : Int) (en7 : (N 7 : Int) = n7) (n9 : Int) (en9 : (N 9 : Int) = n9) (u2_1 : Int) (eu2_1 : F 2 1 = u2_1) (u4_1 : Int) (eu4_1 : F 4 1 = u4_1) (u6_1 : Int) (eu6_1 : F 6 1 = u6_1) (u8_1 : Int) (eu8_1 : F 8 1 = u8_1) (h0 : inr (3)) (h1 : (n1) = 4) (h2 : 0 ≤ (u2_1) ∧ (u2_1) ≤ (n3) ∧ (n3) ≤ 65536) (h3 : 0 ≤ (u4_1) ∧ (u4_1) ≤ (n5) ∧ (n5) ≤ 65536) (h4 : 0 ≤ (u6_1) ∧ (u6_1) ≤ (n7) ∧ (n7) ≤ 65536) (h5 : 0 ≤ (u8_1) ∧ (u8_1) ≤ (n9) ∧ (n9) ≤ 65536) (hc20 : ∀ (ls : rO) (σ : rS) (F_c20 : hF) (A_c20 : hA) , rlook ls 0 = some (.ref (D 0)) → HW V15_c13_vA σ D N F_c20 A_c20 → OUT (V15_c13_vA).length D N σE c s D N σ c s → SF [] F F_c20 → SA [] A A_c20 → Ew 15 (d + 1) 20 ls [.ref (D 8), .ref (D 10)] σ c s Q) (k : ∀ (z : Int) (σ : rS) (F' : hF) (A' : hA), HW V15_c13_vA σ D N F' A' → OUT (V15_c13_vA).length D N σE c s D N σ c s → SF [] F F' → SA [] A A' → (inr (z)) → ((0 : Int) = 1) → Q (some (I z)) σ c s) : Ew 15 (d + 1) 0 (rargs 0 [.ref (D 0), I 3]) [] σE c s Q := by
  have O := OUT_refl (n := (V15_c13_vA).length) (D := D) (N := N) (σ := σE) (c := c) (s := s)
  have HE := H
  have r1 : HID ((-2147483648 : Int) ≤ u2_1 ∧ u2_1 ≤ 2147483647) := krg_e (show (-2147483648 : Int) ≤ F 2 1 ∧ F 2 1 ≤ 2147483647 from H.krg 2 1 (by decide)) (show F 2 1 = u2_1 from (eu2_1))
  have r2 : HID ((-2147483648 : Int) ≤ u4_1 ∧ u4_1 ≤ 2147483647) := krg_e (show (-2147483648 : Int) ≤ F 4 1 ∧ F 4 1 ≤ 2147483647 from H.krg 4 1 (by decide)) (show F 4 1 = u4_1 from (eu4_1))
  have r3 : HID ((-2147483648 : Int) ≤ u6_1 ∧ u6_1 ≤ 2147483647) := krg_e (show (-2147483648 : Int) ≤ F 6 1 ∧ F 6 1 ≤ 2147483647 from H.krg 6 1 (by decide)) (show F 6 1 = u6_1 from (eu6_1))
  have r4 : HID ((-2147483648 : Int) ≤ u8_1 ∧ u8_1 ≤ 2147483647) := krg_e (show (-2147483648 : Int) ≤ F 8 1 ∧ F 8 1 ≤ 2147483647 from H.krg 8 1 (by decide)) (show F 8 1 = u8_1 from (eu8_1))
  replace pf1 := HIDm pf1
  replace pf2 := HIDm pf2
  replace pf3 := HIDm pf3
  replace pf4 := HIDm pf4
  replace pf5 := HIDm pf5
  replace pf6 := HIDm pf6
  replace pf7 := HIDm pf7
  replace pf8 := HIDm pf8
  replace pf9 := HIDm pf9
  replace pf10 := HIDm pf10
  replace en1 := HIDm en1
  replace en3 := HIDm en3
  replace en5 := HIDm en5
  replace en7 := HIDm en7
  replace en9 := HIDm en9
  replace eu2_1 := HIDm eu2_1
  replace eu4_1 := HIDm eu4_1
  replace eu6_1 := HIDm eu6_1
  replace eu8_1 := HIDm eu8_1
  have r5 : HID ((0 : Int) ≤ n1 ∧ n1 ≤ 1000000) := nrng (H.nle 1 (by decide)) (show (N 1 : Int) = n1 from en1)
  have r6 : HID ((0 : Int) ≤ n3 ∧ n3 ≤ 1000000) := nrng (H.nle 3 (by decide)) (show (N 3 : Int) = n3 from en3)
  have r7 : HID ((0 : Int) ≤ n5 ∧ n5 ≤ 1000000) := nrng (H.nle 5 (by decide)) (show (N 5 : Int) = n5 from en5)
  have r8 : HID ((0 : Int) ≤ n7 ∧ n7 ≤ 1000000) := nrng (H.nle 7 (by decide)) (show (N 7 : Int) = n7 from en7)
  have r9 : HID ((0 : Int) ≤ n9 ∧ n9 ≤ 1000000) := nrng (H.nle 9 (by decide)) (show (N 9 : Int) = n9 from en9)
  refine Ew_of (pc' := 1) (fun _ => x_iload_n rfl rfl) ?_
  refine w_stat24 rfl rfl (by rfl) (C24x (D := pul [] D) (N := pul [] N) (HW_sub H (VS_of (show vsub V15_c13_vA V24 [] = true by decide +kernel))) (show inr (3) by omega) (fun z10 σ10 F10' A10' H' O' hS10 hA10 pz10_0 pz10_1 => ⟨rretB rfl pz10_0, ?_⟩))
  refine v_back (c := c) (s := s) H (show vsub V15_c13_vA V24 [] = true by decide +kernel) H' O' (fun F10 A10 H O' eF10 eA10 => ?_)
  have O := OUT_trans O O'
  -- PackHouse.isRow
  refine w_ifne (t := 10) rfl rfl (show inr (z10) by omega) (fun b11 => ?_) (fun b11 => ?_)
  · refine Ew_of (pc' := 11) (fun _ => x_aload_n rfl rfl) ?_
    refine v_g H (o := 0) (v := .ref (D 10)) rfl rfl rfl rfl rfl (vrf ((((show F10 0 4 = F 0 4 from (eF10 0 4)))).trans (pf10))) ?_
    refine Ew_of (pc' := 15) (fun _ => x_aload_n rfl rfl) ?_
    refine v_g H (o := 0) (v := .ref (D 1)) rfl rfl rfl rfl rfl (vrf ((((show F10 0 0 = F 0 0 from (eF10 0 0)))).trans (pf1))) ?_
    refine Ew_of (pc' := 19) (fun _ => x_iload_n rfl rfl) ?_
    refine v_lR H (o := 1) rfl rfl rfl rfl rfl (n := n1) (en1) (show 0 ≤ 3 ∧ 3 < n1 by have qh0 := HIDe r5; omega) (z := ((D 8 : Nat) : Int)) (v := .ref (D 8)) ((congrFun (((show A10 1 = A 1 from (eA10 1)))) 3).trans (pf8)) (vrf rfl) ?_
    exact hc20  _ _ _ _  (rfl) H O (SF_trans (SF_refl) (SF_glu (ι := []) hS10 eF10 (by decide +kernel)) (any_sub (l' := []) rfl)) (SA_trans (SA_refl) (SA_glu (ι := []) hA10 eA10 (by decide +kernel)) (any_subA (l' := []) rfl))     
  · refine Ew_of (pc' := 9) (fun _ => x_bipush (z := -5) rfl (by decide)) ?_
    exact w_ireturn rfl (k ((-5)) _ _ _ H O (SF_trans (SF_refl) (SF_glu (ι := []) hS10 eF10 (by decide +kernel)) (any_sub (l' := []) rfl)) (SA_trans (SA_refl) (SA_glu (ι := []) hA10 eA10 (by decide +kernel)) (any_subA (l' := []) rfl)) (show inr ((-5)) by omega) (show (0 : Int) = 1 by omega))
abbrev V15_vX : vV := [(0, 0, [(4, 0), (4, 0), (4, 0), (4, 0), (4, 0), (4, 0), (4, 0), (4, 0), (4, 0), (4, 0), (4, 0), (4, 0), (4, 0), (4, 0), (4, 0), (4, 0), (4, 0), (0, 0), (0, 0)])]
/-- PackHouse.learn: this -/
theorem C15_vX {σE : rS} {D N : Nat → Nat} {F : hF} {A : hA} {d c s : Nat} {Q : wQ} (H : HW V15_vX σE D N F A) {a1 : Int} (h0 : inr (a1)) (h1 : (a1) < 0 ∨ 4 ≤ (a1)) (k : ∀ (z : Int) (σ : rS) (F' : hF) (A' : hA), HW V15_vX σ D N F' A' → OUT (V15_vX).length D N σE c s D N σ c s → SF [] F F' → SA [] A A' → (inr (z)) → ((z) = -5) → Q (some (I z)) σ c s) : Ew 15 (d + 1) 0 (rargs 0 [.ref (D 0), I a1]) [] σE c s Q := by
  have O := OUT_refl (n := (V15_vX).length) (D := D) (N := N) (σ := σE) (c := c) (s := s)
  have HE := H
  refine Ew_of (pc' := 1) (fun _ => x_iload_n rfl rfl) ?_
  refine w_stat24 rfl rfl (by rfl) (C24x (D := pul [] D) (N := pul [] N) (HW_sub H (VS_of (show vsub V15_vX V24 [] = true by decide +kernel))) (show inr (a1) by omega) (fun z1 σ1 F1' A1' H' O' hS1 hA1 pz1_0 pz1_1 => ⟨rretB rfl pz1_0, ?_⟩))
  refine v_back (c := c) (s := s) H (show vsub V15_vX V24 [] = true by decide +kernel) H' O' (fun F1 A1 H O' eF1 eA1 => ?_)
  have O := OUT_trans O O'
  -- PackHouse.isRow
  refine w_ifne (t := 10) rfl rfl (show inr (z1) by omega) (fun b2 => ?_) (fun b2 => ?_)
  · exfalso
    omega
  · refine Ew_of (pc' := 9) (fun _ => x_bipush (z := -5) rfl (by decide)) ?_
    exact w_ireturn rfl (k ((-5)) _ _ _ H O (SF_trans (SF_refl) (SF_glu (ι := []) hS1 eF1 (by decide +kernel)) (any_sub (l' := []) rfl)) (SA_trans (SA_refl) (SA_glu (ι := []) hA1 eA1 (by decide +kernel)) (any_subA (l' := []) rfl)) (show inr ((-5)) by omega) (show ((-5)) = -5 by omega))
