abbrev V18_c20_vA : vV := [(0, 0, [(4, 0), (4, 0), (4, 0), (4, 0), (4, 0), (4, 0), (4, 0), (4, 0), (4, 0), (4, 0), (4, 0), (4, 0), (4, 0), (4, 0), (4, 0), (4, 0), (4, 0), (0, 0), (0, 0)]), (1, 4, []), (0, 7, [(4, 0), (0, 0), (1, 0), (0, 0), (0, 0)]), (1, 0, []), (0, 7, [(4, 0), (0, 0), (1, 0), (0, 0), (0, 0)]), (1, 0, []), (0, 7, [(4, 0), (0, 0), (1, 0), (0, 0), (0, 0)]), (1, 0, []), (0, 7, [(4, 0), (0, 0), (1, 0), (0, 0), (0, 0)]), (1, 0, []), (1, 1, [])]
/-- PackHouse.read: this, this.rows, this.rows.0, this.rows.0.bytes, this.rows.1, this.rows.1.bytes, this.rows.2, this.rows.2.bytes, this.rows.3, this.rows.3.bytes, this.readCounts -/
theorem C18_c20_vA {σE : rS} {D N : Nat → Nat} {F : hF} {A : hA} {d c s : Nat} {Q : wQ} (H : HW V18_c20_vA σE D N F A) {a1 a3 a4 : Int} (pf1 : F 0 0 = (D 1 : Int)) (pf2 : A 1 0 = (D 2 : Int)) (pf3 : F 2 0 = (D 3 : Int)) (pf4 : A 1 1 = (D 4 : Int)) (pf5 : F 4 0 = (D 5 : Int)) (pf6 : A 1 2 = (D 6 : Int)) (pf7 : F 6 0 = (D 7 : Int)) (pf8 : A 1 3 = (D 8 : Int)) (pf9 : F 8 0 = (D 9 : Int)) (pf10 : F 0 14 = (D 10 : Int)) (n1 : Int) (en1 : (N 1 : Int) = n1) (n3 : Int) (en3 : (N 3 : Int) = n3) (n5 : Int) (en5 : (N 5 : Int) = n5) (n7 : Int) (en7 : (N 7 : Int) = n7) (n9 : Int) (en9 : (N 9 : Int) = n9) (n10 : Int) (en10 : (N 10 : Int) = n10) (u2_1 : Int) (eu2_1 : F 2 1 = u2_1) (u4_1 : Int) (eu4_1 : F 4 1 = u4_1) (u6_1 : Int) (eu6_1 : F 6 1 = u6_1) (u8_1 : Int) (eu8_1 : F 8 1 = u8_1) (h0 : inr (a1)) (h1 : inr (0)) (h2 : inr (a3)) (h3 : inr (a4)) (h4 : (n1) = 4) (h5 : 0 ≤ (u2_1) ∧ (u2_1) ≤ (n3) ∧ (n3) ≤ 65536) (h6 : 0 ≤ (u4_1) ∧ (u4_1) ≤ (n5) ∧ (n5) ≤ 65536) (h7 : 0 ≤ (u6_1) ∧ (u6_1) ≤ (n7) ∧ (n7) ≤ 65536) (h8 : 0 ≤ (u8_1) ∧ (u8_1) ≤ (n9) ∧ (n9) ≤ 65536) (hc54 : ∀ (tc54_1 : Int), ∀ (tc54_4 : Int), ∀ (tc54_5 : Int), ∀ (ls : rO) (σ : rS) (F_c54 : hF) (A_c54 : hA) , HW V18_c20_vA σ D N F_c54 A_c54 → OUT (V18_c20_vA).length D N σE c s D N σ c s → SF [] F F_c54 → SA [] A A_c54 → (inr (tc54_1)) → (inr (tc54_4)) → (inr (tc54_5)) → (0 ≤ (tc54_1) ∧ (tc54_1) ≤ 3) → (0 ≤ (tc54_4) ∧ (tc54_4) ≤ 4) → (0 ≤ (tc54_5) ∧ (tc54_5) ≤ 65536) → ((tc54_1) = (a1) ∧ (tc54_4) = (a3) ∧ (tc54_5) = (a4)) → Ew 18 (d + 1) 54 ls [.ref (D 10), I (tc54_5), I (tc54_4), .ref (D 2), .ref (D 0), I (tc54_1), .ref (D 0)] σ c s Q) (k : ∀ (z : Int) (σ : rS) (F' : hF) (A' : hA), HW V18_c20_vA σ D N F' A' → OUT (V18_c20_vA).length D N σE c s D N σ c s → SF [] F F' → SA [] A A' → (inr (z)) → ((z) = -50 ∧ ((a1) < 0 ∨ 3 < (a1) ∨ (a3) < 0 ∨ 4 < (a3) ∨ (a4) < 0 ∨ 65536 < (a4))) → Q (some (I z)) σ c s) : Ew 18 (d + 1) 0 (rargs 0 [.ref (D 0), I a1, I 0, I a3, I a4]) [] σE c s Q := by
  have O := OUT_refl (n := (V18_c20_vA).length) (D := D) (N := N) (σ := σE) (c := c) (s := s)
  have HE := H
  have r1 : HID ((-2147483648 : Int) ≤ u2_1 ∧ u2_1 ≤ 2147483647) := krg_e (show (-2147483648 : Int) ≤ F 2 1 ∧ F 2 1 ≤ 2147483647 from H.krg 2 1 (by decide)) (show F 2 1 = u2_1 from (eu2_1))
  have r2 : HID ((-2147483648 : Int) ≤ u4_1 ∧ u4_1 ≤ 2147483647) := krg_e (show (-2147483648 : Int) ≤ F 4 1 ∧ F 4 1 ≤ 2147483647 from H.krg 4 1 (by decide)) (show F 4 1 = u4_1 from (eu4_1))
  have r3 : HID ((-2147483648 : Int) ≤ u6_1 ∧ u6_1 ≤ 2147483647) := krg_e (show (-2147483648 : Int) ≤ F 6 1 ∧ F 6 1 ≤ 2147483647 from H.krg 6 1 (by decide)) (show F 6 1 = u6_1 from (eu6_1))
  have r4 : HID ((-2147483648 : Int) ≤ u8_1 ∧ u8_1 ≤ 2147483647) := krg_e (show (-2147483648 : Int) ≤ F 8 1 ∧ F 8 1 ≤ 2147483647 from H.krg 8 1 (by decide)) (show F 8 1 = u8_1 from (eu8_1))
  replace pf1 := HIDm pf1
  replace pf2 := HIDm pf2
  replace pf3 := HIDm pf3
  replace pf4 := HIDm pf4
  replace pf5 := HIDm pf5
  replace pf6 := HIDm pf6
  replace pf7 := HIDm pf7
  replace pf8 := HIDm pf8
  replace pf9 := HIDm pf9
  replace pf10 := HIDm pf10
  replace en1 := HIDm en1
  replace en3 := HIDm en3
  replace en5 := HIDm en5
  replace en7 := HIDm en7
  replace en9 := HIDm en9
  replace en10 := HIDm en10
  replace eu2_1 := HIDm eu2_1
  replace eu4_1 := HIDm eu4_1
  replace eu6_1 := HIDm eu6_1
  replace eu8_1 := HIDm eu8_1
  have r5 : HID ((0 : Int) ≤ n1 ∧ n1 ≤ 1000000) := nrng (H.nle 1 (by decide)) (show (N 1 : Int) = n1 from en1)
  have r6 : HID ((0 : Int) ≤ n3 ∧ n3 ≤ 1000000) := nrng (H.nle 3 (by decide)) (show (N 3 : Int) = n3 from en3)
  have r7 : HID ((0 : Int) ≤ n5 ∧ n5 ≤ 1000000) := nrng (H.nle 5 (by decide)) (show (N 5 : Int) = n5 from en5)
  have r8 : HID ((0 : Int) ≤ n7 ∧ n7 ≤ 1000000) := nrng (H.nle 7 (by decide)) (show (N 7 : Int) = n7 from en7)
  have r9 : HID ((0 : Int) ≤ n9 ∧ n9 ≤ 1000000) := nrng (H.nle 9 (by decide)) (show (N 9 : Int) = n9 from en9)
  refine Ew_of (pc' := 1) (fun _ => x_iload_n rfl rfl) ?_
  refine w_stat24 rfl rfl (by rfl) (C24x (D := pul [] D) (N := pul [] N) (HW_sub H (VS_of (show vsub V18_c20_vA V24 [] = true by decide +kernel))) (show inr (a1) by omega) (fun z10 σ10 F10' A10' H' O' hS10 hA10 pz10_0 pz10_1 => ⟨rretB rfl pz10_0, ?_⟩))
  refine v_back (c := c) (s := s) H (show vsub V18_c20_vA V24 [] = true by decide +kernel) H' O' (fun F10 A10 H O' eF10 eA10 => ?_)
  have O := OUT_trans O O'
  -- PackHouse.isRow
  refine w_ifeq (t := 35) rfl rfl (show inr (z10) by omega) (fun b11 => ?_) (fun b11 => ?_)
  · refine Ew_of (pc' := 37) (fun _ => x_bipush (z := -50) rfl (by decide)) ?_
    exact w_ireturn rfl (k ((-50)) _ _ _ H O (SF_trans (SF_refl) (SF_glu (ι := []) hS10 eF10 (by decide +kernel)) (any_sub (l' := []) rfl)) (SA_trans (SA_refl) (SA_glu (ι := []) hA10 eA10 (by decide +kernel)) (any_subA (l' := []) rfl)) (show inr ((-50)) by omega) (show ((-50)) = -50 ∧ ((a1) < 0 ∨ 3 < (a1) ∨ (a3) < 0 ∨ 4 < (a3) ∨ (a4) < 0 ∨ 65536 < (a4)) by omega))
  · refine Ew_of (pc' := 8) (fun _ => x_iload_n rfl rfl) ?_
    refine w_stat24 rfl rfl (by rfl) (C24x (D := pul [] D) (N := pul [] N) (HW_sub H (VS_of (show vsub V18_c20_vA V24 [] = true by decide +kernel))) (show inr (0) by omega) (fun z12 σ12 F12' A12' H' O' hS12 hA12 pz12_0 pz12_1 => ⟨rretB rfl pz12_0, ?_⟩))
    refine v_back (c := c) (s := s) H (show vsub V18_c20_vA V24 [] = true by decide +kernel) H' O' (fun F12 A12 H O' eF12 eA12 => ?_)
    have O := OUT_trans O O'
    -- PackHouse.isRow
    refine w_ifeq (t := 35) rfl rfl (show inr (z12) by omega) (fun b13 => ?_) (fun b13 => ?_)
    · refine Ew_of (pc' := 37) (fun _ => x_bipush (z := -50) rfl (by decide)) ?_
      exact w_ireturn rfl (k ((-50)) _ _ _ H O (SF_trans (SF_trans (SF_refl) (SF_glu (ι := []) hS10 eF10 (by decide +kernel)) (any_sub (l' := []) rfl)) (SF_glu (ι := []) hS12 eF12 (by decide +kernel)) (any_sub (l' := []) rfl)) (SA_trans (SA_trans (SA_refl) (SA_glu (ι := []) hA10 eA10 (by decide +kernel)) (any_subA (l' := []) rfl)) (SA_glu (ι := []) hA12 eA12 (by decide +kernel)) (any_subA (l' := []) rfl)) (show inr ((-50)) by omega) (show ((-50)) = -50 ∧ ((a1) < 0 ∨ 3 < (a1) ∨ (a3) < 0 ∨ 4 < (a3) ∨ (a4) < 0 ∨ 65536 < (a4)) by omega))
    · refine Ew_of (pc' := 15) (fun _ => x_iload_n rfl rfl) ?_
      refine w_iflt (t := 35) rfl rfl (show inr (a3) by omega) (fun b14 => ?_) (fun b14 => ?_)
      · refine Ew_of (pc' := 37) (fun _ => x_bipush (z := -50) rfl (by decide)) ?_
        exact w_ireturn rfl (k ((-50)) _ _ _ H O (SF_trans (SF_trans (SF_refl) (SF_glu (ι := []) hS10 eF10 (by decide +kernel)) (any_sub (l' := []) rfl)) (SF_glu (ι := []) hS12 eF12 (by decide +kernel)) (any_sub (l' := []) rfl)) (SA_trans (SA_trans (SA_refl) (SA_glu (ι := []) hA10 eA10 (by decide +kernel)) (any_subA (l' := []) rfl)) (SA_glu (ι := []) hA12 eA12 (by decide +kernel)) (any_subA (l' := []) rfl)) (show inr ((-50)) by omega) (show ((-50)) = -50 ∧ ((a1) < 0 ∨ 3 < (a1) ∨ (a3) < 0 ∨ 4 < (a3) ∨ (a4) < 0 ∨ 65536 < (a4)) by omega))
      · refine Ew_of (pc' := 19) (fun _ => x_iload_n rfl rfl) ?_
        refine Ew_of (pc' := 20) (fun _ => x_iconst rfl) ?_
        refine w_icmpgt (t := 35) rfl rfl (show inr (a3) by omega) (show inr (4) by omega) (fun b15 => ?_) (fun b15 => ?_)
        · refine Ew_of (pc' := 37) (fun _ => x_bipush (z := -50) rfl (by decide)) ?_
          exact w_ireturn rfl (k ((-50)) _ _ _ H O (SF_trans (SF_trans (SF_refl) (SF_glu (ι := []) hS10 eF10 (by decide +kernel)) (any_sub (l' := []) rfl)) (SF_glu (ι := []) hS12 eF12 (by decide +kernel)) (any_sub (l' := []) rfl)) (SA_trans (SA_trans (SA_refl) (SA_glu (ι := []) hA10 eA10 (by decide +kernel)) (any_subA (l' := []) rfl)) (SA_glu (ι := []) hA12 eA12 (by decide +kernel)) (any_subA (l' := []) rfl)) (show inr ((-50)) by omega) (show ((-50)) = -50 ∧ ((a1) < 0 ∨ 3 < (a1) ∨ (a3) < 0 ∨ 4 < (a3) ∨ (a4) < 0 ∨ 65536 < (a4)) by omega))
        · refine Ew_of (pc' := 25) (fun _ => x_iload rfl rfl) ?_
          refine w_iflt (t := 35) rfl rfl (show inr (a4) by omega) (fun b16 => ?_) (fun b16 => ?_)
          · refine Ew_of (pc' := 37) (fun _ => x_bipush (z := -50) rfl (by decide)) ?_
            exact w_ireturn rfl (k ((-50)) _ _ _ H O (SF_trans (SF_trans (SF_refl) (SF_glu (ι := []) hS10 eF10 (by decide +kernel)) (any_sub (l' := []) rfl)) (SF_glu (ι := []) hS12 eF12 (by decide +kernel)) (any_sub (l' := []) rfl)) (SA_trans (SA_trans (SA_refl) (SA_glu (ι := []) hA10 eA10 (by decide +kernel)) (any_subA (l' := []) rfl)) (SA_glu (ι := []) hA12 eA12 (by decide +kernel)) (any_subA (l' := []) rfl)) (show inr ((-50)) by omega) (show ((-50)) = -50 ∧ ((a1) < 0 ∨ 3 < (a1) ∨ (a3) < 0 ∨ 4 < (a3) ∨ (a4) < 0 ∨ 65536 < (a4)) by omega))
          · refine Ew_of (pc' := 30) (fun _ => x_iload rfl rfl) ?_
            refine Ew_of (pc' := 32) (fun _ => x_ldc (z := 65536) rfl (by decide)) ?_
            refine w_icmple (t := 38) rfl rfl (show inr (a4) by omega) (show inr (65536) by omega) (fun b17 => ?_) (fun b17 => ?_)
            · refine Ew_of (pc' := 39) (fun _ => x_aload_n rfl rfl) ?_
              refine Ew_of (pc' := 40) (fun _ => x_iload_n rfl rfl) ?_
              refine Ew_of (pc' := 41) (fun _ => x_aload_n rfl rfl) ?_
              refine Ew_of (pc' := 42) (fun _ => x_aload_n rfl rfl) ?_
              refine v_g H (o := 0) (v := .ref (D 1)) rfl rfl rfl rfl rfl (vrf (((((show F12 0 0 = F10 0 0 from (eF12 0 0))).trans ((show F10 0 0 = F 0 0 from (eF10 0 0))))).trans (pf1))) ?_
              refine Ew_of (pc' := 46) (fun _ => x_iload_n rfl rfl) ?_
              refine v_lR H (o := 1) rfl rfl rfl rfl rfl (n := n1) (en1) (show 0 ≤ 0 ∧ 0 < n1 by have qh0 := HIDe r5; omega) (z := ((D 2 : Nat) : Int)) (v := .ref (D 2)) ((congrFun ((((show A12 1 = A10 1 from (eA12 1))).trans ((show A10 1 = A 1 from (eA10 1))))) 0).trans (pf2)) (vrf rfl) ?_
              refine Ew_of (pc' := 48) (fun _ => x_iload_n rfl rfl) ?_
              refine Ew_of (pc' := 50) (fun _ => x_iload rfl rfl) ?_
              refine Ew_of (pc' := 51) (fun _ => x_aload_n rfl rfl) ?_
              refine v_g H (o := 0) (v := .ref (D 10)) rfl rfl rfl rfl rfl (vrf (((((show F12 0 14 = F10 0 14 from (eF12 0 14))).trans ((show F10 0 14 = F 0 14 from (eF10 0 14))))).trans (pf10))) ?_
              exact hc54 (a1) (a3) (a4) _ _ _ _   H O (SF_trans (SF_trans (SF_refl) (SF_glu (ι := []) hS10 eF10 (by decide +kernel)) (any_sub (l' := []) rfl)) (SF_glu (ι := []) hS12 eF12 (by decide +kernel)) (any_sub (l' := []) rfl)) (SA_trans (SA_trans (SA_refl) (SA_glu (ι := []) hA10 eA10 (by decide +kernel)) (any_subA (l' := []) rfl)) (SA_glu (ι := []) hA12 eA12 (by decide +kernel)) (any_subA (l' := []) rfl))     (show inr (a1) by omega) (show inr (a3) by omega) (show inr (a4) by omega) (show 0 ≤ (a1) ∧ (a1) ≤ 3 by omega) (show 0 ≤ (a3) ∧ (a3) ≤ 4 by omega) (show 0 ≤ (a4) ∧ (a4) ≤ 65536 by omega) (show (a1) = (a1) ∧ (a3) = (a3) ∧ (a4) = (a4) by omega)
            · refine Ew_of (pc' := 37) (fun _ => x_bipush (z := -50) rfl (by decide)) ?_
              exact w_ireturn rfl (k ((-50)) _ _ _ H O (SF_trans (SF_trans (SF_refl) (SF_glu (ι := []) hS10 eF10 (by decide +kernel)) (any_sub (l' := []) rfl)) (SF_glu (ι := []) hS12 eF12 (by decide +kernel)) (any_sub (l' := []) rfl)) (SA_trans (SA_trans (SA_refl) (SA_glu (ι := []) hA10 eA10 (by decide +kernel)) (any_subA (l' := []) rfl)) (SA_glu (ι := []) hA12 eA12 (by decide +kernel)) (any_subA (l' := []) rfl)) (show inr ((-50)) by omega) (show ((-50)) = -50 ∧ ((a1) < 0 ∨ 3 < (a1) ∨ (a3) < 0 ∨ 4 < (a3) ∨ (a4) < 0 ∨ 65536 < (a4)) by omega))
abbrev V20_c20_vA : vV := [(0, 0, [(4, 0), (4, 0), (4, 0), (4, 0), (4, 0), (4, 0), (4, 0), (4, 0), (4, 0), (4, 0), (4, 0), (4, 0), (4, 0), (4, 0), (4, 0), (4, 0), (4, 0), (0, 0), (0, 0)]), (1, 4, []), (0, 7, [(4, 0), (0, 0), (1, 0), (0, 0), (0, 0)]), (1, 0, []), (0, 7, [(4, 0), (0, 0), (1, 0), (0, 0), (0, 0)]), (1, 0, []), (0, 7, [(4, 0), (0, 0), (1, 0), (0, 0), (0, 0)]), (1, 0, []), (0, 7, [(4, 0), (0, 0), (1, 0), (0, 0), (0, 0)]), (1, 0, []), (1, 1, [])]
/-- PackHouse.open: this, this.rows, this.rows.0, this.rows.0.bytes, this.rows.1, this.rows.1.bytes, this.rows.2, this.rows.2.bytes, this.rows.3, this.rows.3.bytes, this.readCounts -/
theorem C20_c20_vA {σE : rS} {D N : Nat → Nat} {F : hF} {A : hA} {d c s : Nat} {Q : wQ} (H : HW V20_c20_vA σE D N F A) (HT : STC σE) {a1 a3 : Int} (pf1 : F 0 0 = (D 1 : Int)) (pf2 : A 1 0 = (D 2 : Int)) (pf3 : F 2 0 = (D 3 : Int)) (pf4 : A 1 1 = (D 4 : Int)) (pf5 : F 4 0 = (D 5 : Int)) (pf6 : A 1 2 = (D 6 : Int)) (pf7 : F 6 0 = (D 7 : Int)) (pf8 : A 1 3 = (D 8 : Int)) (pf9 : F 8 0 = (D 9 : Int)) (pf10 : F 0 14 = (D 10 : Int)) (n1 : Int) (en1 : (N 1 : Int) = n1) (n3 : Int) (en3 : (N 3 : Int) = n3) (n5 : Int) (en5 : (N 5 : Int) = n5) (n7 : Int) (en7 : (N 7 : Int) = n7) (n9 : Int) (en9 : (N 9 : Int) = n9) (n10 : Int) (en10 : (N 10 : Int) = n10) (u2_1 : Int) (eu2_1 : F 2 1 = u2_1) (u4_1 : Int) (eu4_1 : F 4 1 = u4_1) (u6_1 : Int) (eu6_1 : F 6 1 = u6_1) (u8_1 : Int) (eu8_1 : F 8 1 = u8_1) (w3 : Int → Int) (ew3 : A 3 = w3) (h0 : inr (a1)) (h1 : inr (0)) (h2 : inr (a3)) (h3 : (n1) = 4) (h4 : 0 ≤ (u2_1) ∧ (u2_1) ≤ (n3) ∧ (n3) ≤ 65536) (h5 : 0 ≤ (u4_1) ∧ (u4_1) ≤ (n5) ∧ (n5) ≤ 65536) (h6 : 0 ≤ (u6_1) ∧ (u6_1) ≤ (n7) ∧ (n7) ≤ 65536) (h7 : 0 ≤ (u8_1) ∧ (u8_1) ≤ (n9) ∧ (n9) ≤ 65536) (hc68 : ∀ (tc68_1 : Int), ∀ (tc68_4 : Int), ∀ (tc68_5 : Int), ∀ (ls : rO) (σ : rS) (F_c68 : hF) (A_c68 : hA) , HW V20_c20_vA σ D N F_c68 A_c68 → OUT (V20_c20_vA).length D N σE c s D N σ c s → SF [] F F_c68 → SA [] A A_c68 → (inr (tc68_1)) → (inr (tc68_4)) → (inr (tc68_5)) → (0 ≤ (tc68_1) ∧ (tc68_1) ≤ 3) → ((tc68_4) = 1 ∨ (tc68_4) = 3 ∨ (tc68_4) = 4) → (0 ≤ (tc68_5) ∧ (tc68_5) ≤ 65536) → ((tc68_1) = (a1) ∧ (tc68_5) = (a3)) → ((tc68_4) = knF (sc ((w3)) 0 ((u2_1)))) → Ew 20 (d + 3) 68 ls [.ref (D 10), I (tc68_5), I (tc68_4), .ref (D 2), .ref (D 0), I (tc68_1), .ref (D 0)] σ c s Q) (k : ∀ (z : Int) (σ : rS) (F' : hF) (A' : hA), HW V20_c20_vA σ D N F' A' → OUT (V20_c20_vA).length D N σE c s D N σ c s → SF [] F F' → SA [] A A' → (inr (z)) → ((z) = -50 ∧ ((a1) < 0 ∨ 3 < (a1) ∨ (a3) < 0 ∨ 65536 < (a3)) ∨ (z) = -51 ∧ (0 ≤ (a1) ∧ (a1) ≤ 3 ∧ 0 ≤ (a3) ∧ (a3) ≤ 65536) ∧ (knF (sc ((w3)) 0 ((u2_1))) = 0 ∨ knF (sc ((w3)) 0 ((u2_1))) = 5)) → Q (some (I z)) σ c s) : Ew 20 (d + 3) 0 (rargs 0 [.ref (D 0), I a1, I 0, I a3]) [] σE c s Q := by
  have O := OUT_refl (n := (V20_c20_vA).length) (D := D) (N := N) (σ := σE) (c := c) (s := s)
  have HE := H
  have r1 : HID ((-2147483648 : Int) ≤ u2_1 ∧ u2_1 ≤ 2147483647) := krg_e (show (-2147483648 : Int) ≤ F 2 1 ∧ F 2 1 ≤ 2147483647 from H.krg 2 1 (by decide)) (show F 2 1 = u2_1 from (eu2_1))
  have r2 : HID ((-2147483648 : Int) ≤ u4_1 ∧ u4_1 ≤ 2147483647) := krg_e (show (-2147483648 : Int) ≤ F 4 1 ∧ F 4 1 ≤ 2147483647 from H.krg 4 1 (by decide)) (show F 4 1 = u4_1 from (eu4_1))
  have r3 : HID ((-2147483648 : Int) ≤ u6_1 ∧ u6_1 ≤ 2147483647) := krg_e (show (-2147483648 : Int) ≤ F 6 1 ∧ F 6 1 ≤ 2147483647 from H.krg 6 1 (by decide)) (show F 6 1 = u6_1 from (eu6_1))
  have r4 : HID ((-2147483648 : Int) ≤ u8_1 ∧ u8_1 ≤ 2147483647) := krg_e (show (-2147483648 : Int) ≤ F 8 1 ∧ F 8 1 ≤ 2147483647 from H.krg 8 1 (by decide)) (show F 8 1 = u8_1 from (eu8_1))
  replace pf1 := HIDm pf1
  replace pf2 := HIDm pf2
  replace pf3 := HIDm pf3
  replace pf4 := HIDm pf4
  replace pf5 := HIDm pf5
  replace pf6 := HIDm pf6
  replace pf7 := HIDm pf7
  replace pf8 := HIDm pf8
  replace pf9 := HIDm pf9
  replace pf10 := HIDm pf10
  replace en1 := HIDm en1
  replace en3 := HIDm en3
  replace en5 := HIDm en5
  replace en7 := HIDm en7
  replace en9 := HIDm en9
  replace en10 := HIDm en10
  replace eu2_1 := HIDm eu2_1
  replace eu4_1 := HIDm eu4_1
  replace eu6_1 := HIDm eu6_1
  replace eu8_1 := HIDm eu8_1
  have r5 : HID ((0 : Int) ≤ n1 ∧ n1 ≤ 1000000) := nrng (H.nle 1 (by decide)) (show (N 1 : Int) = n1 from en1)
  have r6 : HID ((0 : Int) ≤ n3 ∧ n3 ≤ 1000000) := nrng (H.nle 3 (by decide)) (show (N 3 : Int) = n3 from en3)
  have r7 : HID ((0 : Int) ≤ n5 ∧ n5 ≤ 1000000) := nrng (H.nle 5 (by decide)) (show (N 5 : Int) = n5 from en5)
  have r8 : HID ((0 : Int) ≤ n7 ∧ n7 ≤ 1000000) := nrng (H.nle 7 (by decide)) (show (N 7 : Int) = n7 from en7)
  have r9 : HID ((0 : Int) ≤ n9 ∧ n9 ≤ 1000000) := nrng (H.nle 9 (by decide)) (show (N 9 : Int) = n9 from en9)
  refine Ew_of (pc' := 1) (fun _ => x_iload_n rfl rfl) ?_
  refine w_stat24 rfl rfl (by rfl) (C24x (D := pul [] D) (N := pul [] N) (HW_sub H (VS_of (show vsub V20_c20_vA V24 [] = true by decide +kernel))) (show inr (a1) by omega) (fun z10 σ10 F10' A10' H' O' hS10 hA10 pz10_0 pz10_1 => ⟨rretB rfl pz10_0, ?_⟩))
  refine v_back (c := c) (s := s) H (show vsub V20_c20_vA V24 [] = true by decide +kernel) H' O' (fun F10 A10 H O' eF10 eA10 => ?_)
  have O := OUT_trans O O'
  -- PackHouse.isRow
  refine w_ifeq (t := 24) rfl rfl (show inr (z10) by omega) (fun b11 => ?_) (fun b11 => ?_)
  · refine Ew_of (pc' := 26) (fun _ => x_bipush (z := -50) rfl (by decide)) ?_
    exact w_ireturn rfl (k ((-50)) _ _ _ H O (SF_trans (SF_refl) (SF_glu (ι := []) hS10 eF10 (by decide +kernel)) (any_sub (l' := []) rfl)) (SA_trans (SA_refl) (SA_glu (ι := []) hA10 eA10 (by decide +kernel)) (any_subA (l' := []) rfl)) (show inr ((-50)) by omega) (show ((-50)) = -50 ∧ ((a1) < 0 ∨ 3 < (a1) ∨ (a3) < 0 ∨ 65536 < (a3)) ∨ ((-50)) = -51 ∧ (0 ≤ (a1) ∧ (a1) ≤ 3 ∧ 0 ≤ (a3) ∧ (a3) ≤ 65536) ∧ (knF (sc ((w3)) 0 ((u2_1))) = 0 ∨ knF (sc ((w3)) 0 ((u2_1))) = 5) by have qh0 := HIDe r1; omega))
  · refine Ew_of (pc' := 8) (fun _ => x_iload_n rfl rfl) ?_
    refine w_stat24 rfl rfl (by rfl) (C24x (D := pul [] D) (N := pul [] N) (HW_sub H (VS_of (show vsub V20_c20_vA V24 [] = true by decide +kernel))) (show inr (0) by omega) (fun z12 σ12 F12' A12' H' O' hS12 hA12 pz12_0 pz12_1 => ⟨rretB rfl pz12_0, ?_⟩))
    refine v_back (c := c) (s := s) H (show vsub V20_c20_vA V24 [] = true by decide +kernel) H' O' (fun F12 A12 H O' eF12 eA12 => ?_)
    have O := OUT_trans O O'
    -- PackHouse.isRow
    refine w_ifeq (t := 24) rfl rfl (show inr (z12) by omega) (fun b13 => ?_) (fun b13 => ?_)
    · refine Ew_of (pc' := 26) (fun _ => x_bipush (z := -50) rfl (by decide)) ?_
      exact w_ireturn rfl (k ((-50)) _ _ _ H O (SF_trans (SF_trans (SF_refl) (SF_glu (ι := []) hS10 eF10 (by decide +kernel)) (any_sub (l' := []) rfl)) (SF_glu (ι := []) hS12 eF12 (by decide +kernel)) (any_sub (l' := []) rfl)) (SA_trans (SA_trans (SA_refl) (SA_glu (ι := []) hA10 eA10 (by decide +kernel)) (any_subA (l' := []) rfl)) (SA_glu (ι := []) hA12 eA12 (by decide +kernel)) (any_subA (l' := []) rfl)) (show inr ((-50)) by omega) (show ((-50)) = -50 ∧ ((a1) < 0 ∨ 3 < (a1) ∨ (a3) < 0 ∨ 65536 < (a3)) ∨ ((-50)) = -51 ∧ (0 ≤ (a1) ∧ (a1) ≤ 3 ∧ 0 ≤ (a3) ∧ (a3) ≤ 65536) ∧ (knF (sc ((w3)) 0 ((u2_1))) = 0 ∨ knF (sc ((w3)) 0 ((u2_1))) = 5) by have qh0 := HIDe r1; omega))
    · refine Ew_of (pc' := 15) (fun _ => x_iload_n rfl rfl) ?_
      refine w_iflt (t := 24) rfl rfl (show inr (a3) by omega) (fun b14 => ?_) (fun b14 => ?_)
      · refine Ew_of (pc' := 26) (fun _ => x_bipush (z := -50) rfl (by decide)) ?_
        exact w_ireturn rfl (k ((-50)) _ _ _ H O (SF_trans (SF_trans (SF_refl) (SF_glu (ι := []) hS10 eF10 (by decide +kernel)) (any_sub (l' := []) rfl)) (SF_glu (ι := []) hS12 eF12 (by decide +kernel)) (any_sub (l' := []) rfl)) (SA_trans (SA_trans (SA_refl) (SA_glu (ι := []) hA10 eA10 (by decide +kernel)) (any_subA (l' := []) rfl)) (SA_glu (ι := []) hA12 eA12 (by decide +kernel)) (any_subA (l' := []) rfl)) (show inr ((-50)) by omega) (show ((-50)) = -50 ∧ ((a1) < 0 ∨ 3 < (a1) ∨ (a3) < 0 ∨ 65536 < (a3)) ∨ ((-50)) = -51 ∧ (0 ≤ (a1) ∧ (a1) ≤ 3 ∧ 0 ≤ (a3) ∧ (a3) ≤ 65536) ∧ (knF (sc ((w3)) 0 ((u2_1))) = 0 ∨ knF (sc ((w3)) 0 ((u2_1))) = 5) by have qh0 := HIDe r1; omega))
      · refine Ew_of (pc' := 19) (fun _ => x_iload_n rfl rfl) ?_
        refine Ew_of (pc' := 21) (fun _ => x_ldc (z := 65536) rfl (by decide)) ?_
        refine w_icmple (t := 27) rfl rfl (show inr (a3) by omega) (show inr (65536) by omega) (fun b15 => ?_) (fun b15 => ?_)
        · refine Ew_of (pc' := 28) (fun _ => x_aload_n rfl rfl) ?_
          refine v_g H (o := 0) (v := .ref (D 1)) rfl rfl rfl rfl rfl (vrf (((((show F12 0 0 = F10 0 0 from (eF12 0 0))).trans ((show F10 0 0 = F 0 0 from (eF10 0 0))))).trans (pf1))) ?_
          refine Ew_of (pc' := 32) (fun _ => x_iload_n rfl rfl) ?_
          refine v_lR H (o := 1) rfl rfl rfl rfl rfl (n := n1) (en1) (show 0 ≤ 0 ∧ 0 < n1 by have qh0 := HIDe r5; omega) (z := ((D 2 : Nat) : Int)) (v := .ref (D 2)) ((congrFun ((((show A12 1 = A10 1 from (eA12 1))).trans ((show A10 1 = A 1 from (eA10 1))))) 0).trans (pf2)) (vrf rfl) ?_
          refine w_stat24 rfl rfl (by rfl) (C33_Rowp (D := pul [2, 3] D) (N := pul [2, 3] N) (HW_sub H (VS_of (show vsub V20_c20_vA V33_Row [2, 3] = true by decide +kernel))) (STC_out HT HE O) (((((show F12 2 0 = F10 2 0 from (eF12 2 0))).trans ((show F10 2 0 = F 2 0 from (eF10 2 0))))).trans (pf3)) (n3) (en3) (u2_1) (((((show F12 2 1 = F10 2 1 from (eF12 2 1))).trans ((show F10 2 1 = F 2 1 from (eF10 2 1)))).trans (eu2_1))) (w3) (((show A12 3 = A10 3 from (eA12 3))).trans (((show A10 3 = A 3 from (eA10 3))).trans (ew3))) (show 0 ≤ (u2_1) ∧ (u2_1) ≤ (n3) ∧ (n3) ≤ 65536 by have qh0 := HIDe r1; have qh1 := HIDe r6; omega) (fun z16 σ16 F16' A16' H' O' hS16 hA16 pz16_0 pz16_1 pz16_2 => ⟨rfl, ?_⟩))
          refine v_back (c := c) (s := s) H (show vsub V20_c20_vA V33_Row [2, 3] = true by decide +kernel) H' O' (fun F16 A16 H O' eF16 eA16 => ?_)
          have O := OUT_trans O O'
          -- PackHouse.formatOf
          refine Ew_of (pc' := 38) (fun _ => x_istore rfl) ?_
          refine Ew_of (pc' := 40) (fun _ => x_iload rfl rk_s) ?_
          refine w_ifeq (t := 49) rfl rfl (show inr (z16) by omega) (fun b17 => ?_) (fun b17 => ?_)
          · refine Ew_of (pc' := 51) (fun _ => x_bipush (z := -51) rfl (by decide)) ?_
            exact w_ireturn rfl (k ((-51)) _ _ _ H O (SF_trans (SF_trans (SF_trans (SF_refl) (SF_glu (ι := []) hS10 eF10 (by decide +kernel)) (any_sub (l' := []) rfl)) (SF_glu (ι := []) hS12 eF12 (by decide +kernel)) (any_sub (l' := []) rfl)) (SF_glu (ι := [2, 3]) hS16 eF16 (by decide +kernel)) (any_sub (l' := []) rfl)) (SA_trans (SA_trans (SA_trans (SA_refl) (SA_glu (ι := []) hA10 eA10 (by decide +kernel)) (any_subA (l' := []) rfl)) (SA_glu (ι := []) hA12 eA12 (by decide +kernel)) (any_subA (l' := []) rfl)) (SA_glu (ι := [2, 3]) hA16 eA16 (by decide +kernel)) (any_subA (l' := []) rfl)) (show inr ((-51)) by omega) (show ((-51)) = -50 ∧ ((a1) < 0 ∨ 3 < (a1) ∨ (a3) < 0 ∨ 65536 < (a3)) ∨ ((-51)) = -51 ∧ (0 ≤ (a1) ∧ (a1) ≤ 3 ∧ 0 ≤ (a3) ∧ (a3) ≤ 65536) ∧ (knF (sc ((w3)) 0 ((u2_1))) = 0 ∨ knF (sc ((w3)) 0 ((u2_1))) = 5) by have qh0 := HIDe r1; omega))
          · refine Ew_of (pc' := 45) (fun _ => x_iload rfl rk_s) ?_
            refine Ew_of (pc' := 46) (fun _ => x_iconst rfl) ?_
            refine w_icmpne (t := 52) rfl rfl (show inr (z16) by omega) (show inr (5) by omega) (fun b18 => ?_) (fun b18 => ?_)
            · refine Ew_of (pc' := 53) (fun _ => x_aload_n rfl (rk_o (rfl) rfl rfl)) ?_
              refine Ew_of (pc' := 54) (fun _ => x_iload_n rfl (rk_o (rfl) rfl rfl)) ?_
              refine Ew_of (pc' := 55) (fun _ => x_aload_n rfl (rk_o (rfl) rfl rfl)) ?_
              refine Ew_of (pc' := 56) (fun _ => x_aload_n rfl (rk_o (rfl) rfl rfl)) ?_
              refine v_g H (o := 0) (v := .ref (D 1)) rfl rfl rfl rfl rfl (vrf ((((((show F16 0 0 = F12 0 0 from (eF16 0 0))).trans ((show F12 0 0 = F10 0 0 from (eF12 0 0)))).trans ((show F10 0 0 = F 0 0 from (eF10 0 0))))).trans (pf1))) ?_
              refine Ew_of (pc' := 60) (fun _ => x_iload_n rfl (rk_o (rfl) rfl rfl)) ?_
              refine v_lR H (o := 1) rfl rfl rfl rfl rfl (n := n1) (en1) (show 0 ≤ 0 ∧ 0 < n1 by have qh0 := HIDe r5; omega) (z := ((D 2 : Nat) : Int)) (v := .ref (D 2)) ((congrFun (((((show A16 1 = A12 1 from (eA16 1))).trans ((show A12 1 = A10 1 from (eA12 1)))).trans ((show A10 1 = A 1 from (eA10 1))))) 0).trans (pf2)) (vrf rfl) ?_
              refine Ew_of (pc' := 63) (fun _ => x_iload rfl rk_s) ?_
              refine Ew_of (pc' := 64) (fun _ => x_iload_n rfl (rk_o (rfl) rfl rfl)) ?_
              refine Ew_of (pc' := 65) (fun _ => x_aload_n rfl (rk_o (rfl) rfl rfl)) ?_
              refine v_g H (o := 0) (v := .ref (D 10)) rfl rfl rfl rfl rfl (vrf ((((((show F16 0 14 = F12 0 14 from (eF16 0 14))).trans ((show F12 0 14 = F10 0 14 from (eF12 0 14)))).trans ((show F10 0 14 = F 0 14 from (eF10 0 14))))).trans (pf10))) ?_
              exact hc68 (a1) (z16) (a3) _ _ _ _   H O (SF_trans (SF_trans (SF_trans (SF_refl) (SF_glu (ι := []) hS10 eF10 (by decide +kernel)) (any_sub (l' := []) rfl)) (SF_glu (ι := []) hS12 eF12 (by decide +kernel)) (any_sub (l' := []) rfl)) (SF_glu (ι := [2, 3]) hS16 eF16 (by decide +kernel)) (any_sub (l' := []) rfl)) (SA_trans (SA_trans (SA_trans (SA_refl) (SA_glu (ι := []) hA10 eA10 (by decide +kernel)) (any_subA (l' := []) rfl)) (SA_glu (ι := []) hA12 eA12 (by decide +kernel)) (any_subA (l' := []) rfl)) (SA_glu (ι := [2, 3]) hA16 eA16 (by decide +kernel)) (any_subA (l' := []) rfl))     (show inr (a1) by omega) (show inr (z16) by omega) (show inr (a3) by omega) (show 0 ≤ (a1) ∧ (a1) ≤ 3 by omega) (show (z16) = 1 ∨ (z16) = 3 ∨ (z16) = 4 by omega) (show 0 ≤ (a3) ∧ (a3) ≤ 65536 by omega) (show (a1) = (a1) ∧ (a3) = (a3) by omega) (show (z16) = knF (sc ((w3)) 0 ((u2_1))) by have qh0 := HIDe r1; omega)
            · refine Ew_of (pc' := 51) (fun _ => x_bipush (z := -51) rfl (by decide)) ?_
              exact w_ireturn rfl (k ((-51)) _ _ _ H O (SF_trans (SF_trans (SF_trans (SF_refl) (SF_glu (ι := []) hS10 eF10 (by decide +kernel)) (any_sub (l' := []) rfl)) (SF_glu (ι := []) hS12 eF12 (by decide +kernel)) (any_sub (l' := []) rfl)) (SF_glu (ι := [2, 3]) hS16 eF16 (by decide +kernel)) (any_sub (l' := []) rfl)) (SA_trans (SA_trans (SA_trans (SA_refl) (SA_glu (ι := []) hA10 eA10 (by decide +kernel)) (any_subA (l' := []) rfl)) (SA_glu (ι := []) hA12 eA12 (by decide +kernel)) (any_subA (l' := []) rfl)) (SA_glu (ι := [2, 3]) hA16 eA16 (by decide +kernel)) (any_subA (l' := []) rfl)) (show inr ((-51)) by omega) (show ((-51)) = -50 ∧ ((a1) < 0 ∨ 3 < (a1) ∨ (a3) < 0 ∨ 65536 < (a3)) ∨ ((-51)) = -51 ∧ (0 ≤ (a1) ∧ (a1) ≤ 3 ∧ 0 ≤ (a3) ∧ (a3) ≤ 65536) ∧ (knF (sc ((w3)) 0 ((u2_1))) = 0 ∨ knF (sc ((w3)) 0 ((u2_1))) = 5) by have qh0 := HIDe r1; omega))
        · refine Ew_of (pc' := 26) (fun _ => x_bipush (z := -50) rfl (by decide)) ?_
          exact w_ireturn rfl (k ((-50)) _ _ _ H O (SF_trans (SF_trans (SF_refl) (SF_glu (ι := []) hS10 eF10 (by decide +kernel)) (any_sub (l' := []) rfl)) (SF_glu (ι := []) hS12 eF12 (by decide +kernel)) (any_sub (l' := []) rfl)) (SA_trans (SA_trans (SA_refl) (SA_glu (ι := []) hA10 eA10 (by decide +kernel)) (any_subA (l' := []) rfl)) (SA_glu (ι := []) hA12 eA12 (by decide +kernel)) (any_subA (l' := []) rfl)) (show inr ((-50)) by omega) (show ((-50)) = -50 ∧ ((a1) < 0 ∨ 3 < (a1) ∨ (a3) < 0 ∨ 65536 < (a3)) ∨ ((-50)) = -51 ∧ (0 ≤ (a1) ∧ (a1) ≤ 3 ∧ 0 ≤ (a3) ∧ (a3) ≤ 65536) ∧ (knF (sc ((w3)) 0 ((u2_1))) = 0 ∨ knF (sc ((w3)) 0 ((u2_1))) = 5) by have qh0 := HIDe r1; omega))
abbrev V18_c21_vA : vV := [(0, 0, [(4, 0), (4, 0), (4, 0), (4, 0), (4, 0), (4, 0), (4, 0), (4, 0), (4, 0), (4, 0), (4, 0), (4, 0), (4, 0), (4, 0), (4, 0), (4, 0), (4, 0), (0, 0), (0, 0)]), (1, 4, []), (0, 7, [(4, 0), (0, 0), (1, 0), (0, 0), (0, 0)]), (1, 0, []), (0, 7, [(4, 0), (0, 0), (1, 0), (0, 0), (0, 0)]), (1, 0, []), (0, 7, [(4, 0), (0, 0), (1, 0), (0, 0), (0, 0)]), (1, 0, []), (0, 7, [(4, 0), (0, 0), (1, 0), (0, 0), (0, 0)]), (1, 0, []), (1, 1, [])]
/-- PackHouse.read: this, this.rows, this.rows.0, this.rows.0.bytes, this.rows.1, this.rows.1.bytes, this.rows.2, this.rows.2.bytes, this.rows.3, this.rows.3.bytes, this.readCounts -/
theorem C18_c21_vA {σE : rS} {D N : Nat → Nat} {F : hF} {A : hA} {d c s : Nat} {Q : wQ} (H : HW V18_c21_vA σE D N F A) {a1 a3 a4 : Int} (pf1 : F 0 0 = (D 1 : Int)) (pf2 : A 1 0 = (D 2 : Int)) (pf3 : F 2 0 = (D 3 : Int)) (pf4 : A 1 1 = (D 4 : Int)) (pf5 : F 4 0 = (D 5 : Int)) (pf6 : A 1 2 = (D 6 : Int)) (pf7 : F 6 0 = (D 7 : Int)) (pf8 : A 1 3 = (D 8 : Int)) (pf9 : F 8 0 = (D 9 : Int)) (pf10 : F 0 14 = (D 10 : Int)) (n1 : Int) (en1 : (N 1 : Int) = n1) (n3 : Int) (en3 : (N 3 : Int) = n3) (n5 : Int) (en5 : (N 5 : Int) = n5) (n7 : Int) (en7 : (N 7 : Int) = n7) (n9 : Int) (en9 : (N 9 : Int) = n9) (n10 : Int) (en10 : (N 10 : Int) = n10) (u2_1 : Int) (eu2_1 : F 2 1 = u2_1) (u4_1 : Int) (eu4_1 : F 4 1 = u4_1) (u6_1 : Int) (eu6_1 : F 6 1 = u6_1) (u8_1 : Int) (eu8_1 : F 8 1 = u8_1) (h0 : inr (a1)) (h1 : inr (1)) (h2 : inr (a3)) (h3 : inr (a4)) (h4 : (n1) = 4) (h5 : 0 ≤ (u2_1) ∧ (u2_1) ≤ (n3) ∧ (n3) ≤ 65536) (h6 : 0 ≤ (u4_1) ∧ (u4_1) ≤ (n5) ∧ (n5) ≤ 65536) (h7 : 0 ≤ (u6_1) ∧ (u6_1) ≤ (n7) ∧ (n7) ≤ 65536) (h8 : 0 ≤ (u8_1) ∧ (u8_1) ≤ (n9) ∧ (n9) ≤ 65536) (hc54 : ∀ (tc54_1 : Int), ∀ (tc54_4 : Int), ∀ (tc54_5 : Int), ∀ (ls : rO) (σ : rS) (F_c54 : hF) (A_c54 : hA) , HW V18_c21_vA σ D N F_c54 A_c54 → OUT (V18_c21_vA).length D N σE c s D N σ c s → SF [] F F_c54 → SA [] A A_c54 → (inr (tc54_1)) → (inr (tc54_4)) → (inr (tc54_5)) → (0 ≤ (tc54_1) ∧ (tc54_1) ≤ 3) → (0 ≤ (tc54_4) ∧ (tc54_4) ≤ 4) → (0 ≤ (tc54_5) ∧ (tc54_5) ≤ 65536) → ((tc54_1) = (a1) ∧ (tc54_4) = (a3) ∧ (tc54_5) = (a4)) → Ew 18 (d + 1) 54 ls [.ref (D 10), I (tc54_5), I (tc54_4), .ref (D 4), .ref (D 0), I (tc54_1), .ref (D 0)] σ c s Q) (k : ∀ (z : Int) (σ : rS) (F' : hF) (A' : hA), HW V18_c21_vA σ D N F' A' → OUT (V18_c21_vA).length D N σE c s D N σ c s → SF [] F F' → SA [] A A' → (inr (z)) → ((z) = -50 ∧ ((a1) < 0 ∨ 3 < (a1) ∨ (a3) < 0 ∨ 4 < (a3) ∨ (a4) < 0 ∨ 65536 < (a4))) → Q (some (I z)) σ c s) : Ew 18 (d + 1) 0 (rargs 0 [.ref (D 0), I a1, I 1, I a3, I a4]) [] σE c s Q := by
  have O := OUT_refl (n := (V18_c21_vA).length) (D := D) (N := N) (σ := σE) (c := c) (s := s)
  have HE := H
  have r1 : HID ((-2147483648 : Int) ≤ u2_1 ∧ u2_1 ≤ 2147483647) := krg_e (show (-2147483648 : Int) ≤ F 2 1 ∧ F 2 1 ≤ 2147483647 from H.krg 2 1 (by decide)) (show F 2 1 = u2_1 from (eu2_1))
  have r2 : HID ((-2147483648 : Int) ≤ u4_1 ∧ u4_1 ≤ 2147483647) := krg_e (show (-2147483648 : Int) ≤ F 4 1 ∧ F 4 1 ≤ 2147483647 from H.krg 4 1 (by decide)) (show F 4 1 = u4_1 from (eu4_1))
  have r3 : HID ((-2147483648 : Int) ≤ u6_1 ∧ u6_1 ≤ 2147483647) := krg_e (show (-2147483648 : Int) ≤ F 6 1 ∧ F 6 1 ≤ 2147483647 from H.krg 6 1 (by decide)) (show F 6 1 = u6_1 from (eu6_1))
  have r4 : HID ((-2147483648 : Int) ≤ u8_1 ∧ u8_1 ≤ 2147483647) := krg_e (show (-2147483648 : Int) ≤ F 8 1 ∧ F 8 1 ≤ 2147483647 from H.krg 8 1 (by decide)) (show F 8 1 = u8_1 from (eu8_1))
  replace pf1 := HIDm pf1
  replace pf2 := HIDm pf2
  replace pf3 := HIDm pf3
  replace pf4 := HIDm pf4
  replace pf5 := HIDm pf5
  replace pf6 := HIDm pf6
  replace pf7 := HIDm pf7
  replace pf8 := HIDm pf8
  replace pf9 := HIDm pf9
  replace pf10 := HIDm pf10
  replace en1 := HIDm en1
  replace en3 := HIDm en3
  replace en5 := HIDm en5
  replace en7 := HIDm en7
  replace en9 := HIDm en9
  replace en10 := HIDm en10
  replace eu2_1 := HIDm eu2_1
  replace eu4_1 := HIDm eu4_1
  replace eu6_1 := HIDm eu6_1
  replace eu8_1 := HIDm eu8_1
  have r5 : HID ((0 : Int) ≤ n1 ∧ n1 ≤ 1000000) := nrng (H.nle 1 (by decide)) (show (N 1 : Int) = n1 from en1)
  have r6 : HID ((0 : Int) ≤ n3 ∧ n3 ≤ 1000000) := nrng (H.nle 3 (by decide)) (show (N 3 : Int) = n3 from en3)
  have r7 : HID ((0 : Int) ≤ n5 ∧ n5 ≤ 1000000) := nrng (H.nle 5 (by decide)) (show (N 5 : Int) = n5 from en5)
  have r8 : HID ((0 : Int) ≤ n7 ∧ n7 ≤ 1000000) := nrng (H.nle 7 (by decide)) (show (N 7 : Int) = n7 from en7)
  have r9 : HID ((0 : Int) ≤ n9 ∧ n9 ≤ 1000000) := nrng (H.nle 9 (by decide)) (show (N 9 : Int) = n9 from en9)
  refine Ew_of (pc' := 1) (fun _ => x_iload_n rfl rfl) ?_
  refine w_stat24 rfl rfl (by rfl) (C24x (D := pul [] D) (N := pul [] N) (HW_sub H (VS_of (show vsub V18_c21_vA V24 [] = true by decide +kernel))) (show inr (a1) by omega) (fun z10 σ10 F10' A10' H' O' hS10 hA10 pz10_0 pz10_1 => ⟨rretB rfl pz10_0, ?_⟩))
  refine v_back (c := c) (s := s) H (show vsub V18_c21_vA V24 [] = true by decide +kernel) H' O' (fun F10 A10 H O' eF10 eA10 => ?_)
  have O := OUT_trans O O'
  -- PackHouse.isRow
  refine w_ifeq (t := 35) rfl rfl (show inr (z10) by omega) (fun b11 => ?_) (fun b11 => ?_)
  · refine Ew_of (pc' := 37) (fun _ => x_bipush (z := -50) rfl (by decide)) ?_
    exact w_ireturn rfl (k ((-50)) _ _ _ H O (SF_trans (SF_refl) (SF_glu (ι := []) hS10 eF10 (by decide +kernel)) (any_sub (l' := []) rfl)) (SA_trans (SA_refl) (SA_glu (ι := []) hA10 eA10 (by decide +kernel)) (any_subA (l' := []) rfl)) (show inr ((-50)) by omega) (show ((-50)) = -50 ∧ ((a1) < 0 ∨ 3 < (a1) ∨ (a3) < 0 ∨ 4 < (a3) ∨ (a4) < 0 ∨ 65536 < (a4)) by omega))
  · refine Ew_of (pc' := 8) (fun _ => x_iload_n rfl rfl) ?_
    refine w_stat24 rfl rfl (by rfl) (C24x (D := pul [] D) (N := pul [] N) (HW_sub H (VS_of (show vsub V18_c21_vA V24 [] = true by decide +kernel))) (show inr (1) by omega) (fun z12 σ12 F12' A12' H' O' hS12 hA12 pz12_0 pz12_1 => ⟨rretB rfl pz12_0, ?_⟩))
    refine v_back (c := c) (s := s) H (show vsub V18_c21_vA V24 [] = true by decide +kernel) H' O' (fun F12 A12 H O' eF12 eA12 => ?_)
    have O := OUT_trans O O'
    -- PackHouse.isRow
    refine w_ifeq (t := 35) rfl rfl (show inr (z12) by omega) (fun b13 => ?_) (fun b13 => ?_)
    · refine Ew_of (pc' := 37) (fun _ => x_bipush (z := -50) rfl (by decide)) ?_
      exact w_ireturn rfl (k ((-50)) _ _ _ H O (SF_trans (SF_trans (SF_refl) (SF_glu (ι := []) hS10 eF10 (by decide +kernel)) (any_sub (l' := []) rfl)) (SF_glu (ι := []) hS12 eF12 (by decide +kernel)) (any_sub (l' := []) rfl)) (SA_trans (SA_trans (SA_refl) (SA_glu (ι := []) hA10 eA10 (by decide +kernel)) (any_subA (l' := []) rfl)) (SA_glu (ι := []) hA12 eA12 (by decide +kernel)) (any_subA (l' := []) rfl)) (show inr ((-50)) by omega) (show ((-50)) = -50 ∧ ((a1) < 0 ∨ 3 < (a1) ∨ (a3) < 0 ∨ 4 < (a3) ∨ (a4) < 0 ∨ 65536 < (a4)) by omega))
    · refine Ew_of (pc' := 15) (fun _ => x_iload_n rfl rfl) ?_
      refine w_iflt (t := 35) rfl rfl (show inr (a3) by omega) (fun b14 => ?_) (fun b14 => ?_)
      · refine Ew_of (pc' := 37) (fun _ => x_bipush (z := -50) rfl (by decide)) ?_
        exact w_ireturn rfl (k ((-50)) _ _ _ H O (SF_trans (SF_trans (SF_refl) (SF_glu (ι := []) hS10 eF10 (by decide +kernel)) (any_sub (l' := []) rfl)) (SF_glu (ι := []) hS12 eF12 (by decide +kernel)) (any_sub (l' := []) rfl)) (SA_trans (SA_trans (SA_refl) (SA_glu (ι := []) hA10 eA10 (by decide +kernel)) (any_subA (l' := []) rfl)) (SA_glu (ι := []) hA12 eA12 (by decide +kernel)) (any_subA (l' := []) rfl)) (show inr ((-50)) by omega) (show ((-50)) = -50 ∧ ((a1) < 0 ∨ 3 < (a1) ∨ (a3) < 0 ∨ 4 < (a3) ∨ (a4) < 0 ∨ 65536 < (a4)) by omega))
      · refine Ew_of (pc' := 19) (fun _ => x_iload_n rfl rfl) ?_
        refine Ew_of (pc' := 20) (fun _ => x_iconst rfl) ?_
        refine w_icmpgt (t := 35) rfl rfl (show inr (a3) by omega) (show inr (4) by omega) (fun b15 => ?_) (fun b15 => ?_)
        · refine Ew_of (pc' := 37) (fun _ => x_bipush (z := -50) rfl (by decide)) ?_
          exact w_ireturn rfl (k ((-50)) _ _ _ H O (SF_trans (SF_trans (SF_refl) (SF_glu (ι := []) hS10 eF10 (by decide +kernel)) (any_sub (l' := []) rfl)) (SF_glu (ι := []) hS12 eF12 (by decide +kernel)) (any_sub (l' := []) rfl)) (SA_trans (SA_trans (SA_refl) (SA_glu (ι := []) hA10 eA10 (by decide +kernel)) (any_subA (l' := []) rfl)) (SA_glu (ι := []) hA12 eA12 (by decide +kernel)) (any_subA (l' := []) rfl)) (show inr ((-50)) by omega) (show ((-50)) = -50 ∧ ((a1) < 0 ∨ 3 < (a1) ∨ (a3) < 0 ∨ 4 < (a3) ∨ (a4) < 0 ∨ 65536 < (a4)) by omega))
        · refine Ew_of (pc' := 25) (fun _ => x_iload rfl rfl) ?_
          refine w_iflt (t := 35) rfl rfl (show inr (a4) by omega) (fun b16 => ?_) (fun b16 => ?_)
          · refine Ew_of (pc' := 37) (fun _ => x_bipush (z := -50) rfl (by decide)) ?_
            exact w_ireturn rfl (k ((-50)) _ _ _ H O (SF_trans (SF_trans (SF_refl) (SF_glu (ι := []) hS10 eF10 (by decide +kernel)) (any_sub (l' := []) rfl)) (SF_glu (ι := []) hS12 eF12 (by decide +kernel)) (any_sub (l' := []) rfl)) (SA_trans (SA_trans (SA_refl) (SA_glu (ι := []) hA10 eA10 (by decide +kernel)) (any_subA (l' := []) rfl)) (SA_glu (ι := []) hA12 eA12 (by decide +kernel)) (any_subA (l' := []) rfl)) (show inr ((-50)) by omega) (show ((-50)) = -50 ∧ ((a1) < 0 ∨ 3 < (a1) ∨ (a3) < 0 ∨ 4 < (a3) ∨ (a4) < 0 ∨ 65536 < (a4)) by omega))
          · refine Ew_of (pc' := 30) (fun _ => x_iload rfl rfl) ?_
            refine Ew_of (pc' := 32) (fun _ => x_ldc (z := 65536) rfl (by decide)) ?_
            refine w_icmple (t := 38) rfl rfl (show inr (a4) by omega) (show inr (65536) by omega) (fun b17 => ?_) (fun b17 => ?_)
            · refine Ew_of (pc' := 39) (fun _ => x_aload_n rfl rfl) ?_
              refine Ew_of (pc' := 40) (fun _ => x_iload_n rfl rfl) ?_
              refine Ew_of (pc' := 41) (fun _ => x_aload_n rfl rfl) ?_
              refine Ew_of (pc' := 42) (fun _ => x_aload_n rfl rfl) ?_
              refine v_g H (o := 0) (v := .ref (D 1)) rfl rfl rfl rfl rfl (vrf (((((show F12 0 0 = F10 0 0 from (eF12 0 0))).trans ((show F10 0 0 = F 0 0 from (eF10 0 0))))).trans (pf1))) ?_
              refine Ew_of (pc' := 46) (fun _ => x_iload_n rfl rfl) ?_
              refine v_lR H (o := 1) rfl rfl rfl rfl rfl (n := n1) (en1) (show 0 ≤ 1 ∧ 1 < n1 by have qh0 := HIDe r5; omega) (z := ((D 4 : Nat) : Int)) (v := .ref (D 4)) ((congrFun ((((show A12 1 = A10 1 from (eA12 1))).trans ((show A10 1 = A 1 from (eA10 1))))) 1).trans (pf4)) (vrf rfl) ?_
              refine Ew_of (pc' := 48) (fun _ => x_iload_n rfl rfl) ?_
              refine Ew_of (pc' := 50) (fun _ => x_iload rfl rfl) ?_
              refine Ew_of (pc' := 51) (fun _ => x_aload_n rfl rfl) ?_
              refine v_g H (o := 0) (v := .ref (D 10)) rfl rfl rfl rfl rfl (vrf (((((show F12 0 14 = F10 0 14 from (eF12 0 14))).trans ((show F10 0 14 = F 0 14 from (eF10 0 14))))).trans (pf10))) ?_
              exact hc54 (a1) (a3) (a4) _ _ _ _   H O (SF_trans (SF_trans (SF_refl) (SF_glu (ι := []) hS10 eF10 (by decide +kernel)) (any_sub (l' := []) rfl)) (SF_glu (ι := []) hS12 eF12 (by decide +kernel)) (any_sub (l' := []) rfl)) (SA_trans (SA_trans (SA_refl) (SA_glu (ι := []) hA10 eA10 (by decide +kernel)) (any_subA (l' := []) rfl)) (SA_glu (ι := []) hA12 eA12 (by decide +kernel)) (any_subA (l' := []) rfl))     (show inr (a1) by omega) (show inr (a3) by omega) (show inr (a4) by omega) (show 0 ≤ (a1) ∧ (a1) ≤ 3 by omega) (show 0 ≤ (a3) ∧ (a3) ≤ 4 by omega) (show 0 ≤ (a4) ∧ (a4) ≤ 65536 by omega) (show (a1) = (a1) ∧ (a3) = (a3) ∧ (a4) = (a4) by omega)
            · refine Ew_of (pc' := 37) (fun _ => x_bipush (z := -50) rfl (by decide)) ?_
              exact w_ireturn rfl (k ((-50)) _ _ _ H O (SF_trans (SF_trans (SF_refl) (SF_glu (ι := []) hS10 eF10 (by decide +kernel)) (any_sub (l' := []) rfl)) (SF_glu (ι := []) hS12 eF12 (by decide +kernel)) (any_sub (l' := []) rfl)) (SA_trans (SA_trans (SA_refl) (SA_glu (ι := []) hA10 eA10 (by decide +kernel)) (any_subA (l' := []) rfl)) (SA_glu (ι := []) hA12 eA12 (by decide +kernel)) (any_subA (l' := []) rfl)) (show inr ((-50)) by omega) (show ((-50)) = -50 ∧ ((a1) < 0 ∨ 3 < (a1) ∨ (a3) < 0 ∨ 4 < (a3) ∨ (a4) < 0 ∨ 65536 < (a4)) by omega))
abbrev V20_c21_vA : vV := [(0, 0, [(4, 0), (4, 0), (4, 0), (4, 0), (4, 0), (4, 0), (4, 0), (4, 0), (4, 0), (4, 0), (4, 0), (4, 0), (4, 0), (4, 0), (4, 0), (4, 0), (4, 0), (0, 0), (0, 0)]), (1, 4, []), (0, 7, [(4, 0), (0, 0), (1, 0), (0, 0), (0, 0)]), (1, 0, []), (0, 7, [(4, 0), (0, 0), (1, 0), (0, 0), (0, 0)]), (1, 0, []), (0, 7, [(4, 0), (0, 0), (1, 0), (0, 0), (0, 0)]), (1, 0, []), (0, 7, [(4, 0), (0, 0), (1, 0), (0, 0), (0, 0)]), (1, 0, []), (1, 1, [])]
/-- PackHouse.open: this, this.rows, this.rows.0, this.rows.0.bytes, this.rows.1, this.rows.1.bytes, this.rows.2, this.rows.2.bytes, this.rows.3, this.rows.3.bytes, this.readCounts -/
theorem C20_c21_vA {σE : rS} {D N : Nat → Nat} {F : hF} {A : hA} {d c s : Nat} {Q : wQ} (H : HW V20_c21_vA σE D N F A) (HT : STC σE) {a1 a3 : Int} (pf1 : F 0 0 = (D 1 : Int)) (pf2 : A 1 0 = (D 2 : Int)) (pf3 : F 2 0 = (D 3 : Int)) (pf4 : A 1 1 = (D 4 : Int)) (pf5 : F 4 0 = (D 5 : Int)) (pf6 : A 1 2 = (D 6 : Int)) (pf7 : F 6 0 = (D 7 : Int)) (pf8 : A 1 3 = (D 8 : Int)) (pf9 : F 8 0 = (D 9 : Int)) (pf10 : F 0 14 = (D 10 : Int)) (n1 : Int) (en1 : (N 1 : Int) = n1) (n3 : Int) (en3 : (N 3 : Int) = n3) (n5 : Int) (en5 : (N 5 : Int) = n5) (n7 : Int) (en7 : (N 7 : Int) = n7) (n9 : Int) (en9 : (N 9 : Int) = n9) (n10 : Int) (en10 : (N 10 : Int) = n10) (u2_1 : Int) (eu2_1 : F 2 1 = u2_1) (u4_1 : Int) (eu4_1 : F 4 1 = u4_1) (u6_1 : Int) (eu6_1 : F 6 1 = u6_1) (u8_1 : Int) (eu8_1 : F 8 1 = u8_1) (w5 : Int → Int) (ew5 : A 5 = w5) (h0 : inr (a1)) (h1 : inr (1)) (h2 : inr (a3)) (h3 : (n1) = 4) (h4 : 0 ≤ (u2_1) ∧ (u2_1) ≤ (n3) ∧ (n3) ≤ 65536) (h5 : 0 ≤ (u4_1) ∧ (u4_1) ≤ (n5) ∧ (n5) ≤ 65536) (h6 : 0 ≤ (u6_1) ∧ (u6_1) ≤ (n7) ∧ (n7) ≤ 65536) (h7 : 0 ≤ (u8_1) ∧ (u8_1) ≤ (n9) ∧ (n9) ≤ 65536) (hc68 : ∀ (tc68_1 : Int), ∀ (tc68_4 : Int), ∀ (tc68_5 : Int), ∀ (ls : rO) (σ : rS) (F_c68 : hF) (A_c68 : hA) , HW V20_c21_vA σ D N F_c68 A_c68 → OUT (V20_c21_vA).length D N σE c s D N σ c s → SF [] F F_c68 → SA [] A A_c68 → (inr (tc68_1)) → (inr (tc68_4)) → (inr (tc68_5)) → (0 ≤ (tc68_1) ∧ (tc68_1) ≤ 3) → ((tc68_4) = 1 ∨ (tc68_4) = 3 ∨ (tc68_4) = 4) → (0 ≤ (tc68_5) ∧ (tc68_5) ≤ 65536) → ((tc68_1) = (a1) ∧ (tc68_5) = (a3)) → ((tc68_4) = knF (sc ((w5)) 0 ((u4_1)))) → Ew 20 (d + 3) 68 ls [.ref (D 10), I (tc68_5), I (tc68_4), .ref (D 4), .ref (D 0), I (tc68_1), .ref (D 0)] σ c s Q) (k : ∀ (z : Int) (σ : rS) (F' : hF) (A' : hA), HW V20_c21_vA σ D N F' A' → OUT (V20_c21_vA).length D N σE c s D N σ c s → SF [] F F' → SA [] A A' → (inr (z)) → ((z) = -50 ∧ ((a1) < 0 ∨ 3 < (a1) ∨ (a3) < 0 ∨ 65536 < (a3)) ∨ (z) = -51 ∧ (0 ≤ (a1) ∧ (a1) ≤ 3 ∧ 0 ≤ (a3) ∧ (a3) ≤ 65536) ∧ (knF (sc ((w5)) 0 ((u4_1))) = 0 ∨ knF (sc ((w5)) 0 ((u4_1))) = 5)) → Q (some (I z)) σ c s) : Ew 20 (d + 3) 0 (rargs 0 [.ref (D 0), I a1, I 1, I a3]) [] σE c s Q := by
  have O := OUT_refl (n := (V20_c21_vA).length) (D := D) (N := N) (σ := σE) (c := c) (s := s)
  have HE := H
  have r1 : HID ((-2147483648 : Int) ≤ u2_1 ∧ u2_1 ≤ 2147483647) := krg_e (show (-2147483648 : Int) ≤ F 2 1 ∧ F 2 1 ≤ 2147483647 from H.krg 2 1 (by decide)) (show F 2 1 = u2_1 from (eu2_1))
  have r2 : HID ((-2147483648 : Int) ≤ u4_1 ∧ u4_1 ≤ 2147483647) := krg_e (show (-2147483648 : Int) ≤ F 4 1 ∧ F 4 1 ≤ 2147483647 from H.krg 4 1 (by decide)) (show F 4 1 = u4_1 from (eu4_1))
  have r3 : HID ((-2147483648 : Int) ≤ u6_1 ∧ u6_1 ≤ 2147483647) := krg_e (show (-2147483648 : Int) ≤ F 6 1 ∧ F 6 1 ≤ 2147483647 from H.krg 6 1 (by decide)) (show F 6 1 = u6_1 from (eu6_1))
  have r4 : HID ((-2147483648 : Int) ≤ u8_1 ∧ u8_1 ≤ 2147483647) := krg_e (show (-2147483648 : Int) ≤ F 8 1 ∧ F 8 1 ≤ 2147483647 from H.krg 8 1 (by decide)) (show F 8 1 = u8_1 from (eu8_1))
  replace pf1 := HIDm pf1
  replace pf2 := HIDm pf2
  replace pf3 := HIDm pf3
  replace pf4 := HIDm pf4
  replace pf5 := HIDm pf5
  replace pf6 := HIDm pf6
  replace pf7 := HIDm pf7
  replace pf8 := HIDm pf8
  replace pf9 := HIDm pf9
  replace pf10 := HIDm pf10
  replace en1 := HIDm en1
  replace en3 := HIDm en3
  replace en5 := HIDm en5
  replace en7 := HIDm en7
  replace en9 := HIDm en9
  replace en10 := HIDm en10
  replace eu2_1 := HIDm eu2_1
  replace eu4_1 := HIDm eu4_1
  replace eu6_1 := HIDm eu6_1
  replace eu8_1 := HIDm eu8_1
  have r5 : HID ((0 : Int) ≤ n1 ∧ n1 ≤ 1000000) := nrng (H.nle 1 (by decide)) (show (N 1 : Int) = n1 from en1)
  have r6 : HID ((0 : Int) ≤ n3 ∧ n3 ≤ 1000000) := nrng (H.nle 3 (by decide)) (show (N 3 : Int) = n3 from en3)
  have r7 : HID ((0 : Int) ≤ n5 ∧ n5 ≤ 1000000) := nrng (H.nle 5 (by decide)) (show (N 5 : Int) = n5 from en5)
  have r8 : HID ((0 : Int) ≤ n7 ∧ n7 ≤ 1000000) := nrng (H.nle 7 (by decide)) (show (N 7 : Int) = n7 from en7)
  have r9 : HID ((0 : Int) ≤ n9 ∧ n9 ≤ 1000000) := nrng (H.nle 9 (by decide)) (show (N 9 : Int) = n9 from en9)
  refine Ew_of (pc' := 1) (fun _ => x_iload_n rfl rfl) ?_
  refine w_stat24 rfl rfl (by rfl) (C24x (D := pul [] D) (N := pul [] N) (HW_sub H (VS_of (show vsub V20_c21_vA V24 [] = true by decide +kernel))) (show inr (a1) by omega) (fun z10 σ10 F10' A10' H' O' hS10 hA10 pz10_0 pz10_1 => ⟨rretB rfl pz10_0, ?_⟩))
  refine v_back (c := c) (s := s) H (show vsub V20_c21_vA V24 [] = true by decide +kernel) H' O' (fun F10 A10 H O' eF10 eA10 => ?_)
  have O := OUT_trans O O'
  -- PackHouse.isRow
  refine w_ifeq (t := 24) rfl rfl (show inr (z10) by omega) (fun b11 => ?_) (fun b11 => ?_)
  · refine Ew_of (pc' := 26) (fun _ => x_bipush (z := -50) rfl (by decide)) ?_
    exact w_ireturn rfl (k ((-50)) _ _ _ H O (SF_trans (SF_refl) (SF_glu (ι := []) hS10 eF10 (by decide +kernel)) (any_sub (l' := []) rfl)) (SA_trans (SA_refl) (SA_glu (ι := []) hA10 eA10 (by decide +kernel)) (any_subA (l' := []) rfl)) (show inr ((-50)) by omega) (show ((-50)) = -50 ∧ ((a1) < 0 ∨ 3 < (a1) ∨ (a3) < 0 ∨ 65536 < (a3)) ∨ ((-50)) = -51 ∧ (0 ≤ (a1) ∧ (a1) ≤ 3 ∧ 0 ≤ (a3) ∧ (a3) ≤ 65536) ∧ (knF (sc ((w5)) 0 ((u4_1))) = 0 ∨ knF (sc ((w5)) 0 ((u4_1))) = 5) by have qh0 := HIDe r2; omega))
  · refine Ew_of (pc' := 8) (fun _ => x_iload_n rfl rfl) ?_
    refine w_stat24 rfl rfl (by rfl) (C24x (D := pul [] D) (N := pul [] N) (HW_sub H (VS_of (show vsub V20_c21_vA V24 [] = true by decide +kernel))) (show inr (1) by omega) (fun z12 σ12 F12' A12' H' O' hS12 hA12 pz12_0 pz12_1 => ⟨rretB rfl pz12_0, ?_⟩))
    refine v_back (c := c) (s := s) H (show vsub V20_c21_vA V24 [] = true by decide +kernel) H' O' (fun F12 A12 H O' eF12 eA12 => ?_)
    have O := OUT_trans O O'
    -- PackHouse.isRow
    refine w_ifeq (t := 24) rfl rfl (show inr (z12) by omega) (fun b13 => ?_) (fun b13 => ?_)
    · refine Ew_of (pc' := 26) (fun _ => x_bipush (z := -50) rfl (by decide)) ?_
      exact w_ireturn rfl (k ((-50)) _ _ _ H O (SF_trans (SF_trans (SF_refl) (SF_glu (ι := []) hS10 eF10 (by decide +kernel)) (any_sub (l' := []) rfl)) (SF_glu (ι := []) hS12 eF12 (by decide +kernel)) (any_sub (l' := []) rfl)) (SA_trans (SA_trans (SA_refl) (SA_glu (ι := []) hA10 eA10 (by decide +kernel)) (any_subA (l' := []) rfl)) (SA_glu (ι := []) hA12 eA12 (by decide +kernel)) (any_subA (l' := []) rfl)) (show inr ((-50)) by omega) (show ((-50)) = -50 ∧ ((a1) < 0 ∨ 3 < (a1) ∨ (a3) < 0 ∨ 65536 < (a3)) ∨ ((-50)) = -51 ∧ (0 ≤ (a1) ∧ (a1) ≤ 3 ∧ 0 ≤ (a3) ∧ (a3) ≤ 65536) ∧ (knF (sc ((w5)) 0 ((u4_1))) = 0 ∨ knF (sc ((w5)) 0 ((u4_1))) = 5) by have qh0 := HIDe r2; omega))
    · refine Ew_of (pc' := 15) (fun _ => x_iload_n rfl rfl) ?_
      refine w_iflt (t := 24) rfl rfl (show inr (a3) by omega) (fun b14 => ?_) (fun b14 => ?_)
      · refine Ew_of (pc' := 26) (fun _ => x_bipush (z := -50) rfl (by decide)) ?_
        exact w_ireturn rfl (k ((-50)) _ _ _ H O (SF_trans (SF_trans (SF_refl) (SF_glu (ι := []) hS10 eF10 (by decide +kernel)) (any_sub (l' := []) rfl)) (SF_glu (ι := []) hS12 eF12 (by decide +kernel)) (any_sub (l' := []) rfl)) (SA_trans (SA_trans (SA_refl) (SA_glu (ι := []) hA10 eA10 (by decide +kernel)) (any_subA (l' := []) rfl)) (SA_glu (ι := []) hA12 eA12 (by decide +kernel)) (any_subA (l' := []) rfl)) (show inr ((-50)) by omega) (show ((-50)) = -50 ∧ ((a1) < 0 ∨ 3 < (a1) ∨ (a3) < 0 ∨ 65536 < (a3)) ∨ ((-50)) = -51 ∧ (0 ≤ (a1) ∧ (a1) ≤ 3 ∧ 0 ≤ (a3) ∧ (a3) ≤ 65536) ∧ (knF (sc ((w5)) 0 ((u4_1))) = 0 ∨ knF (sc ((w5)) 0 ((u4_1))) = 5) by have qh0 := HIDe r2; omega))
      · refine Ew_of (pc' := 19) (fun _ => x_iload_n rfl rfl) ?_
        refine Ew_of (pc' := 21) (fun _ => x_ldc (z := 65536) rfl (by decide)) ?_
        refine w_icmple (t := 27) rfl rfl (show inr (a3) by omega) (show inr (65536) by omega) (fun b15 => ?_) (fun b15 => ?_)
        · refine Ew_of (pc' := 28) (fun _ => x_aload_n rfl rfl) ?_
          refine v_g H (o := 0) (v := .ref (D 1)) rfl rfl rfl rfl rfl (vrf (((((show F12 0 0 = F10 0 0 from (eF12 0 0))).trans ((show F10 0 0 = F 0 0 from (eF10 0 0))))).trans (pf1))) ?_
          refine Ew_of (pc' := 32) (fun _ => x_iload_n rfl rfl) ?_
          refine v_lR H (o := 1) rfl rfl rfl rfl rfl (n := n1) (en1) (show 0 ≤ 1 ∧ 1 < n1 by have qh0 := HIDe r5; omega) (z := ((D 4 : Nat) : Int)) (v := .ref (D 4)) ((congrFun ((((show A12 1 = A10 1 from (eA12 1))).trans ((show A10 1 = A 1 from (eA10 1))))) 1).trans (pf4)) (vrf rfl) ?_
          refine w_stat24 rfl rfl (by rfl) (C33_Rowp (D := pul [4, 5] D) (N := pul [4, 5] N) (HW_sub H (VS_of (show vsub V20_c21_vA V33_Row [4, 5] = true by decide +kernel))) (STC_out HT HE O) (((((show F12 4 0 = F10 4 0 from (eF12 4 0))).trans ((show F10 4 0 = F 4 0 from (eF10 4 0))))).trans (pf5)) (n5) (en5) (u4_1) (((((show F12 4 1 = F10 4 1 from (eF12 4 1))).trans ((show F10 4 1 = F 4 1 from (eF10 4 1)))).trans (eu4_1))) (w5) (((show A12 5 = A10 5 from (eA12 5))).trans (((show A10 5 = A 5 from (eA10 5))).trans (ew5))) (show 0 ≤ (u4_1) ∧ (u4_1) ≤ (n5) ∧ (n5) ≤ 65536 by have qh0 := HIDe r2; have qh1 := HIDe r7; omega) (fun z16 σ16 F16' A16' H' O' hS16 hA16 pz16_0 pz16_1 pz16_2 => ⟨rfl, ?_⟩))
          refine v_back (c := c) (s := s) H (show vsub V20_c21_vA V33_Row [4, 5] = true by decide +kernel) H' O' (fun F16 A16 H O' eF16 eA16 => ?_)
          have O := OUT_trans O O'
          -- PackHouse.formatOf
          refine Ew_of (pc' := 38) (fun _ => x_istore rfl) ?_
          refine Ew_of (pc' := 40) (fun _ => x_iload rfl rk_s) ?_
          refine w_ifeq (t := 49) rfl rfl (show inr (z16) by omega) (fun b17 => ?_) (fun b17 => ?_)
          · refine Ew_of (pc' := 51) (fun _ => x_bipush (z := -51) rfl (by decide)) ?_
            exact w_ireturn rfl (k ((-51)) _ _ _ H O (SF_trans (SF_trans (SF_trans (SF_refl) (SF_glu (ι := []) hS10 eF10 (by decide +kernel)) (any_sub (l' := []) rfl)) (SF_glu (ι := []) hS12 eF12 (by decide +kernel)) (any_sub (l' := []) rfl)) (SF_glu (ι := [4, 5]) hS16 eF16 (by decide +kernel)) (any_sub (l' := []) rfl)) (SA_trans (SA_trans (SA_trans (SA_refl) (SA_glu (ι := []) hA10 eA10 (by decide +kernel)) (any_subA (l' := []) rfl)) (SA_glu (ι := []) hA12 eA12 (by decide +kernel)) (any_subA (l' := []) rfl)) (SA_glu (ι := [4, 5]) hA16 eA16 (by decide +kernel)) (any_subA (l' := []) rfl)) (show inr ((-51)) by omega) (show ((-51)) = -50 ∧ ((a1) < 0 ∨ 3 < (a1) ∨ (a3) < 0 ∨ 65536 < (a3)) ∨ ((-51)) = -51 ∧ (0 ≤ (a1) ∧ (a1) ≤ 3 ∧ 0 ≤ (a3) ∧ (a3) ≤ 65536) ∧ (knF (sc ((w5)) 0 ((u4_1))) = 0 ∨ knF (sc ((w5)) 0 ((u4_1))) = 5) by have qh0 := HIDe r2; omega))
          · refine Ew_of (pc' := 45) (fun _ => x_iload rfl rk_s) ?_
            refine Ew_of (pc' := 46) (fun _ => x_iconst rfl) ?_
            refine w_icmpne (t := 52) rfl rfl (show inr (z16) by omega) (show inr (5) by omega) (fun b18 => ?_) (fun b18 => ?_)
            · refine Ew_of (pc' := 53) (fun _ => x_aload_n rfl (rk_o (rfl) rfl rfl)) ?_
              refine Ew_of (pc' := 54) (fun _ => x_iload_n rfl (rk_o (rfl) rfl rfl)) ?_
              refine Ew_of (pc' := 55) (fun _ => x_aload_n rfl (rk_o (rfl) rfl rfl)) ?_
              refine Ew_of (pc' := 56) (fun _ => x_aload_n rfl (rk_o (rfl) rfl rfl)) ?_
              refine v_g H (o := 0) (v := .ref (D 1)) rfl rfl rfl rfl rfl (vrf ((((((show F16 0 0 = F12 0 0 from (eF16 0 0))).trans ((show F12 0 0 = F10 0 0 from (eF12 0 0)))).trans ((show F10 0 0 = F 0 0 from (eF10 0 0))))).trans (pf1))) ?_
              refine Ew_of (pc' := 60) (fun _ => x_iload_n rfl (rk_o (rfl) rfl rfl)) ?_
              refine v_lR H (o := 1) rfl rfl rfl rfl rfl (n := n1) (en1) (show 0 ≤ 1 ∧ 1 < n1 by have qh0 := HIDe r5; omega) (z := ((D 4 : Nat) : Int)) (v := .ref (D 4)) ((congrFun (((((show A16 1 = A12 1 from (eA16 1))).trans ((show A12 1 = A10 1 from (eA12 1)))).trans ((show A10 1 = A 1 from (eA10 1))))) 1).trans (pf4)) (vrf rfl) ?_
              refine Ew_of (pc' := 63) (fun _ => x_iload rfl rk_s) ?_
              refine Ew_of (pc' := 64) (fun _ => x_iload_n rfl (rk_o (rfl) rfl rfl)) ?_
              refine Ew_of (pc' := 65) (fun _ => x_aload_n rfl (rk_o (rfl) rfl rfl)) ?_
              refine v_g H (o := 0) (v := .ref (D 10)) rfl rfl rfl rfl rfl (vrf ((((((show F16 0 14 = F12 0 14 from (eF16 0 14))).trans ((show F12 0 14 = F10 0 14 from (eF12 0 14)))).trans ((show F10 0 14 = F 0 14 from (eF10 0 14))))).trans (pf10))) ?_
              exact hc68 (a1) (z16) (a3) _ _ _ _   H O (SF_trans (SF_trans (SF_trans (SF_refl) (SF_glu (ι := []) hS10 eF10 (by decide +kernel)) (any_sub (l' := []) rfl)) (SF_glu (ι := []) hS12 eF12 (by decide +kernel)) (any_sub (l' := []) rfl)) (SF_glu (ι := [4, 5]) hS16 eF16 (by decide +kernel)) (any_sub (l' := []) rfl)) (SA_trans (SA_trans (SA_trans (SA_refl) (SA_glu (ι := []) hA10 eA10 (by decide +kernel)) (any_subA (l' := []) rfl)) (SA_glu (ι := []) hA12 eA12 (by decide +kernel)) (any_subA (l' := []) rfl)) (SA_glu (ι := [4, 5]) hA16 eA16 (by decide +kernel)) (any_subA (l' := []) rfl))     (show inr (a1) by omega) (show inr (z16) by omega) (show inr (a3) by omega) (show 0 ≤ (a1) ∧ (a1) ≤ 3 by omega) (show (z16) = 1 ∨ (z16) = 3 ∨ (z16) = 4 by omega) (show 0 ≤ (a3) ∧ (a3) ≤ 65536 by omega) (show (a1) = (a1) ∧ (a3) = (a3) by omega) (show (z16) = knF (sc ((w5)) 0 ((u4_1))) by have qh0 := HIDe r2; omega)
            · refine Ew_of (pc' := 51) (fun _ => x_bipush (z := -51) rfl (by decide)) ?_
              exact w_ireturn rfl (k ((-51)) _ _ _ H O (SF_trans (SF_trans (SF_trans (SF_refl) (SF_glu (ι := []) hS10 eF10 (by decide +kernel)) (any_sub (l' := []) rfl)) (SF_glu (ι := []) hS12 eF12 (by decide +kernel)) (any_sub (l' := []) rfl)) (SF_glu (ι := [4, 5]) hS16 eF16 (by decide +kernel)) (any_sub (l' := []) rfl)) (SA_trans (SA_trans (SA_trans (SA_refl) (SA_glu (ι := []) hA10 eA10 (by decide +kernel)) (any_subA (l' := []) rfl)) (SA_glu (ι := []) hA12 eA12 (by decide +kernel)) (any_subA (l' := []) rfl)) (SA_glu (ι := [4, 5]) hA16 eA16 (by decide +kernel)) (any_subA (l' := []) rfl)) (show inr ((-51)) by omega) (show ((-51)) = -50 ∧ ((a1) < 0 ∨ 3 < (a1) ∨ (a3) < 0 ∨ 65536 < (a3)) ∨ ((-51)) = -51 ∧ (0 ≤ (a1) ∧ (a1) ≤ 3 ∧ 0 ≤ (a3) ∧ (a3) ≤ 65536) ∧ (knF (sc ((w5)) 0 ((u4_1))) = 0 ∨ knF (sc ((w5)) 0 ((u4_1))) = 5) by have qh0 := HIDe r2; omega))
        · refine Ew_of (pc' := 26) (fun _ => x_bipush (z := -50) rfl (by decide)) ?_
          exact w_ireturn rfl (k ((-50)) _ _ _ H O (SF_trans (SF_trans (SF_refl) (SF_glu (ι := []) hS10 eF10 (by decide +kernel)) (any_sub (l' := []) rfl)) (SF_glu (ι := []) hS12 eF12 (by decide +kernel)) (any_sub (l' := []) rfl)) (SA_trans (SA_trans (SA_refl) (SA_glu (ι := []) hA10 eA10 (by decide +kernel)) (any_subA (l' := []) rfl)) (SA_glu (ι := []) hA12 eA12 (by decide +kernel)) (any_subA (l' := []) rfl)) (show inr ((-50)) by omega) (show ((-50)) = -50 ∧ ((a1) < 0 ∨ 3 < (a1) ∨ (a3) < 0 ∨ 65536 < (a3)) ∨ ((-50)) = -51 ∧ (0 ≤ (a1) ∧ (a1) ≤ 3 ∧ 0 ≤ (a3) ∧ (a3) ≤ 65536) ∧ (knF (sc ((w5)) 0 ((u4_1))) = 0 ∨ knF (sc ((w5)) 0 ((u4_1))) = 5) by have qh0 := HIDe r2; omega))
abbrev V18_c22_vA : vV := [(0, 0, [(4, 0), (4, 0), (4, 0), (4, 0), (4, 0), (4, 0), (4, 0), (4, 0), (4, 0), (4, 0), (4, 0), (4, 0), (4, 0), (4, 0), (4, 0), (4, 0), (4, 0), (0, 0), (0, 0)]), (1, 4, []), (0, 7, [(4, 0), (0, 0), (1, 0), (0, 0), (0, 0)]), (1, 0, []), (0, 7, [(4, 0), (0, 0), (1, 0), (0, 0), (0, 0)]), (1, 0, []), (0, 7, [(4, 0), (0, 0), (1, 0), (0, 0), (0, 0)]), (1, 0, []), (0, 7, [(4, 0), (0, 0), (1, 0), (0, 0), (0, 0)]), (1, 0, []), (1, 1, [])]
/-- PackHouse.read: this, this.rows, this.rows.0, this.rows.0.bytes, this.rows.1, this.rows.1.bytes, this.rows.2, this.rows.2.bytes, this.rows.3, this.rows.3.bytes, this.readCounts -/
theorem C18_c22_vA {σE : rS} {D N : Nat → Nat} {F : hF} {A : hA} {d c s : Nat} {Q : wQ} (H : HW V18_c22_vA σE D N F A) {a1 a3 a4 : Int} (pf1 : F 0 0 = (D 1 : Int)) (pf2 : A 1 0 = (D 2 : Int)) (pf3 : F 2 0 = (D 3 : Int)) (pf4 : A 1 1 = (D 4 : Int)) (pf5 : F 4 0 = (D 5 : Int)) (pf6 : A 1 2 = (D 6 : Int)) (pf7 : F 6 0 = (D 7 : Int)) (pf8 : A 1 3 = (D 8 : Int)) (pf9 : F 8 0 = (D 9 : Int)) (pf10 : F 0 14 = (D 10 : Int)) (n1 : Int) (en1 : (N 1 : Int) = n1) (n3 : Int) (en3 : (N 3 : Int) = n3) (n5 : Int) (en5 : (N 5 : Int) = n5) (n7 : Int) (en7 : (N 7 : Int) = n7) (n9 : Int) (en9 : (N 9 : Int) = n9) (n10 : Int) (en10 : (N 10 : Int) = n10) (u2_1 : Int) (eu2_1 : F 2 1 = u2_1) (u4_1 : Int) (eu4_1 : F 4 1 = u4_1) (u6_1 : Int) (eu6_1 : F 6 1 = u6_1) (u8_1 : Int) (eu8_1 : F 8 1 = u8_1) (h0 : inr (a1)) (h1 : inr (2)) (h2 : inr (a3)) (h3 : inr (a4)) (h4 : (n1) = 4) (h5 : 0 ≤ (u2_1) ∧ (u2_1) ≤ (n3) ∧ (n3) ≤ 65536) (h6 : 0 ≤ (u4_1) ∧ (u4_1) ≤ (n5) ∧ (n5) ≤ 65536) (h7 : 0 ≤ (u6_1) ∧ (u6_1) ≤ (n7) ∧ (n7) ≤ 65536) (h8 : 0 ≤ (u8_1) ∧ (u8_1) ≤ (n9) ∧ (n9) ≤ 65536) (hc54 : ∀ (tc54_1 : Int), ∀ (tc54_4 : Int), ∀ (tc54_5 : Int), ∀ (ls : rO) (σ : rS) (F_c54 : hF) (A_c54 : hA) , HW V18_c22_vA σ D N F_c54 A_c54 → OUT (V18_c22_vA).length D N σE c s D N σ c s → SF [] F F_c54 → SA [] A A_c54 → (inr (tc54_1)) → (inr (tc54_4)) → (inr (tc54_5)) → (0 ≤ (tc54_1) ∧ (tc54_1) ≤ 3) → (0 ≤ (tc54_4) ∧ (tc54_4) ≤ 4) → (0 ≤ (tc54_5) ∧ (tc54_5) ≤ 65536) → ((tc54_1) = (a1) ∧ (tc54_4) = (a3) ∧ (tc54_5) = (a4)) → Ew 18 (d + 1) 54 ls [.ref (D 10), I (tc54_5), I (tc54_4), .ref (D 6), .ref (D 0), I (tc54_1), .ref (D 0)] σ c s Q) (k : ∀ (z : Int) (σ : rS) (F' : hF) (A' : hA), HW V18_c22_vA σ D N F' A' → OUT (V18_c22_vA).length D N σE c s D N σ c s → SF [] F F' → SA [] A A' → (inr (z)) → ((z) = -50 ∧ ((a1) < 0 ∨ 3 < (a1) ∨ (a3) < 0 ∨ 4 < (a3) ∨ (a4) < 0 ∨ 65536 < (a4))) → Q (some (I z)) σ c s) : Ew 18 (d + 1) 0 (rargs 0 [.ref (D 0), I a1, I 2, I a3, I a4]) [] σE c s Q := by
  have O := OUT_refl (n := (V18_c22_vA).length) (D := D) (N := N) (σ := σE) (c := c) (s := s)
  have HE := H
  have r1 : HID ((-2147483648 : Int) ≤ u2_1 ∧ u2_1 ≤ 2147483647) := krg_e (show (-2147483648 : Int) ≤ F 2 1 ∧ F 2 1 ≤ 2147483647 from H.krg 2 1 (by decide)) (show F 2 1 = u2_1 from (eu2_1))
  have r2 : HID ((-2147483648 : Int) ≤ u4_1 ∧ u4_1 ≤ 2147483647) := krg_e (show (-2147483648 : Int) ≤ F 4 1 ∧ F 4 1 ≤ 2147483647 from H.krg 4 1 (by decide)) (show F 4 1 = u4_1 from (eu4_1))
  have r3 : HID ((-2147483648 : Int) ≤ u6_1 ∧ u6_1 ≤ 2147483647) := krg_e (show (-2147483648 : Int) ≤ F 6 1 ∧ F 6 1 ≤ 2147483647 from H.krg 6 1 (by decide)) (show F 6 1 = u6_1 from (eu6_1))
  have r4 : HID ((-2147483648 : Int) ≤ u8_1 ∧ u8_1 ≤ 2147483647) := krg_e (show (-2147483648 : Int) ≤ F 8 1 ∧ F 8 1 ≤ 2147483647 from H.krg 8 1 (by decide)) (show F 8 1 = u8_1 from (eu8_1))
  replace pf1 := HIDm pf1
  replace pf2 := HIDm pf2
  replace pf3 := HIDm pf3
  replace pf4 := HIDm pf4
  replace pf5 := HIDm pf5
  replace pf6 := HIDm pf6
  replace pf7 := HIDm pf7
  replace pf8 := HIDm pf8
  replace pf9 := HIDm pf9
  replace pf10 := HIDm pf10
  replace en1 := HIDm en1
  replace en3 := HIDm en3
  replace en5 := HIDm en5
  replace en7 := HIDm en7
  replace en9 := HIDm en9
  replace en10 := HIDm en10
  replace eu2_1 := HIDm eu2_1
  replace eu4_1 := HIDm eu4_1
  replace eu6_1 := HIDm eu6_1
  replace eu8_1 := HIDm eu8_1
  have r5 : HID ((0 : Int) ≤ n1 ∧ n1 ≤ 1000000) := nrng (H.nle 1 (by decide)) (show (N 1 : Int) = n1 from en1)
  have r6 : HID ((0 : Int) ≤ n3 ∧ n3 ≤ 1000000) := nrng (H.nle 3 (by decide)) (show (N 3 : Int) = n3 from en3)
  have r7 : HID ((0 : Int) ≤ n5 ∧ n5 ≤ 1000000) := nrng (H.nle 5 (by decide)) (show (N 5 : Int) = n5 from en5)
  have r8 : HID ((0 : Int) ≤ n7 ∧ n7 ≤ 1000000) := nrng (H.nle 7 (by decide)) (show (N 7 : Int) = n7 from en7)
  have r9 : HID ((0 : Int) ≤ n9 ∧ n9 ≤ 1000000) := nrng (H.nle 9 (by decide)) (show (N 9 : Int) = n9 from en9)
  refine Ew_of (pc' := 1) (fun _ => x_iload_n rfl rfl) ?_
  refine w_stat24 rfl rfl (by rfl) (C24x (D := pul [] D) (N := pul [] N) (HW_sub H (VS_of (show vsub V18_c22_vA V24 [] = true by decide +kernel))) (show inr (a1) by omega) (fun z10 σ10 F10' A10' H' O' hS10 hA10 pz10_0 pz10_1 => ⟨rretB rfl pz10_0, ?_⟩))
  refine v_back (c := c) (s := s) H (show vsub V18_c22_vA V24 [] = true by decide +kernel) H' O' (fun F10 A10 H O' eF10 eA10 => ?_)
  have O := OUT_trans O O'
  -- PackHouse.isRow
  refine w_ifeq (t := 35) rfl rfl (show inr (z10) by omega) (fun b11 => ?_) (fun b11 => ?_)
  · refine Ew_of (pc' := 37) (fun _ => x_bipush (z := -50) rfl (by decide)) ?_
    exact w_ireturn rfl (k ((-50)) _ _ _ H O (SF_trans (SF_refl) (SF_glu (ι := []) hS10 eF10 (by decide +kernel)) (any_sub (l' := []) rfl)) (SA_trans (SA_refl) (SA_glu (ι := []) hA10 eA10 (by decide +kernel)) (any_subA (l' := []) rfl)) (show inr ((-50)) by omega) (show ((-50)) = -50 ∧ ((a1) < 0 ∨ 3 < (a1) ∨ (a3) < 0 ∨ 4 < (a3) ∨ (a4) < 0 ∨ 65536 < (a4)) by omega))
  · refine Ew_of (pc' := 8) (fun _ => x_iload_n rfl rfl) ?_
    refine w_stat24 rfl rfl (by rfl) (C24x (D := pul [] D) (N := pul [] N) (HW_sub H (VS_of (show vsub V18_c22_vA V24 [] = true by decide +kernel))) (show inr (2) by omega) (fun z12 σ12 F12' A12' H' O' hS12 hA12 pz12_0 pz12_1 => ⟨rretB rfl pz12_0, ?_⟩))
    refine v_back (c := c) (s := s) H (show vsub V18_c22_vA V24 [] = true by decide +kernel) H' O' (fun F12 A12 H O' eF12 eA12 => ?_)
    have O := OUT_trans O O'
    -- PackHouse.isRow
    refine w_ifeq (t := 35) rfl rfl (show inr (z12) by omega) (fun b13 => ?_) (fun b13 => ?_)
    · refine Ew_of (pc' := 37) (fun _ => x_bipush (z := -50) rfl (by decide)) ?_
      exact w_ireturn rfl (k ((-50)) _ _ _ H O (SF_trans (SF_trans (SF_refl) (SF_glu (ι := []) hS10 eF10 (by decide +kernel)) (any_sub (l' := []) rfl)) (SF_glu (ι := []) hS12 eF12 (by decide +kernel)) (any_sub (l' := []) rfl)) (SA_trans (SA_trans (SA_refl) (SA_glu (ι := []) hA10 eA10 (by decide +kernel)) (any_subA (l' := []) rfl)) (SA_glu (ι := []) hA12 eA12 (by decide +kernel)) (any_subA (l' := []) rfl)) (show inr ((-50)) by omega) (show ((-50)) = -50 ∧ ((a1) < 0 ∨ 3 < (a1) ∨ (a3) < 0 ∨ 4 < (a3) ∨ (a4) < 0 ∨ 65536 < (a4)) by omega))
    · refine Ew_of (pc' := 15) (fun _ => x_iload_n rfl rfl) ?_
      refine w_iflt (t := 35) rfl rfl (show inr (a3) by omega) (fun b14 => ?_) (fun b14 => ?_)
      · refine Ew_of (pc' := 37) (fun _ => x_bipush (z := -50) rfl (by decide)) ?_
        exact w_ireturn rfl (k ((-50)) _ _ _ H O (SF_trans (SF_trans (SF_refl) (SF_glu (ι := []) hS10 eF10 (by decide +kernel)) (any_sub (l' := []) rfl)) (SF_glu (ι := []) hS12 eF12 (by decide +kernel)) (any_sub (l' := []) rfl)) (SA_trans (SA_trans (SA_refl) (SA_glu (ι := []) hA10 eA10 (by decide +kernel)) (any_subA (l' := []) rfl)) (SA_glu (ι := []) hA12 eA12 (by decide +kernel)) (any_subA (l' := []) rfl)) (show inr ((-50)) by omega) (show ((-50)) = -50 ∧ ((a1) < 0 ∨ 3 < (a1) ∨ (a3) < 0 ∨ 4 < (a3) ∨ (a4) < 0 ∨ 65536 < (a4)) by omega))
      · refine Ew_of (pc' := 19) (fun _ => x_iload_n rfl rfl) ?_
        refine Ew_of (pc' := 20) (fun _ => x_iconst rfl) ?_
        refine w_icmpgt (t := 35) rfl rfl (show inr (a3) by omega) (show inr (4) by omega) (fun b15 => ?_) (fun b15 => ?_)
        · refine Ew_of (pc' := 37) (fun _ => x_bipush (z := -50) rfl (by decide)) ?_
          exact w_ireturn rfl (k ((-50)) _ _ _ H O (SF_trans (SF_trans (SF_refl) (SF_glu (ι := []) hS10 eF10 (by decide +kernel)) (any_sub (l' := []) rfl)) (SF_glu (ι := []) hS12 eF12 (by decide +kernel)) (any_sub (l' := []) rfl)) (SA_trans (SA_trans (SA_refl) (SA_glu (ι := []) hA10 eA10 (by decide +kernel)) (any_subA (l' := []) rfl)) (SA_glu (ι := []) hA12 eA12 (by decide +kernel)) (any_subA (l' := []) rfl)) (show inr ((-50)) by omega) (show ((-50)) = -50 ∧ ((a1) < 0 ∨ 3 < (a1) ∨ (a3) < 0 ∨ 4 < (a3) ∨ (a4) < 0 ∨ 65536 < (a4)) by omega))
        · refine Ew_of (pc' := 25) (fun _ => x_iload rfl rfl) ?_
          refine w_iflt (t := 35) rfl rfl (show inr (a4) by omega) (fun b16 => ?_) (fun b16 => ?_)
          · refine Ew_of (pc' := 37) (fun _ => x_bipush (z := -50) rfl (by decide)) ?_
            exact w_ireturn rfl (k ((-50)) _ _ _ H O (SF_trans (SF_trans (SF_refl) (SF_glu (ι := []) hS10 eF10 (by decide +kernel)) (any_sub (l' := []) rfl)) (SF_glu (ι := []) hS12 eF12 (by decide +kernel)) (any_sub (l' := []) rfl)) (SA_trans (SA_trans (SA_refl) (SA_glu (ι := []) hA10 eA10 (by decide +kernel)) (any_subA (l' := []) rfl)) (SA_glu (ι := []) hA12 eA12 (by decide +kernel)) (any_subA (l' := []) rfl)) (show inr ((-50)) by omega) (show ((-50)) = -50 ∧ ((a1) < 0 ∨ 3 < (a1) ∨ (a3) < 0 ∨ 4 < (a3) ∨ (a4) < 0 ∨ 65536 < (a4)) by omega))
          · refine Ew_of (pc' := 30) (fun _ => x_iload rfl rfl) ?_
            refine Ew_of (pc' := 32) (fun _ => x_ldc (z := 65536) rfl (by decide)) ?_
            refine w_icmple (t := 38) rfl rfl (show inr (a4) by omega) (show inr (65536) by omega) (fun b17 => ?_) (fun b17 => ?_)
            · refine Ew_of (pc' := 39) (fun _ => x_aload_n rfl rfl) ?_
              refine Ew_of (pc' := 40) (fun _ => x_iload_n rfl rfl) ?_
              refine Ew_of (pc' := 41) (fun _ => x_aload_n rfl rfl) ?_
              refine Ew_of (pc' := 42) (fun _ => x_aload_n rfl rfl) ?_
              refine v_g H (o := 0) (v := .ref (D 1)) rfl rfl rfl rfl rfl (vrf (((((show F12 0 0 = F10 0 0 from (eF12 0 0))).trans ((show F10 0 0 = F 0 0 from (eF10 0 0))))).trans (pf1))) ?_
              refine Ew_of (pc' := 46) (fun _ => x_iload_n rfl rfl) ?_
              refine v_lR H (o := 1) rfl rfl rfl rfl rfl (n := n1) (en1) (show 0 ≤ 2 ∧ 2 < n1 by have qh0 := HIDe r5; omega) (z := ((D 6 : Nat) : Int)) (v := .ref (D 6)) ((congrFun ((((show A12 1 = A10 1 from (eA12 1))).trans ((show A10 1 = A 1 from (eA10 1))))) 2).trans (pf6)) (vrf rfl) ?_
              refine Ew_of (pc' := 48) (fun _ => x_iload_n rfl rfl) ?_
              refine Ew_of (pc' := 50) (fun _ => x_iload rfl rfl) ?_
              refine Ew_of (pc' := 51) (fun _ => x_aload_n rfl rfl) ?_
              refine v_g H (o := 0) (v := .ref (D 10)) rfl rfl rfl rfl rfl (vrf (((((show F12 0 14 = F10 0 14 from (eF12 0 14))).trans ((show F10 0 14 = F 0 14 from (eF10 0 14))))).trans (pf10))) ?_
              exact hc54 (a1) (a3) (a4) _ _ _ _   H O (SF_trans (SF_trans (SF_refl) (SF_glu (ι := []) hS10 eF10 (by decide +kernel)) (any_sub (l' := []) rfl)) (SF_glu (ι := []) hS12 eF12 (by decide +kernel)) (any_sub (l' := []) rfl)) (SA_trans (SA_trans (SA_refl) (SA_glu (ι := []) hA10 eA10 (by decide +kernel)) (any_subA (l' := []) rfl)) (SA_glu (ι := []) hA12 eA12 (by decide +kernel)) (any_subA (l' := []) rfl))     (show inr (a1) by omega) (show inr (a3) by omega) (show inr (a4) by omega) (show 0 ≤ (a1) ∧ (a1) ≤ 3 by omega) (show 0 ≤ (a3) ∧ (a3) ≤ 4 by omega) (show 0 ≤ (a4) ∧ (a4) ≤ 65536 by omega) (show (a1) = (a1) ∧ (a3) = (a3) ∧ (a4) = (a4) by omega)
            · refine Ew_of (pc' := 37) (fun _ => x_bipush (z := -50) rfl (by decide)) ?_
              exact w_ireturn rfl (k ((-50)) _ _ _ H O (SF_trans (SF_trans (SF_refl) (SF_glu (ι := []) hS10 eF10 (by decide +kernel)) (any_sub (l' := []) rfl)) (SF_glu (ι := []) hS12 eF12 (by decide +kernel)) (any_sub (l' := []) rfl)) (SA_trans (SA_trans (SA_refl) (SA_glu (ι := []) hA10 eA10 (by decide +kernel)) (any_subA (l' := []) rfl)) (SA_glu (ι := []) hA12 eA12 (by decide +kernel)) (any_subA (l' := []) rfl)) (show inr ((-50)) by omega) (show ((-50)) = -50 ∧ ((a1) < 0 ∨ 3 < (a1) ∨ (a3) < 0 ∨ 4 < (a3) ∨ (a4) < 0 ∨ 65536 < (a4)) by omega))
abbrev V20_c22_vA : vV := [(0, 0, [(4, 0), (4, 0), (4, 0), (4, 0), (4, 0), (4, 0), (4, 0), (4, 0), (4, 0), (4, 0), (4, 0), (4, 0), (4, 0), (4, 0), (4, 0), (4, 0), (4, 0), (0, 0), (0, 0)]), (1, 4, []), (0, 7, [(4, 0), (0, 0), (1, 0), (0, 0), (0, 0)]), (1, 0, []), (0, 7, [(4, 0), (0, 0), (1, 0), (0, 0), (0, 0)]), (1, 0, []), (0, 7, [(4, 0), (0, 0), (1, 0), (0, 0), (0, 0)]), (1, 0, []), (0, 7, [(4, 0), (0, 0), (1, 0), (0, 0), (0, 0)]), (1, 0, []), (1, 1, [])]
/-- PackHouse.open: this, this.rows, this.rows.0, this.rows.0.bytes, this.rows.1, this.rows.1.bytes, this.rows.2, this.rows.2.bytes, this.rows.3, this.rows.3.bytes, this.readCounts -/
theorem C20_c22_vA {σE : rS} {D N : Nat → Nat} {F : hF} {A : hA} {d c s : Nat} {Q : wQ} (H : HW V20_c22_vA σE D N F A) (HT : STC σE) {a1 a3 : Int} (pf1 : F 0 0 = (D 1 : Int)) (pf2 : A 1 0 = (D 2 : Int)) (pf3 : F 2 0 = (D 3 : Int)) (pf4 : A 1 1 = (D 4 : Int)) (pf5 : F 4 0 = (D 5 : Int)) (pf6 : A 1 2 = (D 6 : Int)) (pf7 : F 6 0 = (D 7 : Int)) (pf8 : A 1 3 = (D 8 : Int)) (pf9 : F 8 0 = (D 9 : Int)) (pf10 : F 0 14 = (D 10 : Int)) (n1 : Int) (en1 : (N 1 : Int) = n1) (n3 : Int) (en3 : (N 3 : Int) = n3) (n5 : Int) (en5 : (N 5 : Int) = n5) (n7 : Int) (en7 : (N 7 : Int) = n7) (n9 : Int) (en9 : (N 9 : Int) = n9) (n10 : Int) (en10 : (N 10 : Int) = n10) (u2_1 : Int) (eu2_1 : F 2 1 = u2_1) (u4_1 : Int) (eu4_1 : F 4 1 = u4_1) (u6_1 : Int) (eu6_1 : F 6 1 = u6_1) (u8_1 : Int) (eu8_1 : F 8 1 = u8_1) (w7 : Int → Int) (ew7 : A 7 = w7) (h0 : inr (a1)) (h1 : inr (2)) (h2 : inr (a3)) (h3 : (n1) = 4) (h4 : 0 ≤ (u2_1) ∧ (u2_1) ≤ (n3) ∧ (n3) ≤ 65536) (h5 : 0 ≤ (u4_1) ∧ (u4_1) ≤ (n5) ∧ (n5) ≤ 65536) (h6 : 0 ≤ (u6_1) ∧ (u6_1) ≤ (n7) ∧ (n7) ≤ 65536) (h7 : 0 ≤ (u8_1) ∧ (u8_1) ≤ (n9) ∧ (n9) ≤ 65536) (hc68 : ∀ (tc68_1 : Int), ∀ (tc68_4 : Int), ∀ (tc68_5 : Int), ∀ (ls : rO) (σ : rS) (F_c68 : hF) (A_c68 : hA) , HW V20_c22_vA σ D N F_c68 A_c68 → OUT (V20_c22_vA).length D N σE c s D N σ c s → SF [] F F_c68 → SA [] A A_c68 → (inr (tc68_1)) → (inr (tc68_4)) → (inr (tc68_5)) → (0 ≤ (tc68_1) ∧ (tc68_1) ≤ 3) → ((tc68_4) = 1 ∨ (tc68_4) = 3 ∨ (tc68_4) = 4) → (0 ≤ (tc68_5) ∧ (tc68_5) ≤ 65536) → ((tc68_1) = (a1) ∧ (tc68_5) = (a3)) → ((tc68_4) = knF (sc ((w7)) 0 ((u6_1)))) → Ew 20 (d + 3) 68 ls [.ref (D 10), I (tc68_5), I (tc68_4), .ref (D 6), .ref (D 0), I (tc68_1), .ref (D 0)] σ c s Q) (k : ∀ (z : Int) (σ : rS) (F' : hF) (A' : hA), HW V20_c22_vA σ D N F' A' → OUT (V20_c22_vA).length D N σE c s D N σ c s → SF [] F F' → SA [] A A' → (inr (z)) → ((z) = -50 ∧ ((a1) < 0 ∨ 3 < (a1) ∨ (a3) < 0 ∨ 65536 < (a3)) ∨ (z) = -51 ∧ (0 ≤ (a1) ∧ (a1) ≤ 3 ∧ 0 ≤ (a3) ∧ (a3) ≤ 65536) ∧ (knF (sc ((w7)) 0 ((u6_1))) = 0 ∨ knF (sc ((w7)) 0 ((u6_1))) = 5)) → Q (some (I z)) σ c s) : Ew 20 (d + 3) 0 (rargs 0 [.ref (D 0), I a1, I 2, I a3]) [] σE c s Q := by
  have O := OUT_refl (n := (V20_c22_vA).length) (D := D) (N := N) (σ := σE) (c := c) (s := s)
  have HE := H
  have r1 : HID ((-2147483648 : Int) ≤ u2_1 ∧ u2_1 ≤ 2147483647) := krg_e (show (-2147483648 : Int) ≤ F 2 1 ∧ F 2 1 ≤ 2147483647 from H.krg 2 1 (by decide)) (show F 2 1 = u2_1 from (eu2_1))
  have r2 : HID ((-2147483648 : Int) ≤ u4_1 ∧ u4_1 ≤ 2147483647) := krg_e (show (-2147483648 : Int) ≤ F 4 1 ∧ F 4 1 ≤ 2147483647 from H.krg 4 1 (by decide)) (show F 4 1 = u4_1 from (eu4_1))
  have r3 : HID ((-2147483648 : Int) ≤ u6_1 ∧ u6_1 ≤ 2147483647) := krg_e (show (-2147483648 : Int) ≤ F 6 1 ∧ F 6 1 ≤ 2147483647 from H.krg 6 1 (by decide)) (show F 6 1 = u6_1 from (eu6_1))
  have r4 : HID ((-2147483648 : Int) ≤ u8_1 ∧ u8_1 ≤ 2147483647) := krg_e (show (-2147483648 : Int) ≤ F 8 1 ∧ F 8 1 ≤ 2147483647 from H.krg 8 1 (by decide)) (show F 8 1 = u8_1 from (eu8_1))
  replace pf1 := HIDm pf1
  replace pf2 := HIDm pf2
  replace pf3 := HIDm pf3
  replace pf4 := HIDm pf4
  replace pf5 := HIDm pf5
  replace pf6 := HIDm pf6
  replace pf7 := HIDm pf7
  replace pf8 := HIDm pf8
  replace pf9 := HIDm pf9
  replace pf10 := HIDm pf10
  replace en1 := HIDm en1
  replace en3 := HIDm en3
  replace en5 := HIDm en5
  replace en7 := HIDm en7
  replace en9 := HIDm en9
  replace en10 := HIDm en10
  replace eu2_1 := HIDm eu2_1
  replace eu4_1 := HIDm eu4_1
  replace eu6_1 := HIDm eu6_1
  replace eu8_1 := HIDm eu8_1
  have r5 : HID ((0 : Int) ≤ n1 ∧ n1 ≤ 1000000) := nrng (H.nle 1 (by decide)) (show (N 1 : Int) = n1 from en1)
  have r6 : HID ((0 : Int) ≤ n3 ∧ n3 ≤ 1000000) := nrng (H.nle 3 (by decide)) (show (N 3 : Int) = n3 from en3)
  have r7 : HID ((0 : Int) ≤ n5 ∧ n5 ≤ 1000000) := nrng (H.nle 5 (by decide)) (show (N 5 : Int) = n5 from en5)
  have r8 : HID ((0 : Int) ≤ n7 ∧ n7 ≤ 1000000) := nrng (H.nle 7 (by decide)) (show (N 7 : Int) = n7 from en7)
  have r9 : HID ((0 : Int) ≤ n9 ∧ n9 ≤ 1000000) := nrng (H.nle 9 (by decide)) (show (N 9 : Int) = n9 from en9)
  refine Ew_of (pc' := 1) (fun _ => x_iload_n rfl rfl) ?_
  refine w_stat24 rfl rfl (by rfl) (C24x (D := pul [] D) (N := pul [] N) (HW_sub H (VS_of (show vsub V20_c22_vA V24 [] = true by decide +kernel))) (show inr (a1) by omega) (fun z10 σ10 F10' A10' H' O' hS10 hA10 pz10_0 pz10_1 => ⟨rretB rfl pz10_0, ?_⟩))
  refine v_back (c := c) (s := s) H (show vsub V20_c22_vA V24 [] = true by decide +kernel) H' O' (fun F10 A10 H O' eF10 eA10 => ?_)
  have O := OUT_trans O O'
  -- PackHouse.isRow
  refine w_ifeq (t := 24) rfl rfl (show inr (z10) by omega) (fun b11 => ?_) (fun b11 => ?_)
  · refine Ew_of (pc' := 26) (fun _ => x_bipush (z := -50) rfl (by decide)) ?_
    exact w_ireturn rfl (k ((-50)) _ _ _ H O (SF_trans (SF_refl) (SF_glu (ι := []) hS10 eF10 (by decide +kernel)) (any_sub (l' := []) rfl)) (SA_trans (SA_refl) (SA_glu (ι := []) hA10 eA10 (by decide +kernel)) (any_subA (l' := []) rfl)) (show inr ((-50)) by omega) (show ((-50)) = -50 ∧ ((a1) < 0 ∨ 3 < (a1) ∨ (a3) < 0 ∨ 65536 < (a3)) ∨ ((-50)) = -51 ∧ (0 ≤ (a1) ∧ (a1) ≤ 3 ∧ 0 ≤ (a3) ∧ (a3) ≤ 65536) ∧ (knF (sc ((w7)) 0 ((u6_1))) = 0 ∨ knF (sc ((w7)) 0 ((u6_1))) = 5) by have qh0 := HIDe r3; omega))
  · refine Ew_of (pc' := 8) (fun _ => x_iload_n rfl rfl) ?_
    refine w_stat24 rfl rfl (by rfl) (C24x (D := pul [] D) (N := pul [] N) (HW_sub H (VS_of (show vsub V20_c22_vA V24 [] = true by decide +kernel))) (show inr (2) by omega) (fun z12 σ12 F12' A12' H' O' hS12 hA12 pz12_0 pz12_1 => ⟨rretB rfl pz12_0, ?_⟩))
    refine v_back (c := c) (s := s) H (show vsub V20_c22_vA V24 [] = true by decide +kernel) H' O' (fun F12 A12 H O' eF12 eA12 => ?_)
    have O := OUT_trans O O'
    -- PackHouse.isRow
    refine w_ifeq (t := 24) rfl rfl (show inr (z12) by omega) (fun b13 => ?_) (fun b13 => ?_)
    · refine Ew_of (pc' := 26) (fun _ => x_bipush (z := -50) rfl (by decide)) ?_
      exact w_ireturn rfl (k ((-50)) _ _ _ H O (SF_trans (SF_trans (SF_refl) (SF_glu (ι := []) hS10 eF10 (by decide +kernel)) (any_sub (l' := []) rfl)) (SF_glu (ι := []) hS12 eF12 (by decide +kernel)) (any_sub (l' := []) rfl)) (SA_trans (SA_trans (SA_refl) (SA_glu (ι := []) hA10 eA10 (by decide +kernel)) (any_subA (l' := []) rfl)) (SA_glu (ι := []) hA12 eA12 (by decide +kernel)) (any_subA (l' := []) rfl)) (show inr ((-50)) by omega) (show ((-50)) = -50 ∧ ((a1) < 0 ∨ 3 < (a1) ∨ (a3) < 0 ∨ 65536 < (a3)) ∨ ((-50)) = -51 ∧ (0 ≤ (a1) ∧ (a1) ≤ 3 ∧ 0 ≤ (a3) ∧ (a3) ≤ 65536) ∧ (knF (sc ((w7)) 0 ((u6_1))) = 0 ∨ knF (sc ((w7)) 0 ((u6_1))) = 5) by have qh0 := HIDe r3; omega))
    · refine Ew_of (pc' := 15) (fun _ => x_iload_n rfl rfl) ?_
      refine w_iflt (t := 24) rfl rfl (show inr (a3) by omega) (fun b14 => ?_) (fun b14 => ?_)
      · refine Ew_of (pc' := 26) (fun _ => x_bipush (z := -50) rfl (by decide)) ?_
        exact w_ireturn rfl (k ((-50)) _ _ _ H O (SF_trans (SF_trans (SF_refl) (SF_glu (ι := []) hS10 eF10 (by decide +kernel)) (any_sub (l' := []) rfl)) (SF_glu (ι := []) hS12 eF12 (by decide +kernel)) (any_sub (l' := []) rfl)) (SA_trans (SA_trans (SA_refl) (SA_glu (ι := []) hA10 eA10 (by decide +kernel)) (any_subA (l' := []) rfl)) (SA_glu (ι := []) hA12 eA12 (by decide +kernel)) (any_subA (l' := []) rfl)) (show inr ((-50)) by omega) (show ((-50)) = -50 ∧ ((a1) < 0 ∨ 3 < (a1) ∨ (a3) < 0 ∨ 65536 < (a3)) ∨ ((-50)) = -51 ∧ (0 ≤ (a1) ∧ (a1) ≤ 3 ∧ 0 ≤ (a3) ∧ (a3) ≤ 65536) ∧ (knF (sc ((w7)) 0 ((u6_1))) = 0 ∨ knF (sc ((w7)) 0 ((u6_1))) = 5) by have qh0 := HIDe r3; omega))
      · refine Ew_of (pc' := 19) (fun _ => x_iload_n rfl rfl) ?_
        refine Ew_of (pc' := 21) (fun _ => x_ldc (z := 65536) rfl (by decide)) ?_
        refine w_icmple (t := 27) rfl rfl (show inr (a3) by omega) (show inr (65536) by omega) (fun b15 => ?_) (fun b15 => ?_)
        · refine Ew_of (pc' := 28) (fun _ => x_aload_n rfl rfl) ?_
          refine v_g H (o := 0) (v := .ref (D 1)) rfl rfl rfl rfl rfl (vrf (((((show F12 0 0 = F10 0 0 from (eF12 0 0))).trans ((show F10 0 0 = F 0 0 from (eF10 0 0))))).trans (pf1))) ?_
          refine Ew_of (pc' := 32) (fun _ => x_iload_n rfl rfl) ?_
          refine v_lR H (o := 1) rfl rfl rfl rfl rfl (n := n1) (en1) (show 0 ≤ 2 ∧ 2 < n1 by have qh0 := HIDe r5; omega) (z := ((D 6 : Nat) : Int)) (v := .ref (D 6)) ((congrFun ((((show A12 1 = A10 1 from (eA12 1))).trans ((show A10 1 = A 1 from (eA10 1))))) 2).trans (pf6)) (vrf rfl) ?_
          refine w_stat24 rfl rfl (by rfl) (C33_Rowp (D := pul [6, 7] D) (N := pul [6, 7] N) (HW_sub H (VS_of (show vsub V20_c22_vA V33_Row [6, 7] = true by decide +kernel))) (STC_out HT HE O) (((((show F12 6 0 = F10 6 0 from (eF12 6 0))).trans ((show F10 6 0 = F 6 0 from (eF10 6 0))))).trans (pf7)) (n7) (en7) (u6_1) (((((show F12 6 1 = F10 6 1 from (eF12 6 1))).trans ((show F10 6 1 = F 6 1 from (eF10 6 1)))).trans (eu6_1))) (w7) (((show A12 7 = A10 7 from (eA12 7))).trans (((show A10 7 = A 7 from (eA10 7))).trans (ew7))) (show 0 ≤ (u6_1) ∧ (u6_1) ≤ (n7) ∧ (n7) ≤ 65536 by have qh0 := HIDe r3; have qh1 := HIDe r8; omega) (fun z16 σ16 F16' A16' H' O' hS16 hA16 pz16_0 pz16_1 pz16_2 => ⟨rfl, ?_⟩))
          refine v_back (c := c) (s := s) H (show vsub V20_c22_vA V33_Row [6, 7] = true by decide +kernel) H' O' (fun F16 A16 H O' eF16 eA16 => ?_)
          have O := OUT_trans O O'
          -- PackHouse.formatOf
          refine Ew_of (pc' := 38) (fun _ => x_istore rfl) ?_
          refine Ew_of (pc' := 40) (fun _ => x_iload rfl rk_s) ?_
          refine w_ifeq (t := 49) rfl rfl (show inr (z16) by omega) (fun b17 => ?_) (fun b17 => ?_)
          · refine Ew_of (pc' := 51) (fun _ => x_bipush (z := -51) rfl (by decide)) ?_
            exact w_ireturn rfl (k ((-51)) _ _ _ H O (SF_trans (SF_trans (SF_trans (SF_refl) (SF_glu (ι := []) hS10 eF10 (by decide +kernel)) (any_sub (l' := []) rfl)) (SF_glu (ι := []) hS12 eF12 (by decide +kernel)) (any_sub (l' := []) rfl)) (SF_glu (ι := [6, 7]) hS16 eF16 (by decide +kernel)) (any_sub (l' := []) rfl)) (SA_trans (SA_trans (SA_trans (SA_refl) (SA_glu (ι := []) hA10 eA10 (by decide +kernel)) (any_subA (l' := []) rfl)) (SA_glu (ι := []) hA12 eA12 (by decide +kernel)) (any_subA (l' := []) rfl)) (SA_glu (ι := [6, 7]) hA16 eA16 (by decide +kernel)) (any_subA (l' := []) rfl)) (show inr ((-51)) by omega) (show ((-51)) = -50 ∧ ((a1) < 0 ∨ 3 < (a1) ∨ (a3) < 0 ∨ 65536 < (a3)) ∨ ((-51)) = -51 ∧ (0 ≤ (a1) ∧ (a1) ≤ 3 ∧ 0 ≤ (a3) ∧ (a3) ≤ 65536) ∧ (knF (sc ((w7)) 0 ((u6_1))) = 0 ∨ knF (sc ((w7)) 0 ((u6_1))) = 5) by have qh0 := HIDe r3; omega))
          · refine Ew_of (pc' := 45) (fun _ => x_iload rfl rk_s) ?_
            refine Ew_of (pc' := 46) (fun _ => x_iconst rfl) ?_
            refine w_icmpne (t := 52) rfl rfl (show inr (z16) by omega) (show inr (5) by omega) (fun b18 => ?_) (fun b18 => ?_)
            · refine Ew_of (pc' := 53) (fun _ => x_aload_n rfl (rk_o (rfl) rfl rfl)) ?_
              refine Ew_of (pc' := 54) (fun _ => x_iload_n rfl (rk_o (rfl) rfl rfl)) ?_
              refine Ew_of (pc' := 55) (fun _ => x_aload_n rfl (rk_o (rfl) rfl rfl)) ?_
              refine Ew_of (pc' := 56) (fun _ => x_aload_n rfl (rk_o (rfl) rfl rfl)) ?_
              refine v_g H (o := 0) (v := .ref (D 1)) rfl rfl rfl rfl rfl (vrf ((((((show F16 0 0 = F12 0 0 from (eF16 0 0))).trans ((show F12 0 0 = F10 0 0 from (eF12 0 0)))).trans ((show F10 0 0 = F 0 0 from (eF10 0 0))))).trans (pf1))) ?_
              refine Ew_of (pc' := 60) (fun _ => x_iload_n rfl (rk_o (rfl) rfl rfl)) ?_
              refine v_lR H (o := 1) rfl rfl rfl rfl rfl (n := n1) (en1) (show 0 ≤ 2 ∧ 2 < n1 by have qh0 := HIDe r5; omega) (z := ((D 6 : Nat) : Int)) (v := .ref (D 6)) ((congrFun (((((show A16 1 = A12 1 from (eA16 1))).trans ((show A12 1 = A10 1 from (eA12 1)))).trans ((show A10 1 = A 1 from (eA10 1))))) 2).trans (pf6)) (vrf rfl) ?_
              refine Ew_of (pc' := 63) (fun _ => x_iload rfl rk_s) ?_
              refine Ew_of (pc' := 64) (fun _ => x_iload_n rfl (rk_o (rfl) rfl rfl)) ?_
              refine Ew_of (pc' := 65) (fun _ => x_aload_n rfl (rk_o (rfl) rfl rfl)) ?_
              refine v_g H (o := 0) (v := .ref (D 10)) rfl rfl rfl rfl rfl (vrf ((((((show F16 0 14 = F12 0 14 from (eF16 0 14))).trans ((show F12 0 14 = F10 0 14 from (eF12 0 14)))).trans ((show F10 0 14 = F 0 14 from (eF10 0 14))))).trans (pf10))) ?_
              exact hc68 (a1) (z16) (a3) _ _ _ _   H O (SF_trans (SF_trans (SF_trans (SF_refl) (SF_glu (ι := []) hS10 eF10 (by decide +kernel)) (any_sub (l' := []) rfl)) (SF_glu (ι := []) hS12 eF12 (by decide +kernel)) (any_sub (l' := []) rfl)) (SF_glu (ι := [6, 7]) hS16 eF16 (by decide +kernel)) (any_sub (l' := []) rfl)) (SA_trans (SA_trans (SA_trans (SA_refl) (SA_glu (ι := []) hA10 eA10 (by decide +kernel)) (any_subA (l' := []) rfl)) (SA_glu (ι := []) hA12 eA12 (by decide +kernel)) (any_subA (l' := []) rfl)) (SA_glu (ι := [6, 7]) hA16 eA16 (by decide +kernel)) (any_subA (l' := []) rfl))     (show inr (a1) by omega) (show inr (z16) by omega) (show inr (a3) by omega) (show 0 ≤ (a1) ∧ (a1) ≤ 3 by omega) (show (z16) = 1 ∨ (z16) = 3 ∨ (z16) = 4 by omega) (show 0 ≤ (a3) ∧ (a3) ≤ 65536 by omega) (show (a1) = (a1) ∧ (a3) = (a3) by omega) (show (z16) = knF (sc ((w7)) 0 ((u6_1))) by have qh0 := HIDe r3; omega)
            · refine Ew_of (pc' := 51) (fun _ => x_bipush (z := -51) rfl (by decide)) ?_
              exact w_ireturn rfl (k ((-51)) _ _ _ H O (SF_trans (SF_trans (SF_trans (SF_refl) (SF_glu (ι := []) hS10 eF10 (by decide +kernel)) (any_sub (l' := []) rfl)) (SF_glu (ι := []) hS12 eF12 (by decide +kernel)) (any_sub (l' := []) rfl)) (SF_glu (ι := [6, 7]) hS16 eF16 (by decide +kernel)) (any_sub (l' := []) rfl)) (SA_trans (SA_trans (SA_trans (SA_refl) (SA_glu (ι := []) hA10 eA10 (by decide +kernel)) (any_subA (l' := []) rfl)) (SA_glu (ι := []) hA12 eA12 (by decide +kernel)) (any_subA (l' := []) rfl)) (SA_glu (ι := [6, 7]) hA16 eA16 (by decide +kernel)) (any_subA (l' := []) rfl)) (show inr ((-51)) by omega) (show ((-51)) = -50 ∧ ((a1) < 0 ∨ 3 < (a1) ∨ (a3) < 0 ∨ 65536 < (a3)) ∨ ((-51)) = -51 ∧ (0 ≤ (a1) ∧ (a1) ≤ 3 ∧ 0 ≤ (a3) ∧ (a3) ≤ 65536) ∧ (knF (sc ((w7)) 0 ((u6_1))) = 0 ∨ knF (sc ((w7)) 0 ((u6_1))) = 5) by have qh0 := HIDe r3; omega))
        · refine Ew_of (pc' := 26) (fun _ => x_bipush (z := -50) rfl (by decide)) ?_
          exact w_ireturn rfl (k ((-50)) _ _ _ H O (SF_trans (SF_trans (SF_refl) (SF_glu (ι := []) hS10 eF10 (by decide +kernel)) (any_sub (l' := []) rfl)) (SF_glu (ι := []) hS12 eF12 (by decide +kernel)) (any_sub (l' := []) rfl)) (SA_trans (SA_trans (SA_refl) (SA_glu (ι := []) hA10 eA10 (by decide +kernel)) (any_subA (l' := []) rfl)) (SA_glu (ι := []) hA12 eA12 (by decide +kernel)) (any_subA (l' := []) rfl)) (show inr ((-50)) by omega) (show ((-50)) = -50 ∧ ((a1) < 0 ∨ 3 < (a1) ∨ (a3) < 0 ∨ 65536 < (a3)) ∨ ((-50)) = -51 ∧ (0 ≤ (a1) ∧ (a1) ≤ 3 ∧ 0 ≤ (a3) ∧ (a3) ≤ 65536) ∧ (knF (sc ((w7)) 0 ((u6_1))) = 0 ∨ knF (sc ((w7)) 0 ((u6_1))) = 5) by have qh0 := HIDe r3; omega))
abbrev V18_c23_vA : vV := [(0, 0, [(4, 0), (4, 0), (4, 0), (4, 0), (4, 0), (4, 0), (4, 0), (4, 0), (4, 0), (4, 0), (4, 0), (4, 0), (4, 0), (4, 0), (4, 0), (4, 0), (4, 0), (0, 0), (0, 0)]), (1, 4, []), (0, 7, [(4, 0), (0, 0), (1, 0), (0, 0), (0, 0)]), (1, 0, []), (0, 7, [(4, 0), (0, 0), (1, 0), (0, 0), (0, 0)]), (1, 0, []), (0, 7, [(4, 0), (0, 0), (1, 0), (0, 0), (0, 0)]), (1, 0, []), (0, 7, [(4, 0), (0, 0), (1, 0), (0, 0), (0, 0)]), (1, 0, []), (1, 1, [])]
/-- PackHouse.read: this, this.rows, this.rows.0, this.rows.0.bytes, this.rows.1, this.rows.1.bytes, this.rows.2, this.rows.2.bytes, this.rows.3, this.rows.3.bytes, this.readCounts -/
theorem C18_c23_vA {σE : rS} {D N : Nat → Nat} {F : hF} {A : hA} {d c s : Nat} {Q : wQ} (H : HW V18_c23_vA σE D N F A) {a1 a3 a4 : Int} (pf1 : F 0 0 = (D 1 : Int)) (pf2 : A 1 0 = (D 2 : Int)) (pf3 : F 2 0 = (D 3 : Int)) (pf4 : A 1 1 = (D 4 : Int)) (pf5 : F 4 0 = (D 5 : Int)) (pf6 : A 1 2 = (D 6 : Int)) (pf7 : F 6 0 = (D 7 : Int)) (pf8 : A 1 3 = (D 8 : Int)) (pf9 : F 8 0 = (D 9 : Int)) (pf10 : F 0 14 = (D 10 : Int)) (n1 : Int) (en1 : (N 1 : Int) = n1) (n3 : Int) (en3 : (N 3 : Int) = n3) (n5 : Int) (en5 : (N 5 : Int) = n5) (n7 : Int) (en7 : (N 7 : Int) = n7) (n9 : Int) (en9 : (N 9 : Int) = n9) (n10 : Int) (en10 : (N 10 : Int) = n10) (u2_1 : Int) (eu2_1 : F 2 1 = u2_1) (u4_1 : Int) (eu4_1 : F 4 1 = u4_1) (u6_1 : Int) (eu6_1 : F 6 1 = u6_1) (u8_1 : Int) (eu8_1 : F 8 1 = u8_1) (h0 : inr (a1)) (h1 : inr (3)) (h2 : inr (a3)) (h3 : inr (a4)) (h4 : (n1) = 4) (h5 : 0 ≤ (u2_1) ∧ (u2_1) ≤ (n3) ∧ (n3) ≤ 65536) (h6 : 0 ≤ (u4_1) ∧ (u4_1) ≤ (n5) ∧ (n5) ≤ 65536) (h7 : 0 ≤ (u6_1) ∧ (u6_1) ≤ (n7) ∧ (n7) ≤ 65536) (h8 : 0 ≤ (u8_1) ∧ (u8_1) ≤ (n9) ∧ (n9) ≤ 65536) (hc54 : ∀ (tc54_1 : Int), ∀ (tc54_4 : Int), ∀ (tc54_5 : Int), ∀ (ls : rO) (σ : rS) (F_c54 : hF) (A_c54 : hA) , HW V18_c23_vA σ D N F_c54 A_c54 → OUT (V18_c23_vA).length D N σE c s D N σ c s → SF [] F F_c54 → SA [] A A_c54 → (inr (tc54_1)) → (inr (tc54_4)) → (inr (tc54_5)) → (0 ≤ (tc54_1) ∧ (tc54_1) ≤ 3) → (0 ≤ (tc54_4) ∧ (tc54_4) ≤ 4) → (0 ≤ (tc54_5) ∧ (tc54_5) ≤ 65536) → ((tc54_1) = (a1) ∧ (tc54_4) = (a3) ∧ (tc54_5) = (a4)) → Ew 18 (d + 1) 54 ls [.ref (D 10), I (tc54_5), I (tc54_4), .ref (D 8), .ref (D 0), I (tc54_1), .ref (D 0)] σ c s Q) (k : ∀ (z : Int) (σ : rS) (F' : hF) (A' : hA), HW V18_c23_vA σ D N F' A' → OUT (V18_c23_vA).length D N σE c s D N σ c s → SF [] F F' → SA [] A A' → (inr (z)) → ((z) = -50 ∧ ((a1) < 0 ∨ 3 < (a1) ∨ (a3) < 0 ∨ 4 < (a3) ∨ (a4) < 0 ∨ 65536 < (a4))) → Q (some (I z)) σ c s) : Ew 18 (d + 1) 0 (rargs 0 [.ref (D 0), I a1, I 3, I a3, I a4]) [] σE c s Q := by
  have O := OUT_refl (n := (V18_c23_vA).length) (D := D) (N := N) (σ := σE) (c := c) (s := s)
  have HE := H
  have r1 : HID ((-2147483648 : Int) ≤ u2_1 ∧ u2_1 ≤ 2147483647) := krg_e (show (-2147483648 : Int) ≤ F 2 1 ∧ F 2 1 ≤ 2147483647 from H.krg 2 1 (by decide)) (show F 2 1 = u2_1 from (eu2_1))
  have r2 : HID ((-2147483648 : Int) ≤ u4_1 ∧ u4_1 ≤ 2147483647) := krg_e (show (-2147483648 : Int) ≤ F 4 1 ∧ F 4 1 ≤ 2147483647 from H.krg 4 1 (by decide)) (show F 4 1 = u4_1 from (eu4_1))
  have r3 : HID ((-2147483648 : Int) ≤ u6_1 ∧ u6_1 ≤ 2147483647) := krg_e (show (-2147483648 : Int) ≤ F 6 1 ∧ F 6 1 ≤ 2147483647 from H.krg 6 1 (by decide)) (show F 6 1 = u6_1 from (eu6_1))
  have r4 : HID ((-2147483648 : Int) ≤ u8_1 ∧ u8_1 ≤ 2147483647) := krg_e (show (-2147483648 : Int) ≤ F 8 1 ∧ F 8 1 ≤ 2147483647 from H.krg 8 1 (by decide)) (show F 8 1 = u8_1 from (eu8_1))
  replace pf1 := HIDm pf1
  replace pf2 := HIDm pf2
  replace pf3 := HIDm pf3
  replace pf4 := HIDm pf4
  replace pf5 := HIDm pf5
  replace pf6 := HIDm pf6
  replace pf7 := HIDm pf7
  replace pf8 := HIDm pf8
  replace pf9 := HIDm pf9
  replace pf10 := HIDm pf10
  replace en1 := HIDm en1
  replace en3 := HIDm en3
  replace en5 := HIDm en5
  replace en7 := HIDm en7
  replace en9 := HIDm en9
  replace en10 := HIDm en10
  replace eu2_1 := HIDm eu2_1
  replace eu4_1 := HIDm eu4_1
  replace eu6_1 := HIDm eu6_1
  replace eu8_1 := HIDm eu8_1
  have r5 : HID ((0 : Int) ≤ n1 ∧ n1 ≤ 1000000) := nrng (H.nle 1 (by decide)) (show (N 1 : Int) = n1 from en1)
  have r6 : HID ((0 : Int) ≤ n3 ∧ n3 ≤ 1000000) := nrng (H.nle 3 (by decide)) (show (N 3 : Int) = n3 from en3)
  have r7 : HID ((0 : Int) ≤ n5 ∧ n5 ≤ 1000000) := nrng (H.nle 5 (by decide)) (show (N 5 : Int) = n5 from en5)
  have r8 : HID ((0 : Int) ≤ n7 ∧ n7 ≤ 1000000) := nrng (H.nle 7 (by decide)) (show (N 7 : Int) = n7 from en7)
  have r9 : HID ((0 : Int) ≤ n9 ∧ n9 ≤ 1000000) := nrng (H.nle 9 (by decide)) (show (N 9 : Int) = n9 from en9)
  refine Ew_of (pc' := 1) (fun _ => x_iload_n rfl rfl) ?_
  refine w_stat24 rfl rfl (by rfl) (C24x (D := pul [] D) (N := pul [] N) (HW_sub H (VS_of (show vsub V18_c23_vA V24 [] = true by decide +kernel))) (show inr (a1) by omega) (fun z10 σ10 F10' A10' H' O' hS10 hA10 pz10_0 pz10_1 => ⟨rretB rfl pz10_0, ?_⟩))
  refine v_back (c := c) (s := s) H (show vsub V18_c23_vA V24 [] = true by decide +kernel) H' O' (fun F10 A10 H O' eF10 eA10 => ?_)
  have O := OUT_trans O O'
  -- PackHouse.isRow
  refine w_ifeq (t := 35) rfl rfl (show inr (z10) by omega) (fun b11 => ?_) (fun b11 => ?_)
  · refine Ew_of (pc' := 37) (fun _ => x_bipush (z := -50) rfl (by decide)) ?_
    exact w_ireturn rfl (k ((-50)) _ _ _ H O (SF_trans (SF_refl) (SF_glu (ι := []) hS10 eF10 (by decide +kernel)) (any_sub (l' := []) rfl)) (SA_trans (SA_refl) (SA_glu (ι := []) hA10 eA10 (by decide +kernel)) (any_subA (l' := []) rfl)) (show inr ((-50)) by omega) (show ((-50)) = -50 ∧ ((a1) < 0 ∨ 3 < (a1) ∨ (a3) < 0 ∨ 4 < (a3) ∨ (a4) < 0 ∨ 65536 < (a4)) by omega))
  · refine Ew_of (pc' := 8) (fun _ => x_iload_n rfl rfl) ?_
    refine w_stat24 rfl rfl (by rfl) (C24x (D := pul [] D) (N := pul [] N) (HW_sub H (VS_of (show vsub V18_c23_vA V24 [] = true by decide +kernel))) (show inr (3) by omega) (fun z12 σ12 F12' A12' H' O' hS12 hA12 pz12_0 pz12_1 => ⟨rretB rfl pz12_0, ?_⟩))
    refine v_back (c := c) (s := s) H (show vsub V18_c23_vA V24 [] = true by decide +kernel) H' O' (fun F12 A12 H O' eF12 eA12 => ?_)
    have O := OUT_trans O O'
    -- PackHouse.isRow
    refine w_ifeq (t := 35) rfl rfl (show inr (z12) by omega) (fun b13 => ?_) (fun b13 => ?_)
    · refine Ew_of (pc' := 37) (fun _ => x_bipush (z := -50) rfl (by decide)) ?_
      exact w_ireturn rfl (k ((-50)) _ _ _ H O (SF_trans (SF_trans (SF_refl) (SF_glu (ι := []) hS10 eF10 (by decide +kernel)) (any_sub (l' := []) rfl)) (SF_glu (ι := []) hS12 eF12 (by decide +kernel)) (any_sub (l' := []) rfl)) (SA_trans (SA_trans (SA_refl) (SA_glu (ι := []) hA10 eA10 (by decide +kernel)) (any_subA (l' := []) rfl)) (SA_glu (ι := []) hA12 eA12 (by decide +kernel)) (any_subA (l' := []) rfl)) (show inr ((-50)) by omega) (show ((-50)) = -50 ∧ ((a1) < 0 ∨ 3 < (a1) ∨ (a3) < 0 ∨ 4 < (a3) ∨ (a4) < 0 ∨ 65536 < (a4)) by omega))
    · refine Ew_of (pc' := 15) (fun _ => x_iload_n rfl rfl) ?_
      refine w_iflt (t := 35) rfl rfl (show inr (a3) by omega) (fun b14 => ?_) (fun b14 => ?_)
      · refine Ew_of (pc' := 37) (fun _ => x_bipush (z := -50) rfl (by decide)) ?_
        exact w_ireturn rfl (k ((-50)) _ _ _ H O (SF_trans (SF_trans (SF_refl) (SF_glu (ι := []) hS10 eF10 (by decide +kernel)) (any_sub (l' := []) rfl)) (SF_glu (ι := []) hS12 eF12 (by decide +kernel)) (any_sub (l' := []) rfl)) (SA_trans (SA_trans (SA_refl) (SA_glu (ι := []) hA10 eA10 (by decide +kernel)) (any_subA (l' := []) rfl)) (SA_glu (ι := []) hA12 eA12 (by decide +kernel)) (any_subA (l' := []) rfl)) (show inr ((-50)) by omega) (show ((-50)) = -50 ∧ ((a1) < 0 ∨ 3 < (a1) ∨ (a3) < 0 ∨ 4 < (a3) ∨ (a4) < 0 ∨ 65536 < (a4)) by omega))
      · refine Ew_of (pc' := 19) (fun _ => x_iload_n rfl rfl) ?_
        refine Ew_of (pc' := 20) (fun _ => x_iconst rfl) ?_
        refine w_icmpgt (t := 35) rfl rfl (show inr (a3) by omega) (show inr (4) by omega) (fun b15 => ?_) (fun b15 => ?_)
        · refine Ew_of (pc' := 37) (fun _ => x_bipush (z := -50) rfl (by decide)) ?_
          exact w_ireturn rfl (k ((-50)) _ _ _ H O (SF_trans (SF_trans (SF_refl) (SF_glu (ι := []) hS10 eF10 (by decide +kernel)) (any_sub (l' := []) rfl)) (SF_glu (ι := []) hS12 eF12 (by decide +kernel)) (any_sub (l' := []) rfl)) (SA_trans (SA_trans (SA_refl) (SA_glu (ι := []) hA10 eA10 (by decide +kernel)) (any_subA (l' := []) rfl)) (SA_glu (ι := []) hA12 eA12 (by decide +kernel)) (any_subA (l' := []) rfl)) (show inr ((-50)) by omega) (show ((-50)) = -50 ∧ ((a1) < 0 ∨ 3 < (a1) ∨ (a3) < 0 ∨ 4 < (a3) ∨ (a4) < 0 ∨ 65536 < (a4)) by omega))
        · refine Ew_of (pc' := 25) (fun _ => x_iload rfl rfl) ?_
          refine w_iflt (t := 35) rfl rfl (show inr (a4) by omega) (fun b16 => ?_) (fun b16 => ?_)
          · refine Ew_of (pc' := 37) (fun _ => x_bipush (z := -50) rfl (by decide)) ?_
            exact w_ireturn rfl (k ((-50)) _ _ _ H O (SF_trans (SF_trans (SF_refl) (SF_glu (ι := []) hS10 eF10 (by decide +kernel)) (any_sub (l' := []) rfl)) (SF_glu (ι := []) hS12 eF12 (by decide +kernel)) (any_sub (l' := []) rfl)) (SA_trans (SA_trans (SA_refl) (SA_glu (ι := []) hA10 eA10 (by decide +kernel)) (any_subA (l' := []) rfl)) (SA_glu (ι := []) hA12 eA12 (by decide +kernel)) (any_subA (l' := []) rfl)) (show inr ((-50)) by omega) (show ((-50)) = -50 ∧ ((a1) < 0 ∨ 3 < (a1) ∨ (a3) < 0 ∨ 4 < (a3) ∨ (a4) < 0 ∨ 65536 < (a4)) by omega))
          · refine Ew_of (pc' := 30) (fun _ => x_iload rfl rfl) ?_
            refine Ew_of (pc' := 32) (fun _ => x_ldc (z := 65536) rfl (by decide)) ?_
            refine w_icmple (t := 38) rfl rfl (show inr (a4) by omega) (show inr (65536) by omega) (fun b17 => ?_) (fun b17 => ?_)
            · refine Ew_of (pc' := 39) (fun _ => x_aload_n rfl rfl) ?_
              refine Ew_of (pc' := 40) (fun _ => x_iload_n rfl rfl) ?_
              refine Ew_of (pc' := 41) (fun _ => x_aload_n rfl rfl) ?_
              refine Ew_of (pc' := 42) (fun _ => x_aload_n rfl rfl) ?_
              refine v_g H (o := 0) (v := .ref (D 1)) rfl rfl rfl rfl rfl (vrf (((((show F12 0 0 = F10 0 0 from (eF12 0 0))).trans ((show F10 0 0 = F 0 0 from (eF10 0 0))))).trans (pf1))) ?_
              refine Ew_of (pc' := 46) (fun _ => x_iload_n rfl rfl) ?_
              refine v_lR H (o := 1) rfl rfl rfl rfl rfl (n := n1) (en1) (show 0 ≤ 3 ∧ 3 < n1 by have qh0 := HIDe r5; omega) (z := ((D 8 : Nat) : Int)) (v := .ref (D 8)) ((congrFun ((((show A12 1 = A10 1 from (eA12 1))).trans ((show A10 1 = A 1 from (eA10 1))))) 3).trans (pf8)) (vrf rfl) ?_
              refine Ew_of (pc' := 48) (fun _ => x_iload_n rfl rfl) ?_
              refine Ew_of (pc' := 50) (fun _ => x_iload rfl rfl) ?_
              refine Ew_of (pc' := 51) (fun _ => x_aload_n rfl rfl) ?_
              refine v_g H (o := 0) (v := .ref (D 10)) rfl rfl rfl rfl rfl (vrf (((((show F12 0 14 = F10 0 14 from (eF12 0 14))).trans ((show F10 0 14 = F 0 14 from (eF10 0 14))))).trans (pf10))) ?_
              exact hc54 (a1) (a3) (a4) _ _ _ _   H O (SF_trans (SF_trans (SF_refl) (SF_glu (ι := []) hS10 eF10 (by decide +kernel)) (any_sub (l' := []) rfl)) (SF_glu (ι := []) hS12 eF12 (by decide +kernel)) (any_sub (l' := []) rfl)) (SA_trans (SA_trans (SA_refl) (SA_glu (ι := []) hA10 eA10 (by decide +kernel)) (any_subA (l' := []) rfl)) (SA_glu (ι := []) hA12 eA12 (by decide +kernel)) (any_subA (l' := []) rfl))     (show inr (a1) by omega) (show inr (a3) by omega) (show inr (a4) by omega) (show 0 ≤ (a1) ∧ (a1) ≤ 3 by omega) (show 0 ≤ (a3) ∧ (a3) ≤ 4 by omega) (show 0 ≤ (a4) ∧ (a4) ≤ 65536 by omega) (show (a1) = (a1) ∧ (a3) = (a3) ∧ (a4) = (a4) by omega)
            · refine Ew_of (pc' := 37) (fun _ => x_bipush (z := -50) rfl (by decide)) ?_
              exact w_ireturn rfl (k ((-50)) _ _ _ H O (SF_trans (SF_trans (SF_refl) (SF_glu (ι := []) hS10 eF10 (by decide +kernel)) (any_sub (l' := []) rfl)) (SF_glu (ι := []) hS12 eF12 (by decide +kernel)) (any_sub (l' := []) rfl)) (SA_trans (SA_trans (SA_refl) (SA_glu (ι := []) hA10 eA10 (by decide +kernel)) (any_subA (l' := []) rfl)) (SA_glu (ι := []) hA12 eA12 (by decide +kernel)) (any_subA (l' := []) rfl)) (show inr ((-50)) by omega) (show ((-50)) = -50 ∧ ((a1) < 0 ∨ 3 < (a1) ∨ (a3) < 0 ∨ 4 < (a3) ∨ (a4) < 0 ∨ 65536 < (a4)) by omega))
abbrev V20_c23_vA : vV := [(0, 0, [(4, 0), (4, 0), (4, 0), (4, 0), (4, 0), (4, 0), (4, 0), (4, 0), (4, 0), (4, 0), (4, 0), (4, 0), (4, 0), (4, 0), (4, 0), (4, 0), (4, 0), (0, 0), (0, 0)]), (1, 4, []), (0, 7, [(4, 0), (0, 0), (1, 0), (0, 0), (0, 0)]), (1, 0, []), (0, 7, [(4, 0), (0, 0), (1, 0), (0, 0), (0, 0)]), (1, 0, []), (0, 7, [(4, 0), (0, 0), (1, 0), (0, 0), (0, 0)]), (1, 0, []), (0, 7, [(4, 0), (0, 0), (1, 0), (0, 0), (0, 0)]), (1, 0, []), (1, 1, [])]
/-- PackHouse.open: this, this.rows, this.rows.0, this.rows.0.bytes, this.rows.1, this.rows.1.bytes, this.rows.2, this.rows.2.bytes, this.rows.3, this.rows.3.bytes, this.readCounts -/
theorem C20_c23_vA {σE : rS} {D N : Nat → Nat} {F : hF} {A : hA} {d c s : Nat} {Q : wQ} (H : HW V20_c23_vA σE D N F A) (HT : STC σE) {a1 a3 : Int} (pf1 : F 0 0 = (D 1 : Int)) (pf2 : A 1 0 = (D 2 : Int)) (pf3 : F 2 0 = (D 3 : Int)) (pf4 : A 1 1 = (D 4 : Int)) (pf5 : F 4 0 = (D 5 : Int)) (pf6 : A 1 2 = (D 6 : Int)) (pf7 : F 6 0 = (D 7 : Int)) (pf8 : A 1 3 = (D 8 : Int)) (pf9 : F 8 0 = (D 9 : Int)) (pf10 : F 0 14 = (D 10 : Int)) (n1 : Int) (en1 : (N 1 : Int) = n1) (n3 : Int) (en3 : (N 3 : Int) = n3) (n5 : Int) (en5 : (N 5 : Int) = n5) (n7 : Int) (en7 : (N 7 : Int) = n7) (n9 : Int) (en9 : (N 9 : Int) = n9) (n10 : Int) (en10 : (N 10 : Int) = n10) (u2_1 : Int) (eu2_1 : F 2 1 = u2_1) (u4_1 : Int) (eu4_1 : F 4 1 = u4_1) (u6_1 : Int) (eu6_1 : F 6 1 = u6_1) (u8_1 : Int) (eu8_1 : F 8 1 = u8_1) (w9 : Int → Int) (ew9 : A 9 = w9) (h0 : inr (a1)) (h1 : inr (3)) (h2 : inr (a3)) (h3 : (n1) = 4) (h4 : 0 ≤ (u2_1) ∧ (u2_1) ≤ (n3) ∧ (n3) ≤ 65536) (h5 : 0 ≤ (u4_1) ∧ (u4_1) ≤ (n5) ∧ (n5) ≤ 65536) (h6 : 0 ≤ (u6_1) ∧ (u6_1) ≤ (n7) ∧ (n7) ≤ 65536) (h7 : 0 ≤ (u8_1) ∧ (u8_1) ≤ (n9) ∧ (n9) ≤ 65536) (hc68 : ∀ (tc68_1 : Int), ∀ (tc68_4 : Int), ∀ (tc68_5 : Int), ∀ (ls : rO) (σ : rS) (F_c68 : hF) (A_c68 : hA) , HW V20_c23_vA σ D N F_c68 A_c68 → OUT (V20_c23_vA).length D N σE c s D N σ c s → SF [] F F_c68 → SA [] A A_c68 → (inr (tc68_1)) → (inr (tc68_4)) → (inr (tc68_5)) → (0 ≤ (tc68_1) ∧ (tc68_1) ≤ 3) → ((tc68_4) = 1 ∨ (tc68_4) = 3 ∨ (tc68_4) = 4) → (0 ≤ (tc68_5) ∧ (tc68_5) ≤ 65536) → ((tc68_1) = (a1) ∧ (tc68_5) = (a3)) → ((tc68_4) = knF (sc ((w9)) 0 ((u8_1)))) → Ew 20 (d + 3) 68 ls [.ref (D 10), I (tc68_5), I (tc68_4), .ref (D 8), .ref (D 0), I (tc68_1), .ref (D 0)] σ c s Q) (k : ∀ (z : Int) (σ : rS) (F' : hF) (A' : hA), HW V20_c23_vA σ D N F' A' → OUT (V20_c23_vA).length D N σE c s D N σ c s → SF [] F F' → SA [] A A' → (inr (z)) → ((z) = -50 ∧ ((a1) < 0 ∨ 3 < (a1) ∨ (a3) < 0 ∨ 65536 < (a3)) ∨ (z) = -51 ∧ (0 ≤ (a1) ∧ (a1) ≤ 3 ∧ 0 ≤ (a3) ∧ (a3) ≤ 65536) ∧ (knF (sc ((w9)) 0 ((u8_1))) = 0 ∨ knF (sc ((w9)) 0 ((u8_1))) = 5)) → Q (some (I z)) σ c s) : Ew 20 (d + 3) 0 (rargs 0 [.ref (D 0), I a1, I 3, I a3]) [] σE c s Q := by
  have O := OUT_refl (n := (V20_c23_vA).length) (D := D) (N := N) (σ := σE) (c := c) (s := s)
  have HE := H
  have r1 : HID ((-2147483648 : Int) ≤ u2_1 ∧ u2_1 ≤ 2147483647) := krg_e (show (-2147483648 : Int) ≤ F 2 1 ∧ F 2 1 ≤ 2147483647 from H.krg 2 1 (by decide)) (show F 2 1 = u2_1 from (eu2_1))
  have r2 : HID ((-2147483648 : Int) ≤ u4_1 ∧ u4_1 ≤ 2147483647) := krg_e (show (-2147483648 : Int) ≤ F 4 1 ∧ F 4 1 ≤ 2147483647 from H.krg 4 1 (by decide)) (show F 4 1 = u4_1 from (eu4_1))
  have r3 : HID ((-2147483648 : Int) ≤ u6_1 ∧ u6_1 ≤ 2147483647) := krg_e (show (-2147483648 : Int) ≤ F 6 1 ∧ F 6 1 ≤ 2147483647 from H.krg 6 1 (by decide)) (show F 6 1 = u6_1 from (eu6_1))
  have r4 : HID ((-2147483648 : Int) ≤ u8_1 ∧ u8_1 ≤ 2147483647) := krg_e (show (-2147483648 : Int) ≤ F 8 1 ∧ F 8 1 ≤ 2147483647 from H.krg 8 1 (by decide)) (show F 8 1 = u8_1 from (eu8_1))
  replace pf1 := HIDm pf1
  replace pf2 := HIDm pf2
  replace pf3 := HIDm pf3
  replace pf4 := HIDm pf4
  replace pf5 := HIDm pf5
  replace pf6 := HIDm pf6
  replace pf7 := HIDm pf7
  replace pf8 := HIDm pf8
  replace pf9 := HIDm pf9
  replace pf10 := HIDm pf10
  replace en1 := HIDm en1
  replace en3 := HIDm en3
  replace en5 := HIDm en5
  replace en7 := HIDm en7
  replace en9 := HIDm en9
  replace en10 := HIDm en10
  replace eu2_1 := HIDm eu2_1
  replace eu4_1 := HIDm eu4_1
  replace eu6_1 := HIDm eu6_1
  replace eu8_1 := HIDm eu8_1
  have r5 : HID ((0 : Int) ≤ n1 ∧ n1 ≤ 1000000) := nrng (H.nle 1 (by decide)) (show (N 1 : Int) = n1 from en1)
  have r6 : HID ((0 : Int) ≤ n3 ∧ n3 ≤ 1000000) := nrng (H.nle 3 (by decide)) (show (N 3 : Int) = n3 from en3)
  have r7 : HID ((0 : Int) ≤ n5 ∧ n5 ≤ 1000000) := nrng (H.nle 5 (by decide)) (show (N 5 : Int) = n5 from en5)
  have r8 : HID ((0 : Int) ≤ n7 ∧ n7 ≤ 1000000) := nrng (H.nle 7 (by decide)) (show (N 7 : Int) = n7 from en7)
  have r9 : HID ((0 : Int) ≤ n9 ∧ n9 ≤ 1000000) := nrng (H.nle 9 (by decide)) (show (N 9 : Int) = n9 from en9)
  refine Ew_of (pc' := 1) (fun _ => x_iload_n rfl rfl) ?_
  refine w_stat24 rfl rfl (by rfl) (C24x (D := pul [] D) (N := pul [] N) (HW_sub H (VS_of (show vsub V20_c23_vA V24 [] = true by decide +kernel))) (show inr (a1) by omega) (fun z10 σ10 F10' A10' H' O' hS10 hA10 pz10_0 pz10_1 => ⟨rretB rfl pz10_0, ?_⟩))
  refine v_back (c := c) (s := s) H (show vsub V20_c23_vA V24 [] = true by decide +kernel) H' O' (fun F10 A10 H O' eF10 eA10 => ?_)
  have O := OUT_trans O O'
  -- PackHouse.isRow
  refine w_ifeq (t := 24) rfl rfl (show inr (z10) by omega) (fun b11 => ?_) (fun b11 => ?_)
  · refine Ew_of (pc' := 26) (fun _ => x_bipush (z := -50) rfl (by decide)) ?_
    exact w_ireturn rfl (k ((-50)) _ _ _ H O (SF_trans (SF_refl) (SF_glu (ι := []) hS10 eF10 (by decide +kernel)) (any_sub (l' := []) rfl)) (SA_trans (SA_refl) (SA_glu (ι := []) hA10 eA10 (by decide +kernel)) (any_subA (l' := []) rfl)) (show inr ((-50)) by omega) (show ((-50)) = -50 ∧ ((a1) < 0 ∨ 3 < (a1) ∨ (a3) < 0 ∨ 65536 < (a3)) ∨ ((-50)) = -51 ∧ (0 ≤ (a1) ∧ (a1) ≤ 3 ∧ 0 ≤ (a3) ∧ (a3) ≤ 65536) ∧ (knF (sc ((w9)) 0 ((u8_1))) = 0 ∨ knF (sc ((w9)) 0 ((u8_1))) = 5) by have qh0 := HIDe r4; omega))
  · refine Ew_of (pc' := 8) (fun _ => x_iload_n rfl rfl) ?_
    refine w_stat24 rfl rfl (by rfl) (C24x (D := pul [] D) (N := pul [] N) (HW_sub H (VS_of (show vsub V20_c23_vA V24 [] = true by decide +kernel))) (show inr (3) by omega) (fun z12 σ12 F12' A12' H' O' hS12 hA12 pz12_0 pz12_1 => ⟨rretB rfl pz12_0, ?_⟩))
    refine v_back (c := c) (s := s) H (show vsub V20_c23_vA V24 [] = true by decide +kernel) H' O' (fun F12 A12 H O' eF12 eA12 => ?_)
    have O := OUT_trans O O'
    -- PackHouse.isRow
    refine w_ifeq (t := 24) rfl rfl (show inr (z12) by omega) (fun b13 => ?_) (fun b13 => ?_)
    · refine Ew_of (pc' := 26) (fun _ => x_bipush (z := -50) rfl (by decide)) ?_
      exact w_ireturn rfl (k ((-50)) _ _ _ H O (SF_trans (SF_trans (SF_refl) (SF_glu (ι := []) hS10 eF10 (by decide +kernel)) (any_sub (l' := []) rfl)) (SF_glu (ι := []) hS12 eF12 (by decide +kernel)) (any_sub (l' := []) rfl)) (SA_trans (SA_trans (SA_refl) (SA_glu (ι := []) hA10 eA10 (by decide +kernel)) (any_subA (l' := []) rfl)) (SA_glu (ι := []) hA12 eA12 (by decide +kernel)) (any_subA (l' := []) rfl)) (show inr ((-50)) by omega) (show ((-50)) = -50 ∧ ((a1) < 0 ∨ 3 < (a1) ∨ (a3) < 0 ∨ 65536 < (a3)) ∨ ((-50)) = -51 ∧ (0 ≤ (a1) ∧ (a1) ≤ 3 ∧ 0 ≤ (a3) ∧ (a3) ≤ 65536) ∧ (knF (sc ((w9)) 0 ((u8_1))) = 0 ∨ knF (sc ((w9)) 0 ((u8_1))) = 5) by have qh0 := HIDe r4; omega))
    · refine Ew_of (pc' := 15) (fun _ => x_iload_n rfl rfl) ?_
      refine w_iflt (t := 24) rfl rfl (show inr (a3) by omega) (fun b14 => ?_) (fun b14 => ?_)
      · refine Ew_of (pc' := 26) (fun _ => x_bipush (z := -50) rfl (by decide)) ?_
        exact w_ireturn rfl (k ((-50)) _ _ _ H O (SF_trans (SF_trans (SF_refl) (SF_glu (ι := []) hS10 eF10 (by decide +kernel)) (any_sub (l' := []) rfl)) (SF_glu (ι := []) hS12 eF12 (by decide +kernel)) (any_sub (l' := []) rfl)) (SA_trans (SA_trans (SA_refl) (SA_glu (ι := []) hA10 eA10 (by decide +kernel)) (any_subA (l' := []) rfl)) (SA_glu (ι := []) hA12 eA12 (by decide +kernel)) (any_subA (l' := []) rfl)) (show inr ((-50)) by omega) (show ((-50)) = -50 ∧ ((a1) < 0 ∨ 3 < (a1) ∨ (a3) < 0 ∨ 65536 < (a3)) ∨ ((-50)) = -51 ∧ (0 ≤ (a1) ∧ (a1) ≤ 3 ∧ 0 ≤ (a3) ∧ (a3) ≤ 65536) ∧ (knF (sc ((w9)) 0 ((u8_1))) = 0 ∨ knF (sc ((w9)) 0 ((u8_1))) = 5) by have qh0 := HIDe r4; omega))
      · refine Ew_of (pc' := 19) (fun _ => x_iload_n rfl rfl) ?_
        refine Ew_of (pc' := 21) (fun _ => x_ldc (z := 65536) rfl (by decide)) ?_
        refine w_icmple (t := 27) rfl rfl (show inr (a3) by omega) (show inr (65536) by omega) (fun b15 => ?_) (fun b15 => ?_)
        · refine Ew_of (pc' := 28) (fun _ => x_aload_n rfl rfl) ?_
          refine v_g H (o := 0) (v := .ref (D 1)) rfl rfl rfl rfl rfl (vrf (((((show F12 0 0 = F10 0 0 from (eF12 0 0))).trans ((show F10 0 0 = F 0 0 from (eF10 0 0))))).trans (pf1))) ?_
          refine Ew_of (pc' := 32) (fun _ => x_iload_n rfl rfl) ?_
          refine v_lR H (o := 1) rfl rfl rfl rfl rfl (n := n1) (en1) (show 0 ≤ 3 ∧ 3 < n1 by have qh0 := HIDe r5; omega) (z := ((D 8 : Nat) : Int)) (v := .ref (D 8)) ((congrFun ((((show A12 1 = A10 1 from (eA12 1))).trans ((show A10 1 = A 1 from (eA10 1))))) 3).trans (pf8)) (vrf rfl) ?_
          refine w_stat24 rfl rfl (by rfl) (C33_Rowp (D := pul [8, 9] D) (N := pul [8, 9] N) (HW_sub H (VS_of (show vsub V20_c23_vA V33_Row [8, 9] = true by decide +kernel))) (STC_out HT HE O) (((((show F12 8 0 = F10 8 0 from (eF12 8 0))).trans ((show F10 8 0 = F 8 0 from (eF10 8 0))))).trans (pf9)) (n9) (en9) (u8_1) (((((show F12 8 1 = F10 8 1 from (eF12 8 1))).trans ((show F10 8 1 = F 8 1 from (eF10 8 1)))).trans (eu8_1))) (w9) (((show A12 9 = A10 9 from (eA12 9))).trans (((show A10 9 = A 9 from (eA10 9))).trans (ew9))) (show 0 ≤ (u8_1) ∧ (u8_1) ≤ (n9) ∧ (n9) ≤ 65536 by have qh0 := HIDe r4; have qh1 := HIDe r9; omega) (fun z16 σ16 F16' A16' H' O' hS16 hA16 pz16_0 pz16_1 pz16_2 => ⟨rfl, ?_⟩))
          refine v_back (c := c) (s := s) H (show vsub V20_c23_vA V33_Row [8, 9] = true by decide +kernel) H' O' (fun F16 A16 H O' eF16 eA16 => ?_)
          have O := OUT_trans O O'
          -- PackHouse.formatOf
          refine Ew_of (pc' := 38) (fun _ => x_istore rfl) ?_
          refine Ew_of (pc' := 40) (fun _ => x_iload rfl rk_s) ?_
          refine w_ifeq (t := 49) rfl rfl (show inr (z16) by omega) (fun b17 => ?_) (fun b17 => ?_)
          · refine Ew_of (pc' := 51) (fun _ => x_bipush (z := -51) rfl (by decide)) ?_
            exact w_ireturn rfl (k ((-51)) _ _ _ H O (SF_trans (SF_trans (SF_trans (SF_refl) (SF_glu (ι := []) hS10 eF10 (by decide +kernel)) (any_sub (l' := []) rfl)) (SF_glu (ι := []) hS12 eF12 (by decide +kernel)) (any_sub (l' := []) rfl)) (SF_glu (ι := [8, 9]) hS16 eF16 (by decide +kernel)) (any_sub (l' := []) rfl)) (SA_trans (SA_trans (SA_trans (SA_refl) (SA_glu (ι := []) hA10 eA10 (by decide +kernel)) (any_subA (l' := []) rfl)) (SA_glu (ι := []) hA12 eA12 (by decide +kernel)) (any_subA (l' := []) rfl)) (SA_glu (ι := [8, 9]) hA16 eA16 (by decide +kernel)) (any_subA (l' := []) rfl)) (show inr ((-51)) by omega) (show ((-51)) = -50 ∧ ((a1) < 0 ∨ 3 < (a1) ∨ (a3) < 0 ∨ 65536 < (a3)) ∨ ((-51)) = -51 ∧ (0 ≤ (a1) ∧ (a1) ≤ 3 ∧ 0 ≤ (a3) ∧ (a3) ≤ 65536) ∧ (knF (sc ((w9)) 0 ((u8_1))) = 0 ∨ knF (sc ((w9)) 0 ((u8_1))) = 5) by have qh0 := HIDe r4; omega))
          · refine Ew_of (pc' := 45) (fun _ => x_iload rfl rk_s) ?_
            refine Ew_of (pc' := 46) (fun _ => x_iconst rfl) ?_
            refine w_icmpne (t := 52) rfl rfl (show inr (z16) by omega) (show inr (5) by omega) (fun b18 => ?_) (fun b18 => ?_)
            · refine Ew_of (pc' := 53) (fun _ => x_aload_n rfl (rk_o (rfl) rfl rfl)) ?_
              refine Ew_of (pc' := 54) (fun _ => x_iload_n rfl (rk_o (rfl) rfl rfl)) ?_
              refine Ew_of (pc' := 55) (fun _ => x_aload_n rfl (rk_o (rfl) rfl rfl)) ?_
              refine Ew_of (pc' := 56) (fun _ => x_aload_n rfl (rk_o (rfl) rfl rfl)) ?_
              refine v_g H (o := 0) (v := .ref (D 1)) rfl rfl rfl rfl rfl (vrf ((((((show F16 0 0 = F12 0 0 from (eF16 0 0))).trans ((show F12 0 0 = F10 0 0 from (eF12 0 0)))).trans ((show F10 0 0 = F 0 0 from (eF10 0 0))))).trans (pf1))) ?_
              refine Ew_of (pc' := 60) (fun _ => x_iload_n rfl (rk_o (rfl) rfl rfl)) ?_
              refine v_lR H (o := 1) rfl rfl rfl rfl rfl (n := n1) (en1) (show 0 ≤ 3 ∧ 3 < n1 by have qh0 := HIDe r5; omega) (z := ((D 8 : Nat) : Int)) (v := .ref (D 8)) ((congrFun (((((show A16 1 = A12 1 from (eA16 1))).trans ((show A12 1 = A10 1 from (eA12 1)))).trans ((show A10 1 = A 1 from (eA10 1))))) 3).trans (pf8)) (vrf rfl) ?_
              refine Ew_of (pc' := 63) (fun _ => x_iload rfl rk_s) ?_
              refine Ew_of (pc' := 64) (fun _ => x_iload_n rfl (rk_o (rfl) rfl rfl)) ?_
              refine Ew_of (pc' := 65) (fun _ => x_aload_n rfl (rk_o (rfl) rfl rfl)) ?_
              refine v_g H (o := 0) (v := .ref (D 10)) rfl rfl rfl rfl rfl (vrf ((((((show F16 0 14 = F12 0 14 from (eF16 0 14))).trans ((show F12 0 14 = F10 0 14 from (eF12 0 14)))).trans ((show F10 0 14 = F 0 14 from (eF10 0 14))))).trans (pf10))) ?_
              exact hc68 (a1) (z16) (a3) _ _ _ _   H O (SF_trans (SF_trans (SF_trans (SF_refl) (SF_glu (ι := []) hS10 eF10 (by decide +kernel)) (any_sub (l' := []) rfl)) (SF_glu (ι := []) hS12 eF12 (by decide +kernel)) (any_sub (l' := []) rfl)) (SF_glu (ι := [8, 9]) hS16 eF16 (by decide +kernel)) (any_sub (l' := []) rfl)) (SA_trans (SA_trans (SA_trans (SA_refl) (SA_glu (ι := []) hA10 eA10 (by decide +kernel)) (any_subA (l' := []) rfl)) (SA_glu (ι := []) hA12 eA12 (by decide +kernel)) (any_subA (l' := []) rfl)) (SA_glu (ι := [8, 9]) hA16 eA16 (by decide +kernel)) (any_subA (l' := []) rfl))     (show inr (a1) by omega) (show inr (z16) by omega) (show inr (a3) by omega) (show 0 ≤ (a1) ∧ (a1) ≤ 3 by omega) (show (z16) = 1 ∨ (z16) = 3 ∨ (z16) = 4 by omega) (show 0 ≤ (a3) ∧ (a3) ≤ 65536 by omega) (show (a1) = (a1) ∧ (a3) = (a3) by omega) (show (z16) = knF (sc ((w9)) 0 ((u8_1))) by have qh0 := HIDe r4; omega)
            · refine Ew_of (pc' := 51) (fun _ => x_bipush (z := -51) rfl (by decide)) ?_
              exact w_ireturn rfl (k ((-51)) _ _ _ H O (SF_trans (SF_trans (SF_trans (SF_refl) (SF_glu (ι := []) hS10 eF10 (by decide +kernel)) (any_sub (l' := []) rfl)) (SF_glu (ι := []) hS12 eF12 (by decide +kernel)) (any_sub (l' := []) rfl)) (SF_glu (ι := [8, 9]) hS16 eF16 (by decide +kernel)) (any_sub (l' := []) rfl)) (SA_trans (SA_trans (SA_trans (SA_refl) (SA_glu (ι := []) hA10 eA10 (by decide +kernel)) (any_subA (l' := []) rfl)) (SA_glu (ι := []) hA12 eA12 (by decide +kernel)) (any_subA (l' := []) rfl)) (SA_glu (ι := [8, 9]) hA16 eA16 (by decide +kernel)) (any_subA (l' := []) rfl)) (show inr ((-51)) by omega) (show ((-51)) = -50 ∧ ((a1) < 0 ∨ 3 < (a1) ∨ (a3) < 0 ∨ 65536 < (a3)) ∨ ((-51)) = -51 ∧ (0 ≤ (a1) ∧ (a1) ≤ 3 ∧ 0 ≤ (a3) ∧ (a3) ≤ 65536) ∧ (knF (sc ((w9)) 0 ((u8_1))) = 0 ∨ knF (sc ((w9)) 0 ((u8_1))) = 5) by have qh0 := HIDe r4; omega))
        · refine Ew_of (pc' := 26) (fun _ => x_bipush (z := -50) rfl (by decide)) ?_
          exact w_ireturn rfl (k ((-50)) _ _ _ H O (SF_trans (SF_trans (SF_refl) (SF_glu (ι := []) hS10 eF10 (by decide +kernel)) (any_sub (l' := []) rfl)) (SF_glu (ι := []) hS12 eF12 (by decide +kernel)) (any_sub (l' := []) rfl)) (SA_trans (SA_trans (SA_refl) (SA_glu (ι := []) hA10 eA10 (by decide +kernel)) (any_subA (l' := []) rfl)) (SA_glu (ι := []) hA12 eA12 (by decide +kernel)) (any_subA (l' := []) rfl)) (show inr ((-50)) by omega) (show ((-50)) = -50 ∧ ((a1) < 0 ∨ 3 < (a1) ∨ (a3) < 0 ∨ 65536 < (a3)) ∨ ((-50)) = -51 ∧ (0 ≤ (a1) ∧ (a1) ≤ 3 ∧ 0 ≤ (a3) ∧ (a3) ≤ 65536) ∧ (knF (sc ((w9)) 0 ((u8_1))) = 0 ∨ knF (sc ((w9)) 0 ((u8_1))) = 5) by have qh0 := HIDe r4; omega))
abbrev V18_vB : vV := [(0, 0, [(4, 0), (4, 0), (4, 0), (4, 0), (4, 0), (4, 0), (4, 0), (4, 0), (4, 0), (4, 0), (4, 0), (4, 0), (4, 0), (4, 0), (4, 0), (4, 0), (4, 0), (0, 0), (0, 0)]), (1, 4, []), (0, 7, [(4, 0), (0, 0), (1, 0), (0, 0), (0, 0)]), (1, 0, []), (0, 7, [(4, 0), (0, 0), (1, 0), (0, 0), (0, 0)]), (1, 0, []), (0, 7, [(4, 0), (0, 0), (1, 0), (0, 0), (0, 0)]), (1, 0, []), (0, 7, [(4, 0), (0, 0), (1, 0), (0, 0), (0, 0)]), (1, 0, []), (0, 7, [(4, 0), (0, 0), (1, 0), (0, 0), (0, 0)]), (1, 0, [])]
/-- PackHouse.read: this, this.rows, this.rows.0, this.rows.0.bytes, this.rows.1, this.rows.1.bytes, this.rows.2, this.rows.2.bytes, this.rows.3, this.rows.3.bytes, this.content, this.content.bytes -/
theorem C18_vB {σE : rS} {D N : Nat → Nat} {F : hF} {A : hA} {d c s : Nat} {Q : wQ} (H : HW V18_vB σE D N F A) {y1 y2 : Int} (pf1 : F 0 0 = (D 1 : Int)) (pf2 : A 1 0 = (D 2 : Int)) (pf3 : F 2 0 = (D 3 : Int)) (pf4 : A 1 1 = (D 4 : Int)) (pf5 : F 4 0 = (D 5 : Int)) (pf6 : A 1 2 = (D 6 : Int)) (pf7 : F 6 0 = (D 7 : Int)) (pf8 : A 1 3 = (D 8 : Int)) (pf9 : F 8 0 = (D 9 : Int)) (pf10 : F 0 6 = (D 10 : Int)) (pf11 : F 10 0 = (D 11 : Int)) (n1 : Int) (en1 : (N 1 : Int) = n1) (n3 : Int) (en3 : (N 3 : Int) = n3) (n5 : Int) (en5 : (N 5 : Int) = n5) (n7 : Int) (en7 : (N 7 : Int) = n7) (n9 : Int) (en9 : (N 9 : Int) = n9) (n11 : Int) (en11 : (N 11 : Int) = n11) (u0_17 : Int) (eu0_17 : F 0 17 = u0_17) (u0_18 : Int) (eu0_18 : F 0 18 = u0_18) (u2_1 : Int) (eu2_1 : F 2 1 = u2_1) (u2_2 : Int) (eu2_2 : F 2 2 = u2_2) (u4_1 : Int) (eu4_1 : F 4 1 = u4_1) (u4_2 : Int) (eu4_2 : F 4 2 = u4_2) (u6_1 : Int) (eu6_1 : F 6 1 = u6_1) (u6_2 : Int) (eu6_2 : F 6 2 = u6_2) (u8_1 : Int) (eu8_1 : F 8 1 = u8_1) (u8_2 : Int) (eu8_2 : F 8 2 = u8_2) (u10_1 : Int) (eu10_1 : F 10 1 = u10_1) (w3 : Int → Int) (ew3 : A 3 = w3) (w5 : Int → Int) (ew5 : A 5 = w5) (w7 : Int → Int) (ew7 : A 7 = w7) (w9 : Int → Int) (ew9 : A 9 = w9) (w11 : Int → Int) (ew11 : A 11 = w11) {ls : rO}  (h0 : inr y1) (h1 : inr y2) (h2 : (n1) = 4) (h3 : 0 ≤ (u2_1) ∧ (u2_1) ≤ (n3) ∧ (n3) ≤ 65536) (h4 : 0 ≤ (u4_1) ∧ (u4_1) ≤ (n5) ∧ (n5) ≤ 65536) (h5 : 0 ≤ (u6_1) ∧ (u6_1) ≤ (n7) ∧ (n7) ≤ 65536) (h6 : 0 ≤ (u8_1) ∧ (u8_1) ≤ (n9) ∧ (n9) ≤ 65536) (h7 : (u2_2) = 0) (h8 : (u4_2) = 0) (h9 : (u6_2) = 0) (h10 : (u8_2) = 0) (h11 : 0 ≤ (u10_1) ∧ (u10_1) ≤ (n11) ∧ (n11) ≤ 65536) (h12 : 0 ≤ y1 ∧ y1 ≤ 3) (k : ∀ (z : Int) (σ : rS) (D' N' : Nat → Nat) (F' : hF) (A' : hA) (c' s' : Nat), HW V18_vB σ D' N' F' A' → OUT (V18_vB).length D N σE c s D' N' σ c' s' → SD [3, 5, 7, 9] D D' → SD [3, 5, 7, 9] N N' → SF [(0, 18), (2, 0), (2, 1), (2, 2), (2, 3), (2, 4), (4, 0), (4, 1), (4, 2), (4, 3), (4, 4), (6, 0), (6, 1), (6, 2), (6, 3), (6, 4), (8, 0), (8, 1), (8, 2), (8, 3), (8, 4)] F F' → SA [3, 5, 7, 9] A A' → F' 2 0 = (D' 3 : Int) → F' 4 0 = (D' 5 : Int) → F' 6 0 = (D' 7 : Int) → F' 8 0 = (D' 9 : Int) → ∀ m3 : Int, (N' 3 : Int) = m3 → ∀ m5 : Int, (N' 5 : Int) = m5 → ∀ m7 : Int, (N' 7 : Int) = m7 → ∀ m9 : Int, (N' 9 : Int) = m9 → ∀ y0_18 : Int, F' 0 18 = y0_18 → ∀ y2_1 : Int, F' 2 1 = y2_1 → ∀ y2_2 : Int, F' 2 2 = y2_2 → ∀ y4_1 : Int, F' 4 1 = y4_1 → ∀ y4_2 : Int, F' 4 2 = y4_2 → ∀ y6_1 : Int, F' 6 1 = y6_1 → ∀ y6_2 : Int, F' 6 2 = y6_2 → ∀ y8_1 : Int, F' 8 1 = y8_1 → ∀ y8_2 : Int, F' 8 2 = y8_2 → ∀ v3 : Int → Int, A' 3 = v3 → ∀ v5 : Int → Int, A' 5 = v5 → ∀ v7 : Int → Int, A' 7 = v7 → ∀ v9 : Int → Int, A' 9 = v9 → (inr (z)) → (0 ≤ (y2_1) ∧ (y2_1) ≤ (m3) ∧ (m3) ≤ 65536) → (0 ≤ (y4_1) ∧ (y4_1) ≤ (m5) ∧ (m5) ≤ 65536) → (0 ≤ (y6_1) ∧ (y6_1) ≤ (m7) ∧ (m7) ≤ 65536) → (0 ≤ (y8_1) ∧ (y8_1) ≤ (m9) ∧ (m9) ≤ 65536) → (0 ≤ (u10_1) ∧ (u10_1) ≤ (n11) ∧ (n11) ≤ 65536) → ((y2_2) = 0) → ((y4_2) = 0) → ((y6_2) = 0) → ((y8_2) = 0) → ((z) = y2) → ((y0_18) = (u0_17)) → (IMP (y1 = 0 ∧ 0 ≤ y2) (sc ((v3)) 0 ((y2_1)) = sc ((w11)) 0 ((u10_1)))) → (IMP (y1 = 1 ∧ 0 ≤ y2) (sc ((v5)) 0 ((y4_1)) = sc ((w11)) 0 ((u10_1)))) → (IMP (y1 = 2 ∧ 0 ≤ y2) (sc ((v7)) 0 ((y6_1)) = sc ((w11)) 0 ((u10_1)))) → (IMP (y1 = 3 ∧ 0 ≤ y2) (sc ((v9)) 0 ((y8_1)) = sc ((w11)) 0 ((u10_1)))) → (IMP (y1 ≠ 0 ∨ y2 < 0) (sc ((v3)) 0 ((y2_1)) = sc ((w3)) 0 ((u2_1)))) → (IMP (y1 ≠ 1 ∨ y2 < 0) (sc ((v5)) 0 ((y4_1)) = sc ((w5)) 0 ((u4_1)))) → (IMP (y1 ≠ 2 ∨ y2 < 0) (sc ((v7)) 0 ((y6_1)) = sc ((w7)) 0 ((u6_1)))) → (IMP (y1 ≠ 3 ∨ y2 < 0) (sc ((v9)) 0 ((y8_1)) = sc ((w9)) 0 ((u8_1)))) → Q (some (I z)) σ c' s') : Ew 18 (d + 5) 57 ls [I (y2), I (y1), .ref (D 0)] σE c s Q := by
  have O := OUT_refl (n := (V18_vB).length) (D := D) (N := N) (σ := σE) (c := c) (s := s)
  have HE := H
  have r1 : HID ((-2147483648 : Int) ≤ u0_17 ∧ u0_17 ≤ 2147483647) := krg_e (show (-2147483648 : Int) ≤ F 0 17 ∧ F 0 17 ≤ 2147483647 from H.krg 0 17 (by decide)) (show F 0 17 = u0_17 from (eu0_17))
  have r2 : HID ((-2147483648 : Int) ≤ u0_18 ∧ u0_18 ≤ 2147483647) := krg_e (show (-2147483648 : Int) ≤ F 0 18 ∧ F 0 18 ≤ 2147483647 from H.krg 0 18 (by decide)) (show F 0 18 = u0_18 from (eu0_18))
  have r3 : HID ((-2147483648 : Int) ≤ u2_1 ∧ u2_1 ≤ 2147483647) := krg_e (show (-2147483648 : Int) ≤ F 2 1 ∧ F 2 1 ≤ 2147483647 from H.krg 2 1 (by decide)) (show F 2 1 = u2_1 from (eu2_1))
  have r4 : HID ((0 : Int) ≤ u2_2 ∧ u2_2 ≤ 1) := krg_e (show (0 : Int) ≤ F 2 2 ∧ F 2 2 ≤ 1 from H.krg 2 2 (by decide)) (show F 2 2 = u2_2 from (eu2_2))
  have r5 : HID ((-2147483648 : Int) ≤ u4_1 ∧ u4_1 ≤ 2147483647) := krg_e (show (-2147483648 : Int) ≤ F 4 1 ∧ F 4 1 ≤ 2147483647 from H.krg 4 1 (by decide)) (show F 4 1 = u4_1 from (eu4_1))
  have r6 : HID ((0 : Int) ≤ u4_2 ∧ u4_2 ≤ 1) := krg_e (show (0 : Int) ≤ F 4 2 ∧ F 4 2 ≤ 1 from H.krg 4 2 (by decide)) (show F 4 2 = u4_2 from (eu4_2))
  have r7 : HID ((-2147483648 : Int) ≤ u6_1 ∧ u6_1 ≤ 2147483647) := krg_e (show (-2147483648 : Int) ≤ F 6 1 ∧ F 6 1 ≤ 2147483647 from H.krg 6 1 (by decide)) (show F 6 1 = u6_1 from (eu6_1))
  have r8 : HID ((0 : Int) ≤ u6_2 ∧ u6_2 ≤ 1) := krg_e (show (0 : Int) ≤ F 6 2 ∧ F 6 2 ≤ 1 from H.krg 6 2 (by decide)) (show F 6 2 = u6_2 from (eu6_2))
  have r9 : HID ((-2147483648 : Int) ≤ u8_1 ∧ u8_1 ≤ 2147483647) := krg_e (show (-2147483648 : Int) ≤ F 8 1 ∧ F 8 1 ≤ 2147483647 from H.krg 8 1 (by decide)) (show F 8 1 = u8_1 from (eu8_1))
  have r10 : HID ((0 : Int) ≤ u8_2 ∧ u8_2 ≤ 1) := krg_e (show (0 : Int) ≤ F 8 2 ∧ F 8 2 ≤ 1 from H.krg 8 2 (by decide)) (show F 8 2 = u8_2 from (eu8_2))
  have r11 : HID ((-2147483648 : Int) ≤ u10_1 ∧ u10_1 ≤ 2147483647) := krg_e (show (-2147483648 : Int) ≤ F 10 1 ∧ F 10 1 ≤ 2147483647 from H.krg 10 1 (by decide)) (show F 10 1 = u10_1 from (eu10_1))
  replace pf1 := HIDm pf1
  replace pf2 := HIDm pf2
  replace pf3 := HIDm pf3
  replace pf4 := HIDm pf4
  replace pf5 := HIDm pf5
  replace pf6 := HIDm pf6
  replace pf7 := HIDm pf7
  replace pf8 := HIDm pf8
  replace pf9 := HIDm pf9
  replace pf10 := HIDm pf10
  replace pf11 := HIDm pf11
  replace en1 := HIDm en1
  replace en3 := HIDm en3
  replace en5 := HIDm en5
  replace en7 := HIDm en7
  replace en9 := HIDm en9
  replace en11 := HIDm en11
  replace eu0_17 := HIDm eu0_17
  replace eu0_18 := HIDm eu0_18
  replace eu2_1 := HIDm eu2_1
  replace eu2_2 := HIDm eu2_2
  replace eu4_1 := HIDm eu4_1
  replace eu4_2 := HIDm eu4_2
  replace eu6_1 := HIDm eu6_1
  replace eu6_2 := HIDm eu6_2
  replace eu8_1 := HIDm eu8_1
  replace eu8_2 := HIDm eu8_2
  replace eu10_1 := HIDm eu10_1
  have r12 : HID ((0 : Int) ≤ n1 ∧ n1 ≤ 1000000) := nrng (H.nle 1 (by decide)) (show (N 1 : Int) = n1 from en1)
  have r13 : HID ((0 : Int) ≤ n3 ∧ n3 ≤ 1000000) := nrng (H.nle 3 (by decide)) (show (N 3 : Int) = n3 from en3)
  have r14 : HID ((0 : Int) ≤ n5 ∧ n5 ≤ 1000000) := nrng (H.nle 5 (by decide)) (show (N 5 : Int) = n5 from en5)
  have r15 : HID ((0 : Int) ≤ n7 ∧ n7 ≤ 1000000) := nrng (H.nle 7 (by decide)) (show (N 7 : Int) = n7 from en7)
  have r16 : HID ((0 : Int) ≤ n9 ∧ n9 ≤ 1000000) := nrng (H.nle 9 (by decide)) (show (N 9 : Int) = n9 from en9)
  have r17 : HID ((0 : Int) ≤ n11 ∧ n11 ≤ 1000000) := nrng (H.nle 11 (by decide)) (show (N 11 : Int) = n11 from en11)
  refine v_inv H (o := 0) rfl rfl rfl rfl rfl rfl (by rfl) (C31p (D := pul [0, 1, 2, 3, 4, 5, 6, 7, 8, 9, 10, 11] D) (N := pul [0, 1, 2, 3, 4, 5, 6, 7, 8, 9, 10, 11] N) (HW_sub H (VS_of (show vsub V18_vB V31 [0, 1, 2, 3, 4, 5, 6, 7, 8, 9, 10, 11] = true by decide +kernel))) (pf1) (pf2) (pf3) (pf4) (pf5) (pf6) (pf7) (pf8) (pf9) (pf10) (pf11) (n1) (en1) (n3) (en3) (n5) (en5) (n7) (en7) (n9) (en9) (n11) (en11) (u0_17) ((eu0_17)) (u0_18) ((eu0_18)) (u2_1) ((eu2_1)) (u2_2) ((eu2_2)) (u4_1) ((eu4_1)) (u4_2) ((eu4_2)) (u6_1) ((eu6_1)) (u6_2) ((eu6_2)) (u8_1) ((eu8_1)) (u8_2) ((eu8_2)) (u10_1) ((eu10_1)) (w3) (ew3) (w5) (ew5) (w7) (ew7) (w9) (ew9) (w11) (ew11) (show inr (y1) by omega) (show inr (y2) by omega) (show (n1) = 4 by have qh0 := HIDe r12; omega) (show 0 ≤ (u2_1) ∧ (u2_1) ≤ (n3) ∧ (n3) ≤ 65536 by have qh0 := HIDe r13; have qh1 := HIDe r3; omega) (show 0 ≤ (u4_1) ∧ (u4_1) ≤ (n5) ∧ (n5) ≤ 65536 by have qh0 := HIDe r14; have qh1 := HIDe r5; omega) (show 0 ≤ (u6_1) ∧ (u6_1) ≤ (n7) ∧ (n7) ≤ 65536 by have qh0 := HIDe r15; have qh1 := HIDe r7; omega) (show 0 ≤ (u8_1) ∧ (u8_1) ≤ (n9) ∧ (n9) ≤ 65536 by have qh0 := HIDe r16; have qh1 := HIDe r9; omega) (show 0 ≤ (u10_1) ∧ (u10_1) ≤ (n11) ∧ (n11) ≤ 65536 by have qh0 := HIDe r11; have qh1 := HIDe r17; omega) (show 0 ≤ (y1) ∧ (y1) ≤ 3 by omega) (show (u2_2) = 0 by have qh0 := HIDe r4; omega) (show (u4_2) = 0 by have qh0 := HIDe r6; omega) (show (u6_2) = 0 by have qh0 := HIDe r8; omega) (show (u8_2) = 0 by have qh0 := HIDe r10; omega) (fun z18 σ18 D18' N18' F18' A18' c18 s18 H' O' hD18 hN18 hS18 hA18 pm18_3 pm18_5 pm18_7 pm18_9 m18_3 em18_3 m18_5 em18_5 m18_7 em18_7 m18_9 em18_9 y18_0_18 ey18_0_18 y18_2_1 ey18_2_1 y18_2_2 ey18_2_2 y18_4_1 ey18_4_1 y18_4_2 ey18_4_2 y18_6_1 ey18_6_1 y18_6_2 ey18_6_2 y18_8_1 ey18_8_1 y18_8_2 ey18_8_2 w18_3 ew18_3 w18_5 ew18_5 w18_7 ew18_7 w18_9 ew18_9 pz18_0 pz18_1 pz18_2 pz18_3 pz18_4 pz18_5 pz18_6 pz18_7 pz18_8 pz18_9 pz18_10 pz18_11 pz18_12 pz18_13 pz18_14 pz18_15 pz18_16 pz18_17 pz18_18 pz18_19 => ⟨rfl, ?_⟩))
  replace pm18_3 := HIDm pm18_3
  replace pm18_5 := HIDm pm18_5
  replace pm18_7 := HIDm pm18_7
  replace pm18_9 := HIDm pm18_9
  replace em18_3 := HIDm em18_3
  replace em18_5 := HIDm em18_5
  replace em18_7 := HIDm em18_7
  replace em18_9 := HIDm em18_9
  replace ey18_0_18 := HIDm ey18_0_18
  replace ey18_2_1 := HIDm ey18_2_1
  replace ey18_2_2 := HIDm ey18_2_2
  replace ey18_4_1 := HIDm ey18_4_1
  replace ey18_4_2 := HIDm ey18_4_2
  replace ey18_6_1 := HIDm ey18_6_1
  replace ey18_6_2 := HIDm ey18_6_2
  replace ey18_8_1 := HIDm ey18_8_1
  replace ey18_8_2 := HIDm ey18_8_2
  refine v_backM (c := c) (s := s) H (show vsub V18_vB V31 [0, 1, 2, 3, 4, 5, 6, 7, 8, 9, 10, 11] = true by decide +kernel) H' O' hD18 (show vmov V18_vB [0, 1, 2, 3, 4, 5, 6, 7, 8, 9, 10, 11] [3, 5, 7, 9] = true by decide +kernel) (fun D18 N18 F18 A18 H O' eD18 eN18 eF18 eA18 => ?_)
  have O := OUT_trans O O'
  -- PackHouse.settle
  have pe18_1_0 : HID (A18 1 0 = (D18 2 : Int)) := (congrFun ((show A18 1 = A 1 from (eA18 1).trans (funext (hA18 1 rfl)))) 0).trans ((pf2).trans (congrArg (fun q : Nat => (q : Int)) ((show D18 2 = D 2 from (eD18 2).trans (hD18 2 rfl))).symm))
  have pe18_1_1 : HID (A18 1 1 = (D18 4 : Int)) := (congrFun ((show A18 1 = A 1 from (eA18 1).trans (funext (hA18 1 rfl)))) 1).trans ((pf4).trans (congrArg (fun q : Nat => (q : Int)) ((show D18 4 = D 4 from (eD18 4).trans (hD18 4 rfl))).symm))
  have pe18_1_2 : HID (A18 1 2 = (D18 6 : Int)) := (congrFun ((show A18 1 = A 1 from (eA18 1).trans (funext (hA18 1 rfl)))) 2).trans ((pf6).trans (congrArg (fun q : Nat => (q : Int)) ((show D18 6 = D 6 from (eD18 6).trans (hD18 6 rfl))).symm))
  have pe18_1_3 : HID (A18 1 3 = (D18 8 : Int)) := (congrFun ((show A18 1 = A 1 from (eA18 1).trans (funext (hA18 1 rfl)))) 3).trans ((pf8).trans (congrArg (fun q : Nat => (q : Int)) ((show D18 8 = D 8 from (eD18 8).trans (hD18 8 rfl))).symm))
  have pf18_0_0 : HID (F18 0 0 = (D18 1 : Int)) := ((show F18 0 0 = F 0 0 from (eF18 0 0).trans (hS18 0 0 rfl))).trans ((pf1).trans (congrArg (fun q : Nat => (q : Int)) ((show D18 1 = D 1 from (eD18 1).trans (hD18 1 rfl))).symm))
  have pf18_0_6 : HID (F18 0 6 = (D18 10 : Int)) := ((show F18 0 6 = F 0 6 from (eF18 0 6).trans (hS18 0 6 rfl))).trans ((pf10).trans (congrArg (fun q : Nat => (q : Int)) ((show D18 10 = D 10 from (eD18 10).trans (hD18 10 rfl))).symm))
  have pf18_10_0 : HID (F18 10 0 = (D18 11 : Int)) := ((show F18 10 0 = F 10 0 from (eF18 10 0).trans (hS18 10 0 rfl))).trans ((pf11).trans (congrArg (fun q : Nat => (q : Int)) ((show D18 11 = D 11 from (eD18 11).trans (hD18 11 rfl))).symm))
  have pf18_2_0 : HID (F18 2 0 = (D18 3 : Int)) := (eF18 2 0).trans (pm18_3.trans (congrArg (fun q : Nat => (q : Int)) (eD18 3).symm))
  have pf18_4_0 : HID (F18 4 0 = (D18 5 : Int)) := (eF18 4 0).trans (pm18_5.trans (congrArg (fun q : Nat => (q : Int)) (eD18 5).symm))
  have pf18_6_0 : HID (F18 6 0 = (D18 7 : Int)) := (eF18 6 0).trans (pm18_7.trans (congrArg (fun q : Nat => (q : Int)) (eD18 7).symm))
  have pf18_8_0 : HID (F18 8 0 = (D18 9 : Int)) := (eF18 8 0).trans (pm18_9.trans (congrArg (fun q : Nat => (q : Int)) (eD18 9).symm))
  have r19 : HID ((0 : Int) ≤ m18_3 ∧ m18_3 ≤ 1000000) := nrng (H.nle 3 (by decide)) (show (N18 3 : Int) = m18_3 from (congrArg (fun q : Nat => (q : Int)) (eN18 3)).trans em18_3)
  have r20 : HID ((0 : Int) ≤ m18_5 ∧ m18_5 ≤ 1000000) := nrng (H.nle 5 (by decide)) (show (N18 5 : Int) = m18_5 from (congrArg (fun q : Nat => (q : Int)) (eN18 5)).trans em18_5)
  have r21 : HID ((0 : Int) ≤ m18_7 ∧ m18_7 ≤ 1000000) := nrng (H.nle 7 (by decide)) (show (N18 7 : Int) = m18_7 from (congrArg (fun q : Nat => (q : Int)) (eN18 7)).trans em18_7)
  have r22 : HID ((0 : Int) ≤ m18_9 ∧ m18_9 ≤ 1000000) := nrng (H.nle 9 (by decide)) (show (N18 9 : Int) = m18_9 from (congrArg (fun q : Nat => (q : Int)) (eN18 9)).trans em18_9)
  have r23 : HID ((-2147483648 : Int) ≤ y18_0_18 ∧ y18_0_18 ≤ 2147483647) := krg_e (show (-2147483648 : Int) ≤ F18 0 18 ∧ F18 0 18 ≤ 2147483647 from H.krg 0 18 (by decide)) (show F18 0 18 = y18_0_18 from ((eF18 0 18).trans ey18_0_18))
  have r24 : HID ((-2147483648 : Int) ≤ y18_2_1 ∧ y18_2_1 ≤ 2147483647) := krg_e (show (-2147483648 : Int) ≤ F18 2 1 ∧ F18 2 1 ≤ 2147483647 from H.krg 2 1 (by decide)) (show F18 2 1 = y18_2_1 from ((eF18 2 1).trans ey18_2_1))
  have r25 : HID ((0 : Int) ≤ y18_2_2 ∧ y18_2_2 ≤ 1) := krg_e (show (0 : Int) ≤ F18 2 2 ∧ F18 2 2 ≤ 1 from H.krg 2 2 (by decide)) (show F18 2 2 = y18_2_2 from ((eF18 2 2).trans ey18_2_2))
  have r26 : HID ((-2147483648 : Int) ≤ y18_4_1 ∧ y18_4_1 ≤ 2147483647) := krg_e (show (-2147483648 : Int) ≤ F18 4 1 ∧ F18 4 1 ≤ 2147483647 from H.krg 4 1 (by decide)) (show F18 4 1 = y18_4_1 from ((eF18 4 1).trans ey18_4_1))
  have r27 : HID ((0 : Int) ≤ y18_4_2 ∧ y18_4_2 ≤ 1) := krg_e (show (0 : Int) ≤ F18 4 2 ∧ F18 4 2 ≤ 1 from H.krg 4 2 (by decide)) (show F18 4 2 = y18_4_2 from ((eF18 4 2).trans ey18_4_2))
  have r28 : HID ((-2147483648 : Int) ≤ y18_6_1 ∧ y18_6_1 ≤ 2147483647) := krg_e (show (-2147483648 : Int) ≤ F18 6 1 ∧ F18 6 1 ≤ 2147483647 from H.krg 6 1 (by decide)) (show F18 6 1 = y18_6_1 from ((eF18 6 1).trans ey18_6_1))
  have r29 : HID ((0 : Int) ≤ y18_6_2 ∧ y18_6_2 ≤ 1) := krg_e (show (0 : Int) ≤ F18 6 2 ∧ F18 6 2 ≤ 1 from H.krg 6 2 (by decide)) (show F18 6 2 = y18_6_2 from ((eF18 6 2).trans ey18_6_2))
  have r30 : HID ((-2147483648 : Int) ≤ y18_8_1 ∧ y18_8_1 ≤ 2147483647) := krg_e (show (-2147483648 : Int) ≤ F18 8 1 ∧ F18 8 1 ≤ 2147483647 from H.krg 8 1 (by decide)) (show F18 8 1 = y18_8_1 from ((eF18 8 1).trans ey18_8_1))
  have r31 : HID ((0 : Int) ≤ y18_8_2 ∧ y18_8_2 ≤ 1) := krg_e (show (0 : Int) ≤ F18 8 2 ∧ F18 8 2 ≤ 1 from H.krg 8 2 (by decide)) (show F18 8 2 = y18_8_2 from ((eF18 8 2).trans ey18_8_2))
  exact w_ireturn rfl (k (z18) _ _ _ _ _ _ _ H O (SD_trans (SD_refl) (SD_glu (ι := [0, 1, 2, 3, 4, 5, 6, 7, 8, 9, 10, 11]) hD18 eD18 (by decide +kernel)) (any_subA (l' := [3, 5, 7, 9]) rfl)) (SD_trans (SD_refl) (SD_glu (ι := [0, 1, 2, 3, 4, 5, 6, 7, 8, 9, 10, 11]) hN18 eN18 (by decide +kernel)) (any_subA (l' := [3, 5, 7, 9]) rfl)) (SF_trans (SF_refl) (SF_glu (ι := [0, 1, 2, 3, 4, 5, 6, 7, 8, 9, 10, 11]) hS18 eF18 (by decide +kernel)) (any_sub (l' := [(0, 18), (2, 0), (2, 1), (2, 2), (2, 3), (2, 4), (4, 0), (4, 1), (4, 2), (4, 3), (4, 4), (6, 0), (6, 1), (6, 2), (6, 3), (6, 4), (8, 0), (8, 1), (8, 2), (8, 3), (8, 4)]) rfl)) (SA_trans (SA_refl) (SA_glu (ι := [0, 1, 2, 3, 4, 5, 6, 7, 8, 9, 10, 11]) hA18 eA18 (by decide +kernel)) (any_subA (l' := [3, 5, 7, 9]) rfl)) (pf18_2_0) (pf18_4_0) (pf18_6_0) (pf18_8_0) (m18_3) ((congrArg (fun q : Nat => (q : Int)) (eN18 3)).trans em18_3) (m18_5) ((congrArg (fun q : Nat => (q : Int)) (eN18 5)).trans em18_5) (m18_7) ((congrArg (fun q : Nat => (q : Int)) (eN18 7)).trans em18_7) (m18_9) ((congrArg (fun q : Nat => (q : Int)) (eN18 9)).trans em18_9) (y18_0_18) (((eF18 0 18).trans ey18_0_18)) (y18_2_1) (((eF18 2 1).trans ey18_2_1)) (y18_2_2) (((eF18 2 2).trans ey18_2_2)) (y18_4_1) (((eF18 4 1).trans ey18_4_1)) (y18_4_2) (((eF18 4 2).trans ey18_4_2)) (y18_6_1) (((eF18 6 1).trans ey18_6_1)) (y18_6_2) (((eF18 6 2).trans ey18_6_2)) (y18_8_1) (((eF18 8 1).trans ey18_8_1)) (y18_8_2) (((eF18 8 2).trans ey18_8_2)) (w18_3) ((eA18 3).trans ew18_3) (w18_5) ((eA18 5).trans ew18_5) (w18_7) ((eA18 7).trans ew18_7) (w18_9) ((eA18 9).trans ew18_9) (show inr (z18) by omega) (show 0 ≤ (y18_2_1) ∧ (y18_2_1) ≤ (m18_3) ∧ (m18_3) ≤ 65536 by have qh0 := HIDe r19; have qh1 := HIDe r24; omega) (show 0 ≤ (y18_4_1) ∧ (y18_4_1) ≤ (m18_5) ∧ (m18_5) ≤ 65536 by have qh0 := HIDe r20; have qh1 := HIDe r26; omega) (show 0 ≤ (y18_6_1) ∧ (y18_6_1) ≤ (m18_7) ∧ (m18_7) ≤ 65536 by have qh0 := HIDe r21; have qh1 := HIDe r28; omega) (show 0 ≤ (y18_8_1) ∧ (y18_8_1) ≤ (m18_9) ∧ (m18_9) ≤ 65536 by have qh0 := HIDe r22; have qh1 := HIDe r30; omega) (show 0 ≤ (u10_1) ∧ (u10_1) ≤ (n11) ∧ (n11) ≤ 65536 by have qh0 := HIDe r11; have qh1 := HIDe r17; omega) (show (y18_2_2) = 0 by have qh0 := HIDe r25; omega) (show (y18_4_2) = 0 by have qh0 := HIDe r27; omega) (show (y18_6_2) = 0 by have qh0 := HIDe r29; omega) (show (y18_8_2) = 0 by have qh0 := HIDe r31; omega) (show (z18) = y2 by omega) (show (y18_0_18) = (u0_17) by have qh0 := HIDe r1; have qh1 := HIDe r23; omega) (by assumption) (by assumption) (by assumption) (by assumption) (by assumption) (by assumption) (by assumption) (by assumption))
abbrev V20_vB : vV := [(0, 0, [(4, 0), (4, 0), (4, 0), (4, 0), (4, 0), (4, 0), (4, 0), (4, 0), (4, 0), (4, 0), (4, 0), (4, 0), (4, 0), (4, 0), (4, 0), (4, 0), (4, 0), (0, 0), (0, 0)]), (1, 4, []), (0, 7, [(4, 0), (0, 0), (1, 0), (0, 0), (0, 0)]), (1, 0, []), (0, 7, [(4, 0), (0, 0), (1, 0), (0, 0), (0, 0)]), (1, 0, []), (0, 7, [(4, 0), (0, 0), (1, 0), (0, 0), (0, 0)]), (1, 0, []), (0, 7, [(4, 0), (0, 0), (1, 0), (0, 0), (0, 0)]), (1, 0, []), (0, 7, [(4, 0), (0, 0), (1, 0), (0, 0), (0, 0)]), (1, 0, [])]
/-- PackHouse.open: this, this.rows, this.rows.0, this.rows.0.bytes, this.rows.1, this.rows.1.bytes, this.rows.2, this.rows.2.bytes, this.rows.3, this.rows.3.bytes, this.content, this.content.bytes -/
theorem C20_vB {σE : rS} {D N : Nat → Nat} {F : hF} {A : hA} {d c s : Nat} {Q : wQ} (H : HW V20_vB σE D N F A) {y1 y2 : Int} (pf1 : F 0 0 = (D 1 : Int)) (pf2 : A 1 0 = (D 2 : Int)) (pf3 : F 2 0 = (D 3 : Int)) (pf4 : A 1 1 = (D 4 : Int)) (pf5 : F 4 0 = (D 5 : Int)) (pf6 : A 1 2 = (D 6 : Int)) (pf7 : F 6 0 = (D 7 : Int)) (pf8 : A 1 3 = (D 8 : Int)) (pf9 : F 8 0 = (D 9 : Int)) (pf10 : F 0 6 = (D 10 : Int)) (pf11 : F 10 0 = (D 11 : Int)) (n1 : Int) (en1 : (N 1 : Int) = n1) (n3 : Int) (en3 : (N 3 : Int) = n3) (n5 : Int) (en5 : (N 5 : Int) = n5) (n7 : Int) (en7 : (N 7 : Int) = n7) (n9 : Int) (en9 : (N 9 : Int) = n9) (n11 : Int) (en11 : (N 11 : Int) = n11) (u0_17 : Int) (eu0_17 : F 0 17 = u0_17) (u0_18 : Int) (eu0_18 : F 0 18 = u0_18) (u2_1 : Int) (eu2_1 : F 2 1 = u2_1) (u2_2 : Int) (eu2_2 : F 2 2 = u2_2) (u4_1 : Int) (eu4_1 : F 4 1 = u4_1) (u4_2 : Int) (eu4_2 : F 4 2 = u4_2) (u6_1 : Int) (eu6_1 : F 6 1 = u6_1) (u6_2 : Int) (eu6_2 : F 6 2 = u6_2) (u8_1 : Int) (eu8_1 : F 8 1 = u8_1) (u8_2 : Int) (eu8_2 : F 8 2 = u8_2) (u10_1 : Int) (eu10_1 : F 10 1 = u10_1) (w3 : Int → Int) (ew3 : A 3 = w3) (w5 : Int → Int) (ew5 : A 5 = w5) (w7 : Int → Int) (ew7 : A 7 = w7) (w9 : Int → Int) (ew9 : A 9 = w9) (w11 : Int → Int) (ew11 : A 11 = w11) {ls : rO}  (h0 : inr y1) (h1 : inr y2) (h2 : (n1) = 4) (h3 : 0 ≤ (u2_1) ∧ (u2_1) ≤ (n3) ∧ (n3) ≤ 65536) (h4 : 0 ≤ (u4_1) ∧ (u4_1) ≤ (n5) ∧ (n5) ≤ 65536) (h5 : 0 ≤ (u6_1) ∧ (u6_1) ≤ (n7) ∧ (n7) ≤ 65536) (h6 : 0 ≤ (u8_1) ∧ (u8_1) ≤ (n9) ∧ (n9) ≤ 65536) (h7 : (u2_2) = 0) (h8 : (u4_2) = 0) (h9 : (u6_2) = 0) (h10 : (u8_2) = 0) (h11 : 0 ≤ (u10_1) ∧ (u10_1) ≤ (n11) ∧ (n11) ≤ 65536) (h12 : 0 ≤ y1 ∧ y1 ≤ 3) (k : ∀ (z : Int) (σ : rS) (D' N' : Nat → Nat) (F' : hF) (A' : hA) (c' s' : Nat), HW V20_vB σ D' N' F' A' → OUT (V20_vB).length D N σE c s D' N' σ c' s' → SD [3, 5, 7, 9] D D' → SD [3, 5, 7, 9] N N' → SF [(0, 18), (2, 0), (2, 1), (2, 2), (2, 3), (2, 4), (4, 0), (4, 1), (4, 2), (4, 3), (4, 4), (6, 0), (6, 1), (6, 2), (6, 3), (6, 4), (8, 0), (8, 1), (8, 2), (8, 3), (8, 4)] F F' → SA [3, 5, 7, 9] A A' → F' 2 0 = (D' 3 : Int) → F' 4 0 = (D' 5 : Int) → F' 6 0 = (D' 7 : Int) → F' 8 0 = (D' 9 : Int) → ∀ m3 : Int, (N' 3 : Int) = m3 → ∀ m5 : Int, (N' 5 : Int) = m5 → ∀ m7 : Int, (N' 7 : Int) = m7 → ∀ m9 : Int, (N' 9 : Int) = m9 → ∀ y0_18 : Int, F' 0 18 = y0_18 → ∀ y2_1 : Int, F' 2 1 = y2_1 → ∀ y2_2 : Int, F' 2 2 = y2_2 → ∀ y4_1 : Int, F' 4 1 = y4_1 → ∀ y4_2 : Int, F' 4 2 = y4_2 → ∀ y6_1 : Int, F' 6 1 = y6_1 → ∀ y6_2 : Int, F' 6 2 = y6_2 → ∀ y8_1 : Int, F' 8 1 = y8_1 → ∀ y8_2 : Int, F' 8 2 = y8_2 → ∀ v3 : Int → Int, A' 3 = v3 → ∀ v5 : Int → Int, A' 5 = v5 → ∀ v7 : Int → Int, A' 7 = v7 → ∀ v9 : Int → Int, A' 9 = v9 → (inr (z)) → (0 ≤ (y2_1) ∧ (y2_1) ≤ (m3) ∧ (m3) ≤ 65536) → (0 ≤ (y4_1) ∧ (y4_1) ≤ (m5) ∧ (m5) ≤ 65536) → (0 ≤ (y6_1) ∧ (y6_1) ≤ (m7) ∧ (m7) ≤ 65536) → (0 ≤ (y8_1) ∧ (y8_1) ≤ (m9) ∧ (m9) ≤ 65536) → (0 ≤ (u10_1) ∧ (u10_1) ≤ (n11) ∧ (n11) ≤ 65536) → ((y2_2) = 0) → ((y4_2) = 0) → ((y6_2) = 0) → ((y8_2) = 0) → ((z) = y2) → ((y0_18) = (u0_17)) → (IMP (y1 = 0 ∧ 0 ≤ y2) (sc ((v3)) 0 ((y2_1)) = sc ((w11)) 0 ((u10_1)))) → (IMP (y1 = 1 ∧ 0 ≤ y2) (sc ((v5)) 0 ((y4_1)) = sc ((w11)) 0 ((u10_1)))) → (IMP (y1 = 2 ∧ 0 ≤ y2) (sc ((v7)) 0 ((y6_1)) = sc ((w11)) 0 ((u10_1)))) → (IMP (y1 = 3 ∧ 0 ≤ y2) (sc ((v9)) 0 ((y8_1)) = sc ((w11)) 0 ((u10_1)))) → (IMP (y1 ≠ 0 ∨ y2 < 0) (sc ((v3)) 0 ((y2_1)) = sc ((w3)) 0 ((u2_1)))) → (IMP (y1 ≠ 1 ∨ y2 < 0) (sc ((v5)) 0 ((y4_1)) = sc ((w5)) 0 ((u4_1)))) → (IMP (y1 ≠ 2 ∨ y2 < 0) (sc ((v7)) 0 ((y6_1)) = sc ((w7)) 0 ((u6_1)))) → (IMP (y1 ≠ 3 ∨ y2 < 0) (sc ((v9)) 0 ((y8_1)) = sc ((w9)) 0 ((u8_1)))) → Q (some (I z)) σ c' s') : Ew 20 (d + 5) 71 ls [I (y2), I (y1), .ref (D 0)] σE c s Q := by
  have O := OUT_refl (n := (V20_vB).length) (D := D) (N := N) (σ := σE) (c := c) (s := s)
  have HE := H
  have r1 : HID ((-2147483648 : Int) ≤ u0_17 ∧ u0_17 ≤ 2147483647) := krg_e (show (-2147483648 : Int) ≤ F 0 17 ∧ F 0 17 ≤ 2147483647 from H.krg 0 17 (by decide)) (show F 0 17 = u0_17 from (eu0_17))
  have r2 : HID ((-2147483648 : Int) ≤ u0_18 ∧ u0_18 ≤ 2147483647) := krg_e (show (-2147483648 : Int) ≤ F 0 18 ∧ F 0 18 ≤ 2147483647 from H.krg 0 18 (by decide)) (show F 0 18 = u0_18 from (eu0_18))
  have r3 : HID ((-2147483648 : Int) ≤ u2_1 ∧ u2_1 ≤ 2147483647) := krg_e (show (-2147483648 : Int) ≤ F 2 1 ∧ F 2 1 ≤ 2147483647 from H.krg 2 1 (by decide)) (show F 2 1 = u2_1 from (eu2_1))
  have r4 : HID ((0 : Int) ≤ u2_2 ∧ u2_2 ≤ 1) := krg_e (show (0 : Int) ≤ F 2 2 ∧ F 2 2 ≤ 1 from H.krg 2 2 (by decide)) (show F 2 2 = u2_2 from (eu2_2))
  have r5 : HID ((-2147483648 : Int) ≤ u4_1 ∧ u4_1 ≤ 2147483647) := krg_e (show (-2147483648 : Int) ≤ F 4 1 ∧ F 4 1 ≤ 2147483647 from H.krg 4 1 (by decide)) (show F 4 1 = u4_1 from (eu4_1))
  have r6 : HID ((0 : Int) ≤ u4_2 ∧ u4_2 ≤ 1) := krg_e (show (0 : Int) ≤ F 4 2 ∧ F 4 2 ≤ 1 from H.krg 4 2 (by decide)) (show F 4 2 = u4_2 from (eu4_2))
  have r7 : HID ((-2147483648 : Int) ≤ u6_1 ∧ u6_1 ≤ 2147483647) := krg_e (show (-2147483648 : Int) ≤ F 6 1 ∧ F 6 1 ≤ 2147483647 from H.krg 6 1 (by decide)) (show F 6 1 = u6_1 from (eu6_1))
  have r8 : HID ((0 : Int) ≤ u6_2 ∧ u6_2 ≤ 1) := krg_e (show (0 : Int) ≤ F 6 2 ∧ F 6 2 ≤ 1 from H.krg 6 2 (by decide)) (show F 6 2 = u6_2 from (eu6_2))
  have r9 : HID ((-2147483648 : Int) ≤ u8_1 ∧ u8_1 ≤ 2147483647) := krg_e (show (-2147483648 : Int) ≤ F 8 1 ∧ F 8 1 ≤ 2147483647 from H.krg 8 1 (by decide)) (show F 8 1 = u8_1 from (eu8_1))
  have r10 : HID ((0 : Int) ≤ u8_2 ∧ u8_2 ≤ 1) := krg_e (show (0 : Int) ≤ F 8 2 ∧ F 8 2 ≤ 1 from H.krg 8 2 (by decide)) (show F 8 2 = u8_2 from (eu8_2))
  have r11 : HID ((-2147483648 : Int) ≤ u10_1 ∧ u10_1 ≤ 2147483647) := krg_e (show (-2147483648 : Int) ≤ F 10 1 ∧ F 10 1 ≤ 2147483647 from H.krg 10 1 (by decide)) (show F 10 1 = u10_1 from (eu10_1))
  replace pf1 := HIDm pf1
  replace pf2 := HIDm pf2
  replace pf3 := HIDm pf3
  replace pf4 := HIDm pf4
  replace pf5 := HIDm pf5
  replace pf6 := HIDm pf6
  replace pf7 := HIDm pf7
  replace pf8 := HIDm pf8
  replace pf9 := HIDm pf9
  replace pf10 := HIDm pf10
  replace pf11 := HIDm pf11
  replace en1 := HIDm en1
  replace en3 := HIDm en3
  replace en5 := HIDm en5
  replace en7 := HIDm en7
  replace en9 := HIDm en9
  replace en11 := HIDm en11
  replace eu0_17 := HIDm eu0_17
  replace eu0_18 := HIDm eu0_18
  replace eu2_1 := HIDm eu2_1
  replace eu2_2 := HIDm eu2_2
  replace eu4_1 := HIDm eu4_1
  replace eu4_2 := HIDm eu4_2
  replace eu6_1 := HIDm eu6_1
  replace eu6_2 := HIDm eu6_2
  replace eu8_1 := HIDm eu8_1
  replace eu8_2 := HIDm eu8_2
  replace eu10_1 := HIDm eu10_1
  have r12 : HID ((0 : Int) ≤ n1 ∧ n1 ≤ 1000000) := nrng (H.nle 1 (by decide)) (show (N 1 : Int) = n1 from en1)
  have r13 : HID ((0 : Int) ≤ n3 ∧ n3 ≤ 1000000) := nrng (H.nle 3 (by decide)) (show (N 3 : Int) = n3 from en3)
  have r14 : HID ((0 : Int) ≤ n5 ∧ n5 ≤ 1000000) := nrng (H.nle 5 (by decide)) (show (N 5 : Int) = n5 from en5)
  have r15 : HID ((0 : Int) ≤ n7 ∧ n7 ≤ 1000000) := nrng (H.nle 7 (by decide)) (show (N 7 : Int) = n7 from en7)
  have r16 : HID ((0 : Int) ≤ n9 ∧ n9 ≤ 1000000) := nrng (H.nle 9 (by decide)) (show (N 9 : Int) = n9 from en9)
  have r17 : HID ((0 : Int) ≤ n11 ∧ n11 ≤ 1000000) := nrng (H.nle 11 (by decide)) (show (N 11 : Int) = n11 from en11)
  refine v_inv H (o := 0) rfl rfl rfl rfl rfl rfl (by rfl) (C31p (D := pul [0, 1, 2, 3, 4, 5, 6, 7, 8, 9, 10, 11] D) (N := pul [0, 1, 2, 3, 4, 5, 6, 7, 8, 9, 10, 11] N) (HW_sub H (VS_of (show vsub V20_vB V31 [0, 1, 2, 3, 4, 5, 6, 7, 8, 9, 10, 11] = true by decide +kernel))) (pf1) (pf2) (pf3) (pf4) (pf5) (pf6) (pf7) (pf8) (pf9) (pf10) (pf11) (n1) (en1) (n3) (en3) (n5) (en5) (n7) (en7) (n9) (en9) (n11) (en11) (u0_17) ((eu0_17)) (u0_18) ((eu0_18)) (u2_1) ((eu2_1)) (u2_2) ((eu2_2)) (u4_1) ((eu4_1)) (u4_2) ((eu4_2)) (u6_1) ((eu6_1)) (u6_2) ((eu6_2)) (u8_1) ((eu8_1)) (u8_2) ((eu8_2)) (u10_1) ((eu10_1)) (w3) (ew3) (w5) (ew5) (w7) (ew7) (w9) (ew9) (w11) (ew11) (show inr (y1) by omega) (show inr (y2) by omega) (show (n1) = 4 by have qh0 := HIDe r12; omega) (show 0 ≤ (u2_1) ∧ (u2_1) ≤ (n3) ∧ (n3) ≤ 65536 by have qh0 := HIDe r13; have qh1 := HIDe r3; omega) (show 0 ≤ (u4_1) ∧ (u4_1) ≤ (n5) ∧ (n5) ≤ 65536 by have qh0 := HIDe r14; have qh1 := HIDe r5; omega) (show 0 ≤ (u6_1) ∧ (u6_1) ≤ (n7) ∧ (n7) ≤ 65536 by have qh0 := HIDe r15; have qh1 := HIDe r7; omega) (show 0 ≤ (u8_1) ∧ (u8_1) ≤ (n9) ∧ (n9) ≤ 65536 by have qh0 := HIDe r16; have qh1 := HIDe r9; omega) (show 0 ≤ (u10_1) ∧ (u10_1) ≤ (n11) ∧ (n11) ≤ 65536 by have qh0 := HIDe r11; have qh1 := HIDe r17; omega) (show 0 ≤ (y1) ∧ (y1) ≤ 3 by omega) (show (u2_2) = 0 by have qh0 := HIDe r4; omega) (show (u4_2) = 0 by have qh0 := HIDe r6; omega) (show (u6_2) = 0 by have qh0 := HIDe r8; omega) (show (u8_2) = 0 by have qh0 := HIDe r10; omega) (fun z18 σ18 D18' N18' F18' A18' c18 s18 H' O' hD18 hN18 hS18 hA18 pm18_3 pm18_5 pm18_7 pm18_9 m18_3 em18_3 m18_5 em18_5 m18_7 em18_7 m18_9 em18_9 y18_0_18 ey18_0_18 y18_2_1 ey18_2_1 y18_2_2 ey18_2_2 y18_4_1 ey18_4_1 y18_4_2 ey18_4_2 y18_6_1 ey18_6_1 y18_6_2 ey18_6_2 y18_8_1 ey18_8_1 y18_8_2 ey18_8_2 w18_3 ew18_3 w18_5 ew18_5 w18_7 ew18_7 w18_9 ew18_9 pz18_0 pz18_1 pz18_2 pz18_3 pz18_4 pz18_5 pz18_6 pz18_7 pz18_8 pz18_9 pz18_10 pz18_11 pz18_12 pz18_13 pz18_14 pz18_15 pz18_16 pz18_17 pz18_18 pz18_19 => ⟨rfl, ?_⟩))
  replace pm18_3 := HIDm pm18_3
  replace pm18_5 := HIDm pm18_5
  replace pm18_7 := HIDm pm18_7
  replace pm18_9 := HIDm pm18_9
  replace em18_3 := HIDm em18_3
  replace em18_5 := HIDm em18_5
  replace em18_7 := HIDm em18_7
  replace em18_9 := HIDm em18_9
  replace ey18_0_18 := HIDm ey18_0_18
  replace ey18_2_1 := HIDm ey18_2_1
  replace ey18_2_2 := HIDm ey18_2_2
  replace ey18_4_1 := HIDm ey18_4_1
  replace ey18_4_2 := HIDm ey18_4_2
  replace ey18_6_1 := HIDm ey18_6_1
  replace ey18_6_2 := HIDm ey18_6_2
  replace ey18_8_1 := HIDm ey18_8_1
  replace ey18_8_2 := HIDm ey18_8_2
  refine v_backM (c := c) (s := s) H (show vsub V20_vB V31 [0, 1, 2, 3, 4, 5, 6, 7, 8, 9, 10, 11] = true by decide +kernel) H' O' hD18 (show vmov V20_vB [0, 1, 2, 3, 4, 5, 6, 7, 8, 9, 10, 11] [3, 5, 7, 9] = true by decide +kernel) (fun D18 N18 F18 A18 H O' eD18 eN18 eF18 eA18 => ?_)
  have O := OUT_trans O O'
  -- PackHouse.settle
  have pe18_1_0 : HID (A18 1 0 = (D18 2 : Int)) := (congrFun ((show A18 1 = A 1 from (eA18 1).trans (funext (hA18 1 rfl)))) 0).trans ((pf2).trans (congrArg (fun q : Nat => (q : Int)) ((show D18 2 = D 2 from (eD18 2).trans (hD18 2 rfl))).symm))
  have pe18_1_1 : HID (A18 1 1 = (D18 4 : Int)) := (congrFun ((show A18 1 = A 1 from (eA18 1).trans (funext (hA18 1 rfl)))) 1).trans ((pf4).trans (congrArg (fun q : Nat => (q : Int)) ((show D18 4 = D 4 from (eD18 4).trans (hD18 4 rfl))).symm))
  have pe18_1_2 : HID (A18 1 2 = (D18 6 : Int)) := (congrFun ((show A18 1 = A 1 from (eA18 1).trans (funext (hA18 1 rfl)))) 2).trans ((pf6).trans (congrArg (fun q : Nat => (q : Int)) ((show D18 6 = D 6 from (eD18 6).trans (hD18 6 rfl))).symm))
  have pe18_1_3 : HID (A18 1 3 = (D18 8 : Int)) := (congrFun ((show A18 1 = A 1 from (eA18 1).trans (funext (hA18 1 rfl)))) 3).trans ((pf8).trans (congrArg (fun q : Nat => (q : Int)) ((show D18 8 = D 8 from (eD18 8).trans (hD18 8 rfl))).symm))
  have pf18_0_0 : HID (F18 0 0 = (D18 1 : Int)) := ((show F18 0 0 = F 0 0 from (eF18 0 0).trans (hS18 0 0 rfl))).trans ((pf1).trans (congrArg (fun q : Nat => (q : Int)) ((show D18 1 = D 1 from (eD18 1).trans (hD18 1 rfl))).symm))
  have pf18_0_6 : HID (F18 0 6 = (D18 10 : Int)) := ((show F18 0 6 = F 0 6 from (eF18 0 6).trans (hS18 0 6 rfl))).trans ((pf10).trans (congrArg (fun q : Nat => (q : Int)) ((show D18 10 = D 10 from (eD18 10).trans (hD18 10 rfl))).symm))
  have pf18_10_0 : HID (F18 10 0 = (D18 11 : Int)) := ((show F18 10 0 = F 10 0 from (eF18 10 0).trans (hS18 10 0 rfl))).trans ((pf11).trans (congrArg (fun q : Nat => (q : Int)) ((show D18 11 = D 11 from (eD18 11).trans (hD18 11 rfl))).symm))
  have pf18_2_0 : HID (F18 2 0 = (D18 3 : Int)) := (eF18 2 0).trans (pm18_3.trans (congrArg (fun q : Nat => (q : Int)) (eD18 3).symm))
  have pf18_4_0 : HID (F18 4 0 = (D18 5 : Int)) := (eF18 4 0).trans (pm18_5.trans (congrArg (fun q : Nat => (q : Int)) (eD18 5).symm))
  have pf18_6_0 : HID (F18 6 0 = (D18 7 : Int)) := (eF18 6 0).trans (pm18_7.trans (congrArg (fun q : Nat => (q : Int)) (eD18 7).symm))
  have pf18_8_0 : HID (F18 8 0 = (D18 9 : Int)) := (eF18 8 0).trans (pm18_9.trans (congrArg (fun q : Nat => (q : Int)) (eD18 9).symm))
  have r19 : HID ((0 : Int) ≤ m18_3 ∧ m18_3 ≤ 1000000) := nrng (H.nle 3 (by decide)) (show (N18 3 : Int) = m18_3 from (congrArg (fun q : Nat => (q : Int)) (eN18 3)).trans em18_3)
  have r20 : HID ((0 : Int) ≤ m18_5 ∧ m18_5 ≤ 1000000) := nrng (H.nle 5 (by decide)) (show (N18 5 : Int) = m18_5 from (congrArg (fun q : Nat => (q : Int)) (eN18 5)).trans em18_5)
  have r21 : HID ((0 : Int) ≤ m18_7 ∧ m18_7 ≤ 1000000) := nrng (H.nle 7 (by decide)) (show (N18 7 : Int) = m18_7 from (congrArg (fun q : Nat => (q : Int)) (eN18 7)).trans em18_7)
  have r22 : HID ((0 : Int) ≤ m18_9 ∧ m18_9 ≤ 1000000) := nrng (H.nle 9 (by decide)) (show (N18 9 : Int) = m18_9 from (congrArg (fun q : Nat => (q : Int)) (eN18 9)).trans em18_9)
  have r23 : HID ((-2147483648 : Int) ≤ y18_0_18 ∧ y18_0_18 ≤ 2147483647) := krg_e (show (-2147483648 : Int) ≤ F18 0 18 ∧ F18 0 18 ≤ 2147483647 from H.krg 0 18 (by decide)) (show F18 0 18 = y18_0_18 from ((eF18 0 18).trans ey18_0_18))
  have r24 : HID ((-2147483648 : Int) ≤ y18_2_1 ∧ y18_2_1 ≤ 2147483647) := krg_e (show (-2147483648 : Int) ≤ F18 2 1 ∧ F18 2 1 ≤ 2147483647 from H.krg 2 1 (by decide)) (show F18 2 1 = y18_2_1 from ((eF18 2 1).trans ey18_2_1))
  have r25 : HID ((0 : Int) ≤ y18_2_2 ∧ y18_2_2 ≤ 1) := krg_e (show (0 : Int) ≤ F18 2 2 ∧ F18 2 2 ≤ 1 from H.krg 2 2 (by decide)) (show F18 2 2 = y18_2_2 from ((eF18 2 2).trans ey18_2_2))
  have r26 : HID ((-2147483648 : Int) ≤ y18_4_1 ∧ y18_4_1 ≤ 2147483647) := krg_e (show (-2147483648 : Int) ≤ F18 4 1 ∧ F18 4 1 ≤ 2147483647 from H.krg 4 1 (by decide)) (show F18 4 1 = y18_4_1 from ((eF18 4 1).trans ey18_4_1))
  have r27 : HID ((0 : Int) ≤ y18_4_2 ∧ y18_4_2 ≤ 1) := krg_e (show (0 : Int) ≤ F18 4 2 ∧ F18 4 2 ≤ 1 from H.krg 4 2 (by decide)) (show F18 4 2 = y18_4_2 from ((eF18 4 2).trans ey18_4_2))
  have r28 : HID ((-2147483648 : Int) ≤ y18_6_1 ∧ y18_6_1 ≤ 2147483647) := krg_e (show (-2147483648 : Int) ≤ F18 6 1 ∧ F18 6 1 ≤ 2147483647 from H.krg 6 1 (by decide)) (show F18 6 1 = y18_6_1 from ((eF18 6 1).trans ey18_6_1))
  have r29 : HID ((0 : Int) ≤ y18_6_2 ∧ y18_6_2 ≤ 1) := krg_e (show (0 : Int) ≤ F18 6 2 ∧ F18 6 2 ≤ 1 from H.krg 6 2 (by decide)) (show F18 6 2 = y18_6_2 from ((eF18 6 2).trans ey18_6_2))
  have r30 : HID ((-2147483648 : Int) ≤ y18_8_1 ∧ y18_8_1 ≤ 2147483647) := krg_e (show (-2147483648 : Int) ≤ F18 8 1 ∧ F18 8 1 ≤ 2147483647 from H.krg 8 1 (by decide)) (show F18 8 1 = y18_8_1 from ((eF18 8 1).trans ey18_8_1))
  have r31 : HID ((0 : Int) ≤ y18_8_2 ∧ y18_8_2 ≤ 1) := krg_e (show (0 : Int) ≤ F18 8 2 ∧ F18 8 2 ≤ 1 from H.krg 8 2 (by decide)) (show F18 8 2 = y18_8_2 from ((eF18 8 2).trans ey18_8_2))
  exact w_ireturn rfl (k (z18) _ _ _ _ _ _ _ H O (SD_trans (SD_refl) (SD_glu (ι := [0, 1, 2, 3, 4, 5, 6, 7, 8, 9, 10, 11]) hD18 eD18 (by decide +kernel)) (any_subA (l' := [3, 5, 7, 9]) rfl)) (SD_trans (SD_refl) (SD_glu (ι := [0, 1, 2, 3, 4, 5, 6, 7, 8, 9, 10, 11]) hN18 eN18 (by decide +kernel)) (any_subA (l' := [3, 5, 7, 9]) rfl)) (SF_trans (SF_refl) (SF_glu (ι := [0, 1, 2, 3, 4, 5, 6, 7, 8, 9, 10, 11]) hS18 eF18 (by decide +kernel)) (any_sub (l' := [(0, 18), (2, 0), (2, 1), (2, 2), (2, 3), (2, 4), (4, 0), (4, 1), (4, 2), (4, 3), (4, 4), (6, 0), (6, 1), (6, 2), (6, 3), (6, 4), (8, 0), (8, 1), (8, 2), (8, 3), (8, 4)]) rfl)) (SA_trans (SA_refl) (SA_glu (ι := [0, 1, 2, 3, 4, 5, 6, 7, 8, 9, 10, 11]) hA18 eA18 (by decide +kernel)) (any_subA (l' := [3, 5, 7, 9]) rfl)) (pf18_2_0) (pf18_4_0) (pf18_6_0) (pf18_8_0) (m18_3) ((congrArg (fun q : Nat => (q : Int)) (eN18 3)).trans em18_3) (m18_5) ((congrArg (fun q : Nat => (q : Int)) (eN18 5)).trans em18_5) (m18_7) ((congrArg (fun q : Nat => (q : Int)) (eN18 7)).trans em18_7) (m18_9) ((congrArg (fun q : Nat => (q : Int)) (eN18 9)).trans em18_9) (y18_0_18) (((eF18 0 18).trans ey18_0_18)) (y18_2_1) (((eF18 2 1).trans ey18_2_1)) (y18_2_2) (((eF18 2 2).trans ey18_2_2)) (y18_4_1) (((eF18 4 1).trans ey18_4_1)) (y18_4_2) (((eF18 4 2).trans ey18_4_2)) (y18_6_1) (((eF18 6 1).trans ey18_6_1)) (y18_6_2) (((eF18 6 2).trans ey18_6_2)) (y18_8_1) (((eF18 8 1).trans ey18_8_1)) (y18_8_2) (((eF18 8 2).trans ey18_8_2)) (w18_3) ((eA18 3).trans ew18_3) (w18_5) ((eA18 5).trans ew18_5) (w18_7) ((eA18 7).trans ew18_7) (w18_9) ((eA18 9).trans ew18_9) (show inr (z18) by omega) (show 0 ≤ (y18_2_1) ∧ (y18_2_1) ≤ (m18_3) ∧ (m18_3) ≤ 65536 by have qh0 := HIDe r19; have qh1 := HIDe r24; omega) (show 0 ≤ (y18_4_1) ∧ (y18_4_1) ≤ (m18_5) ∧ (m18_5) ≤ 65536 by have qh0 := HIDe r20; have qh1 := HIDe r26; omega) (show 0 ≤ (y18_6_1) ∧ (y18_6_1) ≤ (m18_7) ∧ (m18_7) ≤ 65536 by have qh0 := HIDe r21; have qh1 := HIDe r28; omega) (show 0 ≤ (y18_8_1) ∧ (y18_8_1) ≤ (m18_9) ∧ (m18_9) ≤ 65536 by have qh0 := HIDe r22; have qh1 := HIDe r30; omega) (show 0 ≤ (u10_1) ∧ (u10_1) ≤ (n11) ∧ (n11) ≤ 65536 by have qh0 := HIDe r11; have qh1 := HIDe r17; omega) (show (y18_2_2) = 0 by have qh0 := HIDe r25; omega) (show (y18_4_2) = 0 by have qh0 := HIDe r27; omega) (show (y18_6_2) = 0 by have qh0 := HIDe r29; omega) (show (y18_8_2) = 0 by have qh0 := HIDe r31; omega) (show (z18) = y2 by omega) (show (y18_0_18) = (u0_17) by have qh0 := HIDe r1; have qh1 := HIDe r23; omega) (by assumption) (by assumption) (by assumption) (by assumption) (by assumption) (by assumption) (by assumption) (by assumption))
abbrev V18_vX : vV := [(0, 0, [(4, 0), (4, 0), (4, 0), (4, 0), (4, 0), (4, 0), (4, 0), (4, 0), (4, 0), (4, 0), (4, 0), (4, 0), (4, 0), (4, 0), (4, 0), (4, 0), (4, 0), (0, 0), (0, 0)])]
/-- PackHouse.read: this -/
theorem C18_vX {σE : rS} {D N : Nat → Nat} {F : hF} {A : hA} {d c s : Nat} {Q : wQ} (H : HW V18_vX σE D N F A) {a1 a2 a3 a4 : Int} (h0 : inr (a1)) (h1 : inr (a2)) (h2 : inr (a3)) (h3 : inr (a4)) (h4 : (a2) < 0 ∨ 4 ≤ (a2)) (k : ∀ (z : Int) (σ : rS) (F' : hF) (A' : hA), HW V18_vX σ D N F' A' → OUT (V18_vX).length D N σE c s D N σ c s → SF [] F F' → SA [] A A' → (inr (z)) → ((z) = -50) → Q (some (I z)) σ c s) : Ew 18 (d + 1) 0 (rargs 0 [.ref (D 0), I a1, I a2, I a3, I a4]) [] σE c s Q := by
  have O := OUT_refl (n := (V18_vX).length) (D := D) (N := N) (σ := σE) (c := c) (s := s)
  have HE := H
  refine Ew_of (pc' := 1) (fun _ => x_iload_n rfl rfl) ?_
  refine w_stat24 rfl rfl (by rfl) (C24x (D := pul [] D) (N := pul [] N) (HW_sub H (VS_of (show vsub V18_vX V24 [] = true by decide +kernel))) (show inr (a1) by omega) (fun z1 σ1 F1' A1' H' O' hS1 hA1 pz1_0 pz1_1 => ⟨rretB rfl pz1_0, ?_⟩))
  refine v_back (c := c) (s := s) H (show vsub V18_vX V24 [] = true by decide +kernel) H' O' (fun F1 A1 H O' eF1 eA1 => ?_)
  have O := OUT_trans O O'
  -- PackHouse.isRow
  refine w_ifeq (t := 35) rfl rfl (show inr (z1) by omega) (fun b2 => ?_) (fun b2 => ?_)
  · refine Ew_of (pc' := 37) (fun _ => x_bipush (z := -50) rfl (by decide)) ?_
    exact w_ireturn rfl (k ((-50)) _ _ _ H O (SF_trans (SF_refl) (SF_glu (ι := []) hS1 eF1 (by decide +kernel)) (any_sub (l' := []) rfl)) (SA_trans (SA_refl) (SA_glu (ι := []) hA1 eA1 (by decide +kernel)) (any_subA (l' := []) rfl)) (show inr ((-50)) by omega) (show ((-50)) = -50 by omega))
  · refine Ew_of (pc' := 8) (fun _ => x_iload_n rfl rfl) ?_
    refine w_stat24 rfl rfl (by rfl) (C24x (D := pul [] D) (N := pul [] N) (HW_sub H (VS_of (show vsub V18_vX V24 [] = true by decide +kernel))) (show inr (a2) by omega) (fun z3 σ3 F3' A3' H' O' hS3 hA3 pz3_0 pz3_1 => ⟨rretB rfl pz3_0, ?_⟩))
    refine v_back (c := c) (s := s) H (show vsub V18_vX V24 [] = true by decide +kernel) H' O' (fun F3 A3 H O' eF3 eA3 => ?_)
    have O := OUT_trans O O'
    -- PackHouse.isRow
    refine w_ifeq (t := 35) rfl rfl (show inr (z3) by omega) (fun b4 => ?_) (fun b4 => ?_)
    · refine Ew_of (pc' := 37) (fun _ => x_bipush (z := -50) rfl (by decide)) ?_
      exact w_ireturn rfl (k ((-50)) _ _ _ H O (SF_trans (SF_trans (SF_refl) (SF_glu (ι := []) hS1 eF1 (by decide +kernel)) (any_sub (l' := []) rfl)) (SF_glu (ι := []) hS3 eF3 (by decide +kernel)) (any_sub (l' := []) rfl)) (SA_trans (SA_trans (SA_refl) (SA_glu (ι := []) hA1 eA1 (by decide +kernel)) (any_subA (l' := []) rfl)) (SA_glu (ι := []) hA3 eA3 (by decide +kernel)) (any_subA (l' := []) rfl)) (show inr ((-50)) by omega) (show ((-50)) = -50 by omega))
    · exfalso
      omega
abbrev V20_vX : vV := [(0, 0, [(4, 0), (4, 0), (4, 0), (4, 0), (4, 0), (4, 0), (4, 0), (4, 0), (4, 0), (4, 0), (4, 0), (4, 0), (4, 0), (4, 0), (4, 0), (4, 0), (4, 0), (0, 0), (0, 0)])]
/-- PackHouse.open: this -/
theorem C20_vX {σE : rS} {D N : Nat → Nat} {F : hF} {A : hA} {d c s : Nat} {Q : wQ} (H : HW V20_vX σE D N F A) {a1 a2 a3 : Int} (h0 : inr (a1)) (h1 : inr (a2)) (h2 : inr (a3)) (h3 : (a2) < 0 ∨ 4 ≤ (a2)) (k : ∀ (z : Int) (σ : rS) (F' : hF) (A' : hA), HW V20_vX σ D N F' A' → OUT (V20_vX).length D N σE c s D N σ c s → SF [] F F' → SA [] A A' → (inr (z)) → ((z) = -50) → Q (some (I z)) σ c s) : Ew 20 (d + 1) 0 (rargs 0 [.ref (D 0), I a1, I a2, I a3]) [] σE c s Q := by
  have O := OUT_refl (n := (V20_vX).length) (D := D) (N := N) (σ := σE) (c := c) (s := s)
  have HE := H
  refine Ew_of (pc' := 1) (fun _ => x_iload_n rfl rfl) ?_
  refine w_stat24 rfl rfl (by rfl) (C24x (D := pul [] D) (N := pul [] N) (HW_sub H (VS_of (show vsub V20_vX V24 [] = true by decide +kernel))) (show inr (a1) by omega) (fun z1 σ1 F1' A1' H' O' hS1 hA1 pz1_0 pz1_1 => ⟨rretB rfl pz1_0, ?_⟩))
  refine v_back (c := c) (s := s) H (show vsub V20_vX V24 [] = true by decide +kernel) H' O' (fun F1 A1 H O' eF1 eA1 => ?_)
  have O := OUT_trans O O'
  -- PackHouse.isRow
  refine w_ifeq (t := 24) rfl rfl (show inr (z1) by omega) (fun b2 => ?_) (fun b2 => ?_)
  · refine Ew_of (pc' := 26) (fun _ => x_bipush (z := -50) rfl (by decide)) ?_
    exact w_ireturn rfl (k ((-50)) _ _ _ H O (SF_trans (SF_refl) (SF_glu (ι := []) hS1 eF1 (by decide +kernel)) (any_sub (l' := []) rfl)) (SA_trans (SA_refl) (SA_glu (ι := []) hA1 eA1 (by decide +kernel)) (any_subA (l' := []) rfl)) (show inr ((-50)) by omega) (show ((-50)) = -50 by omega))
  · refine Ew_of (pc' := 8) (fun _ => x_iload_n rfl rfl) ?_
    refine w_stat24 rfl rfl (by rfl) (C24x (D := pul [] D) (N := pul [] N) (HW_sub H (VS_of (show vsub V20_vX V24 [] = true by decide +kernel))) (show inr (a2) by omega) (fun z3 σ3 F3' A3' H' O' hS3 hA3 pz3_0 pz3_1 => ⟨rretB rfl pz3_0, ?_⟩))
    refine v_back (c := c) (s := s) H (show vsub V20_vX V24 [] = true by decide +kernel) H' O' (fun F3 A3 H O' eF3 eA3 => ?_)
    have O := OUT_trans O O'
    -- PackHouse.isRow
    refine w_ifeq (t := 24) rfl rfl (show inr (z3) by omega) (fun b4 => ?_) (fun b4 => ?_)
    · refine Ew_of (pc' := 26) (fun _ => x_bipush (z := -50) rfl (by decide)) ?_
      exact w_ireturn rfl (k ((-50)) _ _ _ H O (SF_trans (SF_trans (SF_refl) (SF_glu (ι := []) hS1 eF1 (by decide +kernel)) (any_sub (l' := []) rfl)) (SF_glu (ι := []) hS3 eF3 (by decide +kernel)) (any_sub (l' := []) rfl)) (SA_trans (SA_trans (SA_refl) (SA_glu (ι := []) hA1 eA1 (by decide +kernel)) (any_subA (l' := []) rfl)) (SA_glu (ι := []) hA3 eA3 (by decide +kernel)) (any_subA (l' := []) rfl)) (show inr ((-50)) by omega) (show ((-50)) = -50 by omega))
    · exfalso
      omega
