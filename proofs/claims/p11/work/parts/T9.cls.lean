abbrev V18_c20_va : vV := [(0, 0, [(4, 0), (4, 0), (4, 0), (4, 0), (4, 0), (4, 0), (4, 0), (4, 0), (4, 0), (4, 0), (4, 0), (4, 0), (4, 0), (4, 0), (4, 0), (4, 0), (4, 0), (0, 0), (0, 0)]), (1, 4, []), (0, 7, [(4, 0), (0, 0), (1, 0), (0, 0), (0, 0)]), (1, 0, []), (0, 7, [(4, 0), (0, 0), (1, 0), (0, 0), (0, 0)]), (1, 0, []), (0, 7, [(4, 0), (0, 0), (1, 0), (0, 0), (0, 0)]), (1, 0, []), (0, 7, [(4, 0), (0, 0), (1, 0), (0, 0), (0, 0)]), (1, 0, []), (1, 1, [])]
/-- PackHouse.read: this, this.rows, this.rows.0, this.rows.0.bytes, this.rows.1, this.rows.1.bytes, this.rows.2, this.rows.2.bytes, this.rows.3, this.rows.3.bytes, this.readCounts -/
theorem C18_c20_va {σE : rS} {D N : Nat → Nat} {F : hF} {A : hA} {d c s : Nat} {Q : wQ} (H : HW V18_c20_va σE D N F A) {a1 a3 a4 : Int} (pf1 : F 0 0 = (D 1 : Int)) (pf2 : A 1 0 = (D 2 : Int)) (pf3 : F 2 0 = (D 3 : Int)) (pf4 : A 1 1 = (D 4 : Int)) (pf5 : F 4 0 = (D 5 : Int)) (pf6 : A 1 2 = (D 6 : Int)) (pf7 : F 6 0 = (D 7 : Int)) (pf8 : A 1 3 = (D 8 : Int)) (pf9 : F 8 0 = (D 9 : Int)) (pf10 : F 0 14 = (D 10 : Int)) (n1 : Int) (en1 : (N 1 : Int) = n1) (n3 : Int) (en3 : (N 3 : Int) = n3) (n5 : Int) (en5 : (N 5 : Int) = n5) (n7 : Int) (en7 : (N 7 : Int) = n7) (n9 : Int) (en9 : (N 9 : Int) = n9) (n10 : Int) (en10 : (N 10 : Int) = n10) (u2_1 : Int) (eu2_1 : F 2 1 = u2_1) (u4_1 : Int) (eu4_1 : F 4 1 = u4_1) (u6_1 : Int) (eu6_1 : F 6 1 = u6_1) (u8_1 : Int) (eu8_1 : F 8 1 = u8_1) (h0 : inr (a1)) (h1 : inr (0)) (h2 : inr (a3)) (h3 : inr (a4)) (h4 : (n1) = 4) (h5 : 0 ≤ (u2_1) ∧ (u2_1) ≤ (n3) ∧ (n3) ≤ 65536) (h6 : 0 ≤ (u4_1) ∧ (u4_1) ≤ (n5) ∧ (n5) ≤ 65536) (h7 : 0 ≤ (u6_1) ∧ (u6_1) ≤ (n7) ∧ (n7) ≤ 65536) (h8 : 0 ≤ (u8_1) ∧ (u8_1) ≤ (n9) ∧ (n9) ≤ 65536) (hc54 : ∀ (tc54_1 : Int), ∀ (tc54_4 : Int), ∀ (tc54_5 : Int), ∀ (ls : rO) (σ : rS) (F_c54 : hF) (A_c54 : hA) , HW V18_c20_va σ D N F_c54 A_c54 → OUT (V18_c20_va).length D N σE c s D N σ c s → SF [] F F_c54 → SA [] A A_c54 → (inr (tc54_1)) → (inr (tc54_4)) → (inr (tc54_5)) → (0 ≤ (tc54_1) ∧ (tc54_1) ≤ 3) → (0 ≤ (tc54_4) ∧ (tc54_4) ≤ 4) → (0 ≤ (tc54_5) ∧ (tc54_5) ≤ 65536) → Ew 18 (d + 1) 54 ls [.ref (D 10), I (tc54_5), I (tc54_4), .ref (D 2), .ref (D 0), I (tc54_1), .ref (D 0)] σ c s Q) (k : ∀ (z : Int) (σ : rS) (Fₚ : hF) (Aₚ : hA), HW V18_c20_va σ D N Fₚ Aₚ → OUT (V18_c20_va).length D N σE c s D N σ c s → SF [] F Fₚ → SA [] A Aₚ → (inr (z)) → Q (some (I z)) σ c s) : Ew 18 (d + 1) 0 (rargs 0 [.ref (D 0), I a1, I 0, I a3, I a4]) [] σE c s Q := by
  have O := OUT_refl (n := (V18_c20_va).length) (D := D) (N := N) (σ := σE) (c := c) (s := s)
  have HE := H
  have r1 : HID ((-2147483648 : Int) ≤ u2_1 ∧ u2_1 ≤ 2147483647) := krg_e (show (-2147483648 : Int) ≤ F 2 1 ∧ F 2 1 ≤ 2147483647 from H.krg 2 1 (by decide)) (show F 2 1 = u2_1 from (eu2_1))
  have r2 : HID ((-2147483648 : Int) ≤ u4_1 ∧ u4_1 ≤ 2147483647) := krg_e (show (-2147483648 : Int) ≤ F 4 1 ∧ F 4 1 ≤ 2147483647 from H.krg 4 1 (by decide)) (show F 4 1 = u4_1 from (eu4_1))
  have r3 : HID ((-2147483648 : Int) ≤ u6_1 ∧ u6_1 ≤ 2147483647) := krg_e (show (-2147483648 : Int) ≤ F 6 1 ∧ F 6 1 ≤ 2147483647 from H.krg 6 1 (by decide)) (show F 6 1 = u6_1 from (eu6_1))
  have r4 : HID ((-2147483648 : Int) ≤ u8_1 ∧ u8_1 ≤ 2147483647) := krg_e (show (-2147483648 : Int) ≤ F 8 1 ∧ F 8 1 ≤ 2147483647 from H.krg 8 1 (by decide)) (show F 8 1 = u8_1 from (eu8_1))
  replace pf1 := HIDm pf1
  replace pf2 := HIDm pf2
  replace pf3 := HIDm pf3
  replace pf4 := HIDm pf4
  replace pf5 := HIDm pf5
  replace pf6 := HIDm pf6
  replace pf7 := HIDm pf7
  replace pf8 := HIDm pf8
  replace pf9 := HIDm pf9
  replace pf10 := HIDm pf10
  replace en1 := HIDm en1
  replace en3 := HIDm en3
  replace en5 := HIDm en5
  replace en7 := HIDm en7
  replace en9 := HIDm en9
  replace en10 := HIDm en10
  replace eu2_1 := HIDm eu2_1
  replace eu4_1 := HIDm eu4_1
  replace eu6_1 := HIDm eu6_1
  replace eu8_1 := HIDm eu8_1
  have r5 : HID ((0 : Int) ≤ n1 ∧ n1 ≤ 1000000) := nrng (H.nle 1 (by decide)) (show (N 1 : Int) = n1 from en1)
  have r6 : HID ((0 : Int) ≤ n3 ∧ n3 ≤ 1000000) := nrng (H.nle 3 (by decide)) (show (N 3 : Int) = n3 from en3)
  have r7 : HID ((0 : Int) ≤ n5 ∧ n5 ≤ 1000000) := nrng (H.nle 5 (by decide)) (show (N 5 : Int) = n5 from en5)
  have r8 : HID ((0 : Int) ≤ n7 ∧ n7 ≤ 1000000) := nrng (H.nle 7 (by decide)) (show (N 7 : Int) = n7 from en7)
  have r9 : HID ((0 : Int) ≤ n9 ∧ n9 ≤ 1000000) := nrng (H.nle 9 (by decide)) (show (N 9 : Int) = n9 from en9)
  refine Ew_of (pcₚ := 1) (fun _ => x_iload_n rfl rfl) ?_
  refine w_stat24 rfl rfl (by rfl) (C24 (D := pul [] D) (N := pul [] N) (HW_sub H (VS_of (show vsub V18_c20_va V24 [] = true by decide +kernel))) (show inr (a1) by omega) (fun z10 σ10 F10ₚ A10ₚ Hₚ Oₚ hS10 hA10 pz10_0 pz10_1 => ⟨rretB rfl pz10_0, ?_⟩))
  refine v_back (c := c) (s := s) H (show vsub V18_c20_va V24 [] = true by decide +kernel) Hₚ Oₚ (fun F10 A10 H Oₚ eF10 eA10 => ?_)
  have O := OUT_trans O Oₚ
  -- PackHouse.isRow
  refine w_ifeq (t := 35) rfl rfl (show inr (z10) by omega) (fun b11 => ?_) (fun b11 => ?_)
  · refine Ew_of (pcₚ := 37) (fun _ => x_bipush (z := -50) rfl (by decide)) ?_
    exact w_ireturn rfl (k ((-50)) _ _ _ H O (SF_trans (SF_refl) (SF_glu (ι := []) hS10 eF10 (by decide +kernel)) (any_sub (lₚ := []) rfl)) (SA_trans (SA_refl) (SA_glu (ι := []) hA10 eA10 (by decide +kernel)) (any_subA (lₚ := []) rfl)) (show inr ((-50)) by omega))
  · refine Ew_of (pcₚ := 8) (fun _ => x_iload_n rfl rfl) ?_
    refine w_stat24 rfl rfl (by rfl) (C24 (D := pul [] D) (N := pul [] N) (HW_sub H (VS_of (show vsub V18_c20_va V24 [] = true by decide +kernel))) (show inr (0) by omega) (fun z12 σ12 F12ₚ A12ₚ Hₚ Oₚ hS12 hA12 pz12_0 pz12_1 => ⟨rretB rfl pz12_0, ?_⟩))
    refine v_back (c := c) (s := s) H (show vsub V18_c20_va V24 [] = true by decide +kernel) Hₚ Oₚ (fun F12 A12 H Oₚ eF12 eA12 => ?_)
    have O := OUT_trans O Oₚ
    -- PackHouse.isRow
    refine w_ifeq (t := 35) rfl rfl (show inr (z12) by omega) (fun b13 => ?_) (fun b13 => ?_)
    · refine Ew_of (pcₚ := 37) (fun _ => x_bipush (z := -50) rfl (by decide)) ?_
      exact w_ireturn rfl (k ((-50)) _ _ _ H O (SF_trans (SF_trans (SF_refl) (SF_glu (ι := []) hS10 eF10 (by decide +kernel)) (any_sub (lₚ := []) rfl)) (SF_glu (ι := []) hS12 eF12 (by decide +kernel)) (any_sub (lₚ := []) rfl)) (SA_trans (SA_trans (SA_refl) (SA_glu (ι := []) hA10 eA10 (by decide +kernel)) (any_subA (lₚ := []) rfl)) (SA_glu (ι := []) hA12 eA12 (by decide +kernel)) (any_subA (lₚ := []) rfl)) (show inr ((-50)) by omega))
    · refine Ew_of (pcₚ := 15) (fun _ => x_iload_n rfl rfl) ?_
      refine w_iflt (t := 35) rfl rfl (show inr (a3) by omega) (fun b14 => ?_) (fun b14 => ?_)
      · refine Ew_of (pcₚ := 37) (fun _ => x_bipush (z := -50) rfl (by decide)) ?_
        exact w_ireturn rfl (k ((-50)) _ _ _ H O (SF_trans (SF_trans (SF_refl) (SF_glu (ι := []) hS10 eF10 (by decide +kernel)) (any_sub (lₚ := []) rfl)) (SF_glu (ι := []) hS12 eF12 (by decide +kernel)) (any_sub (lₚ := []) rfl)) (SA_trans (SA_trans (SA_refl) (SA_glu (ι := []) hA10 eA10 (by decide +kernel)) (any_subA (lₚ := []) rfl)) (SA_glu (ι := []) hA12 eA12 (by decide +kernel)) (any_subA (lₚ := []) rfl)) (show inr ((-50)) by omega))
      · refine Ew_of (pcₚ := 19) (fun _ => x_iload_n rfl rfl) ?_
        refine Ew_of (pcₚ := 20) (fun _ => x_iconst rfl) ?_
        refine w_icmpgt (t := 35) rfl rfl (show inr (a3) by omega) (show inr (4) by omega) (fun b15 => ?_) (fun b15 => ?_)
        · refine Ew_of (pcₚ := 37) (fun _ => x_bipush (z := -50) rfl (by decide)) ?_
          exact w_ireturn rfl (k ((-50)) _ _ _ H O (SF_trans (SF_trans (SF_refl) (SF_glu (ι := []) hS10 eF10 (by decide +kernel)) (any_sub (lₚ := []) rfl)) (SF_glu (ι := []) hS12 eF12 (by decide +kernel)) (any_sub (lₚ := []) rfl)) (SA_trans (SA_trans (SA_refl) (SA_glu (ι := []) hA10 eA10 (by decide +kernel)) (any_subA (lₚ := []) rfl)) (SA_glu (ι := []) hA12 eA12 (by decide +kernel)) (any_subA (lₚ := []) rfl)) (show inr ((-50)) by omega))
        · refine Ew_of (pcₚ := 25) (fun _ => x_iload rfl rfl) ?_
          refine w_iflt (t := 35) rfl rfl (show inr (a4) by omega) (fun b16 => ?_) (fun b16 => ?_)
          · refine Ew_of (pcₚ := 37) (fun _ => x_bipush (z := -50) rfl (by decide)) ?_
            exact w_ireturn rfl (k ((-50)) _ _ _ H O (SF_trans (SF_trans (SF_refl) (SF_glu (ι := []) hS10 eF10 (by decide +kernel)) (any_sub (lₚ := []) rfl)) (SF_glu (ι := []) hS12 eF12 (by decide +kernel)) (any_sub (lₚ := []) rfl)) (SA_trans (SA_trans (SA_refl) (SA_glu (ι := []) hA10 eA10 (by decide +kernel)) (any_subA (lₚ := []) rfl)) (SA_glu (ι := []) hA12 eA12 (by decide +kernel)) (any_subA (lₚ := []) rfl)) (show inr ((-50)) by omega))
          · refine Ew_of (pcₚ := 30) (fun _ => x_iload rfl rfl) ?_
            refine Ew_of (pcₚ := 32) (fun _ => x_ldc (z := 65536) rfl (by decide)) ?_
            refine w_icmple (t := 38) rfl rfl (show inr (a4) by omega) (show inr (65536) by omega) (fun b17 => ?_) (fun b17 => ?_)
            · refine Ew_of (pcₚ := 39) (fun _ => x_aload_n rfl rfl) ?_
              refine Ew_of (pcₚ := 40) (fun _ => x_iload_n rfl rfl) ?_
              refine Ew_of (pcₚ := 41) (fun _ => x_aload_n rfl rfl) ?_
              refine Ew_of (pcₚ := 42) (fun _ => x_aload_n rfl rfl) ?_
              refine v_g H (o := 0) (v := .ref (D 1)) rfl rfl rfl rfl rfl (vrf (((((show F12 0 0 = F10 0 0 from (eF12 0 0))).trans ((show F10 0 0 = F 0 0 from (eF10 0 0))))).trans (pf1))) ?_
              refine Ew_of (pcₚ := 46) (fun _ => x_iload_n rfl rfl) ?_
              refine v_lR H (o := 1) rfl rfl rfl rfl rfl (n := n1) (en1) (show 0 ≤ 0 ∧ 0 < n1 by have qh0 := HIDe r5; omega) (z := ((D 2 : Nat) : Int)) (v := .ref (D 2)) ((congrFun ((((show A12 1 = A10 1 from (eA12 1))).trans ((show A10 1 = A 1 from (eA10 1))))) 0).trans (pf2)) (vrf rfl) ?_
              refine Ew_of (pcₚ := 48) (fun _ => x_iload_n rfl rfl) ?_
              refine Ew_of (pcₚ := 50) (fun _ => x_iload rfl rfl) ?_
              refine Ew_of (pcₚ := 51) (fun _ => x_aload_n rfl rfl) ?_
              refine v_g H (o := 0) (v := .ref (D 10)) rfl rfl rfl rfl rfl (vrf (((((show F12 0 14 = F10 0 14 from (eF12 0 14))).trans ((show F10 0 14 = F 0 14 from (eF10 0 14))))).trans (pf10))) ?_
              exact hc54 (a1) (a3) (a4) _ _ _ _   H O (SF_trans (SF_trans (SF_refl) (SF_glu (ι := []) hS10 eF10 (by decide +kernel)) (any_sub (lₚ := []) rfl)) (SF_glu (ι := []) hS12 eF12 (by decide +kernel)) (any_sub (lₚ := []) rfl)) (SA_trans (SA_trans (SA_refl) (SA_glu (ι := []) hA10 eA10 (by decide +kernel)) (any_subA (lₚ := []) rfl)) (SA_glu (ι := []) hA12 eA12 (by decide +kernel)) (any_subA (lₚ := []) rfl))     (show inr (a1) by omega) (show inr (a3) by omega) (show inr (a4) by omega) (show 0 ≤ (a1) ∧ (a1) ≤ 3 by omega) (show 0 ≤ (a3) ∧ (a3) ≤ 4 by omega) (show 0 ≤ (a4) ∧ (a4) ≤ 65536 by omega)
            · refine Ew_of (pcₚ := 37) (fun _ => x_bipush (z := -50) rfl (by decide)) ?_
              exact w_ireturn rfl (k ((-50)) _ _ _ H O (SF_trans (SF_trans (SF_refl) (SF_glu (ι := []) hS10 eF10 (by decide +kernel)) (any_sub (lₚ := []) rfl)) (SF_glu (ι := []) hS12 eF12 (by decide +kernel)) (any_sub (lₚ := []) rfl)) (SA_trans (SA_trans (SA_refl) (SA_glu (ι := []) hA10 eA10 (by decide +kernel)) (any_subA (lₚ := []) rfl)) (SA_glu (ι := []) hA12 eA12 (by decide +kernel)) (any_subA (lₚ := []) rfl)) (show inr ((-50)) by omega))
abbrev V20_c20_va : vV := [(0, 0, [(4, 0), (4, 0), (4, 0), (4, 0), (4, 0), (4, 0), (4, 0), (4, 0), (4, 0), (4, 0), (4, 0), (4, 0), (4, 0), (4, 0), (4, 0), (4, 0), (4, 0), (0, 0), (0, 0)]), (1, 4, []), (0, 7, [(4, 0), (0, 0), (1, 0), (0, 0), (0, 0)]), (1, 0, []), (0, 7, [(4, 0), (0, 0), (1, 0), (0, 0), (0, 0)]), (1, 0, []), (0, 7, [(4, 0), (0, 0), (1, 0), (0, 0), (0, 0)]), (1, 0, []), (0, 7, [(4, 0), (0, 0), (1, 0), (0, 0), (0, 0)]), (1, 0, []), (1, 1, [])]
/-- PackHouse.open: this, this.rows, this.rows.0, this.rows.0.bytes, this.rows.1, this.rows.1.bytes, this.rows.2, this.rows.2.bytes, this.rows.3, this.rows.3.bytes, this.readCounts -/
theorem C20_c20_va {σE : rS} {D N : Nat → Nat} {F : hF} {A : hA} {d c s : Nat} {Q : wQ} (H : HW V20_c20_va σE D N F A) (HT : STC σE) {a1 a3 : Int} (pf1 : F 0 0 = (D 1 : Int)) (pf2 : A 1 0 = (D 2 : Int)) (pf3 : F 2 0 = (D 3 : Int)) (pf4 : A 1 1 = (D 4 : Int)) (pf5 : F 4 0 = (D 5 : Int)) (pf6 : A 1 2 = (D 6 : Int)) (pf7 : F 6 0 = (D 7 : Int)) (pf8 : A 1 3 = (D 8 : Int)) (pf9 : F 8 0 = (D 9 : Int)) (pf10 : F 0 14 = (D 10 : Int)) (n1 : Int) (en1 : (N 1 : Int) = n1) (n3 : Int) (en3 : (N 3 : Int) = n3) (n5 : Int) (en5 : (N 5 : Int) = n5) (n7 : Int) (en7 : (N 7 : Int) = n7) (n9 : Int) (en9 : (N 9 : Int) = n9) (n10 : Int) (en10 : (N 10 : Int) = n10) (u2_1 : Int) (eu2_1 : F 2 1 = u2_1) (u4_1 : Int) (eu4_1 : F 4 1 = u4_1) (u6_1 : Int) (eu6_1 : F 6 1 = u6_1) (u8_1 : Int) (eu8_1 : F 8 1 = u8_1) (h0 : inr (a1)) (h1 : inr (0)) (h2 : inr (a3)) (h3 : (n1) = 4) (h4 : 0 ≤ (u2_1) ∧ (u2_1) ≤ (n3) ∧ (n3) ≤ 65536) (h5 : 0 ≤ (u4_1) ∧ (u4_1) ≤ (n5) ∧ (n5) ≤ 65536) (h6 : 0 ≤ (u6_1) ∧ (u6_1) ≤ (n7) ∧ (n7) ≤ 65536) (h7 : 0 ≤ (u8_1) ∧ (u8_1) ≤ (n9) ∧ (n9) ≤ 65536) (hc68 : ∀ (tc68_1 : Int), ∀ (tc68_4 : Int), ∀ (tc68_5 : Int), ∀ (ls : rO) (σ : rS) (F_c68 : hF) (A_c68 : hA) , HW V20_c20_va σ D N F_c68 A_c68 → OUT (V20_c20_va).length D N σE c s D N σ c s → SF [] F F_c68 → SA [] A A_c68 → (inr (tc68_1)) → (inr (tc68_4)) → (inr (tc68_5)) → (0 ≤ (tc68_1) ∧ (tc68_1) ≤ 3) → ((tc68_4) = 1 ∨ (tc68_4) = 3 ∨ (tc68_4) = 4) → (0 ≤ (tc68_5) ∧ (tc68_5) ≤ 65536) → Ew 20 (d + 3) 68 ls [.ref (D 10), I (tc68_5), I (tc68_4), .ref (D 2), .ref (D 0), I (tc68_1), .ref (D 0)] σ c s Q) (k : ∀ (z : Int) (σ : rS) (Fₚ : hF) (Aₚ : hA), HW V20_c20_va σ D N Fₚ Aₚ → OUT (V20_c20_va).length D N σE c s D N σ c s → SF [] F Fₚ → SA [] A Aₚ → (inr (z)) → Q (some (I z)) σ c s) : Ew 20 (d + 3) 0 (rargs 0 [.ref (D 0), I a1, I 0, I a3]) [] σE c s Q := by
  have O := OUT_refl (n := (V20_c20_va).length) (D := D) (N := N) (σ := σE) (c := c) (s := s)
  have HE := H
  have r1 : HID ((-2147483648 : Int) ≤ u2_1 ∧ u2_1 ≤ 2147483647) := krg_e (show (-2147483648 : Int) ≤ F 2 1 ∧ F 2 1 ≤ 2147483647 from H.krg 2 1 (by decide)) (show F 2 1 = u2_1 from (eu2_1))
  have r2 : HID ((-2147483648 : Int) ≤ u4_1 ∧ u4_1 ≤ 2147483647) := krg_e (show (-2147483648 : Int) ≤ F 4 1 ∧ F 4 1 ≤ 2147483647 from H.krg 4 1 (by decide)) (show F 4 1 = u4_1 from (eu4_1))
  have r3 : HID ((-2147483648 : Int) ≤ u6_1 ∧ u6_1 ≤ 2147483647) := krg_e (show (-2147483648 : Int) ≤ F 6 1 ∧ F 6 1 ≤ 2147483647 from H.krg 6 1 (by decide)) (show F 6 1 = u6_1 from (eu6_1))
  have r4 : HID ((-2147483648 : Int) ≤ u8_1 ∧ u8_1 ≤ 2147483647) := krg_e (show (-2147483648 : Int) ≤ F 8 1 ∧ F 8 1 ≤ 2147483647 from H.krg 8 1 (by decide)) (show F 8 1 = u8_1 from (eu8_1))
  replace pf1 := HIDm pf1
  replace pf2 := HIDm pf2
  replace pf3 := HIDm pf3
  replace pf4 := HIDm pf4
  replace pf5 := HIDm pf5
  replace pf6 := HIDm pf6
  replace pf7 := HIDm pf7
  replace pf8 := HIDm pf8
  replace pf9 := HIDm pf9
  replace pf10 := HIDm pf10
  replace en1 := HIDm en1
  replace en3 := HIDm en3
  replace en5 := HIDm en5
  replace en7 := HIDm en7
  replace en9 := HIDm en9
  replace en10 := HIDm en10
  replace eu2_1 := HIDm eu2_1
  replace eu4_1 := HIDm eu4_1
  replace eu6_1 := HIDm eu6_1
  replace eu8_1 := HIDm eu8_1
  have r5 : HID ((0 : Int) ≤ n1 ∧ n1 ≤ 1000000) := nrng (H.nle 1 (by decide)) (show (N 1 : Int) = n1 from en1)
  have r6 : HID ((0 : Int) ≤ n3 ∧ n3 ≤ 1000000) := nrng (H.nle 3 (by decide)) (show (N 3 : Int) = n3 from en3)
  have r7 : HID ((0 : Int) ≤ n5 ∧ n5 ≤ 1000000) := nrng (H.nle 5 (by decide)) (show (N 5 : Int) = n5 from en5)
  have r8 : HID ((0 : Int) ≤ n7 ∧ n7 ≤ 1000000) := nrng (H.nle 7 (by decide)) (show (N 7 : Int) = n7 from en7)
  have r9 : HID ((0 : Int) ≤ n9 ∧ n9 ≤ 1000000) := nrng (H.nle 9 (by decide)) (show (N 9 : Int) = n9 from en9)
  refine Ew_of (pcₚ := 1) (fun _ => x_iload_n rfl rfl) ?_
  refine w_stat24 rfl rfl (by rfl) (C24 (D := pul [] D) (N := pul [] N) (HW_sub H (VS_of (show vsub V20_c20_va V24 [] = true by decide +kernel))) (show inr (a1) by omega) (fun z10 σ10 F10ₚ A10ₚ Hₚ Oₚ hS10 hA10 pz10_0 pz10_1 => ⟨rretB rfl pz10_0, ?_⟩))
  refine v_back (c := c) (s := s) H (show vsub V20_c20_va V24 [] = true by decide +kernel) Hₚ Oₚ (fun F10 A10 H Oₚ eF10 eA10 => ?_)
  have O := OUT_trans O Oₚ
  -- PackHouse.isRow
  refine w_ifeq (t := 24) rfl rfl (show inr (z10) by omega) (fun b11 => ?_) (fun b11 => ?_)
  · refine Ew_of (pcₚ := 26) (fun _ => x_bipush (z := -50) rfl (by decide)) ?_
    exact w_ireturn rfl (k ((-50)) _ _ _ H O (SF_trans (SF_refl) (SF_glu (ι := []) hS10 eF10 (by decide +kernel)) (any_sub (lₚ := []) rfl)) (SA_trans (SA_refl) (SA_glu (ι := []) hA10 eA10 (by decide +kernel)) (any_subA (lₚ := []) rfl)) (show inr ((-50)) by omega))
  · refine Ew_of (pcₚ := 8) (fun _ => x_iload_n rfl rfl) ?_
    refine w_stat24 rfl rfl (by rfl) (C24 (D := pul [] D) (N := pul [] N) (HW_sub H (VS_of (show vsub V20_c20_va V24 [] = true by decide +kernel))) (show inr (0) by omega) (fun z12 σ12 F12ₚ A12ₚ Hₚ Oₚ hS12 hA12 pz12_0 pz12_1 => ⟨rretB rfl pz12_0, ?_⟩))
    refine v_back (c := c) (s := s) H (show vsub V20_c20_va V24 [] = true by decide +kernel) Hₚ Oₚ (fun F12 A12 H Oₚ eF12 eA12 => ?_)
    have O := OUT_trans O Oₚ
    -- PackHouse.isRow
    refine w_ifeq (t := 24) rfl rfl (show inr (z12) by omega) (fun b13 => ?_) (fun b13 => ?_)
    · refine Ew_of (pcₚ := 26) (fun _ => x_bipush (z := -50) rfl (by decide)) ?_
      exact w_ireturn rfl (k ((-50)) _ _ _ H O (SF_trans (SF_trans (SF_refl) (SF_glu (ι := []) hS10 eF10 (by decide +kernel)) (any_sub (lₚ := []) rfl)) (SF_glu (ι := []) hS12 eF12 (by decide +kernel)) (any_sub (lₚ := []) rfl)) (SA_trans (SA_trans (SA_refl) (SA_glu (ι := []) hA10 eA10 (by decide +kernel)) (any_subA (lₚ := []) rfl)) (SA_glu (ι := []) hA12 eA12 (by decide +kernel)) (any_subA (lₚ := []) rfl)) (show inr ((-50)) by omega))
    · refine Ew_of (pcₚ := 15) (fun _ => x_iload_n rfl rfl) ?_
      refine w_iflt (t := 24) rfl rfl (show inr (a3) by omega) (fun b14 => ?_) (fun b14 => ?_)
      · refine Ew_of (pcₚ := 26) (fun _ => x_bipush (z := -50) rfl (by decide)) ?_
        exact w_ireturn rfl (k ((-50)) _ _ _ H O (SF_trans (SF_trans (SF_refl) (SF_glu (ι := []) hS10 eF10 (by decide +kernel)) (any_sub (lₚ := []) rfl)) (SF_glu (ι := []) hS12 eF12 (by decide +kernel)) (any_sub (lₚ := []) rfl)) (SA_trans (SA_trans (SA_refl) (SA_glu (ι := []) hA10 eA10 (by decide +kernel)) (any_subA (lₚ := []) rfl)) (SA_glu (ι := []) hA12 eA12 (by decide +kernel)) (any_subA (lₚ := []) rfl)) (show inr ((-50)) by omega))
      · refine Ew_of (pcₚ := 19) (fun _ => x_iload_n rfl rfl) ?_
        refine Ew_of (pcₚ := 21) (fun _ => x_ldc (z := 65536) rfl (by decide)) ?_
        refine w_icmple (t := 27) rfl rfl (show inr (a3) by omega) (show inr (65536) by omega) (fun b15 => ?_) (fun b15 => ?_)
        · refine Ew_of (pcₚ := 28) (fun _ => x_aload_n rfl rfl) ?_
          refine v_g H (o := 0) (v := .ref (D 1)) rfl rfl rfl rfl rfl (vrf (((((show F12 0 0 = F10 0 0 from (eF12 0 0))).trans ((show F10 0 0 = F 0 0 from (eF10 0 0))))).trans (pf1))) ?_
          refine Ew_of (pcₚ := 32) (fun _ => x_iload_n rfl rfl) ?_
          refine v_lR H (o := 1) rfl rfl rfl rfl rfl (n := n1) (en1) (show 0 ≤ 0 ∧ 0 < n1 by have qh0 := HIDe r5; omega) (z := ((D 2 : Nat) : Int)) (v := .ref (D 2)) ((congrFun ((((show A12 1 = A10 1 from (eA12 1))).trans ((show A10 1 = A 1 from (eA10 1))))) 0).trans (pf2)) (vrf rfl) ?_
          refine w_stat24 rfl rfl (by rfl) (C33_Row (D := pul [2, 3] D) (N := pul [2, 3] N) (HW_sub H (VS_of (show vsub V20_c20_va V33_Row [2, 3] = true by decide +kernel))) (STC_out HT HE O) (((((show F12 2 0 = F10 2 0 from (eF12 2 0))).trans ((show F10 2 0 = F 2 0 from (eF10 2 0))))).trans (pf3)) (n3) (en3) (u2_1) (((((show F12 2 1 = F10 2 1 from (eF12 2 1))).trans ((show F10 2 1 = F 2 1 from (eF10 2 1)))).trans (eu2_1))) (show 0 ≤ (u2_1) ∧ (u2_1) ≤ (n3) ∧ (n3) ≤ 65536 by have qh0 := HIDe r1; have qh1 := HIDe r6; omega) (fun z16 σ16 F16ₚ A16ₚ Hₚ Oₚ hS16 hA16 pz16_0 pz16_1 => ⟨rfl, ?_⟩))
          refine v_back (c := c) (s := s) H (show vsub V20_c20_va V33_Row [2, 3] = true by decide +kernel) Hₚ Oₚ (fun F16 A16 H Oₚ eF16 eA16 => ?_)
          have O := OUT_trans O Oₚ
          -- PackHouse.formatOf
          refine Ew_of (pcₚ := 38) (fun _ => x_istore rfl) ?_
          refine Ew_of (pcₚ := 40) (fun _ => x_iload rfl rk_s) ?_
          refine w_ifeq (t := 49) rfl rfl (show inr (z16) by omega) (fun b17 => ?_) (fun b17 => ?_)
          · refine Ew_of (pcₚ := 51) (fun _ => x_bipush (z := -51) rfl (by decide)) ?_
            exact w_ireturn rfl (k ((-51)) _ _ _ H O (SF_trans (SF_trans (SF_trans (SF_refl) (SF_glu (ι := []) hS10 eF10 (by decide +kernel)) (any_sub (lₚ := []) rfl)) (SF_glu (ι := []) hS12 eF12 (by decide +kernel)) (any_sub (lₚ := []) rfl)) (SF_glu (ι := [2, 3]) hS16 eF16 (by decide +kernel)) (any_sub (lₚ := []) rfl)) (SA_trans (SA_trans (SA_trans (SA_refl) (SA_glu (ι := []) hA10 eA10 (by decide +kernel)) (any_subA (lₚ := []) rfl)) (SA_glu (ι := []) hA12 eA12 (by decide +kernel)) (any_subA (lₚ := []) rfl)) (SA_glu (ι := [2, 3]) hA16 eA16 (by decide +kernel)) (any_subA (lₚ := []) rfl)) (show inr ((-51)) by omega))
          · refine Ew_of (pcₚ := 45) (fun _ => x_iload rfl rk_s) ?_
            refine Ew_of (pcₚ := 46) (fun _ => x_iconst rfl) ?_
            refine w_icmpne (t := 52) rfl rfl (show inr (z16) by omega) (show inr (5) by omega) (fun b18 => ?_) (fun b18 => ?_)
            · refine Ew_of (pcₚ := 53) (fun _ => x_aload_n rfl (rk_o (rfl) rfl rfl)) ?_
              refine Ew_of (pcₚ := 54) (fun _ => x_iload_n rfl (rk_o (rfl) rfl rfl)) ?_
              refine Ew_of (pcₚ := 55) (fun _ => x_aload_n rfl (rk_o (rfl) rfl rfl)) ?_
              refine Ew_of (pcₚ := 56) (fun _ => x_aload_n rfl (rk_o (rfl) rfl rfl)) ?_
              refine v_g H (o := 0) (v := .ref (D 1)) rfl rfl rfl rfl rfl (vrf ((((((show F16 0 0 = F12 0 0 from (eF16 0 0))).trans ((show F12 0 0 = F10 0 0 from (eF12 0 0)))).trans ((show F10 0 0 = F 0 0 from (eF10 0 0))))).trans (pf1))) ?_
              refine Ew_of (pcₚ := 60) (fun _ => x_iload_n rfl (rk_o (rfl) rfl rfl)) ?_
              refine v_lR H (o := 1) rfl rfl rfl rfl rfl (n := n1) (en1) (show 0 ≤ 0 ∧ 0 < n1 by have qh0 := HIDe r5; omega) (z := ((D 2 : Nat) : Int)) (v := .ref (D 2)) ((congrFun (((((show A16 1 = A12 1 from (eA16 1))).trans ((show A12 1 = A10 1 from (eA12 1)))).trans ((show A10 1 = A 1 from (eA10 1))))) 0).trans (pf2)) (vrf rfl) ?_
              refine Ew_of (pcₚ := 63) (fun _ => x_iload rfl rk_s) ?_
              refine Ew_of (pcₚ := 64) (fun _ => x_iload_n rfl (rk_o (rfl) rfl rfl)) ?_
              refine Ew_of (pcₚ := 65) (fun _ => x_aload_n rfl (rk_o (rfl) rfl rfl)) ?_
              refine v_g H (o := 0) (v := .ref (D 10)) rfl rfl rfl rfl rfl (vrf ((((((show F16 0 14 = F12 0 14 from (eF16 0 14))).trans ((show F12 0 14 = F10 0 14 from (eF12 0 14)))).trans ((show F10 0 14 = F 0 14 from (eF10 0 14))))).trans (pf10))) ?_
              exact hc68 (a1) (z16) (a3) _ _ _ _   H O (SF_trans (SF_trans (SF_trans (SF_refl) (SF_glu (ι := []) hS10 eF10 (by decide +kernel)) (any_sub (lₚ := []) rfl)) (SF_glu (ι := []) hS12 eF12 (by decide +kernel)) (any_sub (lₚ := []) rfl)) (SF_glu (ι := [2, 3]) hS16 eF16 (by decide +kernel)) (any_sub (lₚ := []) rfl)) (SA_trans (SA_trans (SA_trans (SA_refl) (SA_glu (ι := []) hA10 eA10 (by decide +kernel)) (any_subA (lₚ := []) rfl)) (SA_glu (ι := []) hA12 eA12 (by decide +kernel)) (any_subA (lₚ := []) rfl)) (SA_glu (ι := [2, 3]) hA16 eA16 (by decide +kernel)) (any_subA (lₚ := []) rfl))     (show inr (a1) by omega) (show inr (z16) by omega) (show inr (a3) by omega) (show 0 ≤ (a1) ∧ (a1) ≤ 3 by omega) (show (z16) = 1 ∨ (z16) = 3 ∨ (z16) = 4 by omega) (show 0 ≤ (a3) ∧ (a3) ≤ 65536 by omega)
            · refine Ew_of (pcₚ := 51) (fun _ => x_bipush (z := -51) rfl (by decide)) ?_
              exact w_ireturn rfl (k ((-51)) _ _ _ H O (SF_trans (SF_trans (SF_trans (SF_refl) (SF_glu (ι := []) hS10 eF10 (by decide +kernel)) (any_sub (lₚ := []) rfl)) (SF_glu (ι := []) hS12 eF12 (by decide +kernel)) (any_sub (lₚ := []) rfl)) (SF_glu (ι := [2, 3]) hS16 eF16 (by decide +kernel)) (any_sub (lₚ := []) rfl)) (SA_trans (SA_trans (SA_trans (SA_refl) (SA_glu (ι := []) hA10 eA10 (by decide +kernel)) (any_subA (lₚ := []) rfl)) (SA_glu (ι := []) hA12 eA12 (by decide +kernel)) (any_subA (lₚ := []) rfl)) (SA_glu (ι := [2, 3]) hA16 eA16 (by decide +kernel)) (any_subA (lₚ := []) rfl)) (show inr ((-51)) by omega))
        · refine Ew_of (pcₚ := 26) (fun _ => x_bipush (z := -50) rfl (by decide)) ?_
          exact w_ireturn rfl (k ((-50)) _ _ _ H O (SF_trans (SF_trans (SF_refl) (SF_glu (ι := []) hS10 eF10 (by decide +kernel)) (any_sub (lₚ := []) rfl)) (SF_glu (ι := []) hS12 eF12 (by decide +kernel)) (any_sub (lₚ := []) rfl)) (SA_trans (SA_trans (SA_refl) (SA_glu (ι := []) hA10 eA10 (by decide +kernel)) (any_subA (lₚ := []) rfl)) (SA_glu (ι := []) hA12 eA12 (by decide +kernel)) (any_subA (lₚ := []) rfl)) (show inr ((-50)) by omega))
abbrev V15_c10_va : vV := [(0, 0, [(4, 0), (4, 0), (4, 0), (4, 0), (4, 0), (4, 0), (4, 0), (4, 0), (4, 0), (4, 0), (4, 0), (4, 0), (4, 0), (4, 0), (4, 0), (4, 0), (4, 0), (0, 0), (0, 0)]), (1, 4, []), (0, 7, [(4, 0), (0, 0), (1, 0), (0, 0), (0, 0)]), (1, 0, []), (0, 7, [(4, 0), (0, 0), (1, 0), (0, 0), (0, 0)]), (1, 0, []), (0, 7, [(4, 0), (0, 0), (1, 0), (0, 0), (0, 0)]), (1, 0, []), (0, 7, [(4, 0), (0, 0), (1, 0), (0, 0), (0, 0)]), (1, 0, []), (0, 4, [(4, 0), (4, 0), (0, 0), (4, 0), (4, 0)])]
/-- PackHouse.learn: this, this.rows, this.rows.0, this.rows.0.bytes, this.rows.1, this.rows.1.bytes, this.rows.2, this.rows.2.bytes, this.rows.3, this.rows.3.bytes, this.otherDictionary -/
theorem C15_c10_va {σE : rS} {D N : Nat → Nat} {F : hF} {A : hA} {d c s : Nat} {Q : wQ} (H : HW V15_c10_va σE D N F A)  (pf1 : F 0 0 = (D 1 : Int)) (pf2 : A 1 0 = (D 2 : Int)) (pf3 : F 2 0 = (D 3 : Int)) (pf4 : A 1 1 = (D 4 : Int)) (pf5 : F 4 0 = (D 5 : Int)) (pf6 : A 1 2 = (D 6 : Int)) (pf7 : F 6 0 = (D 7 : Int)) (pf8 : A 1 3 = (D 8 : Int)) (pf9 : F 8 0 = (D 9 : Int)) (pf10 : F 0 4 = (D 10 : Int)) (n1 : Int) (en1 : (N 1 : Int) = n1) (n3 : Int) (en3 : (N 3 : Int) = n3) (n5 : Int) (en5 : (N 5 : Int) = n5) (n7 : Int) (en7 : (N 7 : Int) = n7) (n9 : Int) (en9 : (N 9 : Int) = n9) (u2_1 : Int) (eu2_1 : F 2 1 = u2_1) (u4_1 : Int) (eu4_1 : F 4 1 = u4_1) (u6_1 : Int) (eu6_1 : F 6 1 = u6_1) (u8_1 : Int) (eu8_1 : F 8 1 = u8_1) (h0 : inr (0)) (h1 : (n1) = 4) (h2 : 0 ≤ (u2_1) ∧ (u2_1) ≤ (n3) ∧ (n3) ≤ 65536) (h3 : 0 ≤ (u4_1) ∧ (u4_1) ≤ (n5) ∧ (n5) ≤ 65536) (h4 : 0 ≤ (u6_1) ∧ (u6_1) ≤ (n7) ∧ (n7) ≤ 65536) (h5 : 0 ≤ (u8_1) ∧ (u8_1) ≤ (n9) ∧ (n9) ≤ 65536) (hc20 : ∀ (ls : rO) (σ : rS) (F_c20 : hF) (A_c20 : hA) , rlook ls 0 = some (.ref (D 0)) → HW V15_c10_va σ D N F_c20 A_c20 → OUT (V15_c10_va).length D N σE c s D N σ c s → SF [] F F_c20 → SA [] A A_c20 → Ew 15 (d + 1) 20 ls [.ref (D 2), .ref (D 10)] σ c s Q) (k : ∀ (z : Int) (σ : rS) (Fₚ : hF) (Aₚ : hA), HW V15_c10_va σ D N Fₚ Aₚ → OUT (V15_c10_va).length D N σE c s D N σ c s → SF [] F Fₚ → SA [] A Aₚ → (inr (z)) → Q (some (I z)) σ c s) : Ew 15 (d + 1) 0 (rargs 0 [.ref (D 0), I 0]) [] σE c s Q := by
  have O := OUT_refl (n := (V15_c10_va).length) (D := D) (N := N) (σ := σE) (c := c) (s := s)
  have HE := H
  have r1 : HID ((-2147483648 : Int) ≤ u2_1 ∧ u2_1 ≤ 2147483647) := krg_e (show (-2147483648 : Int) ≤ F 2 1 ∧ F 2 1 ≤ 2147483647 from H.krg 2 1 (by decide)) (show F 2 1 = u2_1 from (eu2_1))
  have r2 : HID ((-2147483648 : Int) ≤ u4_1 ∧ u4_1 ≤ 2147483647) := krg_e (show (-2147483648 : Int) ≤ F 4 1 ∧ F 4 1 ≤ 2147483647 from H.krg 4 1 (by decide)) (show F 4 1 = u4_1 from (eu4_1))
  have r3 : HID ((-2147483648 : Int) ≤ u6_1 ∧ u6_1 ≤ 2147483647) := krg_e (show (-2147483648 : Int) ≤ F 6 1 ∧ F 6 1 ≤ 2147483647 from H.krg 6 1 (by decide)) (show F 6 1 = u6_1 from (eu6_1))
  have r4 : HID ((-2147483648 : Int) ≤ u8_1 ∧ u8_1 ≤ 2147483647) := krg_e (show (-2147483648 : Int) ≤ F 8 1 ∧ F 8 1 ≤ 2147483647 from H.krg 8 1 (by decide)) (show F 8 1 = u8_1 from (eu8_1))
  replace pf1 := HIDm pf1
  replace pf2 := HIDm pf2
  replace pf3 := HIDm pf3
  replace pf4 := HIDm pf4
  replace pf5 := HIDm pf5
  replace pf6 := HIDm pf6
  replace pf7 := HIDm pf7
  replace pf8 := HIDm pf8
  replace pf9 := HIDm pf9
  replace pf10 := HIDm pf10
  replace en1 := HIDm en1
  replace en3 := HIDm en3
  replace en5 := HIDm en5
  replace en7 := HIDm en7
  replace en9 := HIDm en9
  replace eu2_1 := HIDm eu2_1
  replace eu4_1 := HIDm eu4_1
  replace eu6_1 := HIDm eu6_1
  replace eu8_1 := HIDm eu8_1
  have r5 : HID ((0 : Int) ≤ n1 ∧ n1 ≤ 1000000) := nrng (H.nle 1 (by decide)) (show (N 1 : Int) = n1 from en1)
  have r6 : HID ((0 : Int) ≤ n3 ∧ n3 ≤ 1000000) := nrng (H.nle 3 (by decide)) (show (N 3 : Int) = n3 from en3)
  have r7 : HID ((0 : Int) ≤ n5 ∧ n5 ≤ 1000000) := nrng (H.nle 5 (by decide)) (show (N 5 : Int) = n5 from en5)
  have r8 : HID ((0 : Int) ≤ n7 ∧ n7 ≤ 1000000) := nrng (H.nle 7 (by decide)) (show (N 7 : Int) = n7 from en7)
  have r9 : HID ((0 : Int) ≤ n9 ∧ n9 ≤ 1000000) := nrng (H.nle 9 (by decide)) (show (N 9 : Int) = n9 from en9)
  refine Ew_of (pcₚ := 1) (fun _ => x_iload_n rfl rfl) ?_
  refine w_stat24 rfl rfl (by rfl) (C24 (D := pul [] D) (N := pul [] N) (HW_sub H (VS_of (show vsub V15_c10_va V24 [] = true by decide +kernel))) (show inr (0) by omega) (fun z10 σ10 F10ₚ A10ₚ Hₚ Oₚ hS10 hA10 pz10_0 pz10_1 => ⟨rretB rfl pz10_0, ?_⟩))
  refine v_back (c := c) (s := s) H (show vsub V15_c10_va V24 [] = true by decide +kernel) Hₚ Oₚ (fun F10 A10 H Oₚ eF10 eA10 => ?_)
  have O := OUT_trans O Oₚ
  -- PackHouse.isRow
  refine w_ifne (t := 10) rfl rfl (show inr (z10) by omega) (fun b11 => ?_) (fun b11 => ?_)
  · refine Ew_of (pcₚ := 11) (fun _ => x_aload_n rfl rfl) ?_
    refine v_g H (o := 0) (v := .ref (D 10)) rfl rfl rfl rfl rfl (vrf ((((show F10 0 4 = F 0 4 from (eF10 0 4)))).trans (pf10))) ?_
    refine Ew_of (pcₚ := 15) (fun _ => x_aload_n rfl rfl) ?_
    refine v_g H (o := 0) (v := .ref (D 1)) rfl rfl rfl rfl rfl (vrf ((((show F10 0 0 = F 0 0 from (eF10 0 0)))).trans (pf1))) ?_
    refine Ew_of (pcₚ := 19) (fun _ => x_iload_n rfl rfl) ?_
    refine v_lR H (o := 1) rfl rfl rfl rfl rfl (n := n1) (en1) (show 0 ≤ 0 ∧ 0 < n1 by have qh0 := HIDe r5; omega) (z := ((D 2 : Nat) : Int)) (v := .ref (D 2)) ((congrFun (((show A10 1 = A 1 from (eA10 1)))) 0).trans (pf2)) (vrf rfl) ?_
    exact hc20  _ _ _ _  (rfl) H O (SF_trans (SF_refl) (SF_glu (ι := []) hS10 eF10 (by decide +kernel)) (any_sub (lₚ := []) rfl)) (SA_trans (SA_refl) (SA_glu (ι := []) hA10 eA10 (by decide +kernel)) (any_subA (lₚ := []) rfl))     
  · refine Ew_of (pcₚ := 9) (fun _ => x_bipush (z := -5) rfl (by decide)) ?_
    exact w_ireturn rfl (k ((-5)) _ _ _ H O (SF_trans (SF_refl) (SF_glu (ι := []) hS10 eF10 (by decide +kernel)) (any_sub (lₚ := []) rfl)) (SA_trans (SA_refl) (SA_glu (ι := []) hA10 eA10 (by decide +kernel)) (any_subA (lₚ := []) rfl)) (show inr ((-5)) by omega))
abbrev V18_c21_va : vV := [(0, 0, [(4, 0), (4, 0), (4, 0), (4, 0), (4, 0), (4, 0), (4, 0), (4, 0), (4, 0), (4, 0), (4, 0), (4, 0), (4, 0), (4, 0), (4, 0), (4, 0), (4, 0), (0, 0), (0, 0)]), (1, 4, []), (0, 7, [(4, 0), (0, 0), (1, 0), (0, 0), (0, 0)]), (1, 0, []), (0, 7, [(4, 0), (0, 0), (1, 0), (0, 0), (0, 0)]), (1, 0, []), (0, 7, [(4, 0), (0, 0), (1, 0), (0, 0), (0, 0)]), (1, 0, []), (0, 7, [(4, 0), (0, 0), (1, 0), (0, 0), (0, 0)]), (1, 0, []), (1, 1, [])]
/-- PackHouse.read: this, this.rows, this.rows.0, this.rows.0.bytes, this.rows.1, this.rows.1.bytes, this.rows.2, this.rows.2.bytes, this.rows.3, this.rows.3.bytes, this.readCounts -/
theorem C18_c21_va {σE : rS} {D N : Nat → Nat} {F : hF} {A : hA} {d c s : Nat} {Q : wQ} (H : HW V18_c21_va σE D N F A) {a1 a3 a4 : Int} (pf1 : F 0 0 = (D 1 : Int)) (pf2 : A 1 0 = (D 2 : Int)) (pf3 : F 2 0 = (D 3 : Int)) (pf4 : A 1 1 = (D 4 : Int)) (pf5 : F 4 0 = (D 5 : Int)) (pf6 : A 1 2 = (D 6 : Int)) (pf7 : F 6 0 = (D 7 : Int)) (pf8 : A 1 3 = (D 8 : Int)) (pf9 : F 8 0 = (D 9 : Int)) (pf10 : F 0 14 = (D 10 : Int)) (n1 : Int) (en1 : (N 1 : Int) = n1) (n3 : Int) (en3 : (N 3 : Int) = n3) (n5 : Int) (en5 : (N 5 : Int) = n5) (n7 : Int) (en7 : (N 7 : Int) = n7) (n9 : Int) (en9 : (N 9 : Int) = n9) (n10 : Int) (en10 : (N 10 : Int) = n10) (u2_1 : Int) (eu2_1 : F 2 1 = u2_1) (u4_1 : Int) (eu4_1 : F 4 1 = u4_1) (u6_1 : Int) (eu6_1 : F 6 1 = u6_1) (u8_1 : Int) (eu8_1 : F 8 1 = u8_1) (h0 : inr (a1)) (h1 : inr (1)) (h2 : inr (a3)) (h3 : inr (a4)) (h4 : (n1) = 4) (h5 : 0 ≤ (u2_1) ∧ (u2_1) ≤ (n3) ∧ (n3) ≤ 65536) (h6 : 0 ≤ (u4_1) ∧ (u4_1) ≤ (n5) ∧ (n5) ≤ 65536) (h7 : 0 ≤ (u6_1) ∧ (u6_1) ≤ (n7) ∧ (n7) ≤ 65536) (h8 : 0 ≤ (u8_1) ∧ (u8_1) ≤ (n9) ∧ (n9) ≤ 65536) (hc54 : ∀ (tc54_1 : Int), ∀ (tc54_4 : Int), ∀ (tc54_5 : Int), ∀ (ls : rO) (σ : rS) (F_c54 : hF) (A_c54 : hA) , HW V18_c21_va σ D N F_c54 A_c54 → OUT (V18_c21_va).length D N σE c s D N σ c s → SF [] F F_c54 → SA [] A A_c54 → (inr (tc54_1)) → (inr (tc54_4)) → (inr (tc54_5)) → (0 ≤ (tc54_1) ∧ (tc54_1) ≤ 3) → (0 ≤ (tc54_4) ∧ (tc54_4) ≤ 4) → (0 ≤ (tc54_5) ∧ (tc54_5) ≤ 65536) → Ew 18 (d + 1) 54 ls [.ref (D 10), I (tc54_5), I (tc54_4), .ref (D 4), .ref (D 0), I (tc54_1), .ref (D 0)] σ c s Q) (k : ∀ (z : Int) (σ : rS) (Fₚ : hF) (Aₚ : hA), HW V18_c21_va σ D N Fₚ Aₚ → OUT (V18_c21_va).length D N σE c s D N σ c s → SF [] F Fₚ → SA [] A Aₚ → (inr (z)) → Q (some (I z)) σ c s) : Ew 18 (d + 1) 0 (rargs 0 [.ref (D 0), I a1, I 1, I a3, I a4]) [] σE c s Q := by
  have O := OUT_refl (n := (V18_c21_va).length) (D := D) (N := N) (σ := σE) (c := c) (s := s)
  have HE := H
  have r1 : HID ((-2147483648 : Int) ≤ u2_1 ∧ u2_1 ≤ 2147483647) := krg_e (show (-2147483648 : Int) ≤ F 2 1 ∧ F 2 1 ≤ 2147483647 from H.krg 2 1 (by decide)) (show F 2 1 = u2_1 from (eu2_1))
  have r2 : HID ((-2147483648 : Int) ≤ u4_1 ∧ u4_1 ≤ 2147483647) := krg_e (show (-2147483648 : Int) ≤ F 4 1 ∧ F 4 1 ≤ 2147483647 from H.krg 4 1 (by decide)) (show F 4 1 = u4_1 from (eu4_1))
  have r3 : HID ((-2147483648 : Int) ≤ u6_1 ∧ u6_1 ≤ 2147483647) := krg_e (show (-2147483648 : Int) ≤ F 6 1 ∧ F 6 1 ≤ 2147483647 from H.krg 6 1 (by decide)) (show F 6 1 = u6_1 from (eu6_1))
  have r4 : HID ((-2147483648 : Int) ≤ u8_1 ∧ u8_1 ≤ 2147483647) := krg_e (show (-2147483648 : Int) ≤ F 8 1 ∧ F 8 1 ≤ 2147483647 from H.krg 8 1 (by decide)) (show F 8 1 = u8_1 from (eu8_1))
  replace pf1 := HIDm pf1
  replace pf2 := HIDm pf2
  replace pf3 := HIDm pf3
  replace pf4 := HIDm pf4
  replace pf5 := HIDm pf5
  replace pf6 := HIDm pf6
  replace pf7 := HIDm pf7
  replace pf8 := HIDm pf8
  replace pf9 := HIDm pf9
  replace pf10 := HIDm pf10
  replace en1 := HIDm en1
  replace en3 := HIDm en3
  replace en5 := HIDm en5
  replace en7 := HIDm en7
  replace en9 := HIDm en9
  replace en10 := HIDm en10
  replace eu2_1 := HIDm eu2_1
  replace eu4_1 := HIDm eu4_1
  replace eu6_1 := HIDm eu6_1
  replace eu8_1 := HIDm eu8_1
  have r5 : HID ((0 : Int) ≤ n1 ∧ n1 ≤ 1000000) := nrng (H.nle 1 (by decide)) (show (N 1 : Int) = n1 from en1)
  have r6 : HID ((0 : Int) ≤ n3 ∧ n3 ≤ 1000000) := nrng (H.nle 3 (by decide)) (show (N 3 : Int) = n3 from en3)
  have r7 : HID ((0 : Int) ≤ n5 ∧ n5 ≤ 1000000) := nrng (H.nle 5 (by decide)) (show (N 5 : Int) = n5 from en5)
  have r8 : HID ((0 : Int) ≤ n7 ∧ n7 ≤ 1000000) := nrng (H.nle 7 (by decide)) (show (N 7 : Int) = n7 from en7)
  have r9 : HID ((0 : Int) ≤ n9 ∧ n9 ≤ 1000000) := nrng (H.nle 9 (by decide)) (show (N 9 : Int) = n9 from en9)
  refine Ew_of (pcₚ := 1) (fun _ => x_iload_n rfl rfl) ?_
  refine w_stat24 rfl rfl (by rfl) (C24 (D := pul [] D) (N := pul [] N) (HW_sub H (VS_of (show vsub V18_c21_va V24 [] = true by decide +kernel))) (show inr (a1) by omega) (fun z10 σ10 F10ₚ A10ₚ Hₚ Oₚ hS10 hA10 pz10_0 pz10_1 => ⟨rretB rfl pz10_0, ?_⟩))
  refine v_back (c := c) (s := s) H (show vsub V18_c21_va V24 [] = true by decide +kernel) Hₚ Oₚ (fun F10 A10 H Oₚ eF10 eA10 => ?_)
  have O := OUT_trans O Oₚ
  -- PackHouse.isRow
  refine w_ifeq (t := 35) rfl rfl (show inr (z10) by omega) (fun b11 => ?_) (fun b11 => ?_)
  · refine Ew_of (pcₚ := 37) (fun _ => x_bipush (z := -50) rfl (by decide)) ?_
    exact w_ireturn rfl (k ((-50)) _ _ _ H O (SF_trans (SF_refl) (SF_glu (ι := []) hS10 eF10 (by decide +kernel)) (any_sub (lₚ := []) rfl)) (SA_trans (SA_refl) (SA_glu (ι := []) hA10 eA10 (by decide +kernel)) (any_subA (lₚ := []) rfl)) (show inr ((-50)) by omega))
  · refine Ew_of (pcₚ := 8) (fun _ => x_iload_n rfl rfl) ?_
    refine w_stat24 rfl rfl (by rfl) (C24 (D := pul [] D) (N := pul [] N) (HW_sub H (VS_of (show vsub V18_c21_va V24 [] = true by decide +kernel))) (show inr (1) by omega) (fun z12 σ12 F12ₚ A12ₚ Hₚ Oₚ hS12 hA12 pz12_0 pz12_1 => ⟨rretB rfl pz12_0, ?_⟩))
    refine v_back (c := c) (s := s) H (show vsub V18_c21_va V24 [] = true by decide +kernel) Hₚ Oₚ (fun F12 A12 H Oₚ eF12 eA12 => ?_)
    have O := OUT_trans O Oₚ
    -- PackHouse.isRow
    refine w_ifeq (t := 35) rfl rfl (show inr (z12) by omega) (fun b13 => ?_) (fun b13 => ?_)
    · refine Ew_of (pcₚ := 37) (fun _ => x_bipush (z := -50) rfl (by decide)) ?_
      exact w_ireturn rfl (k ((-50)) _ _ _ H O (SF_trans (SF_trans (SF_refl) (SF_glu (ι := []) hS10 eF10 (by decide +kernel)) (any_sub (lₚ := []) rfl)) (SF_glu (ι := []) hS12 eF12 (by decide +kernel)) (any_sub (lₚ := []) rfl)) (SA_trans (SA_trans (SA_refl) (SA_glu (ι := []) hA10 eA10 (by decide +kernel)) (any_subA (lₚ := []) rfl)) (SA_glu (ι := []) hA12 eA12 (by decide +kernel)) (any_subA (lₚ := []) rfl)) (show inr ((-50)) by omega))
    · refine Ew_of (pcₚ := 15) (fun _ => x_iload_n rfl rfl) ?_
      refine w_iflt (t := 35) rfl rfl (show inr (a3) by omega) (fun b14 => ?_) (fun b14 => ?_)
      · refine Ew_of (pcₚ := 37) (fun _ => x_bipush (z := -50) rfl (by decide)) ?_
        exact w_ireturn rfl (k ((-50)) _ _ _ H O (SF_trans (SF_trans (SF_refl) (SF_glu (ι := []) hS10 eF10 (by decide +kernel)) (any_sub (lₚ := []) rfl)) (SF_glu (ι := []) hS12 eF12 (by decide +kernel)) (any_sub (lₚ := []) rfl)) (SA_trans (SA_trans (SA_refl) (SA_glu (ι := []) hA10 eA10 (by decide +kernel)) (any_subA (lₚ := []) rfl)) (SA_glu (ι := []) hA12 eA12 (by decide +kernel)) (any_subA (lₚ := []) rfl)) (show inr ((-50)) by omega))
      · refine Ew_of (pcₚ := 19) (fun _ => x_iload_n rfl rfl) ?_
        refine Ew_of (pcₚ := 20) (fun _ => x_iconst rfl) ?_
        refine w_icmpgt (t := 35) rfl rfl (show inr (a3) by omega) (show inr (4) by omega) (fun b15 => ?_) (fun b15 => ?_)
        · refine Ew_of (pcₚ := 37) (fun _ => x_bipush (z := -50) rfl (by decide)) ?_
          exact w_ireturn rfl (k ((-50)) _ _ _ H O (SF_trans (SF_trans (SF_refl) (SF_glu (ι := []) hS10 eF10 (by decide +kernel)) (any_sub (lₚ := []) rfl)) (SF_glu (ι := []) hS12 eF12 (by decide +kernel)) (any_sub (lₚ := []) rfl)) (SA_trans (SA_trans (SA_refl) (SA_glu (ι := []) hA10 eA10 (by decide +kernel)) (any_subA (lₚ := []) rfl)) (SA_glu (ι := []) hA12 eA12 (by decide +kernel)) (any_subA (lₚ := []) rfl)) (show inr ((-50)) by omega))
        · refine Ew_of (pcₚ := 25) (fun _ => x_iload rfl rfl) ?_
          refine w_iflt (t := 35) rfl rfl (show inr (a4) by omega) (fun b16 => ?_) (fun b16 => ?_)
          · refine Ew_of (pcₚ := 37) (fun _ => x_bipush (z := -50) rfl (by decide)) ?_
            exact w_ireturn rfl (k ((-50)) _ _ _ H O (SF_trans (SF_trans (SF_refl) (SF_glu (ι := []) hS10 eF10 (by decide +kernel)) (any_sub (lₚ := []) rfl)) (SF_glu (ι := []) hS12 eF12 (by decide +kernel)) (any_sub (lₚ := []) rfl)) (SA_trans (SA_trans (SA_refl) (SA_glu (ι := []) hA10 eA10 (by decide +kernel)) (any_subA (lₚ := []) rfl)) (SA_glu (ι := []) hA12 eA12 (by decide +kernel)) (any_subA (lₚ := []) rfl)) (show inr ((-50)) by omega))
          · refine Ew_of (pcₚ := 30) (fun _ => x_iload rfl rfl) ?_
            refine Ew_of (pcₚ := 32) (fun _ => x_ldc (z := 65536) rfl (by decide)) ?_
            refine w_icmple (t := 38) rfl rfl (show inr (a4) by omega) (show inr (65536) by omega) (fun b17 => ?_) (fun b17 => ?_)
            · refine Ew_of (pcₚ := 39) (fun _ => x_aload_n rfl rfl) ?_
              refine Ew_of (pcₚ := 40) (fun _ => x_iload_n rfl rfl) ?_
              refine Ew_of (pcₚ := 41) (fun _ => x_aload_n rfl rfl) ?_
              refine Ew_of (pcₚ := 42) (fun _ => x_aload_n rfl rfl) ?_
              refine v_g H (o := 0) (v := .ref (D 1)) rfl rfl rfl rfl rfl (vrf (((((show F12 0 0 = F10 0 0 from (eF12 0 0))).trans ((show F10 0 0 = F 0 0 from (eF10 0 0))))).trans (pf1))) ?_
              refine Ew_of (pcₚ := 46) (fun _ => x_iload_n rfl rfl) ?_
              refine v_lR H (o := 1) rfl rfl rfl rfl rfl (n := n1) (en1) (show 0 ≤ 1 ∧ 1 < n1 by have qh0 := HIDe r5; omega) (z := ((D 4 : Nat) : Int)) (v := .ref (D 4)) ((congrFun ((((show A12 1 = A10 1 from (eA12 1))).trans ((show A10 1 = A 1 from (eA10 1))))) 1).trans (pf4)) (vrf rfl) ?_
              refine Ew_of (pcₚ := 48) (fun _ => x_iload_n rfl rfl) ?_
              refine Ew_of (pcₚ := 50) (fun _ => x_iload rfl rfl) ?_
              refine Ew_of (pcₚ := 51) (fun _ => x_aload_n rfl rfl) ?_
              refine v_g H (o := 0) (v := .ref (D 10)) rfl rfl rfl rfl rfl (vrf (((((show F12 0 14 = F10 0 14 from (eF12 0 14))).trans ((show F10 0 14 = F 0 14 from (eF10 0 14))))).trans (pf10))) ?_
              exact hc54 (a1) (a3) (a4) _ _ _ _   H O (SF_trans (SF_trans (SF_refl) (SF_glu (ι := []) hS10 eF10 (by decide +kernel)) (any_sub (lₚ := []) rfl)) (SF_glu (ι := []) hS12 eF12 (by decide +kernel)) (any_sub (lₚ := []) rfl)) (SA_trans (SA_trans (SA_refl) (SA_glu (ι := []) hA10 eA10 (by decide +kernel)) (any_subA (lₚ := []) rfl)) (SA_glu (ι := []) hA12 eA12 (by decide +kernel)) (any_subA (lₚ := []) rfl))     (show inr (a1) by omega) (show inr (a3) by omega) (show inr (a4) by omega) (show 0 ≤ (a1) ∧ (a1) ≤ 3 by omega) (show 0 ≤ (a3) ∧ (a3) ≤ 4 by omega) (show 0 ≤ (a4) ∧ (a4) ≤ 65536 by omega)
            · refine Ew_of (pcₚ := 37) (fun _ => x_bipush (z := -50) rfl (by decide)) ?_
              exact w_ireturn rfl (k ((-50)) _ _ _ H O (SF_trans (SF_trans (SF_refl) (SF_glu (ι := []) hS10 eF10 (by decide +kernel)) (any_sub (lₚ := []) rfl)) (SF_glu (ι := []) hS12 eF12 (by decide +kernel)) (any_sub (lₚ := []) rfl)) (SA_trans (SA_trans (SA_refl) (SA_glu (ι := []) hA10 eA10 (by decide +kernel)) (any_subA (lₚ := []) rfl)) (SA_glu (ι := []) hA12 eA12 (by decide +kernel)) (any_subA (lₚ := []) rfl)) (show inr ((-50)) by omega))
abbrev V20_c21_va : vV := [(0, 0, [(4, 0), (4, 0), (4, 0), (4, 0), (4, 0), (4, 0), (4, 0), (4, 0), (4, 0), (4, 0), (4, 0), (4, 0), (4, 0), (4, 0), (4, 0), (4, 0), (4, 0), (0, 0), (0, 0)]), (1, 4, []), (0, 7, [(4, 0), (0, 0), (1, 0), (0, 0), (0, 0)]), (1, 0, []), (0, 7, [(4, 0), (0, 0), (1, 0), (0, 0), (0, 0)]), (1, 0, []), (0, 7, [(4, 0), (0, 0), (1, 0), (0, 0), (0, 0)]), (1, 0, []), (0, 7, [(4, 0), (0, 0), (1, 0), (0, 0), (0, 0)]), (1, 0, []), (1, 1, [])]
/-- PackHouse.open: this, this.rows, this.rows.0, this.rows.0.bytes, this.rows.1, this.rows.1.bytes, this.rows.2, this.rows.2.bytes, this.rows.3, this.rows.3.bytes, this.readCounts -/
theorem C20_c21_va {σE : rS} {D N : Nat → Nat} {F : hF} {A : hA} {d c s : Nat} {Q : wQ} (H : HW V20_c21_va σE D N F A) (HT : STC σE) {a1 a3 : Int} (pf1 : F 0 0 = (D 1 : Int)) (pf2 : A 1 0 = (D 2 : Int)) (pf3 : F 2 0 = (D 3 : Int)) (pf4 : A 1 1 = (D 4 : Int)) (pf5 : F 4 0 = (D 5 : Int)) (pf6 : A 1 2 = (D 6 : Int)) (pf7 : F 6 0 = (D 7 : Int)) (pf8 : A 1 3 = (D 8 : Int)) (pf9 : F 8 0 = (D 9 : Int)) (pf10 : F 0 14 = (D 10 : Int)) (n1 : Int) (en1 : (N 1 : Int) = n1) (n3 : Int) (en3 : (N 3 : Int) = n3) (n5 : Int) (en5 : (N 5 : Int) = n5) (n7 : Int) (en7 : (N 7 : Int) = n7) (n9 : Int) (en9 : (N 9 : Int) = n9) (n10 : Int) (en10 : (N 10 : Int) = n10) (u2_1 : Int) (eu2_1 : F 2 1 = u2_1) (u4_1 : Int) (eu4_1 : F 4 1 = u4_1) (u6_1 : Int) (eu6_1 : F 6 1 = u6_1) (u8_1 : Int) (eu8_1 : F 8 1 = u8_1) (h0 : inr (a1)) (h1 : inr (1)) (h2 : inr (a3)) (h3 : (n1) = 4) (h4 : 0 ≤ (u2_1) ∧ (u2_1) ≤ (n3) ∧ (n3) ≤ 65536) (h5 : 0 ≤ (u4_1) ∧ (u4_1) ≤ (n5) ∧ (n5) ≤ 65536) (h6 : 0 ≤ (u6_1) ∧ (u6_1) ≤ (n7) ∧ (n7) ≤ 65536) (h7 : 0 ≤ (u8_1) ∧ (u8_1) ≤ (n9) ∧ (n9) ≤ 65536) (hc68 : ∀ (tc68_1 : Int), ∀ (tc68_4 : Int), ∀ (tc68_5 : Int), ∀ (ls : rO) (σ : rS) (F_c68 : hF) (A_c68 : hA) , HW V20_c21_va σ D N F_c68 A_c68 → OUT (V20_c21_va).length D N σE c s D N σ c s → SF [] F F_c68 → SA [] A A_c68 → (inr (tc68_1)) → (inr (tc68_4)) → (inr (tc68_5)) → (0 ≤ (tc68_1) ∧ (tc68_1) ≤ 3) → ((tc68_4) = 1 ∨ (tc68_4) = 3 ∨ (tc68_4) = 4) → (0 ≤ (tc68_5) ∧ (tc68_5) ≤ 65536) → Ew 20 (d + 3) 68 ls [.ref (D 10), I (tc68_5), I (tc68_4), .ref (D 4), .ref (D 0), I (tc68_1), .ref (D 0)] σ c s Q) (k : ∀ (z : Int) (σ : rS) (Fₚ : hF) (Aₚ : hA), HW V20_c21_va σ D N Fₚ Aₚ → OUT (V20_c21_va).length D N σE c s D N σ c s → SF [] F Fₚ → SA [] A Aₚ → (inr (z)) → Q (some (I z)) σ c s) : Ew 20 (d + 3) 0 (rargs 0 [.ref (D 0), I a1, I 1, I a3]) [] σE c s Q := by
  have O := OUT_refl (n := (V20_c21_va).length) (D := D) (N := N) (σ := σE) (c := c) (s := s)
  have HE := H
  have r1 : HID ((-2147483648 : Int) ≤ u2_1 ∧ u2_1 ≤ 2147483647) := krg_e (show (-2147483648 : Int) ≤ F 2 1 ∧ F 2 1 ≤ 2147483647 from H.krg 2 1 (by decide)) (show F 2 1 = u2_1 from (eu2_1))
  have r2 : HID ((-2147483648 : Int) ≤ u4_1 ∧ u4_1 ≤ 2147483647) := krg_e (show (-2147483648 : Int) ≤ F 4 1 ∧ F 4 1 ≤ 2147483647 from H.krg 4 1 (by decide)) (show F 4 1 = u4_1 from (eu4_1))
  have r3 : HID ((-2147483648 : Int) ≤ u6_1 ∧ u6_1 ≤ 2147483647) := krg_e (show (-2147483648 : Int) ≤ F 6 1 ∧ F 6 1 ≤ 2147483647 from H.krg 6 1 (by decide)) (show F 6 1 = u6_1 from (eu6_1))
  have r4 : HID ((-2147483648 : Int) ≤ u8_1 ∧ u8_1 ≤ 2147483647) := krg_e (show (-2147483648 : Int) ≤ F 8 1 ∧ F 8 1 ≤ 2147483647 from H.krg 8 1 (by decide)) (show F 8 1 = u8_1 from (eu8_1))
  replace pf1 := HIDm pf1
  replace pf2 := HIDm pf2
  replace pf3 := HIDm pf3
  replace pf4 := HIDm pf4
  replace pf5 := HIDm pf5
  replace pf6 := HIDm pf6
  replace pf7 := HIDm pf7
  replace pf8 := HIDm pf8
  replace pf9 := HIDm pf9
  replace pf10 := HIDm pf10
  replace en1 := HIDm en1
  replace en3 := HIDm en3
  replace en5 := HIDm en5
  replace en7 := HIDm en7
  replace en9 := HIDm en9
  replace en10 := HIDm en10
  replace eu2_1 := HIDm eu2_1
  replace eu4_1 := HIDm eu4_1
  replace eu6_1 := HIDm eu6_1
  replace eu8_1 := HIDm eu8_1
  have r5 : HID ((0 : Int) ≤ n1 ∧ n1 ≤ 1000000) := nrng (H.nle 1 (by decide)) (show (N 1 : Int) = n1 from en1)
  have r6 : HID ((0 : Int) ≤ n3 ∧ n3 ≤ 1000000) := nrng (H.nle 3 (by decide)) (show (N 3 : Int) = n3 from en3)
  have r7 : HID ((0 : Int) ≤ n5 ∧ n5 ≤ 1000000) := nrng (H.nle 5 (by decide)) (show (N 5 : Int) = n5 from en5)
  have r8 : HID ((0 : Int) ≤ n7 ∧ n7 ≤ 1000000) := nrng (H.nle 7 (by decide)) (show (N 7 : Int) = n7 from en7)
  have r9 : HID ((0 : Int) ≤ n9 ∧ n9 ≤ 1000000) := nrng (H.nle 9 (by decide)) (show (N 9 : Int) = n9 from en9)
  refine Ew_of (pcₚ := 1) (fun _ => x_iload_n rfl rfl) ?_
  refine w_stat24 rfl rfl (by rfl) (C24 (D := pul [] D) (N := pul [] N) (HW_sub H (VS_of (show vsub V20_c21_va V24 [] = true by decide +kernel))) (show inr (a1) by omega) (fun z10 σ10 F10ₚ A10ₚ Hₚ Oₚ hS10 hA10 pz10_0 pz10_1 => ⟨rretB rfl pz10_0, ?_⟩))
  refine v_back (c := c) (s := s) H (show vsub V20_c21_va V24 [] = true by decide +kernel) Hₚ Oₚ (fun F10 A10 H Oₚ eF10 eA10 => ?_)
  have O := OUT_trans O Oₚ
  -- PackHouse.isRow
  refine w_ifeq (t := 24) rfl rfl (show inr (z10) by omega) (fun b11 => ?_) (fun b11 => ?_)
  · refine Ew_of (pcₚ := 26) (fun _ => x_bipush (z := -50) rfl (by decide)) ?_
    exact w_ireturn rfl (k ((-50)) _ _ _ H O (SF_trans (SF_refl) (SF_glu (ι := []) hS10 eF10 (by decide +kernel)) (any_sub (lₚ := []) rfl)) (SA_trans (SA_refl) (SA_glu (ι := []) hA10 eA10 (by decide +kernel)) (any_subA (lₚ := []) rfl)) (show inr ((-50)) by omega))
  · refine Ew_of (pcₚ := 8) (fun _ => x_iload_n rfl rfl) ?_
    refine w_stat24 rfl rfl (by rfl) (C24 (D := pul [] D) (N := pul [] N) (HW_sub H (VS_of (show vsub V20_c21_va V24 [] = true by decide +kernel))) (show inr (1) by omega) (fun z12 σ12 F12ₚ A12ₚ Hₚ Oₚ hS12 hA12 pz12_0 pz12_1 => ⟨rretB rfl pz12_0, ?_⟩))
    refine v_back (c := c) (s := s) H (show vsub V20_c21_va V24 [] = true by decide +kernel) Hₚ Oₚ (fun F12 A12 H Oₚ eF12 eA12 => ?_)
    have O := OUT_trans O Oₚ
    -- PackHouse.isRow
    refine w_ifeq (t := 24) rfl rfl (show inr (z12) by omega) (fun b13 => ?_) (fun b13 => ?_)
    · refine Ew_of (pcₚ := 26) (fun _ => x_bipush (z := -50) rfl (by decide)) ?_
      exact w_ireturn rfl (k ((-50)) _ _ _ H O (SF_trans (SF_trans (SF_refl) (SF_glu (ι := []) hS10 eF10 (by decide +kernel)) (any_sub (lₚ := []) rfl)) (SF_glu (ι := []) hS12 eF12 (by decide +kernel)) (any_sub (lₚ := []) rfl)) (SA_trans (SA_trans (SA_refl) (SA_glu (ι := []) hA10 eA10 (by decide +kernel)) (any_subA (lₚ := []) rfl)) (SA_glu (ι := []) hA12 eA12 (by decide +kernel)) (any_subA (lₚ := []) rfl)) (show inr ((-50)) by omega))
    · refine Ew_of (pcₚ := 15) (fun _ => x_iload_n rfl rfl) ?_
      refine w_iflt (t := 24) rfl rfl (show inr (a3) by omega) (fun b14 => ?_) (fun b14 => ?_)
      · refine Ew_of (pcₚ := 26) (fun _ => x_bipush (z := -50) rfl (by decide)) ?_
        exact w_ireturn rfl (k ((-50)) _ _ _ H O (SF_trans (SF_trans (SF_refl) (SF_glu (ι := []) hS10 eF10 (by decide +kernel)) (any_sub (lₚ := []) rfl)) (SF_glu (ι := []) hS12 eF12 (by decide +kernel)) (any_sub (lₚ := []) rfl)) (SA_trans (SA_trans (SA_refl) (SA_glu (ι := []) hA10 eA10 (by decide +kernel)) (any_subA (lₚ := []) rfl)) (SA_glu (ι := []) hA12 eA12 (by decide +kernel)) (any_subA (lₚ := []) rfl)) (show inr ((-50)) by omega))
      · refine Ew_of (pcₚ := 19) (fun _ => x_iload_n rfl rfl) ?_
        refine Ew_of (pcₚ := 21) (fun _ => x_ldc (z := 65536) rfl (by decide)) ?_
        refine w_icmple (t := 27) rfl rfl (show inr (a3) by omega) (show inr (65536) by omega) (fun b15 => ?_) (fun b15 => ?_)
        · refine Ew_of (pcₚ := 28) (fun _ => x_aload_n rfl rfl) ?_
          refine v_g H (o := 0) (v := .ref (D 1)) rfl rfl rfl rfl rfl (vrf (((((show F12 0 0 = F10 0 0 from (eF12 0 0))).trans ((show F10 0 0 = F 0 0 from (eF10 0 0))))).trans (pf1))) ?_
          refine Ew_of (pcₚ := 32) (fun _ => x_iload_n rfl rfl) ?_
          refine v_lR H (o := 1) rfl rfl rfl rfl rfl (n := n1) (en1) (show 0 ≤ 1 ∧ 1 < n1 by have qh0 := HIDe r5; omega) (z := ((D 4 : Nat) : Int)) (v := .ref (D 4)) ((congrFun ((((show A12 1 = A10 1 from (eA12 1))).trans ((show A10 1 = A 1 from (eA10 1))))) 1).trans (pf4)) (vrf rfl) ?_
          refine w_stat24 rfl rfl (by rfl) (C33_Row (D := pul [4, 5] D) (N := pul [4, 5] N) (HW_sub H (VS_of (show vsub V20_c21_va V33_Row [4, 5] = true by decide +kernel))) (STC_out HT HE O) (((((show F12 4 0 = F10 4 0 from (eF12 4 0))).trans ((show F10 4 0 = F 4 0 from (eF10 4 0))))).trans (pf5)) (n5) (en5) (u4_1) (((((show F12 4 1 = F10 4 1 from (eF12 4 1))).trans ((show F10 4 1 = F 4 1 from (eF10 4 1)))).trans (eu4_1))) (show 0 ≤ (u4_1) ∧ (u4_1) ≤ (n5) ∧ (n5) ≤ 65536 by have qh0 := HIDe r2; have qh1 := HIDe r7; omega) (fun z16 σ16 F16ₚ A16ₚ Hₚ Oₚ hS16 hA16 pz16_0 pz16_1 => ⟨rfl, ?_⟩))
          refine v_back (c := c) (s := s) H (show vsub V20_c21_va V33_Row [4, 5] = true by decide +kernel) Hₚ Oₚ (fun F16 A16 H Oₚ eF16 eA16 => ?_)
          have O := OUT_trans O Oₚ
          -- PackHouse.formatOf
          refine Ew_of (pcₚ := 38) (fun _ => x_istore rfl) ?_
          refine Ew_of (pcₚ := 40) (fun _ => x_iload rfl rk_s) ?_
          refine w_ifeq (t := 49) rfl rfl (show inr (z16) by omega) (fun b17 => ?_) (fun b17 => ?_)
          · refine Ew_of (pcₚ := 51) (fun _ => x_bipush (z := -51) rfl (by decide)) ?_
            exact w_ireturn rfl (k ((-51)) _ _ _ H O (SF_trans (SF_trans (SF_trans (SF_refl) (SF_glu (ι := []) hS10 eF10 (by decide +kernel)) (any_sub (lₚ := []) rfl)) (SF_glu (ι := []) hS12 eF12 (by decide +kernel)) (any_sub (lₚ := []) rfl)) (SF_glu (ι := [4, 5]) hS16 eF16 (by decide +kernel)) (any_sub (lₚ := []) rfl)) (SA_trans (SA_trans (SA_trans (SA_refl) (SA_glu (ι := []) hA10 eA10 (by decide +kernel)) (any_subA (lₚ := []) rfl)) (SA_glu (ι := []) hA12 eA12 (by decide +kernel)) (any_subA (lₚ := []) rfl)) (SA_glu (ι := [4, 5]) hA16 eA16 (by decide +kernel)) (any_subA (lₚ := []) rfl)) (show inr ((-51)) by omega))
          · refine Ew_of (pcₚ := 45) (fun _ => x_iload rfl rk_s) ?_
            refine Ew_of (pcₚ := 46) (fun _ => x_iconst rfl) ?_
            refine w_icmpne (t := 52) rfl rfl (show inr (z16) by omega) (show inr (5) by omega) (fun b18 => ?_) (fun b18 => ?_)
            · refine Ew_of (pcₚ := 53) (fun _ => x_aload_n rfl (rk_o (rfl) rfl rfl)) ?_
              refine Ew_of (pcₚ := 54) (fun _ => x_iload_n rfl (rk_o (rfl) rfl rfl)) ?_
              refine Ew_of (pcₚ := 55) (fun _ => x_aload_n rfl (rk_o (rfl) rfl rfl)) ?_
              refine Ew_of (pcₚ := 56) (fun _ => x_aload_n rfl (rk_o (rfl) rfl rfl)) ?_
              refine v_g H (o := 0) (v := .ref (D 1)) rfl rfl rfl rfl rfl (vrf ((((((show F16 0 0 = F12 0 0 from (eF16 0 0))).trans ((show F12 0 0 = F10 0 0 from (eF12 0 0)))).trans ((show F10 0 0 = F 0 0 from (eF10 0 0))))).trans (pf1))) ?_
              refine Ew_of (pcₚ := 60) (fun _ => x_iload_n rfl (rk_o (rfl) rfl rfl)) ?_
              refine v_lR H (o := 1) rfl rfl rfl rfl rfl (n := n1) (en1) (show 0 ≤ 1 ∧ 1 < n1 by have qh0 := HIDe r5; omega) (z := ((D 4 : Nat) : Int)) (v := .ref (D 4)) ((congrFun (((((show A16 1 = A12 1 from (eA16 1))).trans ((show A12 1 = A10 1 from (eA12 1)))).trans ((show A10 1 = A 1 from (eA10 1))))) 1).trans (pf4)) (vrf rfl) ?_
              refine Ew_of (pcₚ := 63) (fun _ => x_iload rfl rk_s) ?_
              refine Ew_of (pcₚ := 64) (fun _ => x_iload_n rfl (rk_o (rfl) rfl rfl)) ?_
              refine Ew_of (pcₚ := 65) (fun _ => x_aload_n rfl (rk_o (rfl) rfl rfl)) ?_
              refine v_g H (o := 0) (v := .ref (D 10)) rfl rfl rfl rfl rfl (vrf ((((((show F16 0 14 = F12 0 14 from (eF16 0 14))).trans ((show F12 0 14 = F10 0 14 from (eF12 0 14)))).trans ((show F10 0 14 = F 0 14 from (eF10 0 14))))).trans (pf10))) ?_
              exact hc68 (a1) (z16) (a3) _ _ _ _   H O (SF_trans (SF_trans (SF_trans (SF_refl) (SF_glu (ι := []) hS10 eF10 (by decide +kernel)) (any_sub (lₚ := []) rfl)) (SF_glu (ι := []) hS12 eF12 (by decide +kernel)) (any_sub (lₚ := []) rfl)) (SF_glu (ι := [4, 5]) hS16 eF16 (by decide +kernel)) (any_sub (lₚ := []) rfl)) (SA_trans (SA_trans (SA_trans (SA_refl) (SA_glu (ι := []) hA10 eA10 (by decide +kernel)) (any_subA (lₚ := []) rfl)) (SA_glu (ι := []) hA12 eA12 (by decide +kernel)) (any_subA (lₚ := []) rfl)) (SA_glu (ι := [4, 5]) hA16 eA16 (by decide +kernel)) (any_subA (lₚ := []) rfl))     (show inr (a1) by omega) (show inr (z16) by omega) (show inr (a3) by omega) (show 0 ≤ (a1) ∧ (a1) ≤ 3 by omega) (show (z16) = 1 ∨ (z16) = 3 ∨ (z16) = 4 by omega) (show 0 ≤ (a3) ∧ (a3) ≤ 65536 by omega)
            · refine Ew_of (pcₚ := 51) (fun _ => x_bipush (z := -51) rfl (by decide)) ?_
              exact w_ireturn rfl (k ((-51)) _ _ _ H O (SF_trans (SF_trans (SF_trans (SF_refl) (SF_glu (ι := []) hS10 eF10 (by decide +kernel)) (any_sub (lₚ := []) rfl)) (SF_glu (ι := []) hS12 eF12 (by decide +kernel)) (any_sub (lₚ := []) rfl)) (SF_glu (ι := [4, 5]) hS16 eF16 (by decide +kernel)) (any_sub (lₚ := []) rfl)) (SA_trans (SA_trans (SA_trans (SA_refl) (SA_glu (ι := []) hA10 eA10 (by decide +kernel)) (any_subA (lₚ := []) rfl)) (SA_glu (ι := []) hA12 eA12 (by decide +kernel)) (any_subA (lₚ := []) rfl)) (SA_glu (ι := [4, 5]) hA16 eA16 (by decide +kernel)) (any_subA (lₚ := []) rfl)) (show inr ((-51)) by omega))
        · refine Ew_of (pcₚ := 26) (fun _ => x_bipush (z := -50) rfl (by decide)) ?_
          exact w_ireturn rfl (k ((-50)) _ _ _ H O (SF_trans (SF_trans (SF_refl) (SF_glu (ι := []) hS10 eF10 (by decide +kernel)) (any_sub (lₚ := []) rfl)) (SF_glu (ι := []) hS12 eF12 (by decide +kernel)) (any_sub (lₚ := []) rfl)) (SA_trans (SA_trans (SA_refl) (SA_glu (ι := []) hA10 eA10 (by decide +kernel)) (any_subA (lₚ := []) rfl)) (SA_glu (ι := []) hA12 eA12 (by decide +kernel)) (any_subA (lₚ := []) rfl)) (show inr ((-50)) by omega))
abbrev V15_c11_va : vV := [(0, 0, [(4, 0), (4, 0), (4, 0), (4, 0), (4, 0), (4, 0), (4, 0), (4, 0), (4, 0), (4, 0), (4, 0), (4, 0), (4, 0), (4, 0), (4, 0), (4, 0), (4, 0), (0, 0), (0, 0)]), (1, 4, []), (0, 7, [(4, 0), (0, 0), (1, 0), (0, 0), (0, 0)]), (1, 0, []), (0, 7, [(4, 0), (0, 0), (1, 0), (0, 0), (0, 0)]), (1, 0, []), (0, 7, [(4, 0), (0, 0), (1, 0), (0, 0), (0, 0)]), (1, 0, []), (0, 7, [(4, 0), (0, 0), (1, 0), (0, 0), (0, 0)]), (1, 0, []), (0, 4, [(4, 0), (4, 0), (0, 0), (4, 0), (4, 0)])]
/-- PackHouse.learn: this, this.rows, this.rows.0, this.rows.0.bytes, this.rows.1, this.rows.1.bytes, this.rows.2, this.rows.2.bytes, this.rows.3, this.rows.3.bytes, this.otherDictionary -/
theorem C15_c11_va {σE : rS} {D N : Nat → Nat} {F : hF} {A : hA} {d c s : Nat} {Q : wQ} (H : HW V15_c11_va σE D N F A)  (pf1 : F 0 0 = (D 1 : Int)) (pf2 : A 1 0 = (D 2 : Int)) (pf3 : F 2 0 = (D 3 : Int)) (pf4 : A 1 1 = (D 4 : Int)) (pf5 : F 4 0 = (D 5 : Int)) (pf6 : A 1 2 = (D 6 : Int)) (pf7 : F 6 0 = (D 7 : Int)) (pf8 : A 1 3 = (D 8 : Int)) (pf9 : F 8 0 = (D 9 : Int)) (pf10 : F 0 4 = (D 10 : Int)) (n1 : Int) (en1 : (N 1 : Int) = n1) (n3 : Int) (en3 : (N 3 : Int) = n3) (n5 : Int) (en5 : (N 5 : Int) = n5) (n7 : Int) (en7 : (N 7 : Int) = n7) (n9 : Int) (en9 : (N 9 : Int) = n9) (u2_1 : Int) (eu2_1 : F 2 1 = u2_1) (u4_1 : Int) (eu4_1 : F 4 1 = u4_1) (u6_1 : Int) (eu6_1 : F 6 1 = u6_1) (u8_1 : Int) (eu8_1 : F 8 1 = u8_1) (h0 : inr (1)) (h1 : (n1) = 4) (h2 : 0 ≤ (u2_1) ∧ (u2_1) ≤ (n3) ∧ (n3) ≤ 65536) (h3 : 0 ≤ (u4_1) ∧ (u4_1) ≤ (n5) ∧ (n5) ≤ 65536) (h4 : 0 ≤ (u6_1) ∧ (u6_1) ≤ (n7) ∧ (n7) ≤ 65536) (h5 : 0 ≤ (u8_1) ∧ (u8_1) ≤ (n9) ∧ (n9) ≤ 65536) (hc20 : ∀ (ls : rO) (σ : rS) (F_c20 : hF) (A_c20 : hA) , rlook ls 0 = some (.ref (D 0)) → HW V15_c11_va σ D N F_c20 A_c20 → OUT (V15_c11_va).length D N σE c s D N σ c s → SF [] F F_c20 → SA [] A A_c20 → Ew 15 (d + 1) 20 ls [.ref (D 4), .ref (D 10)] σ c s Q) (k : ∀ (z : Int) (σ : rS) (Fₚ : hF) (Aₚ : hA), HW V15_c11_va σ D N Fₚ Aₚ → OUT (V15_c11_va).length D N σE c s D N σ c s → SF [] F Fₚ → SA [] A Aₚ → (inr (z)) → Q (some (I z)) σ c s) : Ew 15 (d + 1) 0 (rargs 0 [.ref (D 0), I 1]) [] σE c s Q := by
  have O := OUT_refl (n := (V15_c11_va).length) (D := D) (N := N) (σ := σE) (c := c) (s := s)
  have HE := H
  have r1 : HID ((-2147483648 : Int) ≤ u2_1 ∧ u2_1 ≤ 2147483647) := krg_e (show (-2147483648 : Int) ≤ F 2 1 ∧ F 2 1 ≤ 2147483647 from H.krg 2 1 (by decide)) (show F 2 1 = u2_1 from (eu2_1))
  have r2 : HID ((-2147483648 : Int) ≤ u4_1 ∧ u4_1 ≤ 2147483647) := krg_e (show (-2147483648 : Int) ≤ F 4 1 ∧ F 4 1 ≤ 2147483647 from H.krg 4 1 (by decide)) (show F 4 1 = u4_1 from (eu4_1))
  have r3 : HID ((-2147483648 : Int) ≤ u6_1 ∧ u6_1 ≤ 2147483647) := krg_e (show (-2147483648 : Int) ≤ F 6 1 ∧ F 6 1 ≤ 2147483647 from H.krg 6 1 (by decide)) (show F 6 1 = u6_1 from (eu6_1))
  have r4 : HID ((-2147483648 : Int) ≤ u8_1 ∧ u8_1 ≤ 2147483647) := krg_e (show (-2147483648 : Int) ≤ F 8 1 ∧ F 8 1 ≤ 2147483647 from H.krg 8 1 (by decide)) (show F 8 1 = u8_1 from (eu8_1))
  replace pf1 := HIDm pf1
  replace pf2 := HIDm pf2
  replace pf3 := HIDm pf3
  replace pf4 := HIDm pf4
  replace pf5 := HIDm pf5
  replace pf6 := HIDm pf6
  replace pf7 := HIDm pf7
  replace pf8 := HIDm pf8
  replace pf9 := HIDm pf9
  replace pf10 := HIDm pf10
  replace en1 := HIDm en1
  replace en3 := HIDm en3
  replace en5 := HIDm en5
  replace en7 := HIDm en7
  replace en9 := HIDm en9
  replace eu2_1 := HIDm eu2_1
  replace eu4_1 := HIDm eu4_1
  replace eu6_1 := HIDm eu6_1
  replace eu8_1 := HIDm eu8_1
  have r5 : HID ((0 : Int) ≤ n1 ∧ n1 ≤ 1000000) := nrng (H.nle 1 (by decide)) (show (N 1 : Int) = n1 from en1)
  have r6 : HID ((0 : Int) ≤ n3 ∧ n3 ≤ 1000000) := nrng (H.nle 3 (by decide)) (show (N 3 : Int) = n3 from en3)
  have r7 : HID ((0 : Int) ≤ n5 ∧ n5 ≤ 1000000) := nrng (H.nle 5 (by decide)) (show (N 5 : Int) = n5 from en5)
  have r8 : HID ((0 : Int) ≤ n7 ∧ n7 ≤ 1000000) := nrng (H.nle 7 (by decide)) (show (N 7 : Int) = n7 from en7)
  have r9 : HID ((0 : Int) ≤ n9 ∧ n9 ≤ 1000000) := nrng (H.nle 9 (by decide)) (show (N 9 : Int) = n9 from en9)
  refine Ew_of (pcₚ := 1) (fun _ => x_iload_n rfl rfl) ?_
  refine w_stat24 rfl rfl (by rfl) (C24 (D := pul [] D) (N := pul [] N) (HW_sub H (VS_of (show vsub V15_c11_va V24 [] = true by decide +kernel))) (show inr (1) by omega) (fun z10 σ10 F10ₚ A10ₚ Hₚ Oₚ hS10 hA10 pz10_0 pz10_1 => ⟨rretB rfl pz10_0, ?_⟩))
  refine v_back (c := c) (s := s) H (show vsub V15_c11_va V24 [] = true by decide +kernel) Hₚ Oₚ (fun F10 A10 H Oₚ eF10 eA10 => ?_)
  have O := OUT_trans O Oₚ
  -- PackHouse.isRow
  refine w_ifne (t := 10) rfl rfl (show inr (z10) by omega) (fun b11 => ?_) (fun b11 => ?_)
  · refine Ew_of (pcₚ := 11) (fun _ => x_aload_n rfl rfl) ?_
    refine v_g H (o := 0) (v := .ref (D 10)) rfl rfl rfl rfl rfl (vrf ((((show F10 0 4 = F 0 4 from (eF10 0 4)))).trans (pf10))) ?_
    refine Ew_of (pcₚ := 15) (fun _ => x_aload_n rfl rfl) ?_
    refine v_g H (o := 0) (v := .ref (D 1)) rfl rfl rfl rfl rfl (vrf ((((show F10 0 0 = F 0 0 from (eF10 0 0)))).trans (pf1))) ?_
    refine Ew_of (pcₚ := 19) (fun _ => x_iload_n rfl rfl) ?_
    refine v_lR H (o := 1) rfl rfl rfl rfl rfl (n := n1) (en1) (show 0 ≤ 1 ∧ 1 < n1 by have qh0 := HIDe r5; omega) (z := ((D 4 : Nat) : Int)) (v := .ref (D 4)) ((congrFun (((show A10 1 = A 1 from (eA10 1)))) 1).trans (pf4)) (vrf rfl) ?_
    exact hc20  _ _ _ _  (rfl) H O (SF_trans (SF_refl) (SF_glu (ι := []) hS10 eF10 (by decide +kernel)) (any_sub (lₚ := []) rfl)) (SA_trans (SA_refl) (SA_glu (ι := []) hA10 eA10 (by decide +kernel)) (any_subA (lₚ := []) rfl))     
  · refine Ew_of (pcₚ := 9) (fun _ => x_bipush (z := -5) rfl (by decide)) ?_
    exact w_ireturn rfl (k ((-5)) _ _ _ H O (SF_trans (SF_refl) (SF_glu (ι := []) hS10 eF10 (by decide +kernel)) (any_sub (lₚ := []) rfl)) (SA_trans (SA_refl) (SA_glu (ι := []) hA10 eA10 (by decide +kernel)) (any_subA (lₚ := []) rfl)) (show inr ((-5)) by omega))
abbrev V18_c22_va : vV := [(0, 0, [(4, 0), (4, 0), (4, 0), (4, 0), (4, 0), (4, 0), (4, 0), (4, 0), (4, 0), (4, 0), (4, 0), (4, 0), (4, 0), (4, 0), (4, 0), (4, 0), (4, 0), (0, 0), (0, 0)]), (1, 4, []), (0, 7, [(4, 0), (0, 0), (1, 0), (0, 0), (0, 0)]), (1, 0, []), (0, 7, [(4, 0), (0, 0), (1, 0), (0, 0), (0, 0)]), (1, 0, []), (0, 7, [(4, 0), (0, 0), (1, 0), (0, 0), (0, 0)]), (1, 0, []), (0, 7, [(4, 0), (0, 0), (1, 0), (0, 0), (0, 0)]), (1, 0, []), (1, 1, [])]
/-- PackHouse.read: this, this.rows, this.rows.0, this.rows.0.bytes, this.rows.1, this.rows.1.bytes, this.rows.2, this.rows.2.bytes, this.rows.3, this.rows.3.bytes, this.readCounts -/
theorem C18_c22_va {σE : rS} {D N : Nat → Nat} {F : hF} {A : hA} {d c s : Nat} {Q : wQ} (H : HW V18_c22_va σE D N F A) {a1 a3 a4 : Int} (pf1 : F 0 0 = (D 1 : Int)) (pf2 : A 1 0 = (D 2 : Int)) (pf3 : F 2 0 = (D 3 : Int)) (pf4 : A 1 1 = (D 4 : Int)) (pf5 : F 4 0 = (D 5 : Int)) (pf6 : A 1 2 = (D 6 : Int)) (pf7 : F 6 0 = (D 7 : Int)) (pf8 : A 1 3 = (D 8 : Int)) (pf9 : F 8 0 = (D 9 : Int)) (pf10 : F 0 14 = (D 10 : Int)) (n1 : Int) (en1 : (N 1 : Int) = n1) (n3 : Int) (en3 : (N 3 : Int) = n3) (n5 : Int) (en5 : (N 5 : Int) = n5) (n7 : Int) (en7 : (N 7 : Int) = n7) (n9 : Int) (en9 : (N 9 : Int) = n9) (n10 : Int) (en10 : (N 10 : Int) = n10) (u2_1 : Int) (eu2_1 : F 2 1 = u2_1) (u4_1 : Int) (eu4_1 : F 4 1 = u4_1) (u6_1 : Int) (eu6_1 : F 6 1 = u6_1) (u8_1 : Int) (eu8_1 : F 8 1 = u8_1) (h0 : inr (a1)) (h1 : inr (2)) (h2 : inr (a3)) (h3 : inr (a4)) (h4 : (n1) = 4) (h5 : 0 ≤ (u2_1) ∧ (u2_1) ≤ (n3) ∧ (n3) ≤ 65536) (h6 : 0 ≤ (u4_1) ∧ (u4_1) ≤ (n5) ∧ (n5) ≤ 65536) (h7 : 0 ≤ (u6_1) ∧ (u6_1) ≤ (n7) ∧ (n7) ≤ 65536) (h8 : 0 ≤ (u8_1) ∧ (u8_1) ≤ (n9) ∧ (n9) ≤ 65536) (hc54 : ∀ (tc54_1 : Int), ∀ (tc54_4 : Int), ∀ (tc54_5 : Int), ∀ (ls : rO) (σ : rS) (F_c54 : hF) (A_c54 : hA) , HW V18_c22_va σ D N F_c54 A_c54 → OUT (V18_c22_va).length D N σE c s D N σ c s → SF [] F F_c54 → SA [] A A_c54 → (inr (tc54_1)) → (inr (tc54_4)) → (inr (tc54_5)) → (0 ≤ (tc54_1) ∧ (tc54_1) ≤ 3) → (0 ≤ (tc54_4) ∧ (tc54_4) ≤ 4) → (0 ≤ (tc54_5) ∧ (tc54_5) ≤ 65536) → Ew 18 (d + 1) 54 ls [.ref (D 10), I (tc54_5), I (tc54_4), .ref (D 6), .ref (D 0), I (tc54_1), .ref (D 0)] σ c s Q) (k : ∀ (z : Int) (σ : rS) (Fₚ : hF) (Aₚ : hA), HW V18_c22_va σ D N Fₚ Aₚ → OUT (V18_c22_va).length D N σE c s D N σ c s → SF [] F Fₚ → SA [] A Aₚ → (inr (z)) → Q (some (I z)) σ c s) : Ew 18 (d + 1) 0 (rargs 0 [.ref (D 0), I a1, I 2, I a3, I a4]) [] σE c s Q := by
  have O := OUT_refl (n := (V18_c22_va).length) (D := D) (N := N) (σ := σE) (c := c) (s := s)
  have HE := H
  have r1 : HID ((-2147483648 : Int) ≤ u2_1 ∧ u2_1 ≤ 2147483647) := krg_e (show (-2147483648 : Int) ≤ F 2 1 ∧ F 2 1 ≤ 2147483647 from H.krg 2 1 (by decide)) (show F 2 1 = u2_1 from (eu2_1))
  have r2 : HID ((-2147483648 : Int) ≤ u4_1 ∧ u4_1 ≤ 2147483647) := krg_e (show (-2147483648 : Int) ≤ F 4 1 ∧ F 4 1 ≤ 2147483647 from H.krg 4 1 (by decide)) (show F 4 1 = u4_1 from (eu4_1))
  have r3 : HID ((-2147483648 : Int) ≤ u6_1 ∧ u6_1 ≤ 2147483647) := krg_e (show (-2147483648 : Int) ≤ F 6 1 ∧ F 6 1 ≤ 2147483647 from H.krg 6 1 (by decide)) (show F 6 1 = u6_1 from (eu6_1))
  have r4 : HID ((-2147483648 : Int) ≤ u8_1 ∧ u8_1 ≤ 2147483647) := krg_e (show (-2147483648 : Int) ≤ F 8 1 ∧ F 8 1 ≤ 2147483647 from H.krg 8 1 (by decide)) (show F 8 1 = u8_1 from (eu8_1))
  replace pf1 := HIDm pf1
  replace pf2 := HIDm pf2
  replace pf3 := HIDm pf3
  replace pf4 := HIDm pf4
  replace pf5 := HIDm pf5
  replace pf6 := HIDm pf6
  replace pf7 := HIDm pf7
  replace pf8 := HIDm pf8
  replace pf9 := HIDm pf9
  replace pf10 := HIDm pf10
  replace en1 := HIDm en1
  replace en3 := HIDm en3
  replace en5 := HIDm en5
  replace en7 := HIDm en7
  replace en9 := HIDm en9
  replace en10 := HIDm en10
  replace eu2_1 := HIDm eu2_1
  replace eu4_1 := HIDm eu4_1
  replace eu6_1 := HIDm eu6_1
  replace eu8_1 := HIDm eu8_1
  have r5 : HID ((0 : Int) ≤ n1 ∧ n1 ≤ 1000000) := nrng (H.nle 1 (by decide)) (show (N 1 : Int) = n1 from en1)
  have r6 : HID ((0 : Int) ≤ n3 ∧ n3 ≤ 1000000) := nrng (H.nle 3 (by decide)) (show (N 3 : Int) = n3 from en3)
  have r7 : HID ((0 : Int) ≤ n5 ∧ n5 ≤ 1000000) := nrng (H.nle 5 (by decide)) (show (N 5 : Int) = n5 from en5)
  have r8 : HID ((0 : Int) ≤ n7 ∧ n7 ≤ 1000000) := nrng (H.nle 7 (by decide)) (show (N 7 : Int) = n7 from en7)
  have r9 : HID ((0 : Int) ≤ n9 ∧ n9 ≤ 1000000) := nrng (H.nle 9 (by decide)) (show (N 9 : Int) = n9 from en9)
  refine Ew_of (pcₚ := 1) (fun _ => x_iload_n rfl rfl) ?_
  refine w_stat24 rfl rfl (by rfl) (C24 (D := pul [] D) (N := pul [] N) (HW_sub H (VS_of (show vsub V18_c22_va V24 [] = true by decide +kernel))) (show inr (a1) by omega) (fun z10 σ10 F10ₚ A10ₚ Hₚ Oₚ hS10 hA10 pz10_0 pz10_1 => ⟨rretB rfl pz10_0, ?_⟩))
  refine v_back (c := c) (s := s) H (show vsub V18_c22_va V24 [] = true by decide +kernel) Hₚ Oₚ (fun F10 A10 H Oₚ eF10 eA10 => ?_)
  have O := OUT_trans O Oₚ
  -- PackHouse.isRow
  refine w_ifeq (t := 35) rfl rfl (show inr (z10) by omega) (fun b11 => ?_) (fun b11 => ?_)
  · refine Ew_of (pcₚ := 37) (fun _ => x_bipush (z := -50) rfl (by decide)) ?_
    exact w_ireturn rfl (k ((-50)) _ _ _ H O (SF_trans (SF_refl) (SF_glu (ι := []) hS10 eF10 (by decide +kernel)) (any_sub (lₚ := []) rfl)) (SA_trans (SA_refl) (SA_glu (ι := []) hA10 eA10 (by decide +kernel)) (any_subA (lₚ := []) rfl)) (show inr ((-50)) by omega))
  · refine Ew_of (pcₚ := 8) (fun _ => x_iload_n rfl rfl) ?_
    refine w_stat24 rfl rfl (by rfl) (C24 (D := pul [] D) (N := pul [] N) (HW_sub H (VS_of (show vsub V18_c22_va V24 [] = true by decide +kernel))) (show inr (2) by omega) (fun z12 σ12 F12ₚ A12ₚ Hₚ Oₚ hS12 hA12 pz12_0 pz12_1 => ⟨rretB rfl pz12_0, ?_⟩))
    refine v_back (c := c) (s := s) H (show vsub V18_c22_va V24 [] = true by decide +kernel) Hₚ Oₚ (fun F12 A12 H Oₚ eF12 eA12 => ?_)
    have O := OUT_trans O Oₚ
    -- PackHouse.isRow
    refine w_ifeq (t := 35) rfl rfl (show inr (z12) by omega) (fun b13 => ?_) (fun b13 => ?_)
    · refine Ew_of (pcₚ := 37) (fun _ => x_bipush (z := -50) rfl (by decide)) ?_
      exact w_ireturn rfl (k ((-50)) _ _ _ H O (SF_trans (SF_trans (SF_refl) (SF_glu (ι := []) hS10 eF10 (by decide +kernel)) (any_sub (lₚ := []) rfl)) (SF_glu (ι := []) hS12 eF12 (by decide +kernel)) (any_sub (lₚ := []) rfl)) (SA_trans (SA_trans (SA_refl) (SA_glu (ι := []) hA10 eA10 (by decide +kernel)) (any_subA (lₚ := []) rfl)) (SA_glu (ι := []) hA12 eA12 (by decide +kernel)) (any_subA (lₚ := []) rfl)) (show inr ((-50)) by omega))
    · refine Ew_of (pcₚ := 15) (fun _ => x_iload_n rfl rfl) ?_
      refine w_iflt (t := 35) rfl rfl (show inr (a3) by omega) (fun b14 => ?_) (fun b14 => ?_)
      · refine Ew_of (pcₚ := 37) (fun _ => x_bipush (z := -50) rfl (by decide)) ?_
        exact w_ireturn rfl (k ((-50)) _ _ _ H O (SF_trans (SF_trans (SF_refl) (SF_glu (ι := []) hS10 eF10 (by decide +kernel)) (any_sub (lₚ := []) rfl)) (SF_glu (ι := []) hS12 eF12 (by decide +kernel)) (any_sub (lₚ := []) rfl)) (SA_trans (SA_trans (SA_refl) (SA_glu (ι := []) hA10 eA10 (by decide +kernel)) (any_subA (lₚ := []) rfl)) (SA_glu (ι := []) hA12 eA12 (by decide +kernel)) (any_subA (lₚ := []) rfl)) (show inr ((-50)) by omega))
      · refine Ew_of (pcₚ := 19) (fun _ => x_iload_n rfl rfl) ?_
        refine Ew_of (pcₚ := 20) (fun _ => x_iconst rfl) ?_
        refine w_icmpgt (t := 35) rfl rfl (show inr (a3) by omega) (show inr (4) by omega) (fun b15 => ?_) (fun b15 => ?_)
        · refine Ew_of (pcₚ := 37) (fun _ => x_bipush (z := -50) rfl (by decide)) ?_
          exact w_ireturn rfl (k ((-50)) _ _ _ H O (SF_trans (SF_trans (SF_refl) (SF_glu (ι := []) hS10 eF10 (by decide +kernel)) (any_sub (lₚ := []) rfl)) (SF_glu (ι := []) hS12 eF12 (by decide +kernel)) (any_sub (lₚ := []) rfl)) (SA_trans (SA_trans (SA_refl) (SA_glu (ι := []) hA10 eA10 (by decide +kernel)) (any_subA (lₚ := []) rfl)) (SA_glu (ι := []) hA12 eA12 (by decide +kernel)) (any_subA (lₚ := []) rfl)) (show inr ((-50)) by omega))
        · refine Ew_of (pcₚ := 25) (fun _ => x_iload rfl rfl) ?_
          refine w_iflt (t := 35) rfl rfl (show inr (a4) by omega) (fun b16 => ?_) (fun b16 => ?_)
          · refine Ew_of (pcₚ := 37) (fun _ => x_bipush (z := -50) rfl (by decide)) ?_
            exact w_ireturn rfl (k ((-50)) _ _ _ H O (SF_trans (SF_trans (SF_refl) (SF_glu (ι := []) hS10 eF10 (by decide +kernel)) (any_sub (lₚ := []) rfl)) (SF_glu (ι := []) hS12 eF12 (by decide +kernel)) (any_sub (lₚ := []) rfl)) (SA_trans (SA_trans (SA_refl) (SA_glu (ι := []) hA10 eA10 (by decide +kernel)) (any_subA (lₚ := []) rfl)) (SA_glu (ι := []) hA12 eA12 (by decide +kernel)) (any_subA (lₚ := []) rfl)) (show inr ((-50)) by omega))
          · refine Ew_of (pcₚ := 30) (fun _ => x_iload rfl rfl) ?_
            refine Ew_of (pcₚ := 32) (fun _ => x_ldc (z := 65536) rfl (by decide)) ?_
            refine w_icmple (t := 38) rfl rfl (show inr (a4) by omega) (show inr (65536) by omega) (fun b17 => ?_) (fun b17 => ?_)
            · refine Ew_of (pcₚ := 39) (fun _ => x_aload_n rfl rfl) ?_
              refine Ew_of (pcₚ := 40) (fun _ => x_iload_n rfl rfl) ?_
              refine Ew_of (pcₚ := 41) (fun _ => x_aload_n rfl rfl) ?_
              refine Ew_of (pcₚ := 42) (fun _ => x_aload_n rfl rfl) ?_
              refine v_g H (o := 0) (v := .ref (D 1)) rfl rfl rfl rfl rfl (vrf (((((show F12 0 0 = F10 0 0 from (eF12 0 0))).trans ((show F10 0 0 = F 0 0 from (eF10 0 0))))).trans (pf1))) ?_
              refine Ew_of (pcₚ := 46) (fun _ => x_iload_n rfl rfl) ?_
              refine v_lR H (o := 1) rfl rfl rfl rfl rfl (n := n1) (en1) (show 0 ≤ 2 ∧ 2 < n1 by have qh0 := HIDe r5; omega) (z := ((D 6 : Nat) : Int)) (v := .ref (D 6)) ((congrFun ((((show A12 1 = A10 1 from (eA12 1))).trans ((show A10 1 = A 1 from (eA10 1))))) 2).trans (pf6)) (vrf rfl) ?_
              refine Ew_of (pcₚ := 48) (fun _ => x_iload_n rfl rfl) ?_
              refine Ew_of (pcₚ := 50) (fun _ => x_iload rfl rfl) ?_
              refine Ew_of (pcₚ := 51) (fun _ => x_aload_n rfl rfl) ?_
              refine v_g H (o := 0) (v := .ref (D 10)) rfl rfl rfl rfl rfl (vrf (((((show F12 0 14 = F10 0 14 from (eF12 0 14))).trans ((show F10 0 14 = F 0 14 from (eF10 0 14))))).trans (pf10))) ?_
              exact hc54 (a1) (a3) (a4) _ _ _ _   H O (SF_trans (SF_trans (SF_refl) (SF_glu (ι := []) hS10 eF10 (by decide +kernel)) (any_sub (lₚ := []) rfl)) (SF_glu (ι := []) hS12 eF12 (by decide +kernel)) (any_sub (lₚ := []) rfl)) (SA_trans (SA_trans (SA_refl) (SA_glu (ι := []) hA10 eA10 (by decide +kernel)) (any_subA (lₚ := []) rfl)) (SA_glu (ι := []) hA12 eA12 (by decide +kernel)) (any_subA (lₚ := []) rfl))     (show inr (a1) by omega) (show inr (a3) by omega) (show inr (a4) by omega) (show 0 ≤ (a1) ∧ (a1) ≤ 3 by omega) (show 0 ≤ (a3) ∧ (a3) ≤ 4 by omega) (show 0 ≤ (a4) ∧ (a4) ≤ 65536 by omega)
            · refine Ew_of (pcₚ := 37) (fun _ => x_bipush (z := -50) rfl (by decide)) ?_
              exact w_ireturn rfl (k ((-50)) _ _ _ H O (SF_trans (SF_trans (SF_refl) (SF_glu (ι := []) hS10 eF10 (by decide +kernel)) (any_sub (lₚ := []) rfl)) (SF_glu (ι := []) hS12 eF12 (by decide +kernel)) (any_sub (lₚ := []) rfl)) (SA_trans (SA_trans (SA_refl) (SA_glu (ι := []) hA10 eA10 (by decide +kernel)) (any_subA (lₚ := []) rfl)) (SA_glu (ι := []) hA12 eA12 (by decide +kernel)) (any_subA (lₚ := []) rfl)) (show inr ((-50)) by omega))
abbrev V20_c22_va : vV := [(0, 0, [(4, 0), (4, 0), (4, 0), (4, 0), (4, 0), (4, 0), (4, 0), (4, 0), (4, 0), (4, 0), (4, 0), (4, 0), (4, 0), (4, 0), (4, 0), (4, 0), (4, 0), (0, 0), (0, 0)]), (1, 4, []), (0, 7, [(4, 0), (0, 0), (1, 0), (0, 0), (0, 0)]), (1, 0, []), (0, 7, [(4, 0), (0, 0), (1, 0), (0, 0), (0, 0)]), (1, 0, []), (0, 7, [(4, 0), (0, 0), (1, 0), (0, 0), (0, 0)]), (1, 0, []), (0, 7, [(4, 0), (0, 0), (1, 0), (0, 0), (0, 0)]), (1, 0, []), (1, 1, [])]
/-- PackHouse.open: this, this.rows, this.rows.0, this.rows.0.bytes, this.rows.1, this.rows.1.bytes, this.rows.2, this.rows.2.bytes, this.rows.3, this.rows.3.bytes, this.readCounts -/
theorem C20_c22_va {σE : rS} {D N : Nat → Nat} {F : hF} {A : hA} {d c s : Nat} {Q : wQ} (H : HW V20_c22_va σE D N F A) (HT : STC σE) {a1 a3 : Int} (pf1 : F 0 0 = (D 1 : Int)) (pf2 : A 1 0 = (D 2 : Int)) (pf3 : F 2 0 = (D 3 : Int)) (pf4 : A 1 1 = (D 4 : Int)) (pf5 : F 4 0 = (D 5 : Int)) (pf6 : A 1 2 = (D 6 : Int)) (pf7 : F 6 0 = (D 7 : Int)) (pf8 : A 1 3 = (D 8 : Int)) (pf9 : F 8 0 = (D 9 : Int)) (pf10 : F 0 14 = (D 10 : Int)) (n1 : Int) (en1 : (N 1 : Int) = n1) (n3 : Int) (en3 : (N 3 : Int) = n3) (n5 : Int) (en5 : (N 5 : Int) = n5) (n7 : Int) (en7 : (N 7 : Int) = n7) (n9 : Int) (en9 : (N 9 : Int) = n9) (n10 : Int) (en10 : (N 10 : Int) = n10) (u2_1 : Int) (eu2_1 : F 2 1 = u2_1) (u4_1 : Int) (eu4_1 : F 4 1 = u4_1) (u6_1 : Int) (eu6_1 : F 6 1 = u6_1) (u8_1 : Int) (eu8_1 : F 8 1 = u8_1) (h0 : inr (a1)) (h1 : inr (2)) (h2 : inr (a3)) (h3 : (n1) = 4) (h4 : 0 ≤ (u2_1) ∧ (u2_1) ≤ (n3) ∧ (n3) ≤ 65536) (h5 : 0 ≤ (u4_1) ∧ (u4_1) ≤ (n5) ∧ (n5) ≤ 65536) (h6 : 0 ≤ (u6_1) ∧ (u6_1) ≤ (n7) ∧ (n7) ≤ 65536) (h7 : 0 ≤ (u8_1) ∧ (u8_1) ≤ (n9) ∧ (n9) ≤ 65536) (hc68 : ∀ (tc68_1 : Int), ∀ (tc68_4 : Int), ∀ (tc68_5 : Int), ∀ (ls : rO) (σ : rS) (F_c68 : hF) (A_c68 : hA) , HW V20_c22_va σ D N F_c68 A_c68 → OUT (V20_c22_va).length D N σE c s D N σ c s → SF [] F F_c68 → SA [] A A_c68 → (inr (tc68_1)) → (inr (tc68_4)) → (inr (tc68_5)) → (0 ≤ (tc68_1) ∧ (tc68_1) ≤ 3) → ((tc68_4) = 1 ∨ (tc68_4) = 3 ∨ (tc68_4) = 4) → (0 ≤ (tc68_5) ∧ (tc68_5) ≤ 65536) → Ew 20 (d + 3) 68 ls [.ref (D 10), I (tc68_5), I (tc68_4), .ref (D 6), .ref (D 0), I (tc68_1), .ref (D 0)] σ c s Q) (k : ∀ (z : Int) (σ : rS) (Fₚ : hF) (Aₚ : hA), HW V20_c22_va σ D N Fₚ Aₚ → OUT (V20_c22_va).length D N σE c s D N σ c s → SF [] F Fₚ → SA [] A Aₚ → (inr (z)) → Q (some (I z)) σ c s) : Ew 20 (d + 3) 0 (rargs 0 [.ref (D 0), I a1, I 2, I a3]) [] σE c s Q := by
  have O := OUT_refl (n := (V20_c22_va).length) (D := D) (N := N) (σ := σE) (c := c) (s := s)
  have HE := H
  have r1 : HID ((-2147483648 : Int) ≤ u2_1 ∧ u2_1 ≤ 2147483647) := krg_e (show (-2147483648 : Int) ≤ F 2 1 ∧ F 2 1 ≤ 2147483647 from H.krg 2 1 (by decide)) (show F 2 1 = u2_1 from (eu2_1))
  have r2 : HID ((-2147483648 : Int) ≤ u4_1 ∧ u4_1 ≤ 2147483647) := krg_e (show (-2147483648 : Int) ≤ F 4 1 ∧ F 4 1 ≤ 2147483647 from H.krg 4 1 (by decide)) (show F 4 1 = u4_1 from (eu4_1))
  have r3 : HID ((-2147483648 : Int) ≤ u6_1 ∧ u6_1 ≤ 2147483647) := krg_e (show (-2147483648 : Int) ≤ F 6 1 ∧ F 6 1 ≤ 2147483647 from H.krg 6 1 (by decide)) (show F 6 1 = u6_1 from (eu6_1))
  have r4 : HID ((-2147483648 : Int) ≤ u8_1 ∧ u8_1 ≤ 2147483647) := krg_e (show (-2147483648 : Int) ≤ F 8 1 ∧ F 8 1 ≤ 2147483647 from H.krg 8 1 (by decide)) (show F 8 1 = u8_1 from (eu8_1))
  replace pf1 := HIDm pf1
  replace pf2 := HIDm pf2
  replace pf3 := HIDm pf3
  replace pf4 := HIDm pf4
  replace pf5 := HIDm pf5
  replace pf6 := HIDm pf6
  replace pf7 := HIDm pf7
  replace pf8 := HIDm pf8
  replace pf9 := HIDm pf9
  replace pf10 := HIDm pf10
  replace en1 := HIDm en1
  replace en3 := HIDm en3
  replace en5 := HIDm en5
  replace en7 := HIDm en7
  replace en9 := HIDm en9
  replace en10 := HIDm en10
  replace eu2_1 := HIDm eu2_1
  replace eu4_1 := HIDm eu4_1
  replace eu6_1 := HIDm eu6_1
  replace eu8_1 := HIDm eu8_1
  have r5 : HID ((0 : Int) ≤ n1 ∧ n1 ≤ 1000000) := nrng (H.nle 1 (by decide)) (show (N 1 : Int) = n1 from en1)
  have r6 : HID ((0 : Int) ≤ n3 ∧ n3 ≤ 1000000) := nrng (H.nle 3 (by decide)) (show (N 3 : Int) = n3 from en3)
  have r7 : HID ((0 : Int) ≤ n5 ∧ n5 ≤ 1000000) := nrng (H.nle 5 (by decide)) (show (N 5 : Int) = n5 from en5)
  have r8 : HID ((0 : Int) ≤ n7 ∧ n7 ≤ 1000000) := nrng (H.nle 7 (by decide)) (show (N 7 : Int) = n7 from en7)
  have r9 : HID ((0 : Int) ≤ n9 ∧ n9 ≤ 1000000) := nrng (H.nle 9 (by decide)) (show (N 9 : Int) = n9 from en9)
  refine Ew_of (pcₚ := 1) (fun _ => x_iload_n rfl rfl) ?_
  refine w_stat24 rfl rfl (by rfl) (C24 (D := pul [] D) (N := pul [] N) (HW_sub H (VS_of (show vsub V20_c22_va V24 [] = true by decide +kernel))) (show inr (a1) by omega) (fun z10 σ10 F10ₚ A10ₚ Hₚ Oₚ hS10 hA10 pz10_0 pz10_1 => ⟨rretB rfl pz10_0, ?_⟩))
  refine v_back (c := c) (s := s) H (show vsub V20_c22_va V24 [] = true by decide +kernel) Hₚ Oₚ (fun F10 A10 H Oₚ eF10 eA10 => ?_)
  have O := OUT_trans O Oₚ
  -- PackHouse.isRow
  refine w_ifeq (t := 24) rfl rfl (show inr (z10) by omega) (fun b11 => ?_) (fun b11 => ?_)
  · refine Ew_of (pcₚ := 26) (fun _ => x_bipush (z := -50) rfl (by decide)) ?_
    exact w_ireturn rfl (k ((-50)) _ _ _ H O (SF_trans (SF_refl) (SF_glu (ι := []) hS10 eF10 (by decide +kernel)) (any_sub (lₚ := []) rfl)) (SA_trans (SA_refl) (SA_glu (ι := []) hA10 eA10 (by decide +kernel)) (any_subA (lₚ := []) rfl)) (show inr ((-50)) by omega))
  · refine Ew_of (pcₚ := 8) (fun _ => x_iload_n rfl rfl) ?_
    refine w_stat24 rfl rfl (by rfl) (C24 (D := pul [] D) (N := pul [] N) (HW_sub H (VS_of (show vsub V20_c22_va V24 [] = true by decide +kernel))) (show inr (2) by omega) (fun z12 σ12 F12ₚ A12ₚ Hₚ Oₚ hS12 hA12 pz12_0 pz12_1 => ⟨rretB rfl pz12_0, ?_⟩))
    refine v_back (c := c) (s := s) H (show vsub V20_c22_va V24 [] = true by decide +kernel) Hₚ Oₚ (fun F12 A12 H Oₚ eF12 eA12 => ?_)
    have O := OUT_trans O Oₚ
    -- PackHouse.isRow
    refine w_ifeq (t := 24) rfl rfl (show inr (z12) by omega) (fun b13 => ?_) (fun b13 => ?_)
    · refine Ew_of (pcₚ := 26) (fun _ => x_bipush (z := -50) rfl (by decide)) ?_
      exact w_ireturn rfl (k ((-50)) _ _ _ H O (SF_trans (SF_trans (SF_refl) (SF_glu (ι := []) hS10 eF10 (by decide +kernel)) (any_sub (lₚ := []) rfl)) (SF_glu (ι := []) hS12 eF12 (by decide +kernel)) (any_sub (lₚ := []) rfl)) (SA_trans (SA_trans (SA_refl) (SA_glu (ι := []) hA10 eA10 (by decide +kernel)) (any_subA (lₚ := []) rfl)) (SA_glu (ι := []) hA12 eA12 (by decide +kernel)) (any_subA (lₚ := []) rfl)) (show inr ((-50)) by omega))
    · refine Ew_of (pcₚ := 15) (fun _ => x_iload_n rfl rfl) ?_
      refine w_iflt (t := 24) rfl rfl (show inr (a3) by omega) (fun b14 => ?_) (fun b14 => ?_)
      · refine Ew_of (pcₚ := 26) (fun _ => x_bipush (z := -50) rfl (by decide)) ?_
        exact w_ireturn rfl (k ((-50)) _ _ _ H O (SF_trans (SF_trans (SF_refl) (SF_glu (ι := []) hS10 eF10 (by decide +kernel)) (any_sub (lₚ := []) rfl)) (SF_glu (ι := []) hS12 eF12 (by decide +kernel)) (any_sub (lₚ := []) rfl)) (SA_trans (SA_trans (SA_refl) (SA_glu (ι := []) hA10 eA10 (by decide +kernel)) (any_subA (lₚ := []) rfl)) (SA_glu (ι := []) hA12 eA12 (by decide +kernel)) (any_subA (lₚ := []) rfl)) (show inr ((-50)) by omega))
      · refine Ew_of (pcₚ := 19) (fun _ => x_iload_n rfl rfl) ?_
        refine Ew_of (pcₚ := 21) (fun _ => x_ldc (z := 65536) rfl (by decide)) ?_
        refine w_icmple (t := 27) rfl rfl (show inr (a3) by omega) (show inr (65536) by omega) (fun b15 => ?_) (fun b15 => ?_)
        · refine Ew_of (pcₚ := 28) (fun _ => x_aload_n rfl rfl) ?_
          refine v_g H (o := 0) (v := .ref (D 1)) rfl rfl rfl rfl rfl (vrf (((((show F12 0 0 = F10 0 0 from (eF12 0 0))).trans ((show F10 0 0 = F 0 0 from (eF10 0 0))))).trans (pf1))) ?_
          refine Ew_of (pcₚ := 32) (fun _ => x_iload_n rfl rfl) ?_
          refine v_lR H (o := 1) rfl rfl rfl rfl rfl (n := n1) (en1) (show 0 ≤ 2 ∧ 2 < n1 by have qh0 := HIDe r5; omega) (z := ((D 6 : Nat) : Int)) (v := .ref (D 6)) ((congrFun ((((show A12 1 = A10 1 from (eA12 1))).trans ((show A10 1 = A 1 from (eA10 1))))) 2).trans (pf6)) (vrf rfl) ?_
          refine w_stat24 rfl rfl (by rfl) (C33_Row (D := pul [6, 7] D) (N := pul [6, 7] N) (HW_sub H (VS_of (show vsub V20_c22_va V33_Row [6, 7] = true by decide +kernel))) (STC_out HT HE O) (((((show F12 6 0 = F10 6 0 from (eF12 6 0))).trans ((show F10 6 0 = F 6 0 from (eF10 6 0))))).trans (pf7)) (n7) (en7) (u6_1) (((((show F12 6 1 = F10 6 1 from (eF12 6 1))).trans ((show F10 6 1 = F 6 1 from (eF10 6 1)))).trans (eu6_1))) (show 0 ≤ (u6_1) ∧ (u6_1) ≤ (n7) ∧ (n7) ≤ 65536 by have qh0 := HIDe r3; have qh1 := HIDe r8; omega) (fun z16 σ16 F16ₚ A16ₚ Hₚ Oₚ hS16 hA16 pz16_0 pz16_1 => ⟨rfl, ?_⟩))
          refine v_back (c := c) (s := s) H (show vsub V20_c22_va V33_Row [6, 7] = true by decide +kernel) Hₚ Oₚ (fun F16 A16 H Oₚ eF16 eA16 => ?_)
          have O := OUT_trans O Oₚ
          -- PackHouse.formatOf
          refine Ew_of (pcₚ := 38) (fun _ => x_istore rfl) ?_
          refine Ew_of (pcₚ := 40) (fun _ => x_iload rfl rk_s) ?_
          refine w_ifeq (t := 49) rfl rfl (show inr (z16) by omega) (fun b17 => ?_) (fun b17 => ?_)
          · refine Ew_of (pcₚ := 51) (fun _ => x_bipush (z := -51) rfl (by decide)) ?_
            exact w_ireturn rfl (k ((-51)) _ _ _ H O (SF_trans (SF_trans (SF_trans (SF_refl) (SF_glu (ι := []) hS10 eF10 (by decide +kernel)) (any_sub (lₚ := []) rfl)) (SF_glu (ι := []) hS12 eF12 (by decide +kernel)) (any_sub (lₚ := []) rfl)) (SF_glu (ι := [6, 7]) hS16 eF16 (by decide +kernel)) (any_sub (lₚ := []) rfl)) (SA_trans (SA_trans (SA_trans (SA_refl) (SA_glu (ι := []) hA10 eA10 (by decide +kernel)) (any_subA (lₚ := []) rfl)) (SA_glu (ι := []) hA12 eA12 (by decide +kernel)) (any_subA (lₚ := []) rfl)) (SA_glu (ι := [6, 7]) hA16 eA16 (by decide +kernel)) (any_subA (lₚ := []) rfl)) (show inr ((-51)) by omega))
          · refine Ew_of (pcₚ := 45) (fun _ => x_iload rfl rk_s) ?_
            refine Ew_of (pcₚ := 46) (fun _ => x_iconst rfl) ?_
            refine w_icmpne (t := 52) rfl rfl (show inr (z16) by omega) (show inr (5) by omega) (fun b18 => ?_) (fun b18 => ?_)
            · refine Ew_of (pcₚ := 53) (fun _ => x_aload_n rfl (rk_o (rfl) rfl rfl)) ?_
              refine Ew_of (pcₚ := 54) (fun _ => x_iload_n rfl (rk_o (rfl) rfl rfl)) ?_
              refine Ew_of (pcₚ := 55) (fun _ => x_aload_n rfl (rk_o (rfl) rfl rfl)) ?_
              refine Ew_of (pcₚ := 56) (fun _ => x_aload_n rfl (rk_o (rfl) rfl rfl)) ?_
              refine v_g H (o := 0) (v := .ref (D 1)) rfl rfl rfl rfl rfl (vrf ((((((show F16 0 0 = F12 0 0 from (eF16 0 0))).trans ((show F12 0 0 = F10 0 0 from (eF12 0 0)))).trans ((show F10 0 0 = F 0 0 from (eF10 0 0))))).trans (pf1))) ?_
              refine Ew_of (pcₚ := 60) (fun _ => x_iload_n rfl (rk_o (rfl) rfl rfl)) ?_
              refine v_lR H (o := 1) rfl rfl rfl rfl rfl (n := n1) (en1) (show 0 ≤ 2 ∧ 2 < n1 by have qh0 := HIDe r5; omega) (z := ((D 6 : Nat) : Int)) (v := .ref (D 6)) ((congrFun (((((show A16 1 = A12 1 from (eA16 1))).trans ((show A12 1 = A10 1 from (eA12 1)))).trans ((show A10 1 = A 1 from (eA10 1))))) 2).trans (pf6)) (vrf rfl) ?_
              refine Ew_of (pcₚ := 63) (fun _ => x_iload rfl rk_s) ?_
              refine Ew_of (pcₚ := 64) (fun _ => x_iload_n rfl (rk_o (rfl) rfl rfl)) ?_
              refine Ew_of (pcₚ := 65) (fun _ => x_aload_n rfl (rk_o (rfl) rfl rfl)) ?_
              refine v_g H (o := 0) (v := .ref (D 10)) rfl rfl rfl rfl rfl (vrf ((((((show F16 0 14 = F12 0 14 from (eF16 0 14))).trans ((show F12 0 14 = F10 0 14 from (eF12 0 14)))).trans ((show F10 0 14 = F 0 14 from (eF10 0 14))))).trans (pf10))) ?_
              exact hc68 (a1) (z16) (a3) _ _ _ _   H O (SF_trans (SF_trans (SF_trans (SF_refl) (SF_glu (ι := []) hS10 eF10 (by decide +kernel)) (any_sub (lₚ := []) rfl)) (SF_glu (ι := []) hS12 eF12 (by decide +kernel)) (any_sub (lₚ := []) rfl)) (SF_glu (ι := [6, 7]) hS16 eF16 (by decide +kernel)) (any_sub (lₚ := []) rfl)) (SA_trans (SA_trans (SA_trans (SA_refl) (SA_glu (ι := []) hA10 eA10 (by decide +kernel)) (any_subA (lₚ := []) rfl)) (SA_glu (ι := []) hA12 eA12 (by decide +kernel)) (any_subA (lₚ := []) rfl)) (SA_glu (ι := [6, 7]) hA16 eA16 (by decide +kernel)) (any_subA (lₚ := []) rfl))     (show inr (a1) by omega) (show inr (z16) by omega) (show inr (a3) by omega) (show 0 ≤ (a1) ∧ (a1) ≤ 3 by omega) (show (z16) = 1 ∨ (z16) = 3 ∨ (z16) = 4 by omega) (show 0 ≤ (a3) ∧ (a3) ≤ 65536 by omega)
            · refine Ew_of (pcₚ := 51) (fun _ => x_bipush (z := -51) rfl (by decide)) ?_
              exact w_ireturn rfl (k ((-51)) _ _ _ H O (SF_trans (SF_trans (SF_trans (SF_refl) (SF_glu (ι := []) hS10 eF10 (by decide +kernel)) (any_sub (lₚ := []) rfl)) (SF_glu (ι := []) hS12 eF12 (by decide +kernel)) (any_sub (lₚ := []) rfl)) (SF_glu (ι := [6, 7]) hS16 eF16 (by decide +kernel)) (any_sub (lₚ := []) rfl)) (SA_trans (SA_trans (SA_trans (SA_refl) (SA_glu (ι := []) hA10 eA10 (by decide +kernel)) (any_subA (lₚ := []) rfl)) (SA_glu (ι := []) hA12 eA12 (by decide +kernel)) (any_subA (lₚ := []) rfl)) (SA_glu (ι := [6, 7]) hA16 eA16 (by decide +kernel)) (any_subA (lₚ := []) rfl)) (show inr ((-51)) by omega))
        · refine Ew_of (pcₚ := 26) (fun _ => x_bipush (z := -50) rfl (by decide)) ?_
          exact w_ireturn rfl (k ((-50)) _ _ _ H O (SF_trans (SF_trans (SF_refl) (SF_glu (ι := []) hS10 eF10 (by decide +kernel)) (any_sub (lₚ := []) rfl)) (SF_glu (ι := []) hS12 eF12 (by decide +kernel)) (any_sub (lₚ := []) rfl)) (SA_trans (SA_trans (SA_refl) (SA_glu (ι := []) hA10 eA10 (by decide +kernel)) (any_subA (lₚ := []) rfl)) (SA_glu (ι := []) hA12 eA12 (by decide +kernel)) (any_subA (lₚ := []) rfl)) (show inr ((-50)) by omega))
abbrev V15_c12_va : vV := [(0, 0, [(4, 0), (4, 0), (4, 0), (4, 0), (4, 0), (4, 0), (4, 0), (4, 0), (4, 0), (4, 0), (4, 0), (4, 0), (4, 0), (4, 0), (4, 0), (4, 0), (4, 0), (0, 0), (0, 0)]), (1, 4, []), (0, 7, [(4, 0), (0, 0), (1, 0), (0, 0), (0, 0)]), (1, 0, []), (0, 7, [(4, 0), (0, 0), (1, 0), (0, 0), (0, 0)]), (1, 0, []), (0, 7, [(4, 0), (0, 0), (1, 0), (0, 0), (0, 0)]), (1, 0, []), (0, 7, [(4, 0), (0, 0), (1, 0), (0, 0), (0, 0)]), (1, 0, []), (0, 4, [(4, 0), (4, 0), (0, 0), (4, 0), (4, 0)])]
/-- PackHouse.learn: this, this.rows, this.rows.0, this.rows.0.bytes, this.rows.1, this.rows.1.bytes, this.rows.2, this.rows.2.bytes, this.rows.3, this.rows.3.bytes, this.otherDictionary -/
theorem C15_c12_va {σE : rS} {D N : Nat → Nat} {F : hF} {A : hA} {d c s : Nat} {Q : wQ} (H : HW V15_c12_va σE D N F A)  (pf1 : F 0 0 = (D 1 : Int)) (pf2 : A 1 0 = (D 2 : Int)) (pf3 : F 2 0 = (D 3 : Int)) (pf4 : A 1 1 = (D 4 : Int)) (pf5 : F 4 0 = (D 5 : Int)) (pf6 : A 1 2 = (D 6 : Int)) (pf7 : F 6 0 = (D 7 : Int)) (pf8 : A 1 3 = (D 8 : Int)) (pf9 : F 8 0 = (D 9 : Int)) (pf10 : F 0 4 = (D 10 : Int)) (n1 : Int) (en1 : (N 1 : Int) = n1) (n3 : Int) (en3 : (N 3 : Int) = n3) (n5 : Int) (en5 : (N 5 : Int) = n5) (n7 : Int) (en7 : (N 7 : Int) = n7) (n9 : Int) (en9 : (N 9 : Int) = n9) (u2_1 : Int) (eu2_1 : F 2 1 = u2_1) (u4_1 : Int) (eu4_1 : F 4 1 = u4_1) (u6_1 : Int) (eu6_1 : F 6 1 = u6_1) (u8_1 : Int) (eu8_1 : F 8 1 = u8_1) (h0 : inr (2)) (h1 : (n1) = 4) (h2 : 0 ≤ (u2_1) ∧ (u2_1) ≤ (n3) ∧ (n3) ≤ 65536) (h3 : 0 ≤ (u4_1) ∧ (u4_1) ≤ (n5) ∧ (n5) ≤ 65536) (h4 : 0 ≤ (u6_1) ∧ (u6_1) ≤ (n7) ∧ (n7) ≤ 65536) (h5 : 0 ≤ (u8_1) ∧ (u8_1) ≤ (n9) ∧ (n9) ≤ 65536) (hc20 : ∀ (ls : rO) (σ : rS) (F_c20 : hF) (A_c20 : hA) , rlook ls 0 = some (.ref (D 0)) → HW V15_c12_va σ D N F_c20 A_c20 → OUT (V15_c12_va).length D N σE c s D N σ c s → SF [] F F_c20 → SA [] A A_c20 → Ew 15 (d + 1) 20 ls [.ref (D 6), .ref (D 10)] σ c s Q) (k : ∀ (z : Int) (σ : rS) (Fₚ : hF) (Aₚ : hA), HW V15_c12_va σ D N Fₚ Aₚ → OUT (V15_c12_va).length D N σE c s D N σ c s → SF [] F Fₚ → SA [] A Aₚ → (inr (z)) → Q (some (I z)) σ c s) : Ew 15 (d + 1) 0 (rargs 0 [.ref (D 0), I 2]) [] σE c s Q := by
  have O := OUT_refl (n := (V15_c12_va).length) (D := D) (N := N) (σ := σE) (c := c) (s := s)
  have HE := H
  have r1 : HID ((-2147483648 : Int) ≤ u2_1 ∧ u2_1 ≤ 2147483647) := krg_e (show (-2147483648 : Int) ≤ F 2 1 ∧ F 2 1 ≤ 2147483647 from H.krg 2 1 (by decide)) (show F 2 1 = u2_1 from (eu2_1))
  have r2 : HID ((-2147483648 : Int) ≤ u4_1 ∧ u4_1 ≤ 2147483647) := krg_e (show (-2147483648 : Int) ≤ F 4 1 ∧ F 4 1 ≤ 2147483647 from H.krg 4 1 (by decide)) (show F 4 1 = u4_1 from (eu4_1))
  have r3 : HID ((-2147483648 : Int) ≤ u6_1 ∧ u6_1 ≤ 2147483647) := krg_e (show (-2147483648 : Int) ≤ F 6 1 ∧ F 6 1 ≤ 2147483647 from H.krg 6 1 (by decide)) (show F 6 1 = u6_1 from (eu6_1))
  have r4 : HID ((-2147483648 : Int) ≤ u8_1 ∧ u8_1 ≤ 2147483647) := krg_e (show (-2147483648 : Int) ≤ F 8 1 ∧ F 8 1 ≤ 2147483647 from H.krg 8 1 (by decide)) (show F 8 1 = u8_1 from (eu8_1))
  replace pf1 := HIDm pf1
  replace pf2 := HIDm pf2
  replace pf3 := HIDm pf3
  replace pf4 := HIDm pf4
  replace pf5 := HIDm pf5
  replace pf6 := HIDm pf6
  replace pf7 := HIDm pf7
  replace pf8 := HIDm pf8
  replace pf9 := HIDm pf9
  replace pf10 := HIDm pf10
  replace en1 := HIDm en1
  replace en3 := HIDm en3
  replace en5 := HIDm en5
  replace en7 := HIDm en7
  replace en9 := HIDm en9
  replace eu2_1 := HIDm eu2_1
  replace eu4_1 := HIDm eu4_1
  replace eu6_1 := HIDm eu6_1
  replace eu8_1 := HIDm eu8_1
  have r5 : HID ((0 : Int) ≤ n1 ∧ n1 ≤ 1000000) := nrng (H.nle 1 (by decide)) (show (N 1 : Int) = n1 from en1)
  have r6 : HID ((0 : Int) ≤ n3 ∧ n3 ≤ 1000000) := nrng (H.nle 3 (by decide)) (show (N 3 : Int) = n3 from en3)
  have r7 : HID ((0 : Int) ≤ n5 ∧ n5 ≤ 1000000) := nrng (H.nle 5 (by decide)) (show (N 5 : Int) = n5 from en5)
  have r8 : HID ((0 : Int) ≤ n7 ∧ n7 ≤ 1000000) := nrng (H.nle 7 (by decide)) (show (N 7 : Int) = n7 from en7)
  have r9 : HID ((0 : Int) ≤ n9 ∧ n9 ≤ 1000000) := nrng (H.nle 9 (by decide)) (show (N 9 : Int) = n9 from en9)
  refine Ew_of (pcₚ := 1) (fun _ => x_iload_n rfl rfl) ?_
  refine w_stat24 rfl rfl (by rfl) (C24 (D := pul [] D) (N := pul [] N) (HW_sub H (VS_of (show vsub V15_c12_va V24 [] = true by decide +kernel))) (show inr (2) by omega) (fun z10 σ10 F10ₚ A10ₚ Hₚ Oₚ hS10 hA10 pz10_0 pz10_1 => ⟨rretB rfl pz10_0, ?_⟩))
  refine v_back (c := c) (s := s) H (show vsub V15_c12_va V24 [] = true by decide +kernel) Hₚ Oₚ (fun F10 A10 H Oₚ eF10 eA10 => ?_)
  have O := OUT_trans O Oₚ
  -- PackHouse.isRow
  refine w_ifne (t := 10) rfl rfl (show inr (z10) by omega) (fun b11 => ?_) (fun b11 => ?_)
  · refine Ew_of (pcₚ := 11) (fun _ => x_aload_n rfl rfl) ?_
    refine v_g H (o := 0) (v := .ref (D 10)) rfl rfl rfl rfl rfl (vrf ((((show F10 0 4 = F 0 4 from (eF10 0 4)))).trans (pf10))) ?_
    refine Ew_of (pcₚ := 15) (fun _ => x_aload_n rfl rfl) ?_
    refine v_g H (o := 0) (v := .ref (D 1)) rfl rfl rfl rfl rfl (vrf ((((show F10 0 0 = F 0 0 from (eF10 0 0)))).trans (pf1))) ?_
    refine Ew_of (pcₚ := 19) (fun _ => x_iload_n rfl rfl) ?_
    refine v_lR H (o := 1) rfl rfl rfl rfl rfl (n := n1) (en1) (show 0 ≤ 2 ∧ 2 < n1 by have qh0 := HIDe r5; omega) (z := ((D 6 : Nat) : Int)) (v := .ref (D 6)) ((congrFun (((show A10 1 = A 1 from (eA10 1)))) 2).trans (pf6)) (vrf rfl) ?_
    exact hc20  _ _ _ _  (rfl) H O (SF_trans (SF_refl) (SF_glu (ι := []) hS10 eF10 (by decide +kernel)) (any_sub (lₚ := []) rfl)) (SA_trans (SA_refl) (SA_glu (ι := []) hA10 eA10 (by decide +kernel)) (any_subA (lₚ := []) rfl))     
  · refine Ew_of (pcₚ := 9) (fun _ => x_bipush (z := -5) rfl (by decide)) ?_
    exact w_ireturn rfl (k ((-5)) _ _ _ H O (SF_trans (SF_refl) (SF_glu (ι := []) hS10 eF10 (by decide +kernel)) (any_sub (lₚ := []) rfl)) (SA_trans (SA_refl) (SA_glu (ι := []) hA10 eA10 (by decide +kernel)) (any_subA (lₚ := []) rfl)) (show inr ((-5)) by omega))
abbrev V18_c23_va : vV := [(0, 0, [(4, 0), (4, 0), (4, 0), (4, 0), (4, 0), (4, 0), (4, 0), (4, 0), (4, 0), (4, 0), (4, 0), (4, 0), (4, 0), (4, 0), (4, 0), (4, 0), (4, 0), (0, 0), (0, 0)]), (1, 4, []), (0, 7, [(4, 0), (0, 0), (1, 0), (0, 0), (0, 0)]), (1, 0, []), (0, 7, [(4, 0), (0, 0), (1, 0), (0, 0), (0, 0)]), (1, 0, []), (0, 7, [(4, 0), (0, 0), (1, 0), (0, 0), (0, 0)]), (1, 0, []), (0, 7, [(4, 0), (0, 0), (1, 0), (0, 0), (0, 0)]), (1, 0, []), (1, 1, [])]
/-- PackHouse.read: this, this.rows, this.rows.0, this.rows.0.bytes, this.rows.1, this.rows.1.bytes, this.rows.2, this.rows.2.bytes, this.rows.3, this.rows.3.bytes, this.readCounts -/
theorem C18_c23_va {σE : rS} {D N : Nat → Nat} {F : hF} {A : hA} {d c s : Nat} {Q : wQ} (H : HW V18_c23_va σE D N F A) {a1 a3 a4 : Int} (pf1 : F 0 0 = (D 1 : Int)) (pf2 : A 1 0 = (D 2 : Int)) (pf3 : F 2 0 = (D 3 : Int)) (pf4 : A 1 1 = (D 4 : Int)) (pf5 : F 4 0 = (D 5 : Int)) (pf6 : A 1 2 = (D 6 : Int)) (pf7 : F 6 0 = (D 7 : Int)) (pf8 : A 1 3 = (D 8 : Int)) (pf9 : F 8 0 = (D 9 : Int)) (pf10 : F 0 14 = (D 10 : Int)) (n1 : Int) (en1 : (N 1 : Int) = n1) (n3 : Int) (en3 : (N 3 : Int) = n3) (n5 : Int) (en5 : (N 5 : Int) = n5) (n7 : Int) (en7 : (N 7 : Int) = n7) (n9 : Int) (en9 : (N 9 : Int) = n9) (n10 : Int) (en10 : (N 10 : Int) = n10) (u2_1 : Int) (eu2_1 : F 2 1 = u2_1) (u4_1 : Int) (eu4_1 : F 4 1 = u4_1) (u6_1 : Int) (eu6_1 : F 6 1 = u6_1) (u8_1 : Int) (eu8_1 : F 8 1 = u8_1) (h0 : inr (a1)) (h1 : inr (3)) (h2 : inr (a3)) (h3 : inr (a4)) (h4 : (n1) = 4) (h5 : 0 ≤ (u2_1) ∧ (u2_1) ≤ (n3) ∧ (n3) ≤ 65536) (h6 : 0 ≤ (u4_1) ∧ (u4_1) ≤ (n5) ∧ (n5) ≤ 65536) (h7 : 0 ≤ (u6_1) ∧ (u6_1) ≤ (n7) ∧ (n7) ≤ 65536) (h8 : 0 ≤ (u8_1) ∧ (u8_1) ≤ (n9) ∧ (n9) ≤ 65536) (hc54 : ∀ (tc54_1 : Int), ∀ (tc54_4 : Int), ∀ (tc54_5 : Int), ∀ (ls : rO) (σ : rS) (F_c54 : hF) (A_c54 : hA) , HW V18_c23_va σ D N F_c54 A_c54 → OUT (V18_c23_va).length D N σE c s D N σ c s → SF [] F F_c54 → SA [] A A_c54 → (inr (tc54_1)) → (inr (tc54_4)) → (inr (tc54_5)) → (0 ≤ (tc54_1) ∧ (tc54_1) ≤ 3) → (0 ≤ (tc54_4) ∧ (tc54_4) ≤ 4) → (0 ≤ (tc54_5) ∧ (tc54_5) ≤ 65536) → Ew 18 (d + 1) 54 ls [.ref (D 10), I (tc54_5), I (tc54_4), .ref (D 8), .ref (D 0), I (tc54_1), .ref (D 0)] σ c s Q) (k : ∀ (z : Int) (σ : rS) (Fₚ : hF) (Aₚ : hA), HW V18_c23_va σ D N Fₚ Aₚ → OUT (V18_c23_va).length D N σE c s D N σ c s → SF [] F Fₚ → SA [] A Aₚ → (inr (z)) → Q (some (I z)) σ c s) : Ew 18 (d + 1) 0 (rargs 0 [.ref (D 0), I a1, I 3, I a3, I a4]) [] σE c s Q := by
  have O := OUT_refl (n := (V18_c23_va).length) (D := D) (N := N) (σ := σE) (c := c) (s := s)
  have HE := H
  have r1 : HID ((-2147483648 : Int) ≤ u2_1 ∧ u2_1 ≤ 2147483647) := krg_e (show (-2147483648 : Int) ≤ F 2 1 ∧ F 2 1 ≤ 2147483647 from H.krg 2 1 (by decide)) (show F 2 1 = u2_1 from (eu2_1))
  have r2 : HID ((-2147483648 : Int) ≤ u4_1 ∧ u4_1 ≤ 2147483647) := krg_e (show (-2147483648 : Int) ≤ F 4 1 ∧ F 4 1 ≤ 2147483647 from H.krg 4 1 (by decide)) (show F 4 1 = u4_1 from (eu4_1))
  have r3 : HID ((-2147483648 : Int) ≤ u6_1 ∧ u6_1 ≤ 2147483647) := krg_e (show (-2147483648 : Int) ≤ F 6 1 ∧ F 6 1 ≤ 2147483647 from H.krg 6 1 (by decide)) (show F 6 1 = u6_1 from (eu6_1))
  have r4 : HID ((-2147483648 : Int) ≤ u8_1 ∧ u8_1 ≤ 2147483647) := krg_e (show (-2147483648 : Int) ≤ F 8 1 ∧ F 8 1 ≤ 2147483647 from H.krg 8 1 (by decide)) (show F 8 1 = u8_1 from (eu8_1))
  replace pf1 := HIDm pf1
  replace pf2 := HIDm pf2
  replace pf3 := HIDm pf3
  replace pf4 := HIDm pf4
  replace pf5 := HIDm pf5
  replace pf6 := HIDm pf6
  replace pf7 := HIDm pf7
  replace pf8 := HIDm pf8
  replace pf9 := HIDm pf9
  replace pf10 := HIDm pf10
  replace en1 := HIDm en1
  replace en3 := HIDm en3
  replace en5 := HIDm en5
  replace en7 := HIDm en7
  replace en9 := HIDm en9
  replace en10 := HIDm en10
  replace eu2_1 := HIDm eu2_1
  replace eu4_1 := HIDm eu4_1
  replace eu6_1 := HIDm eu6_1
  replace eu8_1 := HIDm eu8_1
  have r5 : HID ((0 : Int) ≤ n1 ∧ n1 ≤ 1000000) := nrng (H.nle 1 (by decide)) (show (N 1 : Int) = n1 from en1)
  have r6 : HID ((0 : Int) ≤ n3 ∧ n3 ≤ 1000000) := nrng (H.nle 3 (by decide)) (show (N 3 : Int) = n3 from en3)
  have r7 : HID ((0 : Int) ≤ n5 ∧ n5 ≤ 1000000) := nrng (H.nle 5 (by decide)) (show (N 5 : Int) = n5 from en5)
  have r8 : HID ((0 : Int) ≤ n7 ∧ n7 ≤ 1000000) := nrng (H.nle 7 (by decide)) (show (N 7 : Int) = n7 from en7)
  have r9 : HID ((0 : Int) ≤ n9 ∧ n9 ≤ 1000000) := nrng (H.nle 9 (by decide)) (show (N 9 : Int) = n9 from en9)
  refine Ew_of (pcₚ := 1) (fun _ => x_iload_n rfl rfl) ?_
  refine w_stat24 rfl rfl (by rfl) (C24 (D := pul [] D) (N := pul [] N) (HW_sub H (VS_of (show vsub V18_c23_va V24 [] = true by decide +kernel))) (show inr (a1) by omega) (fun z10 σ10 F10ₚ A10ₚ Hₚ Oₚ hS10 hA10 pz10_0 pz10_1 => ⟨rretB rfl pz10_0, ?_⟩))
  refine v_back (c := c) (s := s) H (show vsub V18_c23_va V24 [] = true by decide +kernel) Hₚ Oₚ (fun F10 A10 H Oₚ eF10 eA10 => ?_)
  have O := OUT_trans O Oₚ
  -- PackHouse.isRow
  refine w_ifeq (t := 35) rfl rfl (show inr (z10) by omega) (fun b11 => ?_) (fun b11 => ?_)
  · refine Ew_of (pcₚ := 37) (fun _ => x_bipush (z := -50) rfl (by decide)) ?_
    exact w_ireturn rfl (k ((-50)) _ _ _ H O (SF_trans (SF_refl) (SF_glu (ι := []) hS10 eF10 (by decide +kernel)) (any_sub (lₚ := []) rfl)) (SA_trans (SA_refl) (SA_glu (ι := []) hA10 eA10 (by decide +kernel)) (any_subA (lₚ := []) rfl)) (show inr ((-50)) by omega))
  · refine Ew_of (pcₚ := 8) (fun _ => x_iload_n rfl rfl) ?_
    refine w_stat24 rfl rfl (by rfl) (C24 (D := pul [] D) (N := pul [] N) (HW_sub H (VS_of (show vsub V18_c23_va V24 [] = true by decide +kernel))) (show inr (3) by omega) (fun z12 σ12 F12ₚ A12ₚ Hₚ Oₚ hS12 hA12 pz12_0 pz12_1 => ⟨rretB rfl pz12_0, ?_⟩))
    refine v_back (c := c) (s := s) H (show vsub V18_c23_va V24 [] = true by decide +kernel) Hₚ Oₚ (fun F12 A12 H Oₚ eF12 eA12 => ?_)
    have O := OUT_trans O Oₚ
    -- PackHouse.isRow
    refine w_ifeq (t := 35) rfl rfl (show inr (z12) by omega) (fun b13 => ?_) (fun b13 => ?_)
    · refine Ew_of (pcₚ := 37) (fun _ => x_bipush (z := -50) rfl (by decide)) ?_
      exact w_ireturn rfl (k ((-50)) _ _ _ H O (SF_trans (SF_trans (SF_refl) (SF_glu (ι := []) hS10 eF10 (by decide +kernel)) (any_sub (lₚ := []) rfl)) (SF_glu (ι := []) hS12 eF12 (by decide +kernel)) (any_sub (lₚ := []) rfl)) (SA_trans (SA_trans (SA_refl) (SA_glu (ι := []) hA10 eA10 (by decide +kernel)) (any_subA (lₚ := []) rfl)) (SA_glu (ι := []) hA12 eA12 (by decide +kernel)) (any_subA (lₚ := []) rfl)) (show inr ((-50)) by omega))
    · refine Ew_of (pcₚ := 15) (fun _ => x_iload_n rfl rfl) ?_
      refine w_iflt (t := 35) rfl rfl (show inr (a3) by omega) (fun b14 => ?_) (fun b14 => ?_)
      · refine Ew_of (pcₚ := 37) (fun _ => x_bipush (z := -50) rfl (by decide)) ?_
        exact w_ireturn rfl (k ((-50)) _ _ _ H O (SF_trans (SF_trans (SF_refl) (SF_glu (ι := []) hS10 eF10 (by decide +kernel)) (any_sub (lₚ := []) rfl)) (SF_glu (ι := []) hS12 eF12 (by decide +kernel)) (any_sub (lₚ := []) rfl)) (SA_trans (SA_trans (SA_refl) (SA_glu (ι := []) hA10 eA10 (by decide +kernel)) (any_subA (lₚ := []) rfl)) (SA_glu (ι := []) hA12 eA12 (by decide +kernel)) (any_subA (lₚ := []) rfl)) (show inr ((-50)) by omega))
      · refine Ew_of (pcₚ := 19) (fun _ => x_iload_n rfl rfl) ?_
        refine Ew_of (pcₚ := 20) (fun _ => x_iconst rfl) ?_
        refine w_icmpgt (t := 35) rfl rfl (show inr (a3) by omega) (show inr (4) by omega) (fun b15 => ?_) (fun b15 => ?_)
        · refine Ew_of (pcₚ := 37) (fun _ => x_bipush (z := -50) rfl (by decide)) ?_
          exact w_ireturn rfl (k ((-50)) _ _ _ H O (SF_trans (SF_trans (SF_refl) (SF_glu (ι := []) hS10 eF10 (by decide +kernel)) (any_sub (lₚ := []) rfl)) (SF_glu (ι := []) hS12 eF12 (by decide +kernel)) (any_sub (lₚ := []) rfl)) (SA_trans (SA_trans (SA_refl) (SA_glu (ι := []) hA10 eA10 (by decide +kernel)) (any_subA (lₚ := []) rfl)) (SA_glu (ι := []) hA12 eA12 (by decide +kernel)) (any_subA (lₚ := []) rfl)) (show inr ((-50)) by omega))
        · refine Ew_of (pcₚ := 25) (fun _ => x_iload rfl rfl) ?_
          refine w_iflt (t := 35) rfl rfl (show inr (a4) by omega) (fun b16 => ?_) (fun b16 => ?_)
          · refine Ew_of (pcₚ := 37) (fun _ => x_bipush (z := -50) rfl (by decide)) ?_
            exact w_ireturn rfl (k ((-50)) _ _ _ H O (SF_trans (SF_trans (SF_refl) (SF_glu (ι := []) hS10 eF10 (by decide +kernel)) (any_sub (lₚ := []) rfl)) (SF_glu (ι := []) hS12 eF12 (by decide +kernel)) (any_sub (lₚ := []) rfl)) (SA_trans (SA_trans (SA_refl) (SA_glu (ι := []) hA10 eA10 (by decide +kernel)) (any_subA (lₚ := []) rfl)) (SA_glu (ι := []) hA12 eA12 (by decide +kernel)) (any_subA (lₚ := []) rfl)) (show inr ((-50)) by omega))
          · refine Ew_of (pcₚ := 30) (fun _ => x_iload rfl rfl) ?_
            refine Ew_of (pcₚ := 32) (fun _ => x_ldc (z := 65536) rfl (by decide)) ?_
            refine w_icmple (t := 38) rfl rfl (show inr (a4) by omega) (show inr (65536) by omega) (fun b17 => ?_) (fun b17 => ?_)
            · refine Ew_of (pcₚ := 39) (fun _ => x_aload_n rfl rfl) ?_
              refine Ew_of (pcₚ := 40) (fun _ => x_iload_n rfl rfl) ?_
              refine Ew_of (pcₚ := 41) (fun _ => x_aload_n rfl rfl) ?_
              refine Ew_of (pcₚ := 42) (fun _ => x_aload_n rfl rfl) ?_
              refine v_g H (o := 0) (v := .ref (D 1)) rfl rfl rfl rfl rfl (vrf (((((show F12 0 0 = F10 0 0 from (eF12 0 0))).trans ((show F10 0 0 = F 0 0 from (eF10 0 0))))).trans (pf1))) ?_
              refine Ew_of (pcₚ := 46) (fun _ => x_iload_n rfl rfl) ?_
              refine v_lR H (o := 1) rfl rfl rfl rfl rfl (n := n1) (en1) (show 0 ≤ 3 ∧ 3 < n1 by have qh0 := HIDe r5; omega) (z := ((D 8 : Nat) : Int)) (v := .ref (D 8)) ((congrFun ((((show A12 1 = A10 1 from (eA12 1))).trans ((show A10 1 = A 1 from (eA10 1))))) 3).trans (pf8)) (vrf rfl) ?_
              refine Ew_of (pcₚ := 48) (fun _ => x_iload_n rfl rfl) ?_
              refine Ew_of (pcₚ := 50) (fun _ => x_iload rfl rfl) ?_
              refine Ew_of (pcₚ := 51) (fun _ => x_aload_n rfl rfl) ?_
              refine v_g H (o := 0) (v := .ref (D 10)) rfl rfl rfl rfl rfl (vrf (((((show F12 0 14 = F10 0 14 from (eF12 0 14))).trans ((show F10 0 14 = F 0 14 from (eF10 0 14))))).trans (pf10))) ?_
              exact hc54 (a1) (a3) (a4) _ _ _ _   H O (SF_trans (SF_trans (SF_refl) (SF_glu (ι := []) hS10 eF10 (by decide +kernel)) (any_sub (lₚ := []) rfl)) (SF_glu (ι := []) hS12 eF12 (by decide +kernel)) (any_sub (lₚ := []) rfl)) (SA_trans (SA_trans (SA_refl) (SA_glu (ι := []) hA10 eA10 (by decide +kernel)) (any_subA (lₚ := []) rfl)) (SA_glu (ι := []) hA12 eA12 (by decide +kernel)) (any_subA (lₚ := []) rfl))     (show inr (a1) by omega) (show inr (a3) by omega) (show inr (a4) by omega) (show 0 ≤ (a1) ∧ (a1) ≤ 3 by omega) (show 0 ≤ (a3) ∧ (a3) ≤ 4 by omega) (show 0 ≤ (a4) ∧ (a4) ≤ 65536 by omega)
            · refine Ew_of (pcₚ := 37) (fun _ => x_bipush (z := -50) rfl (by decide)) ?_
              exact w_ireturn rfl (k ((-50)) _ _ _ H O (SF_trans (SF_trans (SF_refl) (SF_glu (ι := []) hS10 eF10 (by decide +kernel)) (any_sub (lₚ := []) rfl)) (SF_glu (ι := []) hS12 eF12 (by decide +kernel)) (any_sub (lₚ := []) rfl)) (SA_trans (SA_trans (SA_refl) (SA_glu (ι := []) hA10 eA10 (by decide +kernel)) (any_subA (lₚ := []) rfl)) (SA_glu (ι := []) hA12 eA12 (by decide +kernel)) (any_subA (lₚ := []) rfl)) (show inr ((-50)) by omega))
abbrev V20_c23_va : vV := [(0, 0, [(4, 0), (4, 0), (4, 0), (4, 0), (4, 0), (4, 0), (4, 0), (4, 0), (4, 0), (4, 0), (4, 0), (4, 0), (4, 0), (4, 0), (4, 0), (4, 0), (4, 0), (0, 0), (0, 0)]), (1, 4, []), (0, 7, [(4, 0), (0, 0), (1, 0), (0, 0), (0, 0)]), (1, 0, []), (0, 7, [(4, 0), (0, 0), (1, 0), (0, 0), (0, 0)]), (1, 0, []), (0, 7, [(4, 0), (0, 0), (1, 0), (0, 0), (0, 0)]), (1, 0, []), (0, 7, [(4, 0), (0, 0), (1, 0), (0, 0), (0, 0)]), (1, 0, []), (1, 1, [])]
/-- PackHouse.open: this, this.rows, this.rows.0, this.rows.0.bytes, this.rows.1, this.rows.1.bytes, this.rows.2, this.rows.2.bytes, this.rows.3, this.rows.3.bytes, this.readCounts -/
theorem C20_c23_va {σE : rS} {D N : Nat → Nat} {F : hF} {A : hA} {d c s : Nat} {Q : wQ} (H : HW V20_c23_va σE D N F A) (HT : STC σE) {a1 a3 : Int} (pf1 : F 0 0 = (D 1 : Int)) (pf2 : A 1 0 = (D 2 : Int)) (pf3 : F 2 0 = (D 3 : Int)) (pf4 : A 1 1 = (D 4 : Int)) (pf5 : F 4 0 = (D 5 : Int)) (pf6 : A 1 2 = (D 6 : Int)) (pf7 : F 6 0 = (D 7 : Int)) (pf8 : A 1 3 = (D 8 : Int)) (pf9 : F 8 0 = (D 9 : Int)) (pf10 : F 0 14 = (D 10 : Int)) (n1 : Int) (en1 : (N 1 : Int) = n1) (n3 : Int) (en3 : (N 3 : Int) = n3) (n5 : Int) (en5 : (N 5 : Int) = n5) (n7 : Int) (en7 : (N 7 : Int) = n7) (n9 : Int) (en9 : (N 9 : Int) = n9) (n10 : Int) (en10 : (N 10 : Int) = n10) (u2_1 : Int) (eu2_1 : F 2 1 = u2_1) (u4_1 : Int) (eu4_1 : F 4 1 = u4_1) (u6_1 : Int) (eu6_1 : F 6 1 = u6_1) (u8_1 : Int) (eu8_1 : F 8 1 = u8_1) (h0 : inr (a1)) (h1 : inr (3)) (h2 : inr (a3)) (h3 : (n1) = 4) (h4 : 0 ≤ (u2_1) ∧ (u2_1) ≤ (n3) ∧ (n3) ≤ 65536) (h5 : 0 ≤ (u4_1) ∧ (u4_1) ≤ (n5) ∧ (n5) ≤ 65536) (h6 : 0 ≤ (u6_1) ∧ (u6_1) ≤ (n7) ∧ (n7) ≤ 65536) (h7 : 0 ≤ (u8_1) ∧ (u8_1) ≤ (n9) ∧ (n9) ≤ 65536) (hc68 : ∀ (tc68_1 : Int), ∀ (tc68_4 : Int), ∀ (tc68_5 : Int), ∀ (ls : rO) (σ : rS) (F_c68 : hF) (A_c68 : hA) , HW V20_c23_va σ D N F_c68 A_c68 → OUT (V20_c23_va).length D N σE c s D N σ c s → SF [] F F_c68 → SA [] A A_c68 → (inr (tc68_1)) → (inr (tc68_4)) → (inr (tc68_5)) → (0 ≤ (tc68_1) ∧ (tc68_1) ≤ 3) → ((tc68_4) = 1 ∨ (tc68_4) = 3 ∨ (tc68_4) = 4) → (0 ≤ (tc68_5) ∧ (tc68_5) ≤ 65536) → Ew 20 (d + 3) 68 ls [.ref (D 10), I (tc68_5), I (tc68_4), .ref (D 8), .ref (D 0), I (tc68_1), .ref (D 0)] σ c s Q) (k : ∀ (z : Int) (σ : rS) (Fₚ : hF) (Aₚ : hA), HW V20_c23_va σ D N Fₚ Aₚ → OUT (V20_c23_va).length D N σE c s D N σ c s → SF [] F Fₚ → SA [] A Aₚ → (inr (z)) → Q (some (I z)) σ c s) : Ew 20 (d + 3) 0 (rargs 0 [.ref (D 0), I a1, I 3, I a3]) [] σE c s Q := by
  have O := OUT_refl (n := (V20_c23_va).length) (D := D) (N := N) (σ := σE) (c := c) (s := s)
  have HE := H
  have r1 : HID ((-2147483648 : Int) ≤ u2_1 ∧ u2_1 ≤ 2147483647) := krg_e (show (-2147483648 : Int) ≤ F 2 1 ∧ F 2 1 ≤ 2147483647 from H.krg 2 1 (by decide)) (show F 2 1 = u2_1 from (eu2_1))
  have r2 : HID ((-2147483648 : Int) ≤ u4_1 ∧ u4_1 ≤ 2147483647) := krg_e (show (-2147483648 : Int) ≤ F 4 1 ∧ F 4 1 ≤ 2147483647 from H.krg 4 1 (by decide)) (show F 4 1 = u4_1 from (eu4_1))
  have r3 : HID ((-2147483648 : Int) ≤ u6_1 ∧ u6_1 ≤ 2147483647) := krg_e (show (-2147483648 : Int) ≤ F 6 1 ∧ F 6 1 ≤ 2147483647 from H.krg 6 1 (by decide)) (show F 6 1 = u6_1 from (eu6_1))
  have r4 : HID ((-2147483648 : Int) ≤ u8_1 ∧ u8_1 ≤ 2147483647) := krg_e (show (-2147483648 : Int) ≤ F 8 1 ∧ F 8 1 ≤ 2147483647 from H.krg 8 1 (by decide)) (show F 8 1 = u8_1 from (eu8_1))
  replace pf1 := HIDm pf1
  replace pf2 := HIDm pf2
  replace pf3 := HIDm pf3
  replace pf4 := HIDm pf4
  replace pf5 := HIDm pf5
  replace pf6 := HIDm pf6
  replace pf7 := HIDm pf7
  replace pf8 := HIDm pf8
  replace pf9 := HIDm pf9
  replace pf10 := HIDm pf10
  replace en1 := HIDm en1
  replace en3 := HIDm en3
  replace en5 := HIDm en5
  replace en7 := HIDm en7
  replace en9 := HIDm en9
  replace en10 := HIDm en10
  replace eu2_1 := HIDm eu2_1
  replace eu4_1 := HIDm eu4_1
  replace eu6_1 := HIDm eu6_1
  replace eu8_1 := HIDm eu8_1
  have r5 : HID ((0 : Int) ≤ n1 ∧ n1 ≤ 1000000) := nrng (H.nle 1 (by decide)) (show (N 1 : Int) = n1 from en1)
  have r6 : HID ((0 : Int) ≤ n3 ∧ n3 ≤ 1000000) := nrng (H.nle 3 (by decide)) (show (N 3 : Int) = n3 from en3)
  have r7 : HID ((0 : Int) ≤ n5 ∧ n5 ≤ 1000000) := nrng (H.nle 5 (by decide)) (show (N 5 : Int) = n5 from en5)
  have r8 : HID ((0 : Int) ≤ n7 ∧ n7 ≤ 1000000) := nrng (H.nle 7 (by decide)) (show (N 7 : Int) = n7 from en7)
  have r9 : HID ((0 : Int) ≤ n9 ∧ n9 ≤ 1000000) := nrng (H.nle 9 (by decide)) (show (N 9 : Int) = n9 from en9)
  refine Ew_of (pcₚ := 1) (fun _ => x_iload_n rfl rfl) ?_
  refine w_stat24 rfl rfl (by rfl) (C24 (D := pul [] D) (N := pul [] N) (HW_sub H (VS_of (show vsub V20_c23_va V24 [] = true by decide +kernel))) (show inr (a1) by omega) (fun z10 σ10 F10ₚ A10ₚ Hₚ Oₚ hS10 hA10 pz10_0 pz10_1 => ⟨rretB rfl pz10_0, ?_⟩))
  refine v_back (c := c) (s := s) H (show vsub V20_c23_va V24 [] = true by decide +kernel) Hₚ Oₚ (fun F10 A10 H Oₚ eF10 eA10 => ?_)
  have O := OUT_trans O Oₚ
  -- PackHouse.isRow
  refine w_ifeq (t := 24) rfl rfl (show inr (z10) by omega) (fun b11 => ?_) (fun b11 => ?_)
  · refine Ew_of (pcₚ := 26) (fun _ => x_bipush (z := -50) rfl (by decide)) ?_
    exact w_ireturn rfl (k ((-50)) _ _ _ H O (SF_trans (SF_refl) (SF_glu (ι := []) hS10 eF10 (by decide +kernel)) (any_sub (lₚ := []) rfl)) (SA_trans (SA_refl) (SA_glu (ι := []) hA10 eA10 (by decide +kernel)) (any_subA (lₚ := []) rfl)) (show inr ((-50)) by omega))
  · refine Ew_of (pcₚ := 8) (fun _ => x_iload_n rfl rfl) ?_
    refine w_stat24 rfl rfl (by rfl) (C24 (D := pul [] D) (N := pul [] N) (HW_sub H (VS_of (show vsub V20_c23_va V24 [] = true by decide +kernel))) (show inr (3) by omega) (fun z12 σ12 F12ₚ A12ₚ Hₚ Oₚ hS12 hA12 pz12_0 pz12_1 => ⟨rretB rfl pz12_0, ?_⟩))
    refine v_back (c := c) (s := s) H (show vsub V20_c23_va V24 [] = true by decide +kernel) Hₚ Oₚ (fun F12 A12 H Oₚ eF12 eA12 => ?_)
    have O := OUT_trans O Oₚ
    -- PackHouse.isRow
    refine w_ifeq (t := 24) rfl rfl (show inr (z12) by omega) (fun b13 => ?_) (fun b13 => ?_)
    · refine Ew_of (pcₚ := 26) (fun _ => x_bipush (z := -50) rfl (by decide)) ?_
      exact w_ireturn rfl (k ((-50)) _ _ _ H O (SF_trans (SF_trans (SF_refl) (SF_glu (ι := []) hS10 eF10 (by decide +kernel)) (any_sub (lₚ := []) rfl)) (SF_glu (ι := []) hS12 eF12 (by decide +kernel)) (any_sub (lₚ := []) rfl)) (SA_trans (SA_trans (SA_refl) (SA_glu (ι := []) hA10 eA10 (by decide +kernel)) (any_subA (lₚ := []) rfl)) (SA_glu (ι := []) hA12 eA12 (by decide +kernel)) (any_subA (lₚ := []) rfl)) (show inr ((-50)) by omega))
    · refine Ew_of (pcₚ := 15) (fun _ => x_iload_n rfl rfl) ?_
      refine w_iflt (t := 24) rfl rfl (show inr (a3) by omega) (fun b14 => ?_) (fun b14 => ?_)
      · refine Ew_of (pcₚ := 26) (fun _ => x_bipush (z := -50) rfl (by decide)) ?_
        exact w_ireturn rfl (k ((-50)) _ _ _ H O (SF_trans (SF_trans (SF_refl) (SF_glu (ι := []) hS10 eF10 (by decide +kernel)) (any_sub (lₚ := []) rfl)) (SF_glu (ι := []) hS12 eF12 (by decide +kernel)) (any_sub (lₚ := []) rfl)) (SA_trans (SA_trans (SA_refl) (SA_glu (ι := []) hA10 eA10 (by decide +kernel)) (any_subA (lₚ := []) rfl)) (SA_glu (ι := []) hA12 eA12 (by decide +kernel)) (any_subA (lₚ := []) rfl)) (show inr ((-50)) by omega))
      · refine Ew_of (pcₚ := 19) (fun _ => x_iload_n rfl rfl) ?_
        refine Ew_of (pcₚ := 21) (fun _ => x_ldc (z := 65536) rfl (by decide)) ?_
        refine w_icmple (t := 27) rfl rfl (show inr (a3) by omega) (show inr (65536) by omega) (fun b15 => ?_) (fun b15 => ?_)
        · refine Ew_of (pcₚ := 28) (fun _ => x_aload_n rfl rfl) ?_
          refine v_g H (o := 0) (v := .ref (D 1)) rfl rfl rfl rfl rfl (vrf (((((show F12 0 0 = F10 0 0 from (eF12 0 0))).trans ((show F10 0 0 = F 0 0 from (eF10 0 0))))).trans (pf1))) ?_
          refine Ew_of (pcₚ := 32) (fun _ => x_iload_n rfl rfl) ?_
          refine v_lR H (o := 1) rfl rfl rfl rfl rfl (n := n1) (en1) (show 0 ≤ 3 ∧ 3 < n1 by have qh0 := HIDe r5; omega) (z := ((D 8 : Nat) : Int)) (v := .ref (D 8)) ((congrFun ((((show A12 1 = A10 1 from (eA12 1))).trans ((show A10 1 = A 1 from (eA10 1))))) 3).trans (pf8)) (vrf rfl) ?_
          refine w_stat24 rfl rfl (by rfl) (C33_Row (D := pul [8, 9] D) (N := pul [8, 9] N) (HW_sub H (VS_of (show vsub V20_c23_va V33_Row [8, 9] = true by decide +kernel))) (STC_out HT HE O) (((((show F12 8 0 = F10 8 0 from (eF12 8 0))).trans ((show F10 8 0 = F 8 0 from (eF10 8 0))))).trans (pf9)) (n9) (en9) (u8_1) (((((show F12 8 1 = F10 8 1 from (eF12 8 1))).trans ((show F10 8 1 = F 8 1 from (eF10 8 1)))).trans (eu8_1))) (show 0 ≤ (u8_1) ∧ (u8_1) ≤ (n9) ∧ (n9) ≤ 65536 by have qh0 := HIDe r4; have qh1 := HIDe r9; omega) (fun z16 σ16 F16ₚ A16ₚ Hₚ Oₚ hS16 hA16 pz16_0 pz16_1 => ⟨rfl, ?_⟩))
          refine v_back (c := c) (s := s) H (show vsub V20_c23_va V33_Row [8, 9] = true by decide +kernel) Hₚ Oₚ (fun F16 A16 H Oₚ eF16 eA16 => ?_)
          have O := OUT_trans O Oₚ
          -- PackHouse.formatOf
          refine Ew_of (pcₚ := 38) (fun _ => x_istore rfl) ?_
          refine Ew_of (pcₚ := 40) (fun _ => x_iload rfl rk_s) ?_
          refine w_ifeq (t := 49) rfl rfl (show inr (z16) by omega) (fun b17 => ?_) (fun b17 => ?_)
          · refine Ew_of (pcₚ := 51) (fun _ => x_bipush (z := -51) rfl (by decide)) ?_
            exact w_ireturn rfl (k ((-51)) _ _ _ H O (SF_trans (SF_trans (SF_trans (SF_refl) (SF_glu (ι := []) hS10 eF10 (by decide +kernel)) (any_sub (lₚ := []) rfl)) (SF_glu (ι := []) hS12 eF12 (by decide +kernel)) (any_sub (lₚ := []) rfl)) (SF_glu (ι := [8, 9]) hS16 eF16 (by decide +kernel)) (any_sub (lₚ := []) rfl)) (SA_trans (SA_trans (SA_trans (SA_refl) (SA_glu (ι := []) hA10 eA10 (by decide +kernel)) (any_subA (lₚ := []) rfl)) (SA_glu (ι := []) hA12 eA12 (by decide +kernel)) (any_subA (lₚ := []) rfl)) (SA_glu (ι := [8, 9]) hA16 eA16 (by decide +kernel)) (any_subA (lₚ := []) rfl)) (show inr ((-51)) by omega))
          · refine Ew_of (pcₚ := 45) (fun _ => x_iload rfl rk_s) ?_
            refine Ew_of (pcₚ := 46) (fun _ => x_iconst rfl) ?_
            refine w_icmpne (t := 52) rfl rfl (show inr (z16) by omega) (show inr (5) by omega) (fun b18 => ?_) (fun b18 => ?_)
            · refine Ew_of (pcₚ := 53) (fun _ => x_aload_n rfl (rk_o (rfl) rfl rfl)) ?_
              refine Ew_of (pcₚ := 54) (fun _ => x_iload_n rfl (rk_o (rfl) rfl rfl)) ?_
              refine Ew_of (pcₚ := 55) (fun _ => x_aload_n rfl (rk_o (rfl) rfl rfl)) ?_
              refine Ew_of (pcₚ := 56) (fun _ => x_aload_n rfl (rk_o (rfl) rfl rfl)) ?_
              refine v_g H (o := 0) (v := .ref (D 1)) rfl rfl rfl rfl rfl (vrf ((((((show F16 0 0 = F12 0 0 from (eF16 0 0))).trans ((show F12 0 0 = F10 0 0 from (eF12 0 0)))).trans ((show F10 0 0 = F 0 0 from (eF10 0 0))))).trans (pf1))) ?_
              refine Ew_of (pcₚ := 60) (fun _ => x_iload_n rfl (rk_o (rfl) rfl rfl)) ?_
              refine v_lR H (o := 1) rfl rfl rfl rfl rfl (n := n1) (en1) (show 0 ≤ 3 ∧ 3 < n1 by have qh0 := HIDe r5; omega) (z := ((D 8 : Nat) : Int)) (v := .ref (D 8)) ((congrFun (((((show A16 1 = A12 1 from (eA16 1))).trans ((show A12 1 = A10 1 from (eA12 1)))).trans ((show A10 1 = A 1 from (eA10 1))))) 3).trans (pf8)) (vrf rfl) ?_
              refine Ew_of (pcₚ := 63) (fun _ => x_iload rfl rk_s) ?_
              refine Ew_of (pcₚ := 64) (fun _ => x_iload_n rfl (rk_o (rfl) rfl rfl)) ?_
              refine Ew_of (pcₚ := 65) (fun _ => x_aload_n rfl (rk_o (rfl) rfl rfl)) ?_
              refine v_g H (o := 0) (v := .ref (D 10)) rfl rfl rfl rfl rfl (vrf ((((((show F16 0 14 = F12 0 14 from (eF16 0 14))).trans ((show F12 0 14 = F10 0 14 from (eF12 0 14)))).trans ((show F10 0 14 = F 0 14 from (eF10 0 14))))).trans (pf10))) ?_
              exact hc68 (a1) (z16) (a3) _ _ _ _   H O (SF_trans (SF_trans (SF_trans (SF_refl) (SF_glu (ι := []) hS10 eF10 (by decide +kernel)) (any_sub (lₚ := []) rfl)) (SF_glu (ι := []) hS12 eF12 (by decide +kernel)) (any_sub (lₚ := []) rfl)) (SF_glu (ι := [8, 9]) hS16 eF16 (by decide +kernel)) (any_sub (lₚ := []) rfl)) (SA_trans (SA_trans (SA_trans (SA_refl) (SA_glu (ι := []) hA10 eA10 (by decide +kernel)) (any_subA (lₚ := []) rfl)) (SA_glu (ι := []) hA12 eA12 (by decide +kernel)) (any_subA (lₚ := []) rfl)) (SA_glu (ι := [8, 9]) hA16 eA16 (by decide +kernel)) (any_subA (lₚ := []) rfl))     (show inr (a1) by omega) (show inr (z16) by omega) (show inr (a3) by omega) (show 0 ≤ (a1) ∧ (a1) ≤ 3 by omega) (show (z16) = 1 ∨ (z16) = 3 ∨ (z16) = 4 by omega) (show 0 ≤ (a3) ∧ (a3) ≤ 65536 by omega)
            · refine Ew_of (pcₚ := 51) (fun _ => x_bipush (z := -51) rfl (by decide)) ?_
              exact w_ireturn rfl (k ((-51)) _ _ _ H O (SF_trans (SF_trans (SF_trans (SF_refl) (SF_glu (ι := []) hS10 eF10 (by decide +kernel)) (any_sub (lₚ := []) rfl)) (SF_glu (ι := []) hS12 eF12 (by decide +kernel)) (any_sub (lₚ := []) rfl)) (SF_glu (ι := [8, 9]) hS16 eF16 (by decide +kernel)) (any_sub (lₚ := []) rfl)) (SA_trans (SA_trans (SA_trans (SA_refl) (SA_glu (ι := []) hA10 eA10 (by decide +kernel)) (any_subA (lₚ := []) rfl)) (SA_glu (ι := []) hA12 eA12 (by decide +kernel)) (any_subA (lₚ := []) rfl)) (SA_glu (ι := [8, 9]) hA16 eA16 (by decide +kernel)) (any_subA (lₚ := []) rfl)) (show inr ((-51)) by omega))
        · refine Ew_of (pcₚ := 26) (fun _ => x_bipush (z := -50) rfl (by decide)) ?_
          exact w_ireturn rfl (k ((-50)) _ _ _ H O (SF_trans (SF_trans (SF_refl) (SF_glu (ι := []) hS10 eF10 (by decide +kernel)) (any_sub (lₚ := []) rfl)) (SF_glu (ι := []) hS12 eF12 (by decide +kernel)) (any_sub (lₚ := []) rfl)) (SA_trans (SA_trans (SA_refl) (SA_glu (ι := []) hA10 eA10 (by decide +kernel)) (any_subA (lₚ := []) rfl)) (SA_glu (ι := []) hA12 eA12 (by decide +kernel)) (any_subA (lₚ := []) rfl)) (show inr ((-50)) by omega))
abbrev V15_c13_va : vV := [(0, 0, [(4, 0), (4, 0), (4, 0), (4, 0), (4, 0), (4, 0), (4, 0), (4, 0), (4, 0), (4, 0), (4, 0), (4, 0), (4, 0), (4, 0), (4, 0), (4, 0), (4, 0), (0, 0), (0, 0)]), (1, 4, []), (0, 7, [(4, 0), (0, 0), (1, 0), (0, 0), (0, 0)]), (1, 0, []), (0, 7, [(4, 0), (0, 0), (1, 0), (0, 0), (0, 0)]), (1, 0, []), (0, 7, [(4, 0), (0, 0), (1, 0), (0, 0), (0, 0)]), (1, 0, []), (0, 7, [(4, 0), (0, 0), (1, 0), (0, 0), (0, 0)]), (1, 0, []), (0, 4, [(4, 0), (4, 0), (0, 0), (4, 0), (4, 0)])]
/-- PackHouse.learn: this, this.rows, this.rows.0, this.rows.0.bytes, this.rows.1, this.rows.1.bytes, this.rows.2, this.rows.2.bytes, this.rows.3, this.rows.3.bytes, this.otherDictionary -/
theorem C15_c13_va {σE : rS} {D N : Nat → Nat} {F : hF} {A : hA} {d c s : Nat} {Q : wQ} (H : HW V15_c13_va σE D N F A)  (pf1 : F 0 0 = (D 1 : Int)) (pf2 : A 1 0 = (D 2 : Int)) (pf3 : F 2 0 = (D 3 : Int)) (pf4 : A 1 1 = (D 4 : Int)) (pf5 : F 4 0 = (D 5 : Int)) (pf6 : A 1 2 = (D 6 : Int)) (pf7 : F 6 0 = (D 7 : Int)) (pf8 : A 1 3 = (D 8 : Int)) (pf9 : F 8 0 = (D 9 : Int)) (pf10 : F 0 4 = (D 10 : Int)) (n1 : Int) (en1 : (N 1 : Int) = n1) (n3 : Int) (en3 : (N 3 : Int) = n3) (n5 : Int) (en5 : (N 5 : Int) = n5) (n7 : Int) (en7 : (N 7 : Int) = n7) (n9 : Int) (en9 : (N 9 : Int) = n9) (u2_1 : Int) (eu2_1 : F 2 1 = u2_1) (u4_1 : Int) (eu4_1 : F 4 1 = u4_1) (u6_1 : Int) (eu6_1 : F 6 1 = u6_1) (u8_1 : Int) (eu8_1 : F 8 1 = u8_1) (h0 : inr (3)) (h1 : (n1) = 4) (h2 : 0 ≤ (u2_1) ∧ (u2_1) ≤ (n3) ∧ (n3) ≤ 65536) (h3 : 0 ≤ (u4_1) ∧ (u4_1) ≤ (n5) ∧ (n5) ≤ 65536) (h4 : 0 ≤ (u6_1) ∧ (u6_1) ≤ (n7) ∧ (n7) ≤ 65536) (h5 : 0 ≤ (u8_1) ∧ (u8_1) ≤ (n9) ∧ (n9) ≤ 65536) (hc20 : ∀ (ls : rO) (σ : rS) (F_c20 : hF) (A_c20 : hA) , rlook ls 0 = some (.ref (D 0)) → HW V15_c13_va σ D N F_c20 A_c20 → OUT (V15_c13_va).length D N σE c s D N σ c s → SF [] F F_c20 → SA [] A A_c20 → Ew 15 (d + 1) 20 ls [.ref (D 8), .ref (D 10)] σ c s Q) (k : ∀ (z : Int) (σ : rS) (Fₚ : hF) (Aₚ : hA), HW V15_c13_va σ D N Fₚ Aₚ → OUT (V15_c13_va).length D N σE c s D N σ c s → SF [] F Fₚ → SA [] A Aₚ → (inr (z)) → Q (some (I z)) σ c s) : Ew 15 (d + 1) 0 (rargs 0 [.ref (D 0), I 3]) [] σE c s Q := by
  have O := OUT_refl (n := (V15_c13_va).length) (D := D) (N := N) (σ := σE) (c := c) (s := s)
  have HE := H
  have r1 : HID ((-2147483648 : Int) ≤ u2_1 ∧ u2_1 ≤ 2147483647) := krg_e (show (-2147483648 : Int) ≤ F 2 1 ∧ F 2 1 ≤ 2147483647 from H.krg 2 1 (by decide)) (show F 2 1 = u2_1 from (eu2_1))
  have r2 : HID ((-2147483648 : Int) ≤ u4_1 ∧ u4_1 ≤ 2147483647) := krg_e (show (-2147483648 : Int) ≤ F 4 1 ∧ F 4 1 ≤ 2147483647 from H.krg 4 1 (by decide)) (show F 4 1 = u4_1 from (eu4_1))
  have r3 : HID ((-2147483648 : Int) ≤ u6_1 ∧ u6_1 ≤ 2147483647) := krg_e (show (-2147483648 : Int) ≤ F 6 1 ∧ F 6 1 ≤ 2147483647 from H.krg 6 1 (by decide)) (show F 6 1 = u6_1 from (eu6_1))
  have r4 : HID ((-2147483648 : Int) ≤ u8_1 ∧ u8_1 ≤ 2147483647) := krg_e (show (-2147483648 : Int) ≤ F 8 1 ∧ F 8 1 ≤ 2147483647 from H.krg 8 1 (by decide)) (show F 8 1 = u8_1 from (eu8_1))
  replace pf1 := HIDm pf1
  replace pf2 := HIDm pf2
  replace pf3 := HIDm pf3
  replace pf4 := HIDm pf4
  replace pf5 := HIDm pf5
  replace pf6 := HIDm pf6
  replace pf7 := HIDm pf7
  replace pf8 := HIDm pf8
  replace pf9 := HIDm pf9
  replace pf10 := HIDm pf10
  replace en1 := HIDm en1
  replace en3 := HIDm en3
  replace en5 := HIDm en5
  replace en7 := HIDm en7
  replace en9 := HIDm en9
  replace eu2_1 := HIDm eu2_1
  replace eu4_1 := HIDm eu4_1
  replace eu6_1 := HIDm eu6_1
  replace eu8_1 := HIDm eu8_1
  have r5 : HID ((0 : Int) ≤ n1 ∧ n1 ≤ 1000000) := nrng (H.nle 1 (by decide)) (show (N 1 : Int) = n1 from en1)
  have r6 : HID ((0 : Int) ≤ n3 ∧ n3 ≤ 1000000) := nrng (H.nle 3 (by decide)) (show (N 3 : Int) = n3 from en3)
  have r7 : HID ((0 : Int) ≤ n5 ∧ n5 ≤ 1000000) := nrng (H.nle 5 (by decide)) (show (N 5 : Int) = n5 from en5)
  have r8 : HID ((0 : Int) ≤ n7 ∧ n7 ≤ 1000000) := nrng (H.nle 7 (by decide)) (show (N 7 : Int) = n7 from en7)
  have r9 : HID ((0 : Int) ≤ n9 ∧ n9 ≤ 1000000) := nrng (H.nle 9 (by decide)) (show (N 9 : Int) = n9 from en9)
  refine Ew_of (pcₚ := 1) (fun _ => x_iload_n rfl rfl) ?_
  refine w_stat24 rfl rfl (by rfl) (C24 (D := pul [] D) (N := pul [] N) (HW_sub H (VS_of (show vsub V15_c13_va V24 [] = true by decide +kernel))) (show inr (3) by omega) (fun z10 σ10 F10ₚ A10ₚ Hₚ Oₚ hS10 hA10 pz10_0 pz10_1 => ⟨rretB rfl pz10_0, ?_⟩))
  refine v_back (c := c) (s := s) H (show vsub V15_c13_va V24 [] = true by decide +kernel) Hₚ Oₚ (fun F10 A10 H Oₚ eF10 eA10 => ?_)
  have O := OUT_trans O Oₚ
  -- PackHouse.isRow
  refine w_ifne (t := 10) rfl rfl (show inr (z10) by omega) (fun b11 => ?_) (fun b11 => ?_)
  · refine Ew_of (pcₚ := 11) (fun _ => x_aload_n rfl rfl) ?_
    refine v_g H (o := 0) (v := .ref (D 10)) rfl rfl rfl rfl rfl (vrf ((((show F10 0 4 = F 0 4 from (eF10 0 4)))).trans (pf10))) ?_
    refine Ew_of (pcₚ := 15) (fun _ => x_aload_n rfl rfl) ?_
    refine v_g H (o := 0) (v := .ref (D 1)) rfl rfl rfl rfl rfl (vrf ((((show F10 0 0 = F 0 0 from (eF10 0 0)))).trans (pf1))) ?_
    refine Ew_of (pcₚ := 19) (fun _ => x_iload_n rfl rfl) ?_
    refine v_lR H (o := 1) rfl rfl rfl rfl rfl (n := n1) (en1) (show 0 ≤ 3 ∧ 3 < n1 by have qh0 := HIDe r5; omega) (z := ((D 8 : Nat) : Int)) (v := .ref (D 8)) ((congrFun (((show A10 1 = A 1 from (eA10 1)))) 3).trans (pf8)) (vrf rfl) ?_
    exact hc20  _ _ _ _  (rfl) H O (SF_trans (SF_refl) (SF_glu (ι := []) hS10 eF10 (by decide +kernel)) (any_sub (lₚ := []) rfl)) (SA_trans (SA_refl) (SA_glu (ι := []) hA10 eA10 (by decide +kernel)) (any_subA (lₚ := []) rfl))     
  · refine Ew_of (pcₚ := 9) (fun _ => x_bipush (z := -5) rfl (by decide)) ?_
    exact w_ireturn rfl (k ((-5)) _ _ _ H O (SF_trans (SF_refl) (SF_glu (ι := []) hS10 eF10 (by decide +kernel)) (any_sub (lₚ := []) rfl)) (SA_trans (SA_refl) (SA_glu (ι := []) hA10 eA10 (by decide +kernel)) (any_subA (lₚ := []) rfl)) (show inr ((-5)) by omega))
abbrev V18_vb : vV := [(0, 0, [(4, 0), (4, 0), (4, 0), (4, 0), (4, 0), (4, 0), (4, 0), (4, 0), (4, 0), (4, 0), (4, 0), (4, 0), (4, 0), (4, 0), (4, 0), (4, 0), (4, 0), (0, 0), (0, 0)]), (1, 4, []), (0, 7, [(4, 0), (0, 0), (1, 0), (0, 0), (0, 0)]), (1, 0, []), (0, 7, [(4, 0), (0, 0), (1, 0), (0, 0), (0, 0)]), (1, 0, []), (0, 7, [(4, 0), (0, 0), (1, 0), (0, 0), (0, 0)]), (1, 0, []), (0, 7, [(4, 0), (0, 0), (1, 0), (0, 0), (0, 0)]), (1, 0, []), (0, 7, [(4, 0), (0, 0), (1, 0), (0, 0), (0, 0)]), (1, 0, [])]
/-- PackHouse.read: this, this.rows, this.rows.0, this.rows.0.bytes, this.rows.1, this.rows.1.bytes, this.rows.2, this.rows.2.bytes, this.rows.3, this.rows.3.bytes, this.content, this.content.bytes -/
theorem C18_vb {σE : rS} {D N : Nat → Nat} {F : hF} {A : hA} {d c s : Nat} {Q : wQ} (H : HW V18_vb σE D N F A) {y1 y2 : Int} (pf1 : F 0 0 = (D 1 : Int)) (pf2 : A 1 0 = (D 2 : Int)) (pf3 : F 2 0 = (D 3 : Int)) (pf4 : A 1 1 = (D 4 : Int)) (pf5 : F 4 0 = (D 5 : Int)) (pf6 : A 1 2 = (D 6 : Int)) (pf7 : F 6 0 = (D 7 : Int)) (pf8 : A 1 3 = (D 8 : Int)) (pf9 : F 8 0 = (D 9 : Int)) (pf10 : F 0 6 = (D 10 : Int)) (pf11 : F 10 0 = (D 11 : Int)) (n1 : Int) (en1 : (N 1 : Int) = n1) (n3 : Int) (en3 : (N 3 : Int) = n3) (n5 : Int) (en5 : (N 5 : Int) = n5) (n7 : Int) (en7 : (N 7 : Int) = n7) (n9 : Int) (en9 : (N 9 : Int) = n9) (n11 : Int) (en11 : (N 11 : Int) = n11) (u2_1 : Int) (eu2_1 : F 2 1 = u2_1) (u4_1 : Int) (eu4_1 : F 4 1 = u4_1) (u6_1 : Int) (eu6_1 : F 6 1 = u6_1) (u8_1 : Int) (eu8_1 : F 8 1 = u8_1) (u10_1 : Int) (eu10_1 : F 10 1 = u10_1) {ls : rO}  (h0 : inr y1) (h1 : inr y2) (h2 : (n1) = 4) (h3 : 0 ≤ (u2_1) ∧ (u2_1) ≤ (n3) ∧ (n3) ≤ 65536) (h4 : 0 ≤ (u4_1) ∧ (u4_1) ≤ (n5) ∧ (n5) ≤ 65536) (h5 : 0 ≤ (u6_1) ∧ (u6_1) ≤ (n7) ∧ (n7) ≤ 65536) (h6 : 0 ≤ (u8_1) ∧ (u8_1) ≤ (n9) ∧ (n9) ≤ 65536) (h7 : 0 ≤ (u10_1) ∧ (u10_1) ≤ (n11) ∧ (n11) ≤ 65536) (h8 : 0 ≤ y1 ∧ y1 ≤ 3) (k : ∀ (z : Int) (σ : rS) (Dₚ Nₚ : Nat → Nat) (Fₚ : hF) (Aₚ : hA) (cₚ sₚ : Nat), HW V18_vb σ Dₚ Nₚ Fₚ Aₚ → OUT (V18_vb).length D N σE c s Dₚ Nₚ σ cₚ sₚ → SD [3, 5, 7, 9] D Dₚ → SD [3, 5, 7, 9] N Nₚ → SF [(0, 18), (2, 0), (2, 1), (2, 2), (2, 3), (2, 4), (4, 0), (4, 1), (4, 2), (4, 3), (4, 4), (6, 0), (6, 1), (6, 2), (6, 3), (6, 4), (8, 0), (8, 1), (8, 2), (8, 3), (8, 4)] F Fₚ → SA [3, 5, 7, 9] A Aₚ → Fₚ 2 0 = (Dₚ 3 : Int) → Fₚ 4 0 = (Dₚ 5 : Int) → Fₚ 6 0 = (Dₚ 7 : Int) → Fₚ 8 0 = (Dₚ 9 : Int) → ∀ m3 : Int, (Nₚ 3 : Int) = m3 → ∀ m5 : Int, (Nₚ 5 : Int) = m5 → ∀ m7 : Int, (Nₚ 7 : Int) = m7 → ∀ m9 : Int, (Nₚ 9 : Int) = m9 → ∀ y2_1 : Int, Fₚ 2 1 = y2_1 → ∀ y4_1 : Int, Fₚ 4 1 = y4_1 → ∀ y6_1 : Int, Fₚ 6 1 = y6_1 → ∀ y8_1 : Int, Fₚ 8 1 = y8_1 → (inr (z)) → (0 ≤ (y2_1) ∧ (y2_1) ≤ (m3) ∧ (m3) ≤ 65536) → (0 ≤ (y4_1) ∧ (y4_1) ≤ (m5) ∧ (m5) ≤ 65536) → (0 ≤ (y6_1) ∧ (y6_1) ≤ (m7) ∧ (m7) ≤ 65536) → (0 ≤ (y8_1) ∧ (y8_1) ≤ (m9) ∧ (m9) ≤ 65536) → (0 ≤ (u10_1) ∧ (u10_1) ≤ (n11) ∧ (n11) ≤ 65536) → Q (some (I z)) σ cₚ sₚ) : Ew 18 (d + 5) 57 ls [I (y2), I (y1), .ref (D 0)] σE c s Q := by
  have O := OUT_refl (n := (V18_vb).length) (D := D) (N := N) (σ := σE) (c := c) (s := s)
  have HE := H
  have r1 : HID ((-2147483648 : Int) ≤ u2_1 ∧ u2_1 ≤ 2147483647) := krg_e (show (-2147483648 : Int) ≤ F 2 1 ∧ F 2 1 ≤ 2147483647 from H.krg 2 1 (by decide)) (show F 2 1 = u2_1 from (eu2_1))
  have r2 : HID ((-2147483648 : Int) ≤ u4_1 ∧ u4_1 ≤ 2147483647) := krg_e (show (-2147483648 : Int) ≤ F 4 1 ∧ F 4 1 ≤ 2147483647 from H.krg 4 1 (by decide)) (show F 4 1 = u4_1 from (eu4_1))
  have r3 : HID ((-2147483648 : Int) ≤ u6_1 ∧ u6_1 ≤ 2147483647) := krg_e (show (-2147483648 : Int) ≤ F 6 1 ∧ F 6 1 ≤ 2147483647 from H.krg 6 1 (by decide)) (show F 6 1 = u6_1 from (eu6_1))
  have r4 : HID ((-2147483648 : Int) ≤ u8_1 ∧ u8_1 ≤ 2147483647) := krg_e (show (-2147483648 : Int) ≤ F 8 1 ∧ F 8 1 ≤ 2147483647 from H.krg 8 1 (by decide)) (show F 8 1 = u8_1 from (eu8_1))
  have r5 : HID ((-2147483648 : Int) ≤ u10_1 ∧ u10_1 ≤ 2147483647) := krg_e (show (-2147483648 : Int) ≤ F 10 1 ∧ F 10 1 ≤ 2147483647 from H.krg 10 1 (by decide)) (show F 10 1 = u10_1 from (eu10_1))
  replace pf1 := HIDm pf1
  replace pf2 := HIDm pf2
  replace pf3 := HIDm pf3
  replace pf4 := HIDm pf4
  replace pf5 := HIDm pf5
  replace pf6 := HIDm pf6
  replace pf7 := HIDm pf7
  replace pf8 := HIDm pf8
  replace pf9 := HIDm pf9
  replace pf10 := HIDm pf10
  replace pf11 := HIDm pf11
  replace en1 := HIDm en1
  replace en3 := HIDm en3
  replace en5 := HIDm en5
  replace en7 := HIDm en7
  replace en9 := HIDm en9
  replace en11 := HIDm en11
  replace eu2_1 := HIDm eu2_1
  replace eu4_1 := HIDm eu4_1
  replace eu6_1 := HIDm eu6_1
  replace eu8_1 := HIDm eu8_1
  replace eu10_1 := HIDm eu10_1
  have r6 : HID ((0 : Int) ≤ n1 ∧ n1 ≤ 1000000) := nrng (H.nle 1 (by decide)) (show (N 1 : Int) = n1 from en1)
  have r7 : HID ((0 : Int) ≤ n3 ∧ n3 ≤ 1000000) := nrng (H.nle 3 (by decide)) (show (N 3 : Int) = n3 from en3)
  have r8 : HID ((0 : Int) ≤ n5 ∧ n5 ≤ 1000000) := nrng (H.nle 5 (by decide)) (show (N 5 : Int) = n5 from en5)
  have r9 : HID ((0 : Int) ≤ n7 ∧ n7 ≤ 1000000) := nrng (H.nle 7 (by decide)) (show (N 7 : Int) = n7 from en7)
  have r10 : HID ((0 : Int) ≤ n9 ∧ n9 ≤ 1000000) := nrng (H.nle 9 (by decide)) (show (N 9 : Int) = n9 from en9)
  have r11 : HID ((0 : Int) ≤ n11 ∧ n11 ≤ 1000000) := nrng (H.nle 11 (by decide)) (show (N 11 : Int) = n11 from en11)
  refine v_inv H (o := 0) rfl rfl rfl rfl rfl rfl (by rfl) (C31 (D := pul [0, 1, 2, 3, 4, 5, 6, 7, 8, 9, 10, 11] D) (N := pul [0, 1, 2, 3, 4, 5, 6, 7, 8, 9, 10, 11] N) (HW_sub H (VS_of (show vsub V18_vb V31 [0, 1, 2, 3, 4, 5, 6, 7, 8, 9, 10, 11] = true by decide +kernel))) (pf1) (pf2) (pf3) (pf4) (pf5) (pf6) (pf7) (pf8) (pf9) (pf10) (pf11) (n1) (en1) (n3) (en3) (n5) (en5) (n7) (en7) (n9) (en9) (n11) (en11) (u2_1) ((eu2_1)) (u4_1) ((eu4_1)) (u6_1) ((eu6_1)) (u8_1) ((eu8_1)) (u10_1) ((eu10_1)) (show inr (y1) by omega) (show inr (y2) by omega) (show (n1) = 4 by have qh0 := HIDe r6; omega) (show 0 ≤ (u2_1) ∧ (u2_1) ≤ (n3) ∧ (n3) ≤ 65536 by have qh0 := HIDe r1; have qh1 := HIDe r7; omega) (show 0 ≤ (u4_1) ∧ (u4_1) ≤ (n5) ∧ (n5) ≤ 65536 by have qh0 := HIDe r2; have qh1 := HIDe r8; omega) (show 0 ≤ (u6_1) ∧ (u6_1) ≤ (n7) ∧ (n7) ≤ 65536 by have qh0 := HIDe r3; have qh1 := HIDe r9; omega) (show 0 ≤ (u8_1) ∧ (u8_1) ≤ (n9) ∧ (n9) ≤ 65536 by have qh0 := HIDe r10; have qh1 := HIDe r4; omega) (show 0 ≤ (u10_1) ∧ (u10_1) ≤ (n11) ∧ (n11) ≤ 65536 by have qh0 := HIDe r11; have qh1 := HIDe r5; omega) (show 0 ≤ (y1) ∧ (y1) ≤ 3 by omega) (fun z12 σ12 D12ₚ N12ₚ F12ₚ A12ₚ c12 s12 Hₚ Oₚ hD12 hN12 hS12 hA12 pm12_3 pm12_5 pm12_7 pm12_9 m12_3 em12_3 m12_5 em12_5 m12_7 em12_7 m12_9 em12_9 y12_2_1 ey12_2_1 y12_4_1 ey12_4_1 y12_6_1 ey12_6_1 y12_8_1 ey12_8_1 pz12_0 pz12_1 pz12_2 pz12_3 pz12_4 pz12_5 => ⟨rfl, ?_⟩))
  replace pm12_3 := HIDm pm12_3
  replace pm12_5 := HIDm pm12_5
  replace pm12_7 := HIDm pm12_7
  replace pm12_9 := HIDm pm12_9
  replace em12_3 := HIDm em12_3
  replace em12_5 := HIDm em12_5
  replace em12_7 := HIDm em12_7
  replace em12_9 := HIDm em12_9
  replace ey12_2_1 := HIDm ey12_2_1
  replace ey12_4_1 := HIDm ey12_4_1
  replace ey12_6_1 := HIDm ey12_6_1
  replace ey12_8_1 := HIDm ey12_8_1
  refine v_backM (c := c) (s := s) H (show vsub V18_vb V31 [0, 1, 2, 3, 4, 5, 6, 7, 8, 9, 10, 11] = true by decide +kernel) Hₚ Oₚ hD12 (show vmov V18_vb [0, 1, 2, 3, 4, 5, 6, 7, 8, 9, 10, 11] [3, 5, 7, 9] = true by decide +kernel) (fun D12 N12 F12 A12 H Oₚ eD12 eN12 eF12 eA12 => ?_)
  have O := OUT_trans O Oₚ
  -- PackHouse.settle
  have pe12_1_0 : HID (A12 1 0 = (D12 2 : Int)) := (congrFun ((show A12 1 = A 1 from (eA12 1).trans (funext (hA12 1 rfl)))) 0).trans ((pf2).trans (congrArg (fun q : Nat => (q : Int)) ((show D12 2 = D 2 from (eD12 2).trans (hD12 2 rfl))).symm))
  have pe12_1_1 : HID (A12 1 1 = (D12 4 : Int)) := (congrFun ((show A12 1 = A 1 from (eA12 1).trans (funext (hA12 1 rfl)))) 1).trans ((pf4).trans (congrArg (fun q : Nat => (q : Int)) ((show D12 4 = D 4 from (eD12 4).trans (hD12 4 rfl))).symm))
  have pe12_1_2 : HID (A12 1 2 = (D12 6 : Int)) := (congrFun ((show A12 1 = A 1 from (eA12 1).trans (funext (hA12 1 rfl)))) 2).trans ((pf6).trans (congrArg (fun q : Nat => (q : Int)) ((show D12 6 = D 6 from (eD12 6).trans (hD12 6 rfl))).symm))
  have pe12_1_3 : HID (A12 1 3 = (D12 8 : Int)) := (congrFun ((show A12 1 = A 1 from (eA12 1).trans (funext (hA12 1 rfl)))) 3).trans ((pf8).trans (congrArg (fun q : Nat => (q : Int)) ((show D12 8 = D 8 from (eD12 8).trans (hD12 8 rfl))).symm))
  have pf12_0_0 : HID (F12 0 0 = (D12 1 : Int)) := ((show F12 0 0 = F 0 0 from (eF12 0 0).trans (hS12 0 0 rfl))).trans ((pf1).trans (congrArg (fun q : Nat => (q : Int)) ((show D12 1 = D 1 from (eD12 1).trans (hD12 1 rfl))).symm))
  have pf12_0_6 : HID (F12 0 6 = (D12 10 : Int)) := ((show F12 0 6 = F 0 6 from (eF12 0 6).trans (hS12 0 6 rfl))).trans ((pf10).trans (congrArg (fun q : Nat => (q : Int)) ((show D12 10 = D 10 from (eD12 10).trans (hD12 10 rfl))).symm))
  have pf12_10_0 : HID (F12 10 0 = (D12 11 : Int)) := ((show F12 10 0 = F 10 0 from (eF12 10 0).trans (hS12 10 0 rfl))).trans ((pf11).trans (congrArg (fun q : Nat => (q : Int)) ((show D12 11 = D 11 from (eD12 11).trans (hD12 11 rfl))).symm))
  have pf12_2_0 : HID (F12 2 0 = (D12 3 : Int)) := (eF12 2 0).trans (pm12_3.trans (congrArg (fun q : Nat => (q : Int)) (eD12 3).symm))
  have pf12_4_0 : HID (F12 4 0 = (D12 5 : Int)) := (eF12 4 0).trans (pm12_5.trans (congrArg (fun q : Nat => (q : Int)) (eD12 5).symm))
  have pf12_6_0 : HID (F12 6 0 = (D12 7 : Int)) := (eF12 6 0).trans (pm12_7.trans (congrArg (fun q : Nat => (q : Int)) (eD12 7).symm))
  have pf12_8_0 : HID (F12 8 0 = (D12 9 : Int)) := (eF12 8 0).trans (pm12_9.trans (congrArg (fun q : Nat => (q : Int)) (eD12 9).symm))
  have r13 : HID ((0 : Int) ≤ m12_3 ∧ m12_3 ≤ 1000000) := nrng (H.nle 3 (by decide)) (show (N12 3 : Int) = m12_3 from (congrArg (fun q : Nat => (q : Int)) (eN12 3)).trans em12_3)
  have r14 : HID ((0 : Int) ≤ m12_5 ∧ m12_5 ≤ 1000000) := nrng (H.nle 5 (by decide)) (show (N12 5 : Int) = m12_5 from (congrArg (fun q : Nat => (q : Int)) (eN12 5)).trans em12_5)
  have r15 : HID ((0 : Int) ≤ m12_7 ∧ m12_7 ≤ 1000000) := nrng (H.nle 7 (by decide)) (show (N12 7 : Int) = m12_7 from (congrArg (fun q : Nat => (q : Int)) (eN12 7)).trans em12_7)
  have r16 : HID ((0 : Int) ≤ m12_9 ∧ m12_9 ≤ 1000000) := nrng (H.nle 9 (by decide)) (show (N12 9 : Int) = m12_9 from (congrArg (fun q : Nat => (q : Int)) (eN12 9)).trans em12_9)
  have r17 : HID ((-2147483648 : Int) ≤ y12_2_1 ∧ y12_2_1 ≤ 2147483647) := krg_e (show (-2147483648 : Int) ≤ F12 2 1 ∧ F12 2 1 ≤ 2147483647 from H.krg 2 1 (by decide)) (show F12 2 1 = y12_2_1 from ((eF12 2 1).trans ey12_2_1))
  have r18 : HID ((-2147483648 : Int) ≤ y12_4_1 ∧ y12_4_1 ≤ 2147483647) := krg_e (show (-2147483648 : Int) ≤ F12 4 1 ∧ F12 4 1 ≤ 2147483647 from H.krg 4 1 (by decide)) (show F12 4 1 = y12_4_1 from ((eF12 4 1).trans ey12_4_1))
  have r19 : HID ((-2147483648 : Int) ≤ y12_6_1 ∧ y12_6_1 ≤ 2147483647) := krg_e (show (-2147483648 : Int) ≤ F12 6 1 ∧ F12 6 1 ≤ 2147483647 from H.krg 6 1 (by decide)) (show F12 6 1 = y12_6_1 from ((eF12 6 1).trans ey12_6_1))
  have r20 : HID ((-2147483648 : Int) ≤ y12_8_1 ∧ y12_8_1 ≤ 2147483647) := krg_e (show (-2147483648 : Int) ≤ F12 8 1 ∧ F12 8 1 ≤ 2147483647 from H.krg 8 1 (by decide)) (show F12 8 1 = y12_8_1 from ((eF12 8 1).trans ey12_8_1))
  exact w_ireturn rfl (k (z12) _ _ _ _ _ _ _ H O (SD_trans (SD_refl) (SD_glu (ι := [0, 1, 2, 3, 4, 5, 6, 7, 8, 9, 10, 11]) hD12 eD12 (by decide +kernel)) (any_subA (lₚ := [3, 5, 7, 9]) rfl)) (SD_trans (SD_refl) (SD_glu (ι := [0, 1, 2, 3, 4, 5, 6, 7, 8, 9, 10, 11]) hN12 eN12 (by decide +kernel)) (any_subA (lₚ := [3, 5, 7, 9]) rfl)) (SF_trans (SF_refl) (SF_glu (ι := [0, 1, 2, 3, 4, 5, 6, 7, 8, 9, 10, 11]) hS12 eF12 (by decide +kernel)) (any_sub (lₚ := [(0, 18), (2, 0), (2, 1), (2, 2), (2, 3), (2, 4), (4, 0), (4, 1), (4, 2), (4, 3), (4, 4), (6, 0), (6, 1), (6, 2), (6, 3), (6, 4), (8, 0), (8, 1), (8, 2), (8, 3), (8, 4)]) rfl)) (SA_trans (SA_refl) (SA_glu (ι := [0, 1, 2, 3, 4, 5, 6, 7, 8, 9, 10, 11]) hA12 eA12 (by decide +kernel)) (any_subA (lₚ := [3, 5, 7, 9]) rfl)) (pf12_2_0) (pf12_4_0) (pf12_6_0) (pf12_8_0) (m12_3) ((congrArg (fun q : Nat => (q : Int)) (eN12 3)).trans em12_3) (m12_5) ((congrArg (fun q : Nat => (q : Int)) (eN12 5)).trans em12_5) (m12_7) ((congrArg (fun q : Nat => (q : Int)) (eN12 7)).trans em12_7) (m12_9) ((congrArg (fun q : Nat => (q : Int)) (eN12 9)).trans em12_9) (y12_2_1) (((eF12 2 1).trans ey12_2_1)) (y12_4_1) (((eF12 4 1).trans ey12_4_1)) (y12_6_1) (((eF12 6 1).trans ey12_6_1)) (y12_8_1) (((eF12 8 1).trans ey12_8_1)) (show inr (z12) by omega) (show 0 ≤ (y12_2_1) ∧ (y12_2_1) ≤ (m12_3) ∧ (m12_3) ≤ 65536 by have qh0 := HIDe r13; have qh1 := HIDe r17; omega) (show 0 ≤ (y12_4_1) ∧ (y12_4_1) ≤ (m12_5) ∧ (m12_5) ≤ 65536 by have qh0 := HIDe r14; have qh1 := HIDe r18; omega) (show 0 ≤ (y12_6_1) ∧ (y12_6_1) ≤ (m12_7) ∧ (m12_7) ≤ 65536 by have qh0 := HIDe r15; have qh1 := HIDe r19; omega) (show 0 ≤ (y12_8_1) ∧ (y12_8_1) ≤ (m12_9) ∧ (m12_9) ≤ 65536 by have qh0 := HIDe r16; have qh1 := HIDe r20; omega) (show 0 ≤ (u10_1) ∧ (u10_1) ≤ (n11) ∧ (n11) ≤ 65536 by have qh0 := HIDe r11; have qh1 := HIDe r5; omega))
abbrev V20_vb : vV := [(0, 0, [(4, 0), (4, 0), (4, 0), (4, 0), (4, 0), (4, 0), (4, 0), (4, 0), (4, 0), (4, 0), (4, 0), (4, 0), (4, 0), (4, 0), (4, 0), (4, 0), (4, 0), (0, 0), (0, 0)]), (1, 4, []), (0, 7, [(4, 0), (0, 0), (1, 0), (0, 0), (0, 0)]), (1, 0, []), (0, 7, [(4, 0), (0, 0), (1, 0), (0, 0), (0, 0)]), (1, 0, []), (0, 7, [(4, 0), (0, 0), (1, 0), (0, 0), (0, 0)]), (1, 0, []), (0, 7, [(4, 0), (0, 0), (1, 0), (0, 0), (0, 0)]), (1, 0, []), (0, 7, [(4, 0), (0, 0), (1, 0), (0, 0), (0, 0)]), (1, 0, [])]
/-- PackHouse.open: this, this.rows, this.rows.0, this.rows.0.bytes, this.rows.1, this.rows.1.bytes, this.rows.2, this.rows.2.bytes, this.rows.3, this.rows.3.bytes, this.content, this.content.bytes -/
theorem C20_vb {σE : rS} {D N : Nat → Nat} {F : hF} {A : hA} {d c s : Nat} {Q : wQ} (H : HW V20_vb σE D N F A) {y1 y2 : Int} (pf1 : F 0 0 = (D 1 : Int)) (pf2 : A 1 0 = (D 2 : Int)) (pf3 : F 2 0 = (D 3 : Int)) (pf4 : A 1 1 = (D 4 : Int)) (pf5 : F 4 0 = (D 5 : Int)) (pf6 : A 1 2 = (D 6 : Int)) (pf7 : F 6 0 = (D 7 : Int)) (pf8 : A 1 3 = (D 8 : Int)) (pf9 : F 8 0 = (D 9 : Int)) (pf10 : F 0 6 = (D 10 : Int)) (pf11 : F 10 0 = (D 11 : Int)) (n1 : Int) (en1 : (N 1 : Int) = n1) (n3 : Int) (en3 : (N 3 : Int) = n3) (n5 : Int) (en5 : (N 5 : Int) = n5) (n7 : Int) (en7 : (N 7 : Int) = n7) (n9 : Int) (en9 : (N 9 : Int) = n9) (n11 : Int) (en11 : (N 11 : Int) = n11) (u2_1 : Int) (eu2_1 : F 2 1 = u2_1) (u4_1 : Int) (eu4_1 : F 4 1 = u4_1) (u6_1 : Int) (eu6_1 : F 6 1 = u6_1) (u8_1 : Int) (eu8_1 : F 8 1 = u8_1) (u10_1 : Int) (eu10_1 : F 10 1 = u10_1) {ls : rO}  (h0 : inr y1) (h1 : inr y2) (h2 : (n1) = 4) (h3 : 0 ≤ (u2_1) ∧ (u2_1) ≤ (n3) ∧ (n3) ≤ 65536) (h4 : 0 ≤ (u4_1) ∧ (u4_1) ≤ (n5) ∧ (n5) ≤ 65536) (h5 : 0 ≤ (u6_1) ∧ (u6_1) ≤ (n7) ∧ (n7) ≤ 65536) (h6 : 0 ≤ (u8_1) ∧ (u8_1) ≤ (n9) ∧ (n9) ≤ 65536) (h7 : 0 ≤ (u10_1) ∧ (u10_1) ≤ (n11) ∧ (n11) ≤ 65536) (h8 : 0 ≤ y1 ∧ y1 ≤ 3) (k : ∀ (z : Int) (σ : rS) (Dₚ Nₚ : Nat → Nat) (Fₚ : hF) (Aₚ : hA) (cₚ sₚ : Nat), HW V20_vb σ Dₚ Nₚ Fₚ Aₚ → OUT (V20_vb).length D N σE c s Dₚ Nₚ σ cₚ sₚ → SD [3, 5, 7, 9] D Dₚ → SD [3, 5, 7, 9] N Nₚ → SF [(0, 18), (2, 0), (2, 1), (2, 2), (2, 3), (2, 4), (4, 0), (4, 1), (4, 2), (4, 3), (4, 4), (6, 0), (6, 1), (6, 2), (6, 3), (6, 4), (8, 0), (8, 1), (8, 2), (8, 3), (8, 4)] F Fₚ → SA [3, 5, 7, 9] A Aₚ → Fₚ 2 0 = (Dₚ 3 : Int) → Fₚ 4 0 = (Dₚ 5 : Int) → Fₚ 6 0 = (Dₚ 7 : Int) → Fₚ 8 0 = (Dₚ 9 : Int) → ∀ m3 : Int, (Nₚ 3 : Int) = m3 → ∀ m5 : Int, (Nₚ 5 : Int) = m5 → ∀ m7 : Int, (Nₚ 7 : Int) = m7 → ∀ m9 : Int, (Nₚ 9 : Int) = m9 → ∀ y2_1 : Int, Fₚ 2 1 = y2_1 → ∀ y4_1 : Int, Fₚ 4 1 = y4_1 → ∀ y6_1 : Int, Fₚ 6 1 = y6_1 → ∀ y8_1 : Int, Fₚ 8 1 = y8_1 → (inr (z)) → (0 ≤ (y2_1) ∧ (y2_1) ≤ (m3) ∧ (m3) ≤ 65536) → (0 ≤ (y4_1) ∧ (y4_1) ≤ (m5) ∧ (m5) ≤ 65536) → (0 ≤ (y6_1) ∧ (y6_1) ≤ (m7) ∧ (m7) ≤ 65536) → (0 ≤ (y8_1) ∧ (y8_1) ≤ (m9) ∧ (m9) ≤ 65536) → (0 ≤ (u10_1) ∧ (u10_1) ≤ (n11) ∧ (n11) ≤ 65536) → Q (some (I z)) σ cₚ sₚ) : Ew 20 (d + 5) 71 ls [I (y2), I (y1), .ref (D 0)] σE c s Q := by
  have O := OUT_refl (n := (V20_vb).length) (D := D) (N := N) (σ := σE) (c := c) (s := s)
  have HE := H
  have r1 : HID ((-2147483648 : Int) ≤ u2_1 ∧ u2_1 ≤ 2147483647) := krg_e (show (-2147483648 : Int) ≤ F 2 1 ∧ F 2 1 ≤ 2147483647 from H.krg 2 1 (by decide)) (show F 2 1 = u2_1 from (eu2_1))
  have r2 : HID ((-2147483648 : Int) ≤ u4_1 ∧ u4_1 ≤ 2147483647) := krg_e (show (-2147483648 : Int) ≤ F 4 1 ∧ F 4 1 ≤ 2147483647 from H.krg 4 1 (by decide)) (show F 4 1 = u4_1 from (eu4_1))
  have r3 : HID ((-2147483648 : Int) ≤ u6_1 ∧ u6_1 ≤ 2147483647) := krg_e (show (-2147483648 : Int) ≤ F 6 1 ∧ F 6 1 ≤ 2147483647 from H.krg 6 1 (by decide)) (show F 6 1 = u6_1 from (eu6_1))
  have r4 : HID ((-2147483648 : Int) ≤ u8_1 ∧ u8_1 ≤ 2147483647) := krg_e (show (-2147483648 : Int) ≤ F 8 1 ∧ F 8 1 ≤ 2147483647 from H.krg 8 1 (by decide)) (show F 8 1 = u8_1 from (eu8_1))
  have r5 : HID ((-2147483648 : Int) ≤ u10_1 ∧ u10_1 ≤ 2147483647) := krg_e (show (-2147483648 : Int) ≤ F 10 1 ∧ F 10 1 ≤ 2147483647 from H.krg 10 1 (by decide)) (show F 10 1 = u10_1 from (eu10_1))
  replace pf1 := HIDm pf1
  replace pf2 := HIDm pf2
  replace pf3 := HIDm pf3
  replace pf4 := HIDm pf4
  replace pf5 := HIDm pf5
  replace pf6 := HIDm pf6
  replace pf7 := HIDm pf7
  replace pf8 := HIDm pf8
  replace pf9 := HIDm pf9
  replace pf10 := HIDm pf10
  replace pf11 := HIDm pf11
  replace en1 := HIDm en1
  replace en3 := HIDm en3
  replace en5 := HIDm en5
  replace en7 := HIDm en7
  replace en9 := HIDm en9
  replace en11 := HIDm en11
  replace eu2_1 := HIDm eu2_1
  replace eu4_1 := HIDm eu4_1
  replace eu6_1 := HIDm eu6_1
  replace eu8_1 := HIDm eu8_1
  replace eu10_1 := HIDm eu10_1
  have r6 : HID ((0 : Int) ≤ n1 ∧ n1 ≤ 1000000) := nrng (H.nle 1 (by decide)) (show (N 1 : Int) = n1 from en1)
  have r7 : HID ((0 : Int) ≤ n3 ∧ n3 ≤ 1000000) := nrng (H.nle 3 (by decide)) (show (N 3 : Int) = n3 from en3)
  have r8 : HID ((0 : Int) ≤ n5 ∧ n5 ≤ 1000000) := nrng (H.nle 5 (by decide)) (show (N 5 : Int) = n5 from en5)
  have r9 : HID ((0 : Int) ≤ n7 ∧ n7 ≤ 1000000) := nrng (H.nle 7 (by decide)) (show (N 7 : Int) = n7 from en7)
  have r10 : HID ((0 : Int) ≤ n9 ∧ n9 ≤ 1000000) := nrng (H.nle 9 (by decide)) (show (N 9 : Int) = n9 from en9)
  have r11 : HID ((0 : Int) ≤ n11 ∧ n11 ≤ 1000000) := nrng (H.nle 11 (by decide)) (show (N 11 : Int) = n11 from en11)
  refine v_inv H (o := 0) rfl rfl rfl rfl rfl rfl (by rfl) (C31 (D := pul [0, 1, 2, 3, 4, 5, 6, 7, 8, 9, 10, 11] D) (N := pul [0, 1, 2, 3, 4, 5, 6, 7, 8, 9, 10, 11] N) (HW_sub H (VS_of (show vsub V20_vb V31 [0, 1, 2, 3, 4, 5, 6, 7, 8, 9, 10, 11] = true by decide +kernel))) (pf1) (pf2) (pf3) (pf4) (pf5) (pf6) (pf7) (pf8) (pf9) (pf10) (pf11) (n1) (en1) (n3) (en3) (n5) (en5) (n7) (en7) (n9) (en9) (n11) (en11) (u2_1) ((eu2_1)) (u4_1) ((eu4_1)) (u6_1) ((eu6_1)) (u8_1) ((eu8_1)) (u10_1) ((eu10_1)) (show inr (y1) by omega) (show inr (y2) by omega) (show (n1) = 4 by have qh0 := HIDe r6; omega) (show 0 ≤ (u2_1) ∧ (u2_1) ≤ (n3) ∧ (n3) ≤ 65536 by have qh0 := HIDe r1; have qh1 := HIDe r7; omega) (show 0 ≤ (u4_1) ∧ (u4_1) ≤ (n5) ∧ (n5) ≤ 65536 by have qh0 := HIDe r2; have qh1 := HIDe r8; omega) (show 0 ≤ (u6_1) ∧ (u6_1) ≤ (n7) ∧ (n7) ≤ 65536 by have qh0 := HIDe r3; have qh1 := HIDe r9; omega) (show 0 ≤ (u8_1) ∧ (u8_1) ≤ (n9) ∧ (n9) ≤ 65536 by have qh0 := HIDe r10; have qh1 := HIDe r4; omega) (show 0 ≤ (u10_1) ∧ (u10_1) ≤ (n11) ∧ (n11) ≤ 65536 by have qh0 := HIDe r11; have qh1 := HIDe r5; omega) (show 0 ≤ (y1) ∧ (y1) ≤ 3 by omega) (fun z12 σ12 D12ₚ N12ₚ F12ₚ A12ₚ c12 s12 Hₚ Oₚ hD12 hN12 hS12 hA12 pm12_3 pm12_5 pm12_7 pm12_9 m12_3 em12_3 m12_5 em12_5 m12_7 em12_7 m12_9 em12_9 y12_2_1 ey12_2_1 y12_4_1 ey12_4_1 y12_6_1 ey12_6_1 y12_8_1 ey12_8_1 pz12_0 pz12_1 pz12_2 pz12_3 pz12_4 pz12_5 => ⟨rfl, ?_⟩))
  replace pm12_3 := HIDm pm12_3
  replace pm12_5 := HIDm pm12_5
  replace pm12_7 := HIDm pm12_7
  replace pm12_9 := HIDm pm12_9
  replace em12_3 := HIDm em12_3
  replace em12_5 := HIDm em12_5
  replace em12_7 := HIDm em12_7
  replace em12_9 := HIDm em12_9
  replace ey12_2_1 := HIDm ey12_2_1
  replace ey12_4_1 := HIDm ey12_4_1
  replace ey12_6_1 := HIDm ey12_6_1
  replace ey12_8_1 := HIDm ey12_8_1
  refine v_backM (c := c) (s := s) H (show vsub V20_vb V31 [0, 1, 2, 3, 4, 5, 6, 7, 8, 9, 10, 11] = true by decide +kernel) Hₚ Oₚ hD12 (show vmov V20_vb [0, 1, 2, 3, 4, 5, 6, 7, 8, 9, 10, 11] [3, 5, 7, 9] = true by decide +kernel) (fun D12 N12 F12 A12 H Oₚ eD12 eN12 eF12 eA12 => ?_)
  have O := OUT_trans O Oₚ
  -- PackHouse.settle
  have pe12_1_0 : HID (A12 1 0 = (D12 2 : Int)) := (congrFun ((show A12 1 = A 1 from (eA12 1).trans (funext (hA12 1 rfl)))) 0).trans ((pf2).trans (congrArg (fun q : Nat => (q : Int)) ((show D12 2 = D 2 from (eD12 2).trans (hD12 2 rfl))).symm))
  have pe12_1_1 : HID (A12 1 1 = (D12 4 : Int)) := (congrFun ((show A12 1 = A 1 from (eA12 1).trans (funext (hA12 1 rfl)))) 1).trans ((pf4).trans (congrArg (fun q : Nat => (q : Int)) ((show D12 4 = D 4 from (eD12 4).trans (hD12 4 rfl))).symm))
  have pe12_1_2 : HID (A12 1 2 = (D12 6 : Int)) := (congrFun ((show A12 1 = A 1 from (eA12 1).trans (funext (hA12 1 rfl)))) 2).trans ((pf6).trans (congrArg (fun q : Nat => (q : Int)) ((show D12 6 = D 6 from (eD12 6).trans (hD12 6 rfl))).symm))
  have pe12_1_3 : HID (A12 1 3 = (D12 8 : Int)) := (congrFun ((show A12 1 = A 1 from (eA12 1).trans (funext (hA12 1 rfl)))) 3).trans ((pf8).trans (congrArg (fun q : Nat => (q : Int)) ((show D12 8 = D 8 from (eD12 8).trans (hD12 8 rfl))).symm))
  have pf12_0_0 : HID (F12 0 0 = (D12 1 : Int)) := ((show F12 0 0 = F 0 0 from (eF12 0 0).trans (hS12 0 0 rfl))).trans ((pf1).trans (congrArg (fun q : Nat => (q : Int)) ((show D12 1 = D 1 from (eD12 1).trans (hD12 1 rfl))).symm))
  have pf12_0_6 : HID (F12 0 6 = (D12 10 : Int)) := ((show F12 0 6 = F 0 6 from (eF12 0 6).trans (hS12 0 6 rfl))).trans ((pf10).trans (congrArg (fun q : Nat => (q : Int)) ((show D12 10 = D 10 from (eD12 10).trans (hD12 10 rfl))).symm))
  have pf12_10_0 : HID (F12 10 0 = (D12 11 : Int)) := ((show F12 10 0 = F 10 0 from (eF12 10 0).trans (hS12 10 0 rfl))).trans ((pf11).trans (congrArg (fun q : Nat => (q : Int)) ((show D12 11 = D 11 from (eD12 11).trans (hD12 11 rfl))).symm))
  have pf12_2_0 : HID (F12 2 0 = (D12 3 : Int)) := (eF12 2 0).trans (pm12_3.trans (congrArg (fun q : Nat => (q : Int)) (eD12 3).symm))
  have pf12_4_0 : HID (F12 4 0 = (D12 5 : Int)) := (eF12 4 0).trans (pm12_5.trans (congrArg (fun q : Nat => (q : Int)) (eD12 5).symm))
  have pf12_6_0 : HID (F12 6 0 = (D12 7 : Int)) := (eF12 6 0).trans (pm12_7.trans (congrArg (fun q : Nat => (q : Int)) (eD12 7).symm))
  have pf12_8_0 : HID (F12 8 0 = (D12 9 : Int)) := (eF12 8 0).trans (pm12_9.trans (congrArg (fun q : Nat => (q : Int)) (eD12 9).symm))
  have r13 : HID ((0 : Int) ≤ m12_3 ∧ m12_3 ≤ 1000000) := nrng (H.nle 3 (by decide)) (show (N12 3 : Int) = m12_3 from (congrArg (fun q : Nat => (q : Int)) (eN12 3)).trans em12_3)
  have r14 : HID ((0 : Int) ≤ m12_5 ∧ m12_5 ≤ 1000000) := nrng (H.nle 5 (by decide)) (show (N12 5 : Int) = m12_5 from (congrArg (fun q : Nat => (q : Int)) (eN12 5)).trans em12_5)
  have r15 : HID ((0 : Int) ≤ m12_7 ∧ m12_7 ≤ 1000000) := nrng (H.nle 7 (by decide)) (show (N12 7 : Int) = m12_7 from (congrArg (fun q : Nat => (q : Int)) (eN12 7)).trans em12_7)
  have r16 : HID ((0 : Int) ≤ m12_9 ∧ m12_9 ≤ 1000000) := nrng (H.nle 9 (by decide)) (show (N12 9 : Int) = m12_9 from (congrArg (fun q : Nat => (q : Int)) (eN12 9)).trans em12_9)
  have r17 : HID ((-2147483648 : Int) ≤ y12_2_1 ∧ y12_2_1 ≤ 2147483647) := krg_e (show (-2147483648 : Int) ≤ F12 2 1 ∧ F12 2 1 ≤ 2147483647 from H.krg 2 1 (by decide)) (show F12 2 1 = y12_2_1 from ((eF12 2 1).trans ey12_2_1))
  have r18 : HID ((-2147483648 : Int) ≤ y12_4_1 ∧ y12_4_1 ≤ 2147483647) := krg_e (show (-2147483648 : Int) ≤ F12 4 1 ∧ F12 4 1 ≤ 2147483647 from H.krg 4 1 (by decide)) (show F12 4 1 = y12_4_1 from ((eF12 4 1).trans ey12_4_1))
  have r19 : HID ((-2147483648 : Int) ≤ y12_6_1 ∧ y12_6_1 ≤ 2147483647) := krg_e (show (-2147483648 : Int) ≤ F12 6 1 ∧ F12 6 1 ≤ 2147483647 from H.krg 6 1 (by decide)) (show F12 6 1 = y12_6_1 from ((eF12 6 1).trans ey12_6_1))
  have r20 : HID ((-2147483648 : Int) ≤ y12_8_1 ∧ y12_8_1 ≤ 2147483647) := krg_e (show (-2147483648 : Int) ≤ F12 8 1 ∧ F12 8 1 ≤ 2147483647 from H.krg 8 1 (by decide)) (show F12 8 1 = y12_8_1 from ((eF12 8 1).trans ey12_8_1))
  exact w_ireturn rfl (k (z12) _ _ _ _ _ _ _ H O (SD_trans (SD_refl) (SD_glu (ι := [0, 1, 2, 3, 4, 5, 6, 7, 8, 9, 10, 11]) hD12 eD12 (by decide +kernel)) (any_subA (lₚ := [3, 5, 7, 9]) rfl)) (SD_trans (SD_refl) (SD_glu (ι := [0, 1, 2, 3, 4, 5, 6, 7, 8, 9, 10, 11]) hN12 eN12 (by decide +kernel)) (any_subA (lₚ := [3, 5, 7, 9]) rfl)) (SF_trans (SF_refl) (SF_glu (ι := [0, 1, 2, 3, 4, 5, 6, 7, 8, 9, 10, 11]) hS12 eF12 (by decide +kernel)) (any_sub (lₚ := [(0, 18), (2, 0), (2, 1), (2, 2), (2, 3), (2, 4), (4, 0), (4, 1), (4, 2), (4, 3), (4, 4), (6, 0), (6, 1), (6, 2), (6, 3), (6, 4), (8, 0), (8, 1), (8, 2), (8, 3), (8, 4)]) rfl)) (SA_trans (SA_refl) (SA_glu (ι := [0, 1, 2, 3, 4, 5, 6, 7, 8, 9, 10, 11]) hA12 eA12 (by decide +kernel)) (any_subA (lₚ := [3, 5, 7, 9]) rfl)) (pf12_2_0) (pf12_4_0) (pf12_6_0) (pf12_8_0) (m12_3) ((congrArg (fun q : Nat => (q : Int)) (eN12 3)).trans em12_3) (m12_5) ((congrArg (fun q : Nat => (q : Int)) (eN12 5)).trans em12_5) (m12_7) ((congrArg (fun q : Nat => (q : Int)) (eN12 7)).trans em12_7) (m12_9) ((congrArg (fun q : Nat => (q : Int)) (eN12 9)).trans em12_9) (y12_2_1) (((eF12 2 1).trans ey12_2_1)) (y12_4_1) (((eF12 4 1).trans ey12_4_1)) (y12_6_1) (((eF12 6 1).trans ey12_6_1)) (y12_8_1) (((eF12 8 1).trans ey12_8_1)) (show inr (z12) by omega) (show 0 ≤ (y12_2_1) ∧ (y12_2_1) ≤ (m12_3) ∧ (m12_3) ≤ 65536 by have qh0 := HIDe r13; have qh1 := HIDe r17; omega) (show 0 ≤ (y12_4_1) ∧ (y12_4_1) ≤ (m12_5) ∧ (m12_5) ≤ 65536 by have qh0 := HIDe r14; have qh1 := HIDe r18; omega) (show 0 ≤ (y12_6_1) ∧ (y12_6_1) ≤ (m12_7) ∧ (m12_7) ≤ 65536 by have qh0 := HIDe r15; have qh1 := HIDe r19; omega) (show 0 ≤ (y12_8_1) ∧ (y12_8_1) ≤ (m12_9) ∧ (m12_9) ≤ 65536 by have qh0 := HIDe r16; have qh1 := HIDe r20; omega) (show 0 ≤ (u10_1) ∧ (u10_1) ≤ (n11) ∧ (n11) ≤ 65536 by have qh0 := HIDe r11; have qh1 := HIDe r5; omega))
abbrev V15_vb : vV := [(0, 0, [(4, 0), (4, 0), (4, 0), (4, 0), (4, 0), (4, 0), (4, 0), (4, 0), (4, 0), (4, 0), (4, 0), (4, 0), (4, 0), (4, 0), (4, 0), (4, 0), (4, 0), (0, 0), (0, 0)]), (0, 4, [(4, 0), (4, 0), (0, 0), (4, 0), (4, 0)]), (0, 4, [(4, 0), (4, 0), (0, 0), (4, 0), (4, 0)])]
/-- PackHouse.learn: this, this.otherDictionary, this.dictionary -/
theorem C15_vb {σE : rS} {D N : Nat → Nat} {F : hF} {A : hA} {d c s : Nat} {Q : wQ} (H : HW V15_vb σE D N F A) {y0 : Int} (pf1 : F 0 4 = (D 1 : Int)) (pf2 : F 0 3 = (D 2 : Int)) (u0_3 : Int) (eu0_3 : F 0 3 = u0_3) (u0_4 : Int) (eu0_4 : F 0 4 = u0_4) {ls : rO} (hl0 : rlook ls 0 = some (.ref (D 0))) (h0 : inr y0) (k : ∀ (z : Int) (σ : rS) (Fₚ : hF) (Aₚ : hA), HW V15_vb σ D N Fₚ Aₚ → OUT (V15_vb).length D N σE c s D N σ c s → SF [(0, 3), (0, 4)] F Fₚ → SA [] A Aₚ → ∀ y0_3 : Int, Fₚ 0 3 = y0_3 → ∀ y0_4 : Int, Fₚ 0 4 = y0_4 → (inr (z)) → ((z) = y0 ∧ (y0 < 0 ∧ (y0_3) = (u0_3) ∧ (y0_4) = (u0_4) ∨ 0 ≤ y0 ∧ (y0_3) = (((D 1 : Nat) : Int)) ∧ (y0_4) = (((D 2 : Nat) : Int)))) → Q (some (I z)) σ c s) : Ew 15 (d + 0) 23 ls [I (y0)] σE c s Q := by
  have O := OUT_refl (n := (V15_vb).length) (D := D) (N := N) (σ := σE) (c := c) (s := s)
  have HE := H
  replace pf1 := HIDm pf1
  replace pf2 := HIDm pf2
  replace eu0_3 := HIDm eu0_3
  replace eu0_4 := HIDm eu0_4
  refine Ew_of (pcₚ := 24) (fun _ => x_istore_n rfl) ?_
  refine Ew_of (pcₚ := 25) (fun _ => x_iload_n rfl rk_s) ?_
  refine w_iflt (t := 46) rfl rfl (show inr (y0) by omega) (fun b1 => ?_) (fun b1 => ?_)
  · refine Ew_of (pcₚ := 47) (fun _ => x_iload_n rfl rk_s) ?_
    exact w_ireturn rfl (k (y0) _ _ _ H O (SF_refl) (SA_refl) (u0_3) ((eu0_3)) (u0_4) ((eu0_4)) (show inr (y0) by omega) (show (y0) = y0 ∧ (y0 < 0 ∧ (u0_3) = (u0_3) ∧ (u0_4) = (u0_4) ∨ 0 ≤ y0 ∧ (u0_3) = (((D 1 : Nat) : Int)) ∧ (u0_4) = (((D 2 : Nat) : Int))) by omega))
  · refine Ew_of (pcₚ := 29) (fun _ => x_aload_n rfl (rk_o (hl0) rfl rfl)) ?_
    refine v_g H (o := 0) (v := .ref (D 2)) rfl rfl rfl rfl rfl (vrf (pf2)) ?_
    refine Ew_of (pcₚ := 33) (fun _ => x_astore_n rfl) ?_
    refine Ew_of (pcₚ := 34) (fun _ => x_aload_n rfl (rk_o (rk_o (hl0) rfl rfl) rfl rfl)) ?_
    refine Ew_of (pcₚ := 35) (fun _ => x_aload_n rfl (rk_o (rk_o (hl0) rfl rfl) rfl rfl)) ?_
    refine v_g H (o := 0) (v := .ref (D 1)) rfl rfl rfl rfl rfl (vrf (pf1)) ?_
    refine v_p H (o := 0) (z := ((D 1 : Nat) : Int)) (v := .ref (D 1)) rfl rfl rfl rfl rfl rfl (vrf rfl) rfl (show (-1 : Int) ≤ ((D 1 : Nat) : Int) by omega) (fun σ H Oₚ => ?_)
    have O := OUT_trans O Oₚ
    refine Ew_of (pcₚ := 42) (fun _ => x_aload_n rfl (rk_o (rk_o (hl0) rfl rfl) rfl rfl)) ?_
    refine Ew_of (pcₚ := 43) (fun _ => x_aload_n rfl rk_s) ?_
    refine v_p H (o := 0) (z := ((D 2 : Nat) : Int)) (v := .ref (D 2)) rfl rfl rfl rfl rfl rfl (vrf rfl) rfl (show (-1 : Int) ≤ ((D 2 : Nat) : Int) by omega) (fun σ H Oₚ => ?_)
    have O := OUT_trans O Oₚ
    refine Ew_of (pcₚ := 47) (fun _ => x_iload_n rfl (rk_o (rk_s) rfl rfl)) ?_
    exact w_ireturn rfl (k (y0) _ _ _ H O (SF_upd (SF_upd (SF_refl) rfl) rfl) (SA_refl) (((D 1 : Nat) : Int)) (rfl) (((D 2 : Nat) : Int)) (rfl) (show inr (y0) by omega) (show (y0) = y0 ∧ (y0 < 0 ∧ (((D 1 : Nat) : Int)) = (u0_3) ∧ (((D 2 : Nat) : Int)) = (u0_4) ∨ 0 ≤ y0 ∧ (((D 1 : Nat) : Int)) = (((D 1 : Nat) : Int)) ∧ (((D 2 : Nat) : Int)) = (((D 2 : Nat) : Int))) by omega))
