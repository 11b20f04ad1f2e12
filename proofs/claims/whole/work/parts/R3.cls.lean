abbrev V11 : vV := [(0, 0, [(4, 0), (4, 0), (4, 0), (4, 0), (4, 0), (4, 0), (4, 0), (4, 0), (4, 0), (4, 0), (4, 0), (4, 0), (4, 0), (4, 0), (4, 0), (4, 0), (4, 0), (0, 0), (0, 0)]), (1, 4, []), (0, 7, [(4, 0), (0, 0), (1, 0), (0, 0), (0, 0)]), (1, 0, []), (0, 7, [(4, 0), (0, 0), (1, 0), (0, 0), (0, 0)]), (1, 0, []), (0, 7, [(4, 0), (0, 0), (1, 0), (0, 0), (0, 0)]), (1, 0, []), (0, 7, [(4, 0), (0, 0), (1, 0), (0, 0), (0, 0)]), (1, 0, [])]
/-- PackHouse.narrow: this, this.rows, this.rows.0, this.rows.0.bytes, this.rows.1, this.rows.1.bytes, this.rows.2, this.rows.2.bytes, this.rows.3, this.rows.3.bytes -/
theorem C11 {σE : rS} {D N : Nat → Nat} {F : hF} {A : hA} {d c s : Nat} {Q : wQ} (H : HW V11 σE D N F A) {a1 a2 a3 a4 : Int} (pf1 : F 0 0 = (D 1 : Int)) (pf2 : A 1 0 = (D 2 : Int)) (pf3 : F 2 0 = (D 3 : Int)) (pf4 : A 1 1 = (D 4 : Int)) (pf5 : F 4 0 = (D 5 : Int)) (pf6 : A 1 2 = (D 6 : Int)) (pf7 : F 6 0 = (D 7 : Int)) (pf8 : A 1 3 = (D 8 : Int)) (pf9 : F 8 0 = (D 9 : Int)) (n1 : Int) (en1 : (N 1 : Int) = n1) (n3 : Int) (en3 : (N 3 : Int) = n3) (n5 : Int) (en5 : (N 5 : Int) = n5) (n7 : Int) (en7 : (N 7 : Int) = n7) (n9 : Int) (en9 : (N 9 : Int) = n9) (u2_1 : Int) (eu2_1 : F 2 1 = u2_1) (u4_1 : Int) (eu4_1 : F 4 1 = u4_1) (u6_1 : Int) (eu6_1 : F 6 1 = u6_1) (u8_1 : Int) (eu8_1 : F 8 1 = u8_1) (h0 : inr (a1)) (h1 : inr (a2)) (h2 : inr (a3)) (h3 : inr (a4)) (h4 : (n1) = 4) (h5 : 0 ≤ (u2_1) ∧ (u2_1) ≤ (n3) ∧ (n3) ≤ 65536) (h6 : 0 ≤ (u4_1) ∧ (u4_1) ≤ (n5) ∧ (n5) ≤ 65536) (h7 : 0 ≤ (u6_1) ∧ (u6_1) ≤ (n7) ∧ (n7) ≤ 65536) (h8 : 0 ≤ (u8_1) ∧ (u8_1) ≤ (n9) ∧ (n9) ≤ 65536) (k : ∀ (z : Int) (σ : rS) (F' : hF) (A' : hA), HW V11 σ D N F' A' → OUT (V11).length D N σE c s D N σ c s → SF [] F F' → SA [] A A' → (inr (z)) → Q (some (I z)) σ c s) : Ew 11 (d + 3) 0 (rargs 0 [.ref (D 0), I a1, I a2, I a3, I a4]) [] σE c s Q := by
  have O := OUT_refl (n := (V11).length) (D := D) (N := N) (σ := σE) (c := c) (s := s)
  have HE := H
  have r1 : HID ((-2147483648 : Int) ≤ u2_1 ∧ u2_1 ≤ 2147483647) := krg_e (show (-2147483648 : Int) ≤ F 2 1 ∧ F 2 1 ≤ 2147483647 from H.krg 2 1 (by decide)) (show F 2 1 = u2_1 from (eu2_1))
  have r2 : HID ((-2147483648 : Int) ≤ u4_1 ∧ u4_1 ≤ 2147483647) := krg_e (show (-2147483648 : Int) ≤ F 4 1 ∧ F 4 1 ≤ 2147483647 from H.krg 4 1 (by decide)) (show F 4 1 = u4_1 from (eu4_1))
  have r3 : HID ((-2147483648 : Int) ≤ u6_1 ∧ u6_1 ≤ 2147483647) := krg_e (show (-2147483648 : Int) ≤ F 6 1 ∧ F 6 1 ≤ 2147483647 from H.krg 6 1 (by decide)) (show F 6 1 = u6_1 from (eu6_1))
  have r4 : HID ((-2147483648 : Int) ≤ u8_1 ∧ u8_1 ≤ 2147483647) := krg_e (show (-2147483648 : Int) ≤ F 8 1 ∧ F 8 1 ≤ 2147483647 from H.krg 8 1 (by decide)) (show F 8 1 = u8_1 from (eu8_1))
  replace pf1 := HIDm pf1
  replace pf2 := HIDm pf2
  replace pf3 := HIDm pf3
  replace pf4 := HIDm pf4
  replace pf5 := HIDm pf5
  replace pf6 := HIDm pf6
  replace pf7 := HIDm pf7
  replace pf8 := HIDm pf8
  replace pf9 := HIDm pf9
  replace en1 := HIDm en1
  replace en3 := HIDm en3
  replace en5 := HIDm en5
  replace en7 := HIDm en7
  replace en9 := HIDm en9
  replace eu2_1 := HIDm eu2_1
  replace eu4_1 := HIDm eu4_1
  replace eu6_1 := HIDm eu6_1
  replace eu8_1 := HIDm eu8_1
  have r5 : HID ((0 : Int) ≤ n1 ∧ n1 ≤ 1000000) := nrng (H.nle 1 (by decide)) (show (N 1 : Int) = n1 from en1)
  have r6 : HID ((0 : Int) ≤ n3 ∧ n3 ≤ 1000000) := nrng (H.nle 3 (by decide)) (show (N 3 : Int) = n3 from en3)
  have r7 : HID ((0 : Int) ≤ n5 ∧ n5 ≤ 1000000) := nrng (H.nle 5 (by decide)) (show (N 5 : Int) = n5 from en5)
  have r8 : HID ((0 : Int) ≤ n7 ∧ n7 ≤ 1000000) := nrng (H.nle 7 (by decide)) (show (N 7 : Int) = n7 from en7)
  have r9 : HID ((0 : Int) ≤ n9 ∧ n9 ≤ 1000000) := nrng (H.nle 9 (by decide)) (show (N 9 : Int) = n9 from en9)
  refine Ew_of (pc' := 1) (fun _ => x_iload_n rfl rfl) ?_
  refine w_stat24 rfl rfl (by rfl) (C24 (D := pul [] D) (N := pul [] N) (HW_sub H (VS_of (show vsub V11 V24 [] = true by decide +kernel))) (show inr (a1) by omega) (fun z10 σ10 F10' A10' H' O' hS10 hA10 pz10_0 pz10_1 => ⟨rretB rfl pz10_0, ?_⟩))
  refine v_back (c := c) (s := s) H (show vsub V11 V24 [] = true by decide +kernel) H' O' (fun F10 A10 H O' eF10 eA10 => ?_)
  have O := OUT_trans O O'
  -- PackHouse.isRow
  refine w_ifne (t := 9) rfl rfl (show inr (z10) by omega) (fun b11 => ?_) (fun b11 => ?_)
  · refine Ew_of (pc' := 10) (fun _ => x_aload_n rfl rfl) ?_
    refine v_g H (o := 0) (v := .ref (D 1)) rfl rfl rfl rfl rfl (vrf ((((show F10 0 0 = F 0 0 from (eF10 0 0)))).trans (pf1))) ?_
    refine Ew_of (pc' := 14) (fun _ => x_iload_n rfl rfl) ?_
    rcases (show a1 = 0 ∨ a1 = 1 ∨ a1 = 2 ∨ a1 = 3 by omega) with b12 | b12 | b12 | b12
    · refine v_lR H (o := 1) rfl rfl rfl rfl rfl (n := n1) (en1) (show 0 ≤ a1 ∧ a1 < n1 by have qh0 := HIDe r5; omega) (z := ((D 2 : Nat) : Int)) (v := .ref (D 2)) ((congrArg (A10 1) b12).trans ((congrFun (((show A10 1 = A 1 from (eA10 1)))) 0).trans (pf2))) (vrf rfl) ?_
      refine Ew_of (pc' := 16) (fun _ => x_iload_n rfl rfl) ?_
      refine Ew_of (pc' := 17) (fun _ => x_iload_n rfl rfl) ?_
      refine w_stat24 rfl rfl (by rfl) (C27_Row (D := pul [2] D) (N := pul [2] N) (HW_sub H (VS_of (show vsub V11 V27_Row [2] = true by decide +kernel))) (u2_1) ((((show F10 2 1 = F 2 1 from (eF10 2 1))).trans (eu2_1))) (show inr (a2) by omega) (show inr (a3) by omega) (fun z13 σ13 F13' A13' H' O' hS13 hA13 pz13_0 pz13_1 => ⟨rretB rfl pz13_0, ?_⟩))
      refine v_back (c := c) (s := s) H (show vsub V11 V27_Row [2] = true by decide +kernel) H' O' (fun F13 A13 H O' eF13 eA13 => ?_)
      have O := OUT_trans O O'
      -- PackHouse.isPart
      refine Ew_of (pc' := 22) (fun _ => x_istore rfl) ?_
      refine Ew_of (pc' := 23) (fun _ => x_aload_n rfl (rk_o (rfl) rfl rfl)) ?_
      refine v_g H (o := 0) (v := .ref (D 1)) rfl rfl rfl rfl rfl (vrf (((((show F13 0 0 = F10 0 0 from (eF13 0 0))).trans ((show F10 0 0 = F 0 0 from (eF10 0 0))))).trans (pf1))) ?_
      refine Ew_of (pc' := 27) (fun _ => x_iload_n rfl (rk_o (rfl) rfl rfl)) ?_
      refine v_lR H (o := 1) rfl rfl rfl rfl rfl (n := n1) (en1) (show 0 ≤ a1 ∧ a1 < n1 by have qh0 := HIDe r5; omega) (z := ((D 2 : Nat) : Int)) (v := .ref (D 2)) ((congrArg (A13 1) b12).trans ((congrFun ((((show A13 1 = A10 1 from (eA13 1))).trans ((show A10 1 = A 1 from (eA10 1))))) 0).trans (pf2))) (vrf rfl) ?_
      refine v_g H (o := 2) (v := .ref (D 3)) rfl rfl rfl rfl rfl (vrf (((((show F13 2 0 = F10 2 0 from (eF13 2 0).trans (hS13 0 0 rfl))).trans ((show F10 2 0 = F 2 0 from (eF10 2 0))))).trans (pf3))) ?_
      refine Ew_of (pc' := 33) (fun _ => x_iload rfl rk_s) ?_
      have hc41 : ∀ (tc41_0 : Int), ∀ (ls : rO) (σ : rS) (F_c41 : hF) (A_c41 : hA) , rlook ls 3 = some (I (a3)) → rlook ls 4 = some (I (a4)) → rlook ls 5 = some (I (z13)) → HW V11 σ D N F_c41 A_c41 → OUT (V11).length D N σE c s D N σ c s → SF [] F13 F_c41 → SA [] A13 A_c41 → (inr (tc41_0)) → (((z13) = (0) ∧ (tc41_0) = (0)) ∨ ((z13) ≠ (0) ∧ (tc41_0) = (a2))) → Ew 11 (d + 3) 41 ls [I (tc41_0), .ref (D 3)] σ c s Q := by
       as_aux_lemma =>
        intro tc41_0 ls σ F_c41 A_c41  lc41_3 lc41_4 lc41_5 H O hS_c41 hA_c41     jc41_0 jc41_1
        refine Ew_of (pc' := 43) (fun _ => x_iload rfl lc41_5) ?_
        refine w_ifeq (t := 50) rfl rfl (show inr (z13) by omega) (fun b14 => ?_) (fun b14 => ?_)
        · refine Ew_of (pc' := 51) (fun _ => x_iconst rfl) ?_
          refine Ew_of (pc' := 53) (fun _ => x_iload rfl lc41_4) ?_
          refine w_stat24 rfl rfl (by rfl) (C49_Br (D := pul [3] D) (N := pul [3] N) (HW_sub H (VS_of (show vsub V11 V49_Br [3] = true by decide +kernel))) (n3) (en3) (A 3) ((funext (hA_c41 3 rfl)).trans (((show A13 3 = A10 3 from (eA13 3))).trans ((show A10 3 = A 3 from (eA10 3))))) (show inr (tc41_0) by omega) (show inr (0) by omega) (show inr (a4) by omega) (show 0 ≤ (tc41_0) ∧ (tc41_0) ≤ (0) ∧ (0) ≤ (n3) by have qh0 := HIDe r6; omega) (fun z15 σ15 F15' A15' H' O' hS15 hA15 pz15_0 pz15_1 => ⟨rfl, ?_⟩))
          refine v_back (c := c) (s := s) H (show vsub V11 V49_Br [3] = true by decide +kernel) H' O' (fun F15 A15 H O' eF15 eA15 => ?_)
          have O := OUT_trans O O'
          -- PackHouse.narrowSum
          exact w_ireturn rfl (k (z15) _ _ _ H O (SF_trans (SF_trans (SF_trans (SF_trans (SF_refl) (SF_glu (ι := []) hS10 eF10 (by decide +kernel)) (any_sub (l' := []) rfl)) (SF_glu (ι := [2]) hS13 eF13 (by decide +kernel)) (any_sub (l' := []) rfl)) hS_c41 (any_sub rfl)) (SF_glu (ι := [3]) hS15 eF15 (by decide +kernel)) (any_sub (l' := []) rfl)) (SA_trans (SA_trans (SA_trans (SA_trans (SA_refl) (SA_glu (ι := []) hA10 eA10 (by decide +kernel)) (any_subA (l' := []) rfl)) (SA_glu (ι := [2]) hA13 eA13 (by decide +kernel)) (any_subA (l' := []) rfl)) hA_c41 (any_subA rfl)) (SA_glu (ι := [3]) hA15 eA15 (by decide +kernel)) (any_subA (l' := []) rfl)) (show inr (z15) by omega))
        · refine Ew_of (pc' := 47) (fun _ => x_iload_n rfl lc41_3) ?_
          refine Ew_of (pc' := 51) (fun _ => x_goto rfl rfl) ?_
          refine Ew_of (pc' := 53) (fun _ => x_iload rfl lc41_4) ?_
          refine w_stat24 rfl rfl (by rfl) (C49_Br (D := pul [3] D) (N := pul [3] N) (HW_sub H (VS_of (show vsub V11 V49_Br [3] = true by decide +kernel))) (n3) (en3) (A 3) ((funext (hA_c41 3 rfl)).trans (((show A13 3 = A10 3 from (eA13 3))).trans ((show A10 3 = A 3 from (eA10 3))))) (show inr (tc41_0) by omega) (show inr (a3) by omega) (show inr (a4) by omega) (show 0 ≤ (tc41_0) ∧ (tc41_0) ≤ (a3) ∧ (a3) ≤ (n3) by have qh0 := HIDe r6; omega) (fun z16 σ16 F16' A16' H' O' hS16 hA16 pz16_0 pz16_1 => ⟨rfl, ?_⟩))
          refine v_back (c := c) (s := s) H (show vsub V11 V49_Br [3] = true by decide +kernel) H' O' (fun F16 A16 H O' eF16 eA16 => ?_)
          have O := OUT_trans O O'
          -- PackHouse.narrowSum
          exact w_ireturn rfl (k (z16) _ _ _ H O (SF_trans (SF_trans (SF_trans (SF_trans (SF_refl) (SF_glu (ι := []) hS10 eF10 (by decide +kernel)) (any_sub (l' := []) rfl)) (SF_glu (ι := [2]) hS13 eF13 (by decide +kernel)) (any_sub (l' := []) rfl)) hS_c41 (any_sub rfl)) (SF_glu (ι := [3]) hS16 eF16 (by decide +kernel)) (any_sub (l' := []) rfl)) (SA_trans (SA_trans (SA_trans (SA_trans (SA_refl) (SA_glu (ι := []) hA10 eA10 (by decide +kernel)) (any_subA (l' := []) rfl)) (SA_glu (ι := [2]) hA13 eA13 (by decide +kernel)) (any_subA (l' := []) rfl)) hA_c41 (any_subA rfl)) (SA_glu (ι := [3]) hA16 eA16 (by decide +kernel)) (any_subA (l' := []) rfl)) (show inr (z16) by omega))
      refine w_ifeq (t := 40) rfl rfl (show inr (z13) by omega) (fun b17 => ?_) (fun b17 => ?_)
      · refine Ew_of (pc' := 41) (fun _ => x_iconst rfl) ?_
        exact hc41 (0) _ _ _ _  (rk_o (rfl) rfl rfl) (rk_o (rfl) rfl rfl) (rk_s) H O (SF_refl) (SA_refl)     (show inr (0) by omega) (show ((z13) = (0) ∧ (0) = (0)) ∨ ((z13) ≠ (0) ∧ (0) = (a2)) by omega)
      · refine Ew_of (pc' := 37) (fun _ => x_iload_n rfl (rk_o (rfl) rfl rfl)) ?_
        refine Ew_of (pc' := 41) (fun _ => x_goto rfl rfl) ?_
        exact hc41 (a2) _ _ _ _  (rk_o (rfl) rfl rfl) (rk_o (rfl) rfl rfl) (rk_s) H O (SF_refl) (SA_refl)     (show inr (a2) by omega) (show ((z13) = (0) ∧ (a2) = (0)) ∨ ((z13) ≠ (0) ∧ (a2) = (a2)) by omega)
    · refine v_lR H (o := 1) rfl rfl rfl rfl rfl (n := n1) (en1) (show 0 ≤ a1 ∧ a1 < n1 by have qh0 := HIDe r5; omega) (z := ((D 4 : Nat) : Int)) (v := .ref (D 4)) ((congrArg (A10 1) b12).trans ((congrFun (((show A10 1 = A 1 from (eA10 1)))) 1).trans (pf4))) (vrf rfl) ?_
      refine Ew_of (pc' := 16) (fun _ => x_iload_n rfl rfl) ?_
      refine Ew_of (pc' := 17) (fun _ => x_iload_n rfl rfl) ?_
      refine w_stat24 rfl rfl (by rfl) (C27_Row (D := pul [4] D) (N := pul [4] N) (HW_sub H (VS_of (show vsub V11 V27_Row [4] = true by decide +kernel))) (u4_1) ((((show F10 4 1 = F 4 1 from (eF10 4 1))).trans (eu4_1))) (show inr (a2) by omega) (show inr (a3) by omega) (fun z18 σ18 F18' A18' H' O' hS18 hA18 pz18_0 pz18_1 => ⟨rretB rfl pz18_0, ?_⟩))
      refine v_back (c := c) (s := s) H (show vsub V11 V27_Row [4] = true by decide +kernel) H' O' (fun F18 A18 H O' eF18 eA18 => ?_)
      have O := OUT_trans O O'
      -- PackHouse.isPart
      refine Ew_of (pc' := 22) (fun _ => x_istore rfl) ?_
      refine Ew_of (pc' := 23) (fun _ => x_aload_n rfl (rk_o (rfl) rfl rfl)) ?_
      refine v_g H (o := 0) (v := .ref (D 1)) rfl rfl rfl rfl rfl (vrf (((((show F18 0 0 = F10 0 0 from (eF18 0 0))).trans ((show F10 0 0 = F 0 0 from (eF10 0 0))))).trans (pf1))) ?_
      refine Ew_of (pc' := 27) (fun _ => x_iload_n rfl (rk_o (rfl) rfl rfl)) ?_
      refine v_lR H (o := 1) rfl rfl rfl rfl rfl (n := n1) (en1) (show 0 ≤ a1 ∧ a1 < n1 by have qh0 := HIDe r5; omega) (z := ((D 4 : Nat) : Int)) (v := .ref (D 4)) ((congrArg (A18 1) b12).trans ((congrFun ((((show A18 1 = A10 1 from (eA18 1))).trans ((show A10 1 = A 1 from (eA10 1))))) 1).trans (pf4))) (vrf rfl) ?_
      refine v_g H (o := 4) (v := .ref (D 5)) rfl rfl rfl rfl rfl (vrf (((((show F18 4 0 = F10 4 0 from (eF18 4 0).trans (hS18 0 0 rfl))).trans ((show F10 4 0 = F 4 0 from (eF10 4 0))))).trans (pf5))) ?_
      refine Ew_of (pc' := 33) (fun _ => x_iload rfl rk_s) ?_
      have hc41 : ∀ (tc41_0 : Int), ∀ (ls : rO) (σ : rS) (F_c41 : hF) (A_c41 : hA) , rlook ls 3 = some (I (a3)) → rlook ls 4 = some (I (a4)) → rlook ls 5 = some (I (z18)) → HW V11 σ D N F_c41 A_c41 → OUT (V11).length D N σE c s D N σ c s → SF [] F18 F_c41 → SA [] A18 A_c41 → (inr (tc41_0)) → (((z18) = (0) ∧ (tc41_0) = (0)) ∨ ((z18) ≠ (0) ∧ (tc41_0) = (a2))) → Ew 11 (d + 3) 41 ls [I (tc41_0), .ref (D 5)] σ c s Q := by
       as_aux_lemma =>
        intro tc41_0 ls σ F_c41 A_c41  lc41_3 lc41_4 lc41_5 H O hS_c41 hA_c41     jc41_0 jc41_1
        refine Ew_of (pc' := 43) (fun _ => x_iload rfl lc41_5) ?_
        refine w_ifeq (t := 50) rfl rfl (show inr (z18) by omega) (fun b19 => ?_) (fun b19 => ?_)
        · refine Ew_of (pc' := 51) (fun _ => x_iconst rfl) ?_
          refine Ew_of (pc' := 53) (fun _ => x_iload rfl lc41_4) ?_
          refine w_stat24 rfl rfl (by rfl) (C49_Br (D := pul [5] D) (N := pul [5] N) (HW_sub H (VS_of (show vsub V11 V49_Br [5] = true by decide +kernel))) (n5) (en5) (A 5) ((funext (hA_c41 5 rfl)).trans (((show A18 5 = A10 5 from (eA18 5))).trans ((show A10 5 = A 5 from (eA10 5))))) (show inr (tc41_0) by omega) (show inr (0) by omega) (show inr (a4) by omega) (show 0 ≤ (tc41_0) ∧ (tc41_0) ≤ (0) ∧ (0) ≤ (n5) by have qh0 := HIDe r7; omega) (fun z20 σ20 F20' A20' H' O' hS20 hA20 pz20_0 pz20_1 => ⟨rfl, ?_⟩))
          refine v_back (c := c) (s := s) H (show vsub V11 V49_Br [5] = true by decide +kernel) H' O' (fun F20 A20 H O' eF20 eA20 => ?_)
          have O := OUT_trans O O'
          -- PackHouse.narrowSum
          exact w_ireturn rfl (k (z20) _ _ _ H O (SF_trans (SF_trans (SF_trans (SF_trans (SF_refl) (SF_glu (ι := []) hS10 eF10 (by decide +kernel)) (any_sub (l' := []) rfl)) (SF_glu (ι := [4]) hS18 eF18 (by decide +kernel)) (any_sub (l' := []) rfl)) hS_c41 (any_sub rfl)) (SF_glu (ι := [5]) hS20 eF20 (by decide +kernel)) (any_sub (l' := []) rfl)) (SA_trans (SA_trans (SA_trans (SA_trans (SA_refl) (SA_glu (ι := []) hA10 eA10 (by decide +kernel)) (any_subA (l' := []) rfl)) (SA_glu (ι := [4]) hA18 eA18 (by decide +kernel)) (any_subA (l' := []) rfl)) hA_c41 (any_subA rfl)) (SA_glu (ι := [5]) hA20 eA20 (by decide +kernel)) (any_subA (l' := []) rfl)) (show inr (z20) by omega))
        · refine Ew_of (pc' := 47) (fun _ => x_iload_n rfl lc41_3) ?_
          refine Ew_of (pc' := 51) (fun _ => x_goto rfl rfl) ?_
          refine Ew_of (pc' := 53) (fun _ => x_iload rfl lc41_4) ?_
          refine w_stat24 rfl rfl (by rfl) (C49_Br (D := pul [5] D) (N := pul [5] N) (HW_sub H (VS_of (show vsub V11 V49_Br [5] = true by decide +kernel))) (n5) (en5) (A 5) ((funext (hA_c41 5 rfl)).trans (((show A18 5 = A10 5 from (eA18 5))).trans ((show A10 5 = A 5 from (eA10 5))))) (show inr (tc41_0) by omega) (show inr (a3) by omega) (show inr (a4) by omega) (show 0 ≤ (tc41_0) ∧ (tc41_0) ≤ (a3) ∧ (a3) ≤ (n5) by have qh0 := HIDe r7; omega) (fun z21 σ21 F21' A21' H' O' hS21 hA21 pz21_0 pz21_1 => ⟨rfl, ?_⟩))
          refine v_back (c := c) (s := s) H (show vsub V11 V49_Br [5] = true by decide +kernel) H' O' (fun F21 A21 H O' eF21 eA21 => ?_)
          have O := OUT_trans O O'
          -- PackHouse.narrowSum
          exact w_ireturn rfl (k (z21) _ _ _ H O (SF_trans (SF_trans (SF_trans (SF_trans (SF_refl) (SF_glu (ι := []) hS10 eF10 (by decide +kernel)) (any_sub (l' := []) rfl)) (SF_glu (ι := [4]) hS18 eF18 (by decide +kernel)) (any_sub (l' := []) rfl)) hS_c41 (any_sub rfl)) (SF_glu (ι := [5]) hS21 eF21 (by decide +kernel)) (any_sub (l' := []) rfl)) (SA_trans (SA_trans (SA_trans (SA_trans (SA_refl) (SA_glu (ι := []) hA10 eA10 (by decide +kernel)) (any_subA (l' := []) rfl)) (SA_glu (ι := [4]) hA18 eA18 (by decide +kernel)) (any_subA (l' := []) rfl)) hA_c41 (any_subA rfl)) (SA_glu (ι := [5]) hA21 eA21 (by decide +kernel)) (any_subA (l' := []) rfl)) (show inr (z21) by omega))
      refine w_ifeq (t := 40) rfl rfl (show inr (z18) by omega) (fun b22 => ?_) (fun b22 => ?_)
      · refine Ew_of (pc' := 41) (fun _ => x_iconst rfl) ?_
        exact hc41 (0) _ _ _ _  (rk_o (rfl) rfl rfl) (rk_o (rfl) rfl rfl) (rk_s) H O (SF_refl) (SA_refl)     (show inr (0) by omega) (show ((z18) = (0) ∧ (0) = (0)) ∨ ((z18) ≠ (0) ∧ (0) = (a2)) by omega)
      · refine Ew_of (pc' := 37) (fun _ => x_iload_n rfl (rk_o (rfl) rfl rfl)) ?_
        refine Ew_of (pc' := 41) (fun _ => x_goto rfl rfl) ?_
        exact hc41 (a2) _ _ _ _  (rk_o (rfl) rfl rfl) (rk_o (rfl) rfl rfl) (rk_s) H O (SF_refl) (SA_refl)     (show inr (a2) by omega) (show ((z18) = (0) ∧ (a2) = (0)) ∨ ((z18) ≠ (0) ∧ (a2) = (a2)) by omega)
    · refine v_lR H (o := 1) rfl rfl rfl rfl rfl (n := n1) (en1) (show 0 ≤ a1 ∧ a1 < n1 by have qh0 := HIDe r5; omega) (z := ((D 6 : Nat) : Int)) (v := .ref (D 6)) ((congrArg (A10 1) b12).trans ((congrFun (((show A10 1 = A 1 from (eA10 1)))) 2).trans (pf6))) (vrf rfl) ?_
      refine Ew_of (pc' := 16) (fun _ => x_iload_n rfl rfl) ?_
      refine Ew_of (pc' := 17) (fun _ => x_iload_n rfl rfl) ?_
      refine w_stat24 rfl rfl (by rfl) (C27_Row (D := pul [6] D) (N := pul [6] N) (HW_sub H (VS_of (show vsub V11 V27_Row [6] = true by decide +kernel))) (u6_1) ((((show F10 6 1 = F 6 1 from (eF10 6 1))).trans (eu6_1))) (show inr (a2) by omega) (show inr (a3) by omega) (fun z23 σ23 F23' A23' H' O' hS23 hA23 pz23_0 pz23_1 => ⟨rretB rfl pz23_0, ?_⟩))
      refine v_back (c := c) (s := s) H (show vsub V11 V27_Row [6] = true by decide +kernel) H' O' (fun F23 A23 H O' eF23 eA23 => ?_)
      have O := OUT_trans O O'
      -- PackHouse.isPart
      refine Ew_of (pc' := 22) (fun _ => x_istore rfl) ?_
      refine Ew_of (pc' := 23) (fun _ => x_aload_n rfl (rk_o (rfl) rfl rfl)) ?_
      refine v_g H (o := 0) (v := .ref (D 1)) rfl rfl rfl rfl rfl (vrf (((((show F23 0 0 = F10 0 0 from (eF23 0 0))).trans ((show F10 0 0 = F 0 0 from (eF10 0 0))))).trans (pf1))) ?_
      refine Ew_of (pc' := 27) (fun _ => x_iload_n rfl (rk_o (rfl) rfl rfl)) ?_
      refine v_lR H (o := 1) rfl rfl rfl rfl rfl (n := n1) (en1) (show 0 ≤ a1 ∧ a1 < n1 by have qh0 := HIDe r5; omega) (z := ((D 6 : Nat) : Int)) (v := .ref (D 6)) ((congrArg (A23 1) b12).trans ((congrFun ((((show A23 1 = A10 1 from (eA23 1))).trans ((show A10 1 = A 1 from (eA10 1))))) 2).trans (pf6))) (vrf rfl) ?_
      refine v_g H (o := 6) (v := .ref (D 7)) rfl rfl rfl rfl rfl (vrf (((((show F23 6 0 = F10 6 0 from (eF23 6 0).trans (hS23 0 0 rfl))).trans ((show F10 6 0 = F 6 0 from (eF10 6 0))))).trans (pf7))) ?_
      refine Ew_of (pc' := 33) (fun _ => x_iload rfl rk_s) ?_
      have hc41 : ∀ (tc41_0 : Int), ∀ (ls : rO) (σ : rS) (F_c41 : hF) (A_c41 : hA) , rlook ls 3 = some (I (a3)) → rlook ls 4 = some (I (a4)) → rlook ls 5 = some (I (z23)) → HW V11 σ D N F_c41 A_c41 → OUT (V11).length D N σE c s D N σ c s → SF [] F23 F_c41 → SA [] A23 A_c41 → (inr (tc41_0)) → (((z23) = (0) ∧ (tc41_0) = (0)) ∨ ((z23) ≠ (0) ∧ (tc41_0) = (a2))) → Ew 11 (d + 3) 41 ls [I (tc41_0), .ref (D 7)] σ c s Q := by
       as_aux_lemma =>
        intro tc41_0 ls σ F_c41 A_c41  lc41_3 lc41_4 lc41_5 H O hS_c41 hA_c41     jc41_0 jc41_1
        refine Ew_of (pc' := 43) (fun _ => x_iload rfl lc41_5) ?_
        refine w_ifeq (t := 50) rfl rfl (show inr (z23) by omega) (fun b24 => ?_) (fun b24 => ?_)
        · refine Ew_of (pc' := 51) (fun _ => x_iconst rfl) ?_
          refine Ew_of (pc' := 53) (fun _ => x_iload rfl lc41_4) ?_
          refine w_stat24 rfl rfl (by rfl) (C49_Br (D := pul [7] D) (N := pul [7] N) (HW_sub H (VS_of (show vsub V11 V49_Br [7] = true by decide +kernel))) (n7) (en7) (A 7) ((funext (hA_c41 7 rfl)).trans (((show A23 7 = A10 7 from (eA23 7))).trans ((show A10 7 = A 7 from (eA10 7))))) (show inr (tc41_0) by omega) (show inr (0) by omega) (show inr (a4) by omega) (show 0 ≤ (tc41_0) ∧ (tc41_0) ≤ (0) ∧ (0) ≤ (n7) by have qh0 := HIDe r8; omega) (fun z25 σ25 F25' A25' H' O' hS25 hA25 pz25_0 pz25_1 => ⟨rfl, ?_⟩))
          refine v_back (c := c) (s := s) H (show vsub V11 V49_Br [7] = true by decide +kernel) H' O' (fun F25 A25 H O' eF25 eA25 => ?_)
          have O := OUT_trans O O'
          -- PackHouse.narrowSum
          exact w_ireturn rfl (k (z25) _ _ _ H O (SF_trans (SF_trans (SF_trans (SF_trans (SF_refl) (SF_glu (ι := []) hS10 eF10 (by decide +kernel)) (any_sub (l' := []) rfl)) (SF_glu (ι := [6]) hS23 eF23 (by decide +kernel)) (any_sub (l' := []) rfl)) hS_c41 (any_sub rfl)) (SF_glu (ι := [7]) hS25 eF25 (by decide +kernel)) (any_sub (l' := []) rfl)) (SA_trans (SA_trans (SA_trans (SA_trans (SA_refl) (SA_glu (ι := []) hA10 eA10 (by decide +kernel)) (any_subA (l' := []) rfl)) (SA_glu (ι := [6]) hA23 eA23 (by decide +kernel)) (any_subA (l' := []) rfl)) hA_c41 (any_subA rfl)) (SA_glu (ι := [7]) hA25 eA25 (by decide +kernel)) (any_subA (l' := []) rfl)) (show inr (z25) by omega))
        · refine Ew_of (pc' := 47) (fun _ => x_iload_n rfl lc41_3) ?_
          refine Ew_of (pc' := 51) (fun _ => x_goto rfl rfl) ?_
          refine Ew_of (pc' := 53) (fun _ => x_iload rfl lc41_4) ?_
          refine w_stat24 rfl rfl (by rfl) (C49_Br (D := pul [7] D) (N := pul [7] N) (HW_sub H (VS_of (show vsub V11 V49_Br [7] = true by decide +kernel))) (n7) (en7) (A 7) ((funext (hA_c41 7 rfl)).trans (((show A23 7 = A10 7 from (eA23 7))).trans ((show A10 7 = A 7 from (eA10 7))))) (show inr (tc41_0) by omega) (show inr (a3) by omega) (show inr (a4) by omega) (show 0 ≤ (tc41_0) ∧ (tc41_0) ≤ (a3) ∧ (a3) ≤ (n7) by have qh0 := HIDe r8; omega) (fun z26 σ26 F26' A26' H' O' hS26 hA26 pz26_0 pz26_1 => ⟨rfl, ?_⟩))
          refine v_back (c := c) (s := s) H (show vsub V11 V49_Br [7] = true by decide +kernel) H' O' (fun F26 A26 H O' eF26 eA26 => ?_)
          have O := OUT_trans O O'
          -- PackHouse.narrowSum
          exact w_ireturn rfl (k (z26) _ _ _ H O (SF_trans (SF_trans (SF_trans (SF_trans (SF_refl) (SF_glu (ι := []) hS10 eF10 (by decide +kernel)) (any_sub (l' := []) rfl)) (SF_glu (ι := [6]) hS23 eF23 (by decide +kernel)) (any_sub (l' := []) rfl)) hS_c41 (any_sub rfl)) (SF_glu (ι := [7]) hS26 eF26 (by decide +kernel)) (any_sub (l' := []) rfl)) (SA_trans (SA_trans (SA_trans (SA_trans (SA_refl) (SA_glu (ι := []) hA10 eA10 (by decide +kernel)) (any_subA (l' := []) rfl)) (SA_glu (ι := [6]) hA23 eA23 (by decide +kernel)) (any_subA (l' := []) rfl)) hA_c41 (any_subA rfl)) (SA_glu (ι := [7]) hA26 eA26 (by decide +kernel)) (any_subA (l' := []) rfl)) (show inr (z26) by omega))
      refine w_ifeq (t := 40) rfl rfl (show inr (z23) by omega) (fun b27 => ?_) (fun b27 => ?_)
      · refine Ew_of (pc' := 41) (fun _ => x_iconst rfl) ?_
        exact hc41 (0) _ _ _ _  (rk_o (rfl) rfl rfl) (rk_o (rfl) rfl rfl) (rk_s) H O (SF_refl) (SA_refl)     (show inr (0) by omega) (show ((z23) = (0) ∧ (0) = (0)) ∨ ((z23) ≠ (0) ∧ (0) = (a2)) by omega)
      · refine Ew_of (pc' := 37) (fun _ => x_iload_n rfl (rk_o (rfl) rfl rfl)) ?_
        refine Ew_of (pc' := 41) (fun _ => x_goto rfl rfl) ?_
        exact hc41 (a2) _ _ _ _  (rk_o (rfl) rfl rfl) (rk_o (rfl) rfl rfl) (rk_s) H O (SF_refl) (SA_refl)     (show inr (a2) by omega) (show ((z23) = (0) ∧ (a2) = (0)) ∨ ((z23) ≠ (0) ∧ (a2) = (a2)) by omega)
    · refine v_lR H (o := 1) rfl rfl rfl rfl rfl (n := n1) (en1) (show 0 ≤ a1 ∧ a1 < n1 by have qh0 := HIDe r5; omega) (z := ((D 8 : Nat) : Int)) (v := .ref (D 8)) ((congrArg (A10 1) b12).trans ((congrFun (((show A10 1 = A 1 from (eA10 1)))) 3).trans (pf8))) (vrf rfl) ?_
      refine Ew_of (pc' := 16) (fun _ => x_iload_n rfl rfl) ?_
      refine Ew_of (pc' := 17) (fun _ => x_iload_n rfl rfl) ?_
      refine w_stat24 rfl rfl (by rfl) (C27_Row (D := pul [8] D) (N := pul [8] N) (HW_sub H (VS_of (show vsub V11 V27_Row [8] = true by decide +kernel))) (u8_1) ((((show F10 8 1 = F 8 1 from (eF10 8 1))).trans (eu8_1))) (show inr (a2) by omega) (show inr (a3) by omega) (fun z28 σ28 F28' A28' H' O' hS28 hA28 pz28_0 pz28_1 => ⟨rretB rfl pz28_0, ?_⟩))
      refine v_back (c := c) (s := s) H (show vsub V11 V27_Row [8] = true by decide +kernel) H' O' (fun F28 A28 H O' eF28 eA28 => ?_)
      have O := OUT_trans O O'
      -- PackHouse.isPart
      refine Ew_of (pc' := 22) (fun _ => x_istore rfl) ?_
      refine Ew_of (pc' := 23) (fun _ => x_aload_n rfl (rk_o (rfl) rfl rfl)) ?_
      refine v_g H (o := 0) (v := .ref (D 1)) rfl rfl rfl rfl rfl (vrf (((((show F28 0 0 = F10 0 0 from (eF28 0 0))).trans ((show F10 0 0 = F 0 0 from (eF10 0 0))))).trans (pf1))) ?_
      refine Ew_of (pc' := 27) (fun _ => x_iload_n rfl (rk_o (rfl) rfl rfl)) ?_
      refine v_lR H (o := 1) rfl rfl rfl rfl rfl (n := n1) (en1) (show 0 ≤ a1 ∧ a1 < n1 by have qh0 := HIDe r5; omega) (z := ((D 8 : Nat) : Int)) (v := .ref (D 8)) ((congrArg (A28 1) b12).trans ((congrFun ((((show A28 1 = A10 1 from (eA28 1))).trans ((show A10 1 = A 1 from (eA10 1))))) 3).trans (pf8))) (vrf rfl) ?_
      refine v_g H (o := 8) (v := .ref (D 9)) rfl rfl rfl rfl rfl (vrf (((((show F28 8 0 = F10 8 0 from (eF28 8 0).trans (hS28 0 0 rfl))).trans ((show F10 8 0 = F 8 0 from (eF10 8 0))))).trans (pf9))) ?_
      refine Ew_of (pc' := 33) (fun _ => x_iload rfl rk_s) ?_
      have hc41 : ∀ (tc41_0 : Int), ∀ (ls : rO) (σ : rS) (F_c41 : hF) (A_c41 : hA) , rlook ls 3 = some (I (a3)) → rlook ls 4 = some (I (a4)) → rlook ls 5 = some (I (z28)) → HW V11 σ D N F_c41 A_c41 → OUT (V11).length D N σE c s D N σ c s → SF [] F28 F_c41 → SA [] A28 A_c41 → (inr (tc41_0)) → (((z28) = (0) ∧ (tc41_0) = (0)) ∨ ((z28) ≠ (0) ∧ (tc41_0) = (a2))) → Ew 11 (d + 3) 41 ls [I (tc41_0), .ref (D 9)] σ c s Q := by
       as_aux_lemma =>
        intro tc41_0 ls σ F_c41 A_c41  lc41_3 lc41_4 lc41_5 H O hS_c41 hA_c41     jc41_0 jc41_1
        refine Ew_of (pc' := 43) (fun _ => x_iload rfl lc41_5) ?_
        refine w_ifeq (t := 50) rfl rfl (show inr (z28) by omega) (fun b29 => ?_) (fun b29 => ?_)
        · refine Ew_of (pc' := 51) (fun _ => x_iconst rfl) ?_
          refine Ew_of (pc' := 53) (fun _ => x_iload rfl lc41_4) ?_
          refine w_stat24 rfl rfl (by rfl) (C49_Br (D := pul [9] D) (N := pul [9] N) (HW_sub H (VS_of (show vsub V11 V49_Br [9] = true by decide +kernel))) (n9) (en9) (A 9) ((funext (hA_c41 9 rfl)).trans (((show A28 9 = A10 9 from (eA28 9))).trans ((show A10 9 = A 9 from (eA10 9))))) (show inr (tc41_0) by omega) (show inr (0) by omega) (show inr (a4) by omega) (show 0 ≤ (tc41_0) ∧ (tc41_0) ≤ (0) ∧ (0) ≤ (n9) by have qh0 := HIDe r9; omega) (fun z30 σ30 F30' A30' H' O' hS30 hA30 pz30_0 pz30_1 => ⟨rfl, ?_⟩))
          refine v_back (c := c) (s := s) H (show vsub V11 V49_Br [9] = true by decide +kernel) H' O' (fun F30 A30 H O' eF30 eA30 => ?_)
          have O := OUT_trans O O'
          -- PackHouse.narrowSum
          exact w_ireturn rfl (k (z30) _ _ _ H O (SF_trans (SF_trans (SF_trans (SF_trans (SF_refl) (SF_glu (ι := []) hS10 eF10 (by decide +kernel)) (any_sub (l' := []) rfl)) (SF_glu (ι := [8]) hS28 eF28 (by decide +kernel)) (any_sub (l' := []) rfl)) hS_c41 (any_sub rfl)) (SF_glu (ι := [9]) hS30 eF30 (by decide +kernel)) (any_sub (l' := []) rfl)) (SA_trans (SA_trans (SA_trans (SA_trans (SA_refl) (SA_glu (ι := []) hA10 eA10 (by decide +kernel)) (any_subA (l' := []) rfl)) (SA_glu (ι := [8]) hA28 eA28 (by decide +kernel)) (any_subA (l' := []) rfl)) hA_c41 (any_subA rfl)) (SA_glu (ι := [9]) hA30 eA30 (by decide +kernel)) (any_subA (l' := []) rfl)) (show inr (z30) by omega))
        · refine Ew_of (pc' := 47) (fun _ => x_iload_n rfl lc41_3) ?_
          refine Ew_of (pc' := 51) (fun _ => x_goto rfl rfl) ?_
          refine Ew_of (pc' := 53) (fun _ => x_iload rfl lc41_4) ?_
          refine w_stat24 rfl rfl (by rfl) (C49_Br (D := pul [9] D) (N := pul [9] N) (HW_sub H (VS_of (show vsub V11 V49_Br [9] = true by decide +kernel))) (n9) (en9) (A 9) ((funext (hA_c41 9 rfl)).trans (((show A28 9 = A10 9 from (eA28 9))).trans ((show A10 9 = A 9 from (eA10 9))))) (show inr (tc41_0) by omega) (show inr (a3) by omega) (show inr (a4) by omega) (show 0 ≤ (tc41_0) ∧ (tc41_0) ≤ (a3) ∧ (a3) ≤ (n9) by have qh0 := HIDe r9; omega) (fun z31 σ31 F31' A31' H' O' hS31 hA31 pz31_0 pz31_1 => ⟨rfl, ?_⟩))
          refine v_back (c := c) (s := s) H (show vsub V11 V49_Br [9] = true by decide +kernel) H' O' (fun F31 A31 H O' eF31 eA31 => ?_)
          have O := OUT_trans O O'
          -- PackHouse.narrowSum
          exact w_ireturn rfl (k (z31) _ _ _ H O (SF_trans (SF_trans (SF_trans (SF_trans (SF_refl) (SF_glu (ι := []) hS10 eF10 (by decide +kernel)) (any_sub (l' := []) rfl)) (SF_glu (ι := [8]) hS28 eF28 (by decide +kernel)) (any_sub (l' := []) rfl)) hS_c41 (any_sub rfl)) (SF_glu (ι := [9]) hS31 eF31 (by decide +kernel)) (any_sub (l' := []) rfl)) (SA_trans (SA_trans (SA_trans (SA_trans (SA_refl) (SA_glu (ι := []) hA10 eA10 (by decide +kernel)) (any_subA (l' := []) rfl)) (SA_glu (ι := [8]) hA28 eA28 (by decide +kernel)) (any_subA (l' := []) rfl)) hA_c41 (any_subA rfl)) (SA_glu (ι := [9]) hA31 eA31 (by decide +kernel)) (any_subA (l' := []) rfl)) (show inr (z31) by omega))
      refine w_ifeq (t := 40) rfl rfl (show inr (z28) by omega) (fun b32 => ?_) (fun b32 => ?_)
      · refine Ew_of (pc' := 41) (fun _ => x_iconst rfl) ?_
        exact hc41 (0) _ _ _ _  (rk_o (rfl) rfl rfl) (rk_o (rfl) rfl rfl) (rk_s) H O (SF_refl) (SA_refl)     (show inr (0) by omega) (show ((z28) = (0) ∧ (0) = (0)) ∨ ((z28) ≠ (0) ∧ (0) = (a2)) by omega)
      · refine Ew_of (pc' := 37) (fun _ => x_iload_n rfl (rk_o (rfl) rfl rfl)) ?_
        refine Ew_of (pc' := 41) (fun _ => x_goto rfl rfl) ?_
        exact hc41 (a2) _ _ _ _  (rk_o (rfl) rfl rfl) (rk_o (rfl) rfl rfl) (rk_s) H O (SF_refl) (SA_refl)     (show inr (a2) by omega) (show ((z28) = (0) ∧ (a2) = (0)) ∨ ((z28) ≠ (0) ∧ (a2) = (a2)) by omega)
  · refine Ew_of (pc' := 8) (fun _ => x_iconst rfl) ?_
    exact w_ireturn rfl (k (0) _ _ _ H O (SF_trans (SF_refl) (SF_glu (ι := []) hS10 eF10 (by decide +kernel)) (any_sub (l' := []) rfl)) (SA_trans (SA_refl) (SA_glu (ι := []) hA10 eA10 (by decide +kernel)) (any_subA (l' := []) rfl)) (show inr (0) by omega))
abbrev V12 : vV := [(0, 0, [(4, 0), (4, 0), (4, 0), (4, 0), (4, 0), (4, 0), (4, 0), (4, 0), (4, 0), (4, 0), (4, 0), (4, 0), (4, 0), (4, 0), (4, 0), (4, 0), (4, 0), (0, 0), (0, 0)]), (1, 4, []), (0, 7, [(4, 0), (0, 0), (1, 0), (0, 0), (0, 0)]), (1, 0, []), (0, 7, [(4, 0), (0, 0), (1, 0), (0, 0), (0, 0)]), (1, 0, []), (0, 7, [(4, 0), (0, 0), (1, 0), (0, 0), (0, 0)]), (1, 0, []), (0, 7, [(4, 0), (0, 0), (1, 0), (0, 0), (0, 0)]), (1, 0, [])]
/-- PackHouse.wide: this, this.rows, this.rows.0, this.rows.0.bytes, this.rows.1, this.rows.1.bytes, this.rows.2, this.rows.2.bytes, this.rows.3, this.rows.3.bytes -/
theorem C12 {σE : rS} {D N : Nat → Nat} {F : hF} {A : hA} {d c s : Nat} {Q : wQ} (H : HW V12 σE D N F A) {a1 a2 a3 a4 : Int} (pf1 : F 0 0 = (D 1 : Int)) (pf2 : A 1 0 = (D 2 : Int)) (pf3 : F 2 0 = (D 3 : Int)) (pf4 : A 1 1 = (D 4 : Int)) (pf5 : F 4 0 = (D 5 : Int)) (pf6 : A 1 2 = (D 6 : Int)) (pf7 : F 6 0 = (D 7 : Int)) (pf8 : A 1 3 = (D 8 : Int)) (pf9 : F 8 0 = (D 9 : Int)) (n1 : Int) (en1 : (N 1 : Int) = n1) (n3 : Int) (en3 : (N 3 : Int) = n3) (n5 : Int) (en5 : (N 5 : Int) = n5) (n7 : Int) (en7 : (N 7 : Int) = n7) (n9 : Int) (en9 : (N 9 : Int) = n9) (u2_1 : Int) (eu2_1 : F 2 1 = u2_1) (u4_1 : Int) (eu4_1 : F 4 1 = u4_1) (u6_1 : Int) (eu6_1 : F 6 1 = u6_1) (u8_1 : Int) (eu8_1 : F 8 1 = u8_1) (h0 : inr (a1)) (h1 : inr (a2)) (h2 : inr (a3)) (h3 : inrJ (a4)) (h4 : (n1) = 4) (h5 : 0 ≤ (u2_1) ∧ (u2_1) ≤ (n3) ∧ (n3) ≤ 65536) (h6 : 0 ≤ (u4_1) ∧ (u4_1) ≤ (n5) ∧ (n5) ≤ 65536) (h7 : 0 ≤ (u6_1) ∧ (u6_1) ≤ (n7) ∧ (n7) ≤ 65536) (h8 : 0 ≤ (u8_1) ∧ (u8_1) ≤ (n9) ∧ (n9) ≤ 65536) (k : ∀ (z : Int) (σ : rS) (F' : hF) (A' : hA), HW V12 σ D N F' A' → OUT (V12).length D N σE c s D N σ c s → SF [] F F' → SA [] A A' → (inrJ (z)) → Q (some (J z)) σ c s) : Ew 12 (d + 4) 0 (rargs 0 [.ref (D 0), I a1, I a2, I a3, J a4]) [] σE c s Q := by
  have O := OUT_refl (n := (V12).length) (D := D) (N := N) (σ := σE) (c := c) (s := s)
  have HE := H
  have r1 : HID ((-2147483648 : Int) ≤ u2_1 ∧ u2_1 ≤ 2147483647) := krg_e (show (-2147483648 : Int) ≤ F 2 1 ∧ F 2 1 ≤ 2147483647 from H.krg 2 1 (by decide)) (show F 2 1 = u2_1 from (eu2_1))
  have r2 : HID ((-2147483648 : Int) ≤ u4_1 ∧ u4_1 ≤ 2147483647) := krg_e (show (-2147483648 : Int) ≤ F 4 1 ∧ F 4 1 ≤ 2147483647 from H.krg 4 1 (by decide)) (show F 4 1 = u4_1 from (eu4_1))
  have r3 : HID ((-2147483648 : Int) ≤ u6_1 ∧ u6_1 ≤ 2147483647) := krg_e (show (-2147483648 : Int) ≤ F 6 1 ∧ F 6 1 ≤ 2147483647 from H.krg 6 1 (by decide)) (show F 6 1 = u6_1 from (eu6_1))
  have r4 : HID ((-2147483648 : Int) ≤ u8_1 ∧ u8_1 ≤ 2147483647) := krg_e (show (-2147483648 : Int) ≤ F 8 1 ∧ F 8 1 ≤ 2147483647 from H.krg 8 1 (by decide)) (show F 8 1 = u8_1 from (eu8_1))
  replace pf1 := HIDm pf1
  replace pf2 := HIDm pf2
  replace pf3 := HIDm pf3
  replace pf4 := HIDm pf4
  replace pf5 := HIDm pf5
  replace pf6 := HIDm pf6
  replace pf7 := HIDm pf7
  replace pf8 := HIDm pf8
  replace pf9 := HIDm pf9
  replace en1 := HIDm en1
  replace en3 := HIDm en3
  replace en5 := HIDm en5
  replace en7 := HIDm en7
  replace en9 := HIDm en9
  replace eu2_1 := HIDm eu2_1
  replace eu4_1 := HIDm eu4_1
  replace eu6_1 := HIDm eu6_1
  replace eu8_1 := HIDm eu8_1
  have r5 : HID ((0 : Int) ≤ n1 ∧ n1 ≤ 1000000) := nrng (H.nle 1 (by decide)) (show (N 1 : Int) = n1 from en1)
  have r6 : HID ((0 : Int) ≤ n3 ∧ n3 ≤ 1000000) := nrng (H.nle 3 (by decide)) (show (N 3 : Int) = n3 from en3)
  have r7 : HID ((0 : Int) ≤ n5 ∧ n5 ≤ 1000000) := nrng (H.nle 5 (by decide)) (show (N 5 : Int) = n5 from en5)
  have r8 : HID ((0 : Int) ≤ n7 ∧ n7 ≤ 1000000) := nrng (H.nle 7 (by decide)) (show (N 7 : Int) = n7 from en7)
  have r9 : HID ((0 : Int) ≤ n9 ∧ n9 ≤ 1000000) := nrng (H.nle 9 (by decide)) (show (N 9 : Int) = n9 from en9)
  refine Ew_of (pc' := 1) (fun _ => x_iload_n rfl rfl) ?_
  refine w_stat24 rfl rfl (by rfl) (C24 (D := pul [] D) (N := pul [] N) (HW_sub H (VS_of (show vsub V12 V24 [] = true by decide +kernel))) (show inr (a1) by omega) (fun z10 σ10 F10' A10' H' O' hS10 hA10 pz10_0 pz10_1 => ⟨rretB rfl pz10_0, ?_⟩))
  refine v_back (c := c) (s := s) H (show vsub V12 V24 [] = true by decide +kernel) H' O' (fun F10 A10 H O' eF10 eA10 => ?_)
  have O := OUT_trans O O'
  -- PackHouse.isRow
  refine w_ifne (t := 9) rfl rfl (show inr (z10) by omega) (fun b11 => ?_) (fun b11 => ?_)
  · refine Ew_of (pc' := 10) (fun _ => x_aload_n rfl rfl) ?_
    refine v_g H (o := 0) (v := .ref (D 1)) rfl rfl rfl rfl rfl (vrf ((((show F10 0 0 = F 0 0 from (eF10 0 0)))).trans (pf1))) ?_
    refine Ew_of (pc' := 14) (fun _ => x_iload_n rfl rfl) ?_
    rcases (show a1 = 0 ∨ a1 = 1 ∨ a1 = 2 ∨ a1 = 3 by omega) with b12 | b12 | b12 | b12
    · refine v_lR H (o := 1) rfl rfl rfl rfl rfl (n := n1) (en1) (show 0 ≤ a1 ∧ a1 < n1 by have qh0 := HIDe r5; omega) (z := ((D 2 : Nat) : Int)) (v := .ref (D 2)) ((congrArg (A10 1) b12).trans ((congrFun (((show A10 1 = A 1 from (eA10 1)))) 0).trans (pf2))) (vrf rfl) ?_
      refine Ew_of (pc' := 16) (fun _ => x_iload_n rfl rfl) ?_
      refine Ew_of (pc' := 17) (fun _ => x_iload_n rfl rfl) ?_
      refine w_stat24 rfl rfl (by rfl) (C27_Row (D := pul [2] D) (N := pul [2] N) (HW_sub H (VS_of (show vsub V12 V27_Row [2] = true by decide +kernel))) (u2_1) ((((show F10 2 1 = F 2 1 from (eF10 2 1))).trans (eu2_1))) (show inr (a2) by omega) (show inr (a3) by omega) (fun z13 σ13 F13' A13' H' O' hS13 hA13 pz13_0 pz13_1 => ⟨rretB rfl pz13_0, ?_⟩))
      refine v_back (c := c) (s := s) H (show vsub V12 V27_Row [2] = true by decide +kernel) H' O' (fun F13 A13 H O' eF13 eA13 => ?_)
      have O := OUT_trans O O'
      -- PackHouse.isPart
      refine Ew_of (pc' := 22) (fun _ => x_istore rfl) ?_
      refine Ew_of (pc' := 23) (fun _ => x_aload_n rfl (rk_o (rfl) rfl rfl)) ?_
      refine v_g H (o := 0) (v := .ref (D 1)) rfl rfl rfl rfl rfl (vrf (((((show F13 0 0 = F10 0 0 from (eF13 0 0))).trans ((show F10 0 0 = F 0 0 from (eF10 0 0))))).trans (pf1))) ?_
      refine Ew_of (pc' := 27) (fun _ => x_iload_n rfl (rk_o (rfl) rfl rfl)) ?_
      refine v_lR H (o := 1) rfl rfl rfl rfl rfl (n := n1) (en1) (show 0 ≤ a1 ∧ a1 < n1 by have qh0 := HIDe r5; omega) (z := ((D 2 : Nat) : Int)) (v := .ref (D 2)) ((congrArg (A13 1) b12).trans ((congrFun ((((show A13 1 = A10 1 from (eA13 1))).trans ((show A10 1 = A 1 from (eA10 1))))) 0).trans (pf2))) (vrf rfl) ?_
      refine v_g H (o := 2) (v := .ref (D 3)) rfl rfl rfl rfl rfl (vrf (((((show F13 2 0 = F10 2 0 from (eF13 2 0).trans (hS13 0 0 rfl))).trans ((show F10 2 0 = F 2 0 from (eF10 2 0))))).trans (pf3))) ?_
      refine Ew_of (pc' := 33) (fun _ => x_iload rfl rk_s) ?_
      have hc41 : ∀ (tc41_0 : Int), ∀ (ls : rO) (σ : rS) (F_c41 : hF) (A_c41 : hA) , rlook ls 3 = some (I (a3)) → rlook ls 4 = some (J (a4)) → rlook ls 6 = some (I (z13)) → HW V12 σ D N F_c41 A_c41 → OUT (V12).length D N σE c s D N σ c s → SF [] F13 F_c41 → SA [] A13 A_c41 → (inr (tc41_0)) → (((z13) = (0) ∧ (tc41_0) = (0)) ∨ ((z13) ≠ (0) ∧ (tc41_0) = (a2))) → Ew 12 (d + 4) 41 ls [I (tc41_0), .ref (D 3)] σ c s Q := by
       as_aux_lemma =>
        intro tc41_0 ls σ F_c41 A_c41  lc41_3 lc41_4 lc41_6 H O hS_c41 hA_c41     jc41_0 jc41_1
        refine Ew_of (pc' := 43) (fun _ => x_iload rfl lc41_6) ?_
        refine w_ifeq (t := 50) rfl rfl (show inr (z13) by omega) (fun b14 => ?_) (fun b14 => ?_)
        · refine Ew_of (pc' := 51) (fun _ => x_iconst rfl) ?_
          refine Ew_of (pc' := 53) (fun _ => x_lload rfl lc41_4) ?_
          refine w_stat24 rfl rfl (by rfl) (C51_Br (D := pul [3] D) (N := pul [3] N) (HW_sub H (VS_of (show vsub V12 V51_Br [3] = true by decide +kernel))) (n3) (en3) (A 3) ((funext (hA_c41 3 rfl)).trans (((show A13 3 = A10 3 from (eA13 3))).trans ((show A10 3 = A 3 from (eA10 3))))) (show inr (tc41_0) by omega) (show inr (0) by omega) (show inrJ (a4) by omega) (show 0 ≤ (tc41_0) ∧ (tc41_0) ≤ (0) ∧ (0) ≤ (n3) by have qh0 := HIDe r6; omega) (fun z15 σ15 F15' A15' H' O' hS15 hA15 pz15_0 pz15_1 => ⟨rfl, ?_⟩))
          refine v_back (c := c) (s := s) H (show vsub V12 V51_Br [3] = true by decide +kernel) H' O' (fun F15 A15 H O' eF15 eA15 => ?_)
          have O := OUT_trans O O'
          -- PackHouse.wideSum
          exact w_lreturn rfl (k (z15) _ _ _ H O (SF_trans (SF_trans (SF_trans (SF_trans (SF_refl) (SF_glu (ι := []) hS10 eF10 (by decide +kernel)) (any_sub (l' := []) rfl)) (SF_glu (ι := [2]) hS13 eF13 (by decide +kernel)) (any_sub (l' := []) rfl)) hS_c41 (any_sub rfl)) (SF_glu (ι := [3]) hS15 eF15 (by decide +kernel)) (any_sub (l' := []) rfl)) (SA_trans (SA_trans (SA_trans (SA_trans (SA_refl) (SA_glu (ι := []) hA10 eA10 (by decide +kernel)) (any_subA (l' := []) rfl)) (SA_glu (ι := [2]) hA13 eA13 (by decide +kernel)) (any_subA (l' := []) rfl)) hA_c41 (any_subA rfl)) (SA_glu (ι := [3]) hA15 eA15 (by decide +kernel)) (any_subA (l' := []) rfl)) (show inrJ (z15) by omega))
        · refine Ew_of (pc' := 47) (fun _ => x_iload_n rfl lc41_3) ?_
          refine Ew_of (pc' := 51) (fun _ => x_goto rfl rfl) ?_
          refine Ew_of (pc' := 53) (fun _ => x_lload rfl lc41_4) ?_
          refine w_stat24 rfl rfl (by rfl) (C51_Br (D := pul [3] D) (N := pul [3] N) (HW_sub H (VS_of (show vsub V12 V51_Br [3] = true by decide +kernel))) (n3) (en3) (A 3) ((funext (hA_c41 3 rfl)).trans (((show A13 3 = A10 3 from (eA13 3))).trans ((show A10 3 = A 3 from (eA10 3))))) (show inr (tc41_0) by omega) (show inr (a3) by omega) (show inrJ (a4) by omega) (show 0 ≤ (tc41_0) ∧ (tc41_0) ≤ (a3) ∧ (a3) ≤ (n3) by have qh0 := HIDe r6; omega) (fun z16 σ16 F16' A16' H' O' hS16 hA16 pz16_0 pz16_1 => ⟨rfl, ?_⟩))
          refine v_back (c := c) (s := s) H (show vsub V12 V51_Br [3] = true by decide +kernel) H' O' (fun F16 A16 H O' eF16 eA16 => ?_)
          have O := OUT_trans O O'
          -- PackHouse.wideSum
          exact w_lreturn rfl (k (z16) _ _ _ H O (SF_trans (SF_trans (SF_trans (SF_trans (SF_refl) (SF_glu (ι := []) hS10 eF10 (by decide +kernel)) (any_sub (l' := []) rfl)) (SF_glu (ι := [2]) hS13 eF13 (by decide +kernel)) (any_sub (l' := []) rfl)) hS_c41 (any_sub rfl)) (SF_glu (ι := [3]) hS16 eF16 (by decide +kernel)) (any_sub (l' := []) rfl)) (SA_trans (SA_trans (SA_trans (SA_trans (SA_refl) (SA_glu (ι := []) hA10 eA10 (by decide +kernel)) (any_subA (l' := []) rfl)) (SA_glu (ι := [2]) hA13 eA13 (by decide +kernel)) (any_subA (l' := []) rfl)) hA_c41 (any_subA rfl)) (SA_glu (ι := [3]) hA16 eA16 (by decide +kernel)) (any_subA (l' := []) rfl)) (show inrJ (z16) by omega))
      refine w_ifeq (t := 40) rfl rfl (show inr (z13) by omega) (fun b17 => ?_) (fun b17 => ?_)
      · refine Ew_of (pc' := 41) (fun _ => x_iconst rfl) ?_
        exact hc41 (0) _ _ _ _  (rk_o (rfl) rfl rfl) (rk_o (rfl) rfl rfl) (rk_s) H O (SF_refl) (SA_refl)     (show inr (0) by omega) (show ((z13) = (0) ∧ (0) = (0)) ∨ ((z13) ≠ (0) ∧ (0) = (a2)) by omega)
      · refine Ew_of (pc' := 37) (fun _ => x_iload_n rfl (rk_o (rfl) rfl rfl)) ?_
        refine Ew_of (pc' := 41) (fun _ => x_goto rfl rfl) ?_
        exact hc41 (a2) _ _ _ _  (rk_o (rfl) rfl rfl) (rk_o (rfl) rfl rfl) (rk_s) H O (SF_refl) (SA_refl)     (show inr (a2) by omega) (show ((z13) = (0) ∧ (a2) = (0)) ∨ ((z13) ≠ (0) ∧ (a2) = (a2)) by omega)
    · refine v_lR H (o := 1) rfl rfl rfl rfl rfl (n := n1) (en1) (show 0 ≤ a1 ∧ a1 < n1 by have qh0 := HIDe r5; omega) (z := ((D 4 : Nat) : Int)) (v := .ref (D 4)) ((congrArg (A10 1) b12).trans ((congrFun (((show A10 1 = A 1 from (eA10 1)))) 1).trans (pf4))) (vrf rfl) ?_
      refine Ew_of (pc' := 16) (fun _ => x_iload_n rfl rfl) ?_
      refine Ew_of (pc' := 17) (fun _ => x_iload_n rfl rfl) ?_
      refine w_stat24 rfl rfl (by rfl) (C27_Row (D := pul [4] D) (N := pul [4] N) (HW_sub H (VS_of (show vsub V12 V27_Row [4] = true by decide +kernel))) (u4_1) ((((show F10 4 1 = F 4 1 from (eF10 4 1))).trans (eu4_1))) (show inr (a2) by omega) (show inr (a3) by omega) (fun z18 σ18 F18' A18' H' O' hS18 hA18 pz18_0 pz18_1 => ⟨rretB rfl pz18_0, ?_⟩))
      refine v_back (c := c) (s := s) H (show vsub V12 V27_Row [4] = true by decide +kernel) H' O' (fun F18 A18 H O' eF18 eA18 => ?_)
      have O := OUT_trans O O'
      -- PackHouse.isPart
      refine Ew_of (pc' := 22) (fun _ => x_istore rfl) ?_
      refine Ew_of (pc' := 23) (fun _ => x_aload_n rfl (rk_o (rfl) rfl rfl)) ?_
      refine v_g H (o := 0) (v := .ref (D 1)) rfl rfl rfl rfl rfl (vrf (((((show F18 0 0 = F10 0 0 from (eF18 0 0))).trans ((show F10 0 0 = F 0 0 from (eF10 0 0))))).trans (pf1))) ?_
      refine Ew_of (pc' := 27) (fun _ => x_iload_n rfl (rk_o (rfl) rfl rfl)) ?_
      refine v_lR H (o := 1) rfl rfl rfl rfl rfl (n := n1) (en1) (show 0 ≤ a1 ∧ a1 < n1 by have qh0 := HIDe r5; omega) (z := ((D 4 : Nat) : Int)) (v := .ref (D 4)) ((congrArg (A18 1) b12).trans ((congrFun ((((show A18 1 = A10 1 from (eA18 1))).trans ((show A10 1 = A 1 from (eA10 1))))) 1).trans (pf4))) (vrf rfl) ?_
      refine v_g H (o := 4) (v := .ref (D 5)) rfl rfl rfl rfl rfl (vrf (((((show F18 4 0 = F10 4 0 from (eF18 4 0).trans (hS18 0 0 rfl))).trans ((show F10 4 0 = F 4 0 from (eF10 4 0))))).trans (pf5))) ?_
      refine Ew_of (pc' := 33) (fun _ => x_iload rfl rk_s) ?_
      have hc41 : ∀ (tc41_0 : Int), ∀ (ls : rO) (σ : rS) (F_c41 : hF) (A_c41 : hA) , rlook ls 3 = some (I (a3)) → rlook ls 4 = some (J (a4)) → rlook ls 6 = some (I (z18)) → HW V12 σ D N F_c41 A_c41 → OUT (V12).length D N σE c s D N σ c s → SF [] F18 F_c41 → SA [] A18 A_c41 → (inr (tc41_0)) → (((z18) = (0) ∧ (tc41_0) = (0)) ∨ ((z18) ≠ (0) ∧ (tc41_0) = (a2))) → Ew 12 (d + 4) 41 ls [I (tc41_0), .ref (D 5)] σ c s Q := by
       as_aux_lemma =>
        intro tc41_0 ls σ F_c41 A_c41  lc41_3 lc41_4 lc41_6 H O hS_c41 hA_c41     jc41_0 jc41_1
        refine Ew_of (pc' := 43) (fun _ => x_iload rfl lc41_6) ?_
        refine w_ifeq (t := 50) rfl rfl (show inr (z18) by omega) (fun b19 => ?_) (fun b19 => ?_)
        · refine Ew_of (pc' := 51) (fun _ => x_iconst rfl) ?_
          refine Ew_of (pc' := 53) (fun _ => x_lload rfl lc41_4) ?_
          refine w_stat24 rfl rfl (by rfl) (C51_Br (D := pul [5] D) (N := pul [5] N) (HW_sub H (VS_of (show vsub V12 V51_Br [5] = true by decide +kernel))) (n5) (en5) (A 5) ((funext (hA_c41 5 rfl)).trans (((show A18 5 = A10 5 from (eA18 5))).trans ((show A10 5 = A 5 from (eA10 5))))) (show inr (tc41_0) by omega) (show inr (0) by omega) (show inrJ (a4) by omega) (show 0 ≤ (tc41_0) ∧ (tc41_0) ≤ (0) ∧ (0) ≤ (n5) by have qh0 := HIDe r7; omega) (fun z20 σ20 F20' A20' H' O' hS20 hA20 pz20_0 pz20_1 => ⟨rfl, ?_⟩))
          refine v_back (c := c) (s := s) H (show vsub V12 V51_Br [5] = true by decide +kernel) H' O' (fun F20 A20 H O' eF20 eA20 => ?_)
          have O := OUT_trans O O'
          -- PackHouse.wideSum
          exact w_lreturn rfl (k (z20) _ _ _ H O (SF_trans (SF_trans (SF_trans (SF_trans (SF_refl) (SF_glu (ι := []) hS10 eF10 (by decide +kernel)) (any_sub (l' := []) rfl)) (SF_glu (ι := [4]) hS18 eF18 (by decide +kernel)) (any_sub (l' := []) rfl)) hS_c41 (any_sub rfl)) (SF_glu (ι := [5]) hS20 eF20 (by decide +kernel)) (any_sub (l' := []) rfl)) (SA_trans (SA_trans (SA_trans (SA_trans (SA_refl) (SA_glu (ι := []) hA10 eA10 (by decide +kernel)) (any_subA (l' := []) rfl)) (SA_glu (ι := [4]) hA18 eA18 (by decide +kernel)) (any_subA (l' := []) rfl)) hA_c41 (any_subA rfl)) (SA_glu (ι := [5]) hA20 eA20 (by decide +kernel)) (any_subA (l' := []) rfl)) (show inrJ (z20) by omega))
        · refine Ew_of (pc' := 47) (fun _ => x_iload_n rfl lc41_3) ?_
          refine Ew_of (pc' := 51) (fun _ => x_goto rfl rfl) ?_
          refine Ew_of (pc' := 53) (fun _ => x_lload rfl lc41_4) ?_
          refine w_stat24 rfl rfl (by rfl) (C51_Br (D := pul [5] D) (N := pul [5] N) (HW_sub H (VS_of (show vsub V12 V51_Br [5] = true by decide +kernel))) (n5) (en5) (A 5) ((funext (hA_c41 5 rfl)).trans (((show A18 5 = A10 5 from (eA18 5))).trans ((show A10 5 = A 5 from (eA10 5))))) (show inr (tc41_0) by omega) (show inr (a3) by omega) (show inrJ (a4) by omega) (show 0 ≤ (tc41_0) ∧ (tc41_0) ≤ (a3) ∧ (a3) ≤ (n5) by have qh0 := HIDe r7; omega) (fun z21 σ21 F21' A21' H' O' hS21 hA21 pz21_0 pz21_1 => ⟨rfl, ?_⟩))
          refine v_back (c := c) (s := s) H (show vsub V12 V51_Br [5] = true by decide +kernel) H' O' (fun F21 A21 H O' eF21 eA21 => ?_)
          have O := OUT_trans O O'
          -- PackHouse.wideSum
          exact w_lreturn rfl (k (z21) _ _ _ H O (SF_trans (SF_trans (SF_trans (SF_trans (SF_refl) (SF_glu (ι := []) hS10 eF10 (by decide +kernel)) (any_sub (l' := []) rfl)) (SF_glu (ι := [4]) hS18 eF18 (by decide +kernel)) (any_sub (l' := []) rfl)) hS_c41 (any_sub rfl)) (SF_glu (ι := [5]) hS21 eF21 (by decide +kernel)) (any_sub (l' := []) rfl)) (SA_trans (SA_trans (SA_trans (SA_trans (SA_refl) (SA_glu (ι := []) hA10 eA10 (by decide +kernel)) (any_subA (l' := []) rfl)) (SA_glu (ι := [4]) hA18 eA18 (by decide +kernel)) (any_subA (l' := []) rfl)) hA_c41 (any_subA rfl)) (SA_glu (ι := [5]) hA21 eA21 (by decide +kernel)) (any_subA (l' := []) rfl)) (show inrJ (z21) by omega))
      refine w_ifeq (t := 40) rfl rfl (show inr (z18) by omega) (fun b22 => ?_) (fun b22 => ?_)
      · refine Ew_of (pc' := 41) (fun _ => x_iconst rfl) ?_
        exact hc41 (0) _ _ _ _  (rk_o (rfl) rfl rfl) (rk_o (rfl) rfl rfl) (rk_s) H O (SF_refl) (SA_refl)     (show inr (0) by omega) (show ((z18) = (0) ∧ (0) = (0)) ∨ ((z18) ≠ (0) ∧ (0) = (a2)) by omega)
      · refine Ew_of (pc' := 37) (fun _ => x_iload_n rfl (rk_o (rfl) rfl rfl)) ?_
        refine Ew_of (pc' := 41) (fun _ => x_goto rfl rfl) ?_
        exact hc41 (a2) _ _ _ _  (rk_o (rfl) rfl rfl) (rk_o (rfl) rfl rfl) (rk_s) H O (SF_refl) (SA_refl)     (show inr (a2) by omega) (show ((z18) = (0) ∧ (a2) = (0)) ∨ ((z18) ≠ (0) ∧ (a2) = (a2)) by omega)
    · refine v_lR H (o := 1) rfl rfl rfl rfl rfl (n := n1) (en1) (show 0 ≤ a1 ∧ a1 < n1 by have qh0 := HIDe r5; omega) (z := ((D 6 : Nat) : Int)) (v := .ref (D 6)) ((congrArg (A10 1) b12).trans ((congrFun (((show A10 1 = A 1 from (eA10 1)))) 2).trans (pf6))) (vrf rfl) ?_
      refine Ew_of (pc' := 16) (fun _ => x_iload_n rfl rfl) ?_
      refine Ew_of (pc' := 17) (fun _ => x_iload_n rfl rfl) ?_
      refine w_stat24 rfl rfl (by rfl) (C27_Row (D := pul [6] D) (N := pul [6] N) (HW_sub H (VS_of (show vsub V12 V27_Row [6] = true by decide +kernel))) (u6_1) ((((show F10 6 1 = F 6 1 from (eF10 6 1))).trans (eu6_1))) (show inr (a2) by omega) (show inr (a3) by omega) (fun z23 σ23 F23' A23' H' O' hS23 hA23 pz23_0 pz23_1 => ⟨rretB rfl pz23_0, ?_⟩))
      refine v_back (c := c) (s := s) H (show vsub V12 V27_Row [6] = true by decide +kernel) H' O' (fun F23 A23 H O' eF23 eA23 => ?_)
      have O := OUT_trans O O'
      -- PackHouse.isPart
      refine Ew_of (pc' := 22) (fun _ => x_istore rfl) ?_
      refine Ew_of (pc' := 23) (fun _ => x_aload_n rfl (rk_o (rfl) rfl rfl)) ?_
      refine v_g H (o := 0) (v := .ref (D 1)) rfl rfl rfl rfl rfl (vrf (((((show F23 0 0 = F10 0 0 from (eF23 0 0))).trans ((show F10 0 0 = F 0 0 from (eF10 0 0))))).trans (pf1))) ?_
      refine Ew_of (pc' := 27) (fun _ => x_iload_n rfl (rk_o (rfl) rfl rfl)) ?_
      refine v_lR H (o := 1) rfl rfl rfl rfl rfl (n := n1) (en1) (show 0 ≤ a1 ∧ a1 < n1 by have qh0 := HIDe r5; omega) (z := ((D 6 : Nat) : Int)) (v := .ref (D 6)) ((congrArg (A23 1) b12).trans ((congrFun ((((show A23 1 = A10 1 from (eA23 1))).trans ((show A10 1 = A 1 from (eA10 1))))) 2).trans (pf6))) (vrf rfl) ?_
      refine v_g H (o := 6) (v := .ref (D 7)) rfl rfl rfl rfl rfl (vrf (((((show F23 6 0 = F10 6 0 from (eF23 6 0).trans (hS23 0 0 rfl))).trans ((show F10 6 0 = F 6 0 from (eF10 6 0))))).trans (pf7))) ?_
      refine Ew_of (pc' := 33) (fun _ => x_iload rfl rk_s) ?_
      have hc41 : ∀ (tc41_0 : Int), ∀ (ls : rO) (σ : rS) (F_c41 : hF) (A_c41 : hA) , rlook ls 3 = some (I (a3)) → rlook ls 4 = some (J (a4)) → rlook ls 6 = some (I (z23)) → HW V12 σ D N F_c41 A_c41 → OUT (V12).length D N σE c s D N σ c s → SF [] F23 F_c41 → SA [] A23 A_c41 → (inr (tc41_0)) → (((z23) = (0) ∧ (tc41_0) = (0)) ∨ ((z23) ≠ (0) ∧ (tc41_0) = (a2))) → Ew 12 (d + 4) 41 ls [I (tc41_0), .ref (D 7)] σ c s Q := by
       as_aux_lemma =>
        intro tc41_0 ls σ F_c41 A_c41  lc41_3 lc41_4 lc41_6 H O hS_c41 hA_c41     jc41_0 jc41_1
        refine Ew_of (pc' := 43) (fun _ => x_iload rfl lc41_6) ?_
        refine w_ifeq (t := 50) rfl rfl (show inr (z23) by omega) (fun b24 => ?_) (fun b24 => ?_)
        · refine Ew_of (pc' := 51) (fun _ => x_iconst rfl) ?_
          refine Ew_of (pc' := 53) (fun _ => x_lload rfl lc41_4) ?_
          refine w_stat24 rfl rfl (by rfl) (C51_Br (D := pul [7] D) (N := pul [7] N) (HW_sub H (VS_of (show vsub V12 V51_Br [7] = true by decide +kernel))) (n7) (en7) (A 7) ((funext (hA_c41 7 rfl)).trans (((show A23 7 = A10 7 from (eA23 7))).trans ((show A10 7 = A 7 from (eA10 7))))) (show inr (tc41_0) by omega) (show inr (0) by omega) (show inrJ (a4) by omega) (show 0 ≤ (tc41_0) ∧ (tc41_0) ≤ (0) ∧ (0) ≤ (n7) by have qh0 := HIDe r8; omega) (fun z25 σ25 F25' A25' H' O' hS25 hA25 pz25_0 pz25_1 => ⟨rfl, ?_⟩))
          refine v_back (c := c) (s := s) H (show vsub V12 V51_Br [7] = true by decide +kernel) H' O' (fun F25 A25 H O' eF25 eA25 => ?_)
          have O := OUT_trans O O'
          -- PackHouse.wideSum
          exact w_lreturn rfl (k (z25) _ _ _ H O (SF_trans (SF_trans (SF_trans (SF_trans (SF_refl) (SF_glu (ι := []) hS10 eF10 (by decide +kernel)) (any_sub (l' := []) rfl)) (SF_glu (ι := [6]) hS23 eF23 (by decide +kernel)) (any_sub (l' := []) rfl)) hS_c41 (any_sub rfl)) (SF_glu (ι := [7]) hS25 eF25 (by decide +kernel)) (any_sub (l' := []) rfl)) (SA_trans (SA_trans (SA_trans (SA_trans (SA_refl) (SA_glu (ι := []) hA10 eA10 (by decide +kernel)) (any_subA (l' := []) rfl)) (SA_glu (ι := [6]) hA23 eA23 (by decide +kernel)) (any_subA (l' := []) rfl)) hA_c41 (any_subA rfl)) (SA_glu (ι := [7]) hA25 eA25 (by decide +kernel)) (any_subA (l' := []) rfl)) (show inrJ (z25) by omega))
        · refine Ew_of (pc' := 47) (fun _ => x_iload_n rfl lc41_3) ?_
          refine Ew_of (pc' := 51) (fun _ => x_goto rfl rfl) ?_
          refine Ew_of (pc' := 53) (fun _ => x_lload rfl lc41_4) ?_
          refine w_stat24 rfl rfl (by rfl) (C51_Br (D := pul [7] D) (N := pul [7] N) (HW_sub H (VS_of (show vsub V12 V51_Br [7] = true by decide +kernel))) (n7) (en7) (A 7) ((funext (hA_c41 7 rfl)).trans (((show A23 7 = A10 7 from (eA23 7))).trans ((show A10 7 = A 7 from (eA10 7))))) (show inr (tc41_0) by omega) (show inr (a3) by omega) (show inrJ (a4) by omega) (show 0 ≤ (tc41_0) ∧ (tc41_0) ≤ (a3) ∧ (a3) ≤ (n7) by have qh0 := HIDe r8; omega) (fun z26 σ26 F26' A26' H' O' hS26 hA26 pz26_0 pz26_1 => ⟨rfl, ?_⟩))
          refine v_back (c := c) (s := s) H (show vsub V12 V51_Br [7] = true by decide +kernel) H' O' (fun F26 A26 H O' eF26 eA26 => ?_)
          have O := OUT_trans O O'
          -- PackHouse.wideSum
          exact w_lreturn rfl (k (z26) _ _ _ H O (SF_trans (SF_trans (SF_trans (SF_trans (SF_refl) (SF_glu (ι := []) hS10 eF10 (by decide +kernel)) (any_sub (l' := []) rfl)) (SF_glu (ι := [6]) hS23 eF23 (by decide +kernel)) (any_sub (l' := []) rfl)) hS_c41 (any_sub rfl)) (SF_glu (ι := [7]) hS26 eF26 (by decide +kernel)) (any_sub (l' := []) rfl)) (SA_trans (SA_trans (SA_trans (SA_trans (SA_refl) (SA_glu (ι := []) hA10 eA10 (by decide +kernel)) (any_subA (l' := []) rfl)) (SA_glu (ι := [6]) hA23 eA23 (by decide +kernel)) (any_subA (l' := []) rfl)) hA_c41 (any_subA rfl)) (SA_glu (ι := [7]) hA26 eA26 (by decide +kernel)) (any_subA (l' := []) rfl)) (show inrJ (z26) by omega))
      refine w_ifeq (t := 40) rfl rfl (show inr (z23) by omega) (fun b27 => ?_) (fun b27 => ?_)
      · refine Ew_of (pc' := 41) (fun _ => x_iconst rfl) ?_
        exact hc41 (0) _ _ _ _  (rk_o (rfl) rfl rfl) (rk_o (rfl) rfl rfl) (rk_s) H O (SF_refl) (SA_refl)     (show inr (0) by omega) (show ((z23) = (0) ∧ (0) = (0)) ∨ ((z23) ≠ (0) ∧ (0) = (a2)) by omega)
      · refine Ew_of (pc' := 37) (fun _ => x_iload_n rfl (rk_o (rfl) rfl rfl)) ?_
        refine Ew_of (pc' := 41) (fun _ => x_goto rfl rfl) ?_
        exact hc41 (a2) _ _ _ _  (rk_o (rfl) rfl rfl) (rk_o (rfl) rfl rfl) (rk_s) H O (SF_refl) (SA_refl)     (show inr (a2) by omega) (show ((z23) = (0) ∧ (a2) = (0)) ∨ ((z23) ≠ (0) ∧ (a2) = (a2)) by omega)
    · refine v_lR H (o := 1) rfl rfl rfl rfl rfl (n := n1) (en1) (show 0 ≤ a1 ∧ a1 < n1 by have qh0 := HIDe r5; omega) (z := ((D 8 : Nat) : Int)) (v := .ref (D 8)) ((congrArg (A10 1) b12).trans ((congrFun (((show A10 1 = A 1 from (eA10 1)))) 3).trans (pf8))) (vrf rfl) ?_
      refine Ew_of (pc' := 16) (fun _ => x_iload_n rfl rfl) ?_
      refine Ew_of (pc' := 17) (fun _ => x_iload_n rfl rfl) ?_
      refine w_stat24 rfl rfl (by rfl) (C27_Row (D := pul [8] D) (N := pul [8] N) (HW_sub H (VS_of (show vsub V12 V27_Row [8] = true by decide +kernel))) (u8_1) ((((show F10 8 1 = F 8 1 from (eF10 8 1))).trans (eu8_1))) (show inr (a2) by omega) (show inr (a3) by omega) (fun z28 σ28 F28' A28' H' O' hS28 hA28 pz28_0 pz28_1 => ⟨rretB rfl pz28_0, ?_⟩))
      refine v_back (c := c) (s := s) H (show vsub V12 V27_Row [8] = true by decide +kernel) H' O' (fun F28 A28 H O' eF28 eA28 => ?_)
      have O := OUT_trans O O'
      -- PackHouse.isPart
      refine Ew_of (pc' := 22) (fun _ => x_istore rfl) ?_
      refine Ew_of (pc' := 23) (fun _ => x_aload_n rfl (rk_o (rfl) rfl rfl)) ?_
      refine v_g H (o := 0) (v := .ref (D 1)) rfl rfl rfl rfl rfl (vrf (((((show F28 0 0 = F10 0 0 from (eF28 0 0))).trans ((show F10 0 0 = F 0 0 from (eF10 0 0))))).trans (pf1))) ?_
      refine Ew_of (pc' := 27) (fun _ => x_iload_n rfl (rk_o (rfl) rfl rfl)) ?_
      refine v_lR H (o := 1) rfl rfl rfl rfl rfl (n := n1) (en1) (show 0 ≤ a1 ∧ a1 < n1 by have qh0 := HIDe r5; omega) (z := ((D 8 : Nat) : Int)) (v := .ref (D 8)) ((congrArg (A28 1) b12).trans ((congrFun ((((show A28 1 = A10 1 from (eA28 1))).trans ((show A10 1 = A 1 from (eA10 1))))) 3).trans (pf8))) (vrf rfl) ?_
      refine v_g H (o := 8) (v := .ref (D 9)) rfl rfl rfl rfl rfl (vrf (((((show F28 8 0 = F10 8 0 from (eF28 8 0).trans (hS28 0 0 rfl))).trans ((show F10 8 0 = F 8 0 from (eF10 8 0))))).trans (pf9))) ?_
      refine Ew_of (pc' := 33) (fun _ => x_iload rfl rk_s) ?_
      have hc41 : ∀ (tc41_0 : Int), ∀ (ls : rO) (σ : rS) (F_c41 : hF) (A_c41 : hA) , rlook ls 3 = some (I (a3)) → rlook ls 4 = some (J (a4)) → rlook ls 6 = some (I (z28)) → HW V12 σ D N F_c41 A_c41 → OUT (V12).length D N σE c s D N σ c s → SF [] F28 F_c41 → SA [] A28 A_c41 → (inr (tc41_0)) → (((z28) = (0) ∧ (tc41_0) = (0)) ∨ ((z28) ≠ (0) ∧ (tc41_0) = (a2))) → Ew 12 (d + 4) 41 ls [I (tc41_0), .ref (D 9)] σ c s Q := by
       as_aux_lemma =>
        intro tc41_0 ls σ F_c41 A_c41  lc41_3 lc41_4 lc41_6 H O hS_c41 hA_c41     jc41_0 jc41_1
        refine Ew_of (pc' := 43) (fun _ => x_iload rfl lc41_6) ?_
        refine w_ifeq (t := 50) rfl rfl (show inr (z28) by omega) (fun b29 => ?_) (fun b29 => ?_)
        · refine Ew_of (pc' := 51) (fun _ => x_iconst rfl) ?_
          refine Ew_of (pc' := 53) (fun _ => x_lload rfl lc41_4) ?_
          refine w_stat24 rfl rfl (by rfl) (C51_Br (D := pul [9] D) (N := pul [9] N) (HW_sub H (VS_of (show vsub V12 V51_Br [9] = true by decide +kernel))) (n9) (en9) (A 9) ((funext (hA_c41 9 rfl)).trans (((show A28 9 = A10 9 from (eA28 9))).trans ((show A10 9 = A 9 from (eA10 9))))) (show inr (tc41_0) by omega) (show inr (0) by omega) (show inrJ (a4) by omega) (show 0 ≤ (tc41_0) ∧ (tc41_0) ≤ (0) ∧ (0) ≤ (n9) by have qh0 := HIDe r9; omega) (fun z30 σ30 F30' A30' H' O' hS30 hA30 pz30_0 pz30_1 => ⟨rfl, ?_⟩))
          refine v_back (c := c) (s := s) H (show vsub V12 V51_Br [9] = true by decide +kernel) H' O' (fun F30 A30 H O' eF30 eA30 => ?_)
          have O := OUT_trans O O'
          -- PackHouse.wideSum
          exact w_lreturn rfl (k (z30) _ _ _ H O (SF_trans (SF_trans (SF_trans (SF_trans (SF_refl) (SF_glu (ι := []) hS10 eF10 (by decide +kernel)) (any_sub (l' := []) rfl)) (SF_glu (ι := [8]) hS28 eF28 (by decide +kernel)) (any_sub (l' := []) rfl)) hS_c41 (any_sub rfl)) (SF_glu (ι := [9]) hS30 eF30 (by decide +kernel)) (any_sub (l' := []) rfl)) (SA_trans (SA_trans (SA_trans (SA_trans (SA_refl) (SA_glu (ι := []) hA10 eA10 (by decide +kernel)) (any_subA (l' := []) rfl)) (SA_glu (ι := [8]) hA28 eA28 (by decide +kernel)) (any_subA (l' := []) rfl)) hA_c41 (any_subA rfl)) (SA_glu (ι := [9]) hA30 eA30 (by decide +kernel)) (any_subA (l' := []) rfl)) (show inrJ (z30) by omega))
        · refine Ew_of (pc' := 47) (fun _ => x_iload_n rfl lc41_3) ?_
          refine Ew_of (pc' := 51) (fun _ => x_goto rfl rfl) ?_
          refine Ew_of (pc' := 53) (fun _ => x_lload rfl lc41_4) ?_
          refine w_stat24 rfl rfl (by rfl) (C51_Br (D := pul [9] D) (N := pul [9] N) (HW_sub H (VS_of (show vsub V12 V51_Br [9] = true by decide +kernel))) (n9) (en9) (A 9) ((funext (hA_c41 9 rfl)).trans (((show A28 9 = A10 9 from (eA28 9))).trans ((show A10 9 = A 9 from (eA10 9))))) (show inr (tc41_0) by omega) (show inr (a3) by omega) (show inrJ (a4) by omega) (show 0 ≤ (tc41_0) ∧ (tc41_0) ≤ (a3) ∧ (a3) ≤ (n9) by have qh0 := HIDe r9; omega) (fun z31 σ31 F31' A31' H' O' hS31 hA31 pz31_0 pz31_1 => ⟨rfl, ?_⟩))
          refine v_back (c := c) (s := s) H (show vsub V12 V51_Br [9] = true by decide +kernel) H' O' (fun F31 A31 H O' eF31 eA31 => ?_)
          have O := OUT_trans O O'
          -- PackHouse.wideSum
          exact w_lreturn rfl (k (z31) _ _ _ H O (SF_trans (SF_trans (SF_trans (SF_trans (SF_refl) (SF_glu (ι := []) hS10 eF10 (by decide +kernel)) (any_sub (l' := []) rfl)) (SF_glu (ι := [8]) hS28 eF28 (by decide +kernel)) (any_sub (l' := []) rfl)) hS_c41 (any_sub rfl)) (SF_glu (ι := [9]) hS31 eF31 (by decide +kernel)) (any_sub (l' := []) rfl)) (SA_trans (SA_trans (SA_trans (SA_trans (SA_refl) (SA_glu (ι := []) hA10 eA10 (by decide +kernel)) (any_subA (l' := []) rfl)) (SA_glu (ι := [8]) hA28 eA28 (by decide +kernel)) (any_subA (l' := []) rfl)) hA_c41 (any_subA rfl)) (SA_glu (ι := [9]) hA31 eA31 (by decide +kernel)) (any_subA (l' := []) rfl)) (show inrJ (z31) by omega))
      refine w_ifeq (t := 40) rfl rfl (show inr (z28) by omega) (fun b32 => ?_) (fun b32 => ?_)
      · refine Ew_of (pc' := 41) (fun _ => x_iconst rfl) ?_
        exact hc41 (0) _ _ _ _  (rk_o (rfl) rfl rfl) (rk_o (rfl) rfl rfl) (rk_s) H O (SF_refl) (SA_refl)     (show inr (0) by omega) (show ((z28) = (0) ∧ (0) = (0)) ∨ ((z28) ≠ (0) ∧ (0) = (a2)) by omega)
      · refine Ew_of (pc' := 37) (fun _ => x_iload_n rfl (rk_o (rfl) rfl rfl)) ?_
        refine Ew_of (pc' := 41) (fun _ => x_goto rfl rfl) ?_
        exact hc41 (a2) _ _ _ _  (rk_o (rfl) rfl rfl) (rk_o (rfl) rfl rfl) (rk_s) H O (SF_refl) (SA_refl)     (show inr (a2) by omega) (show ((z28) = (0) ∧ (a2) = (0)) ∨ ((z28) ≠ (0) ∧ (a2) = (a2)) by omega)
  · refine Ew_of (pc' := 8) (fun _ => x_lconst (z := 0) rfl (by decide)) ?_
    exact w_lreturn rfl (k (0) _ _ _ H O (SF_trans (SF_refl) (SF_glu (ι := []) hS10 eF10 (by decide +kernel)) (any_sub (l' := []) rfl)) (SA_trans (SA_refl) (SA_glu (ι := []) hA10 eA10 (by decide +kernel)) (any_subA (l' := []) rfl)) (show inrJ (0) by omega))
abbrev V13 : vV := [(0, 0, [(4, 0), (4, 0), (4, 0), (4, 0), (4, 0), (4, 0), (4, 0), (4, 0), (4, 0), (4, 0), (4, 0), (4, 0), (4, 0), (4, 0), (4, 0), (4, 0), (4, 0), (0, 0), (0, 0)]), (1, 4, []), (0, 7, [(4, 0), (0, 0), (1, 0), (0, 0), (0, 0)]), (1, 0, []), (0, 7, [(4, 0), (0, 0), (1, 0), (0, 0), (0, 0)]), (1, 0, []), (0, 7, [(4, 0), (0, 0), (1, 0), (0, 0), (0, 0)]), (1, 0, []), (0, 7, [(4, 0), (0, 0), (1, 0), (0, 0), (0, 0)]), (1, 0, [])]
/-- PackHouse.poly: this, this.rows, this.rows.0, this.rows.0.bytes, this.rows.1, this.rows.1.bytes, this.rows.2, this.rows.2.bytes, this.rows.3, this.rows.3.bytes -/
theorem C13 {σE : rS} {D N : Nat → Nat} {F : hF} {A : hA} {d c s : Nat} {Q : wQ} (H : HW V13 σE D N F A) (HT : STC σE) {a1 a2 a3 a4 : Int} (pf1 : F 0 0 = (D 1 : Int)) (pf2 : A 1 0 = (D 2 : Int)) (pf3 : F 2 0 = (D 3 : Int)) (pf4 : A 1 1 = (D 4 : Int)) (pf5 : F 4 0 = (D 5 : Int)) (pf6 : A 1 2 = (D 6 : Int)) (pf7 : F 6 0 = (D 7 : Int)) (pf8 : A 1 3 = (D 8 : Int)) (pf9 : F 8 0 = (D 9 : Int)) (n1 : Int) (en1 : (N 1 : Int) = n1) (n3 : Int) (en3 : (N 3 : Int) = n3) (n5 : Int) (en5 : (N 5 : Int) = n5) (n7 : Int) (en7 : (N 7 : Int) = n7) (n9 : Int) (en9 : (N 9 : Int) = n9) (u2_1 : Int) (eu2_1 : F 2 1 = u2_1) (u4_1 : Int) (eu4_1 : F 4 1 = u4_1) (u6_1 : Int) (eu6_1 : F 6 1 = u6_1) (u8_1 : Int) (eu8_1 : F 8 1 = u8_1) (h0 : inr (a1)) (h1 : inr (a2)) (h2 : inr (a3)) (h3 : inr (a4)) (h4 : (a4) = 0 ∨ (a4) = 1) (h5 : (n1) = 4) (h6 : 0 ≤ (u2_1) ∧ (u2_1) ≤ (n3) ∧ (n3) ≤ 65536) (h7 : 0 ≤ (u4_1) ∧ (u4_1) ≤ (n5) ∧ (n5) ≤ 65536) (h8 : 0 ≤ (u6_1) ∧ (u6_1) ≤ (n7) ∧ (n7) ≤ 65536) (h9 : 0 ≤ (u8_1) ∧ (u8_1) ≤ (n9) ∧ (n9) ≤ 65536) (k : ∀ (z : Int) (σ : rS) (F' : hF) (A' : hA), HW V13 σ D N F' A' → OUT (V13).length D N σE c s D N σ c s → SF [] F F' → SA [] A A' → (inr (z)) → Q (some (I z)) σ c s) : Ew 13 (d + 2) 0 (rargs 0 [.ref (D 0), I a1, I a2, I a3, I a4]) [] σE c s Q := by
  have O := OUT_refl (n := (V13).length) (D := D) (N := N) (σ := σE) (c := c) (s := s)
  have HE := H
  have r1 : HID ((-2147483648 : Int) ≤ u2_1 ∧ u2_1 ≤ 2147483647) := krg_e (show (-2147483648 : Int) ≤ F 2 1 ∧ F 2 1 ≤ 2147483647 from H.krg 2 1 (by decide)) (show F 2 1 = u2_1 from (eu2_1))
  have r2 : HID ((-2147483648 : Int) ≤ u4_1 ∧ u4_1 ≤ 2147483647) := krg_e (show (-2147483648 : Int) ≤ F 4 1 ∧ F 4 1 ≤ 2147483647 from H.krg 4 1 (by decide)) (show F 4 1 = u4_1 from (eu4_1))
  have r3 : HID ((-2147483648 : Int) ≤ u6_1 ∧ u6_1 ≤ 2147483647) := krg_e (show (-2147483648 : Int) ≤ F 6 1 ∧ F 6 1 ≤ 2147483647 from H.krg 6 1 (by decide)) (show F 6 1 = u6_1 from (eu6_1))
  have r4 : HID ((-2147483648 : Int) ≤ u8_1 ∧ u8_1 ≤ 2147483647) := krg_e (show (-2147483648 : Int) ≤ F 8 1 ∧ F 8 1 ≤ 2147483647 from H.krg 8 1 (by decide)) (show F 8 1 = u8_1 from (eu8_1))
  replace pf1 := HIDm pf1
  replace pf2 := HIDm pf2
  replace pf3 := HIDm pf3
  replace pf4 := HIDm pf4
  replace pf5 := HIDm pf5
  replace pf6 := HIDm pf6
  replace pf7 := HIDm pf7
  replace pf8 := HIDm pf8
  replace pf9 := HIDm pf9
  replace en1 := HIDm en1
  replace en3 := HIDm en3
  replace en5 := HIDm en5
  replace en7 := HIDm en7
  replace en9 := HIDm en9
  replace eu2_1 := HIDm eu2_1
  replace eu4_1 := HIDm eu4_1
  replace eu6_1 := HIDm eu6_1
  replace eu8_1 := HIDm eu8_1
  have r5 : HID ((0 : Int) ≤ n1 ∧ n1 ≤ 1000000) := nrng (H.nle 1 (by decide)) (show (N 1 : Int) = n1 from en1)
  have r6 : HID ((0 : Int) ≤ n3 ∧ n3 ≤ 1000000) := nrng (H.nle 3 (by decide)) (show (N 3 : Int) = n3 from en3)
  have r7 : HID ((0 : Int) ≤ n5 ∧ n5 ≤ 1000000) := nrng (H.nle 5 (by decide)) (show (N 5 : Int) = n5 from en5)
  have r8 : HID ((0 : Int) ≤ n7 ∧ n7 ≤ 1000000) := nrng (H.nle 7 (by decide)) (show (N 7 : Int) = n7 from en7)
  have r9 : HID ((0 : Int) ≤ n9 ∧ n9 ≤ 1000000) := nrng (H.nle 9 (by decide)) (show (N 9 : Int) = n9 from en9)
  refine Ew_of (pc' := 1) (fun _ => x_iload_n rfl rfl) ?_
  refine w_stat24 rfl rfl (by rfl) (C24 (D := pul [] D) (N := pul [] N) (HW_sub H (VS_of (show vsub V13 V24 [] = true by decide +kernel))) (show inr (a1) by omega) (fun z10 σ10 F10' A10' H' O' hS10 hA10 pz10_0 pz10_1 => ⟨rretB rfl pz10_0, ?_⟩))
  refine v_back (c := c) (s := s) H (show vsub V13 V24 [] = true by decide +kernel) H' O' (fun F10 A10 H O' eF10 eA10 => ?_)
  have O := OUT_trans O O'
  -- PackHouse.isRow
  refine w_ifne (t := 9) rfl rfl (show inr (z10) by omega) (fun b11 => ?_) (fun b11 => ?_)
  · refine Ew_of (pc' := 10) (fun _ => x_aload_n rfl rfl) ?_
    refine v_g H (o := 0) (v := .ref (D 1)) rfl rfl rfl rfl rfl (vrf ((((show F10 0 0 = F 0 0 from (eF10 0 0)))).trans (pf1))) ?_
    refine Ew_of (pc' := 14) (fun _ => x_iload_n rfl rfl) ?_
    rcases (show a1 = 0 ∨ a1 = 1 ∨ a1 = 2 ∨ a1 = 3 by omega) with b12 | b12 | b12 | b12
    · refine v_lR H (o := 1) rfl rfl rfl rfl rfl (n := n1) (en1) (show 0 ≤ a1 ∧ a1 < n1 by have qh0 := HIDe r5; omega) (z := ((D 2 : Nat) : Int)) (v := .ref (D 2)) ((congrArg (A10 1) b12).trans ((congrFun (((show A10 1 = A 1 from (eA10 1)))) 0).trans (pf2))) (vrf rfl) ?_
      refine Ew_of (pc' := 16) (fun _ => x_iload_n rfl rfl) ?_
      refine Ew_of (pc' := 17) (fun _ => x_iload_n rfl rfl) ?_
      refine w_stat24 rfl rfl (by rfl) (C27_Row (D := pul [2] D) (N := pul [2] N) (HW_sub H (VS_of (show vsub V13 V27_Row [2] = true by decide +kernel))) (u2_1) ((((show F10 2 1 = F 2 1 from (eF10 2 1))).trans (eu2_1))) (show inr (a2) by omega) (show inr (a3) by omega) (fun z13 σ13 F13' A13' H' O' hS13 hA13 pz13_0 pz13_1 => ⟨rretB rfl pz13_0, ?_⟩))
      refine v_back (c := c) (s := s) H (show vsub V13 V27_Row [2] = true by decide +kernel) H' O' (fun F13 A13 H O' eF13 eA13 => ?_)
      have O := OUT_trans O O'
      -- PackHouse.isPart
      refine Ew_of (pc' := 22) (fun _ => x_istore rfl) ?_
      refine Ew_of (pc' := 23) (fun _ => x_aload_n rfl (rk_o (rfl) rfl rfl)) ?_
      refine v_g H (o := 0) (v := .ref (D 1)) rfl rfl rfl rfl rfl (vrf (((((show F13 0 0 = F10 0 0 from (eF13 0 0))).trans ((show F10 0 0 = F 0 0 from (eF10 0 0))))).trans (pf1))) ?_
      refine Ew_of (pc' := 27) (fun _ => x_iload_n rfl (rk_o (rfl) rfl rfl)) ?_
      refine v_lR H (o := 1) rfl rfl rfl rfl rfl (n := n1) (en1) (show 0 ≤ a1 ∧ a1 < n1 by have qh0 := HIDe r5; omega) (z := ((D 2 : Nat) : Int)) (v := .ref (D 2)) ((congrArg (A13 1) b12).trans ((congrFun ((((show A13 1 = A10 1 from (eA13 1))).trans ((show A10 1 = A 1 from (eA10 1))))) 0).trans (pf2))) (vrf rfl) ?_
      refine v_g H (o := 2) (v := .ref (D 3)) rfl rfl rfl rfl rfl (vrf (((((show F13 2 0 = F10 2 0 from (eF13 2 0).trans (hS13 0 0 rfl))).trans ((show F10 2 0 = F 2 0 from (eF10 2 0))))).trans (pf3))) ?_
      refine Ew_of (pc' := 33) (fun _ => x_iload rfl rk_s) ?_
      have hc41 : ∀ (tc41_0 : Int), ∀ (ls : rO) (σ : rS) (F_c41 : hF) (A_c41 : hA) , rlook ls 3 = some (I (a3)) → rlook ls 4 = some (I (a4)) → rlook ls 5 = some (I (z13)) → HW V13 σ D N F_c41 A_c41 → OUT (V13).length D N σE c s D N σ c s → SF [] F13 F_c41 → SA [] A13 A_c41 → (inr (tc41_0)) → (((z13) = (0) ∧ (tc41_0) = (0)) ∨ ((z13) ≠ (0) ∧ (tc41_0) = (a2))) → Ew 13 (d + 2) 41 ls [I (tc41_0), .ref (D 3)] σ c s Q := by
       as_aux_lemma =>
        intro tc41_0 ls σ F_c41 A_c41  lc41_3 lc41_4 lc41_5 H O hS_c41 hA_c41     jc41_0 jc41_1
        refine Ew_of (pc' := 43) (fun _ => x_iload rfl lc41_5) ?_
        have hc51 : ∀ (tc51_0 : Int), ∀ (ls : rO) (σ : rS) (F_c51 : hF) (A_c51 : hA) , rlook ls 4 = some (I (a4)) → HW V13 σ D N F_c51 A_c51 → OUT (V13).length D N σE c s D N σ c s → SF [] F_c41 F_c51 → SA [] A_c41 A_c51 → (inr (tc51_0)) → (((z13) = (0) ∧ (tc51_0) = (0)) ∨ ((z13) ≠ (0) ∧ (tc51_0) = (a3))) → Ew 13 (d + 2) 51 ls [I (tc51_0), I (tc41_0), .ref (D 3)] σ c s Q := by
         as_aux_lemma =>
          intro tc51_0 ls σ F_c51 A_c51  lc51_4 H O hS_c51 hA_c51     jc51_0 jc51_1
          refine w_stat24 rfl rfl (by rfl) (C53_Br (D := pul [3] D) (N := pul [3] N) (HW_sub H (VS_of (show vsub V13 V53_Br [3] = true by decide +kernel))) (STC_out HT HE O) (n3) (en3) (A 3) ((funext (hA_c51 3 rfl)).trans ((funext (hA_c41 3 rfl)).trans (((show A13 3 = A10 3 from (eA13 3))).trans ((show A10 3 = A 3 from (eA10 3)))))) (show inr (tc41_0) by omega) (show inr (tc51_0) by omega) (show 0 ≤ (tc41_0) ∧ (tc41_0) ≤ (tc51_0) ∧ (tc51_0) ≤ (n3) by have qh0 := HIDe r6; omega) (fun z14 σ14 F14' A14' H' O' hS14 hA14 pz14_0 pz14_1 => ⟨rfl, ?_⟩))
          refine v_back (c := c) (s := s) H (show vsub V13 V53_Br [3] = true by decide +kernel) H' O' (fun F14 A14 H O' eF14 eA14 => ?_)
          have O := OUT_trans O O'
          -- PackHouse.polynomialSum
          refine Ew_of (pc' := 56) (fun _ => x_istore rfl) ?_
          refine Ew_of (pc' := 58) (fun _ => x_iload rfl (rk_o (lc51_4) rfl rfl)) ?_
          refine w_ifeq (t := 69) rfl rfl (show inr (a4) by omega) (fun b15 => ?_) (fun b15 => ?_)
          · refine Ew_of (pc' := 71) (fun _ => x_iload rfl rk_s) ?_
            exact w_ireturn rfl (k (z14) _ _ _ H O (SF_trans (SF_trans (SF_trans (SF_trans (SF_trans (SF_refl) (SF_glu (ι := []) hS10 eF10 (by decide +kernel)) (any_sub (l' := []) rfl)) (SF_glu (ι := [2]) hS13 eF13 (by decide +kernel)) (any_sub (l' := []) rfl)) hS_c41 (any_sub rfl)) hS_c51 (any_sub rfl)) (SF_glu (ι := [3]) hS14 eF14 (by decide +kernel)) (any_sub (l' := []) rfl)) (SA_trans (SA_trans (SA_trans (SA_trans (SA_trans (SA_refl) (SA_glu (ι := []) hA10 eA10 (by decide +kernel)) (any_subA (l' := []) rfl)) (SA_glu (ι := [2]) hA13 eA13 (by decide +kernel)) (any_subA (l' := []) rfl)) hA_c41 (any_subA rfl)) hA_c51 (any_subA rfl)) (SA_glu (ι := [3]) hA14 eA14 (by decide +kernel)) (any_subA (l' := []) rfl)) (show inr (z14) by omega))
          · refine Ew_of (pc' := 63) (fun _ => x_iload rfl rk_s) ?_
            refine w_stat24 rfl rfl (by rfl) (C54 (D := pul [] D) (N := pul [] N) (HW_sub H (VS_of (show vsub V13 V54 [] = true by decide +kernel))) (show inr (z14) by omega) (fun z16 σ16 F16' A16' H' O' hS16 hA16 pz16_0 pz16_1 => ⟨rfl, ?_⟩))
            refine v_back (c := c) (s := s) H (show vsub V13 V54 [] = true by decide +kernel) H' O' (fun F16 A16 H O' eF16 eA16 => ?_)
            have O := OUT_trans O O'
            -- PackHouse.maskedSum
            refine Ew_of (pc' := 71) (fun _ => x_goto rfl rfl) ?_
            exact w_ireturn rfl (k (z16) _ _ _ H O (SF_trans (SF_trans (SF_trans (SF_trans (SF_trans (SF_trans (SF_refl) (SF_glu (ι := []) hS10 eF10 (by decide +kernel)) (any_sub (l' := []) rfl)) (SF_glu (ι := [2]) hS13 eF13 (by decide +kernel)) (any_sub (l' := []) rfl)) hS_c41 (any_sub rfl)) hS_c51 (any_sub rfl)) (SF_glu (ι := [3]) hS14 eF14 (by decide +kernel)) (any_sub (l' := []) rfl)) (SF_glu (ι := []) hS16 eF16 (by decide +kernel)) (any_sub (l' := []) rfl)) (SA_trans (SA_trans (SA_trans (SA_trans (SA_trans (SA_trans (SA_refl) (SA_glu (ι := []) hA10 eA10 (by decide +kernel)) (any_subA (l' := []) rfl)) (SA_glu (ι := [2]) hA13 eA13 (by decide +kernel)) (any_subA (l' := []) rfl)) hA_c41 (any_subA rfl)) hA_c51 (any_subA rfl)) (SA_glu (ι := [3]) hA14 eA14 (by decide +kernel)) (any_subA (l' := []) rfl)) (SA_glu (ι := []) hA16 eA16 (by decide +kernel)) (any_subA (l' := []) rfl)) (show inr (z16) by omega))
        refine w_ifeq (t := 50) rfl rfl (show inr (z13) by omega) (fun b17 => ?_) (fun b17 => ?_)
        · refine Ew_of (pc' := 51) (fun _ => x_iconst rfl) ?_
          exact hc51 (0) _ _ _ _  (lc41_4) H O (SF_refl) (SA_refl)     (show inr (0) by omega) (show ((z13) = (0) ∧ (0) = (0)) ∨ ((z13) ≠ (0) ∧ (0) = (a3)) by omega)
        · refine Ew_of (pc' := 47) (fun _ => x_iload_n rfl lc41_3) ?_
          refine Ew_of (pc' := 51) (fun _ => x_goto rfl rfl) ?_
          exact hc51 (a3) _ _ _ _  (lc41_4) H O (SF_refl) (SA_refl)     (show inr (a3) by omega) (show ((z13) = (0) ∧ (a3) = (0)) ∨ ((z13) ≠ (0) ∧ (a3) = (a3)) by omega)
      refine w_ifeq (t := 40) rfl rfl (show inr (z13) by omega) (fun b18 => ?_) (fun b18 => ?_)
      · refine Ew_of (pc' := 41) (fun _ => x_iconst rfl) ?_
        exact hc41 (0) _ _ _ _  (rk_o (rfl) rfl rfl) (rk_o (rfl) rfl rfl) (rk_s) H O (SF_refl) (SA_refl)     (show inr (0) by omega) (show ((z13) = (0) ∧ (0) = (0)) ∨ ((z13) ≠ (0) ∧ (0) = (a2)) by omega)
      · refine Ew_of (pc' := 37) (fun _ => x_iload_n rfl (rk_o (rfl) rfl rfl)) ?_
        refine Ew_of (pc' := 41) (fun _ => x_goto rfl rfl) ?_
        exact hc41 (a2) _ _ _ _  (rk_o (rfl) rfl rfl) (rk_o (rfl) rfl rfl) (rk_s) H O (SF_refl) (SA_refl)     (show inr (a2) by omega) (show ((z13) = (0) ∧ (a2) = (0)) ∨ ((z13) ≠ (0) ∧ (a2) = (a2)) by omega)
    · refine v_lR H (o := 1) rfl rfl rfl rfl rfl (n := n1) (en1) (show 0 ≤ a1 ∧ a1 < n1 by have qh0 := HIDe r5; omega) (z := ((D 4 : Nat) : Int)) (v := .ref (D 4)) ((congrArg (A10 1) b12).trans ((congrFun (((show A10 1 = A 1 from (eA10 1)))) 1).trans (pf4))) (vrf rfl) ?_
      refine Ew_of (pc' := 16) (fun _ => x_iload_n rfl rfl) ?_
      refine Ew_of (pc' := 17) (fun _ => x_iload_n rfl rfl) ?_
      refine w_stat24 rfl rfl (by rfl) (C27_Row (D := pul [4] D) (N := pul [4] N) (HW_sub H (VS_of (show vsub V13 V27_Row [4] = true by decide +kernel))) (u4_1) ((((show F10 4 1 = F 4 1 from (eF10 4 1))).trans (eu4_1))) (show inr (a2) by omega) (show inr (a3) by omega) (fun z19 σ19 F19' A19' H' O' hS19 hA19 pz19_0 pz19_1 => ⟨rretB rfl pz19_0, ?_⟩))
      refine v_back (c := c) (s := s) H (show vsub V13 V27_Row [4] = true by decide +kernel) H' O' (fun F19 A19 H O' eF19 eA19 => ?_)
      have O := OUT_trans O O'
      -- PackHouse.isPart
      refine Ew_of (pc' := 22) (fun _ => x_istore rfl) ?_
      refine Ew_of (pc' := 23) (fun _ => x_aload_n rfl (rk_o (rfl) rfl rfl)) ?_
      refine v_g H (o := 0) (v := .ref (D 1)) rfl rfl rfl rfl rfl (vrf (((((show F19 0 0 = F10 0 0 from (eF19 0 0))).trans ((show F10 0 0 = F 0 0 from (eF10 0 0))))).trans (pf1))) ?_
      refine Ew_of (pc' := 27) (fun _ => x_iload_n rfl (rk_o (rfl) rfl rfl)) ?_
      refine v_lR H (o := 1) rfl rfl rfl rfl rfl (n := n1) (en1) (show 0 ≤ a1 ∧ a1 < n1 by have qh0 := HIDe r5; omega) (z := ((D 4 : Nat) : Int)) (v := .ref (D 4)) ((congrArg (A19 1) b12).trans ((congrFun ((((show A19 1 = A10 1 from (eA19 1))).trans ((show A10 1 = A 1 from (eA10 1))))) 1).trans (pf4))) (vrf rfl) ?_
      refine v_g H (o := 4) (v := .ref (D 5)) rfl rfl rfl rfl rfl (vrf (((((show F19 4 0 = F10 4 0 from (eF19 4 0).trans (hS19 0 0 rfl))).trans ((show F10 4 0 = F 4 0 from (eF10 4 0))))).trans (pf5))) ?_
      refine Ew_of (pc' := 33) (fun _ => x_iload rfl rk_s) ?_
      have hc41 : ∀ (tc41_0 : Int), ∀ (ls : rO) (σ : rS) (F_c41 : hF) (A_c41 : hA) , rlook ls 3 = some (I (a3)) → rlook ls 4 = some (I (a4)) → rlook ls 5 = some (I (z19)) → HW V13 σ D N F_c41 A_c41 → OUT (V13).length D N σE c s D N σ c s → SF [] F19 F_c41 → SA [] A19 A_c41 → (inr (tc41_0)) → (((z19) = (0) ∧ (tc41_0) = (0)) ∨ ((z19) ≠ (0) ∧ (tc41_0) = (a2))) → Ew 13 (d + 2) 41 ls [I (tc41_0), .ref (D 5)] σ c s Q := by
       as_aux_lemma =>
        intro tc41_0 ls σ F_c41 A_c41  lc41_3 lc41_4 lc41_5 H O hS_c41 hA_c41     jc41_0 jc41_1
        refine Ew_of (pc' := 43) (fun _ => x_iload rfl lc41_5) ?_
        have hc51 : ∀ (tc51_0 : Int), ∀ (ls : rO) (σ : rS) (F_c51 : hF) (A_c51 : hA) , rlook ls 4 = some (I (a4)) → HW V13 σ D N F_c51 A_c51 → OUT (V13).length D N σE c s D N σ c s → SF [] F_c41 F_c51 → SA [] A_c41 A_c51 → (inr (tc51_0)) → (((z19) = (0) ∧ (tc51_0) = (0)) ∨ ((z19) ≠ (0) ∧ (tc51_0) = (a3))) → Ew 13 (d + 2) 51 ls [I (tc51_0), I (tc41_0), .ref (D 5)] σ c s Q := by
         as_aux_lemma =>
          intro tc51_0 ls σ F_c51 A_c51  lc51_4 H O hS_c51 hA_c51     jc51_0 jc51_1
          refine w_stat24 rfl rfl (by rfl) (C53_Br (D := pul [5] D) (N := pul [5] N) (HW_sub H (VS_of (show vsub V13 V53_Br [5] = true by decide +kernel))) (STC_out HT HE O) (n5) (en5) (A 5) ((funext (hA_c51 5 rfl)).trans ((funext (hA_c41 5 rfl)).trans (((show A19 5 = A10 5 from (eA19 5))).trans ((show A10 5 = A 5 from (eA10 5)))))) (show inr (tc41_0) by omega) (show inr (tc51_0) by omega) (show 0 ≤ (tc41_0) ∧ (tc41_0) ≤ (tc51_0) ∧ (tc51_0) ≤ (n5) by have qh0 := HIDe r7; omega) (fun z20 σ20 F20' A20' H' O' hS20 hA20 pz20_0 pz20_1 => ⟨rfl, ?_⟩))
          refine v_back (c := c) (s := s) H (show vsub V13 V53_Br [5] = true by decide +kernel) H' O' (fun F20 A20 H O' eF20 eA20 => ?_)
          have O := OUT_trans O O'
          -- PackHouse.polynomialSum
          refine Ew_of (pc' := 56) (fun _ => x_istore rfl) ?_
          refine Ew_of (pc' := 58) (fun _ => x_iload rfl (rk_o (lc51_4) rfl rfl)) ?_
          refine w_ifeq (t := 69) rfl rfl (show inr (a4) by omega) (fun b21 => ?_) (fun b21 => ?_)
          · refine Ew_of (pc' := 71) (fun _ => x_iload rfl rk_s) ?_
            exact w_ireturn rfl (k (z20) _ _ _ H O (SF_trans (SF_trans (SF_trans (SF_trans (SF_trans (SF_refl) (SF_glu (ι := []) hS10 eF10 (by decide +kernel)) (any_sub (l' := []) rfl)) (SF_glu (ι := [4]) hS19 eF19 (by decide +kernel)) (any_sub (l' := []) rfl)) hS_c41 (any_sub rfl)) hS_c51 (any_sub rfl)) (SF_glu (ι := [5]) hS20 eF20 (by decide +kernel)) (any_sub (l' := []) rfl)) (SA_trans (SA_trans (SA_trans (SA_trans (SA_trans (SA_refl) (SA_glu (ι := []) hA10 eA10 (by decide +kernel)) (any_subA (l' := []) rfl)) (SA_glu (ι := [4]) hA19 eA19 (by decide +kernel)) (any_subA (l' := []) rfl)) hA_c41 (any_subA rfl)) hA_c51 (any_subA rfl)) (SA_glu (ι := [5]) hA20 eA20 (by decide +kernel)) (any_subA (l' := []) rfl)) (show inr (z20) by omega))
          · refine Ew_of (pc' := 63) (fun _ => x_iload rfl rk_s) ?_
            refine w_stat24 rfl rfl (by rfl) (C54 (D := pul [] D) (N := pul [] N) (HW_sub H (VS_of (show vsub V13 V54 [] = true by decide +kernel))) (show inr (z20) by omega) (fun z22 σ22 F22' A22' H' O' hS22 hA22 pz22_0 pz22_1 => ⟨rfl, ?_⟩))
            refine v_back (c := c) (s := s) H (show vsub V13 V54 [] = true by decide +kernel) H' O' (fun F22 A22 H O' eF22 eA22 => ?_)
            have O := OUT_trans O O'
            -- PackHouse.maskedSum
            refine Ew_of (pc' := 71) (fun _ => x_goto rfl rfl) ?_
            exact w_ireturn rfl (k (z22) _ _ _ H O (SF_trans (SF_trans (SF_trans (SF_trans (SF_trans (SF_trans (SF_refl) (SF_glu (ι := []) hS10 eF10 (by decide +kernel)) (any_sub (l' := []) rfl)) (SF_glu (ι := [4]) hS19 eF19 (by decide +kernel)) (any_sub (l' := []) rfl)) hS_c41 (any_sub rfl)) hS_c51 (any_sub rfl)) (SF_glu (ι := [5]) hS20 eF20 (by decide +kernel)) (any_sub (l' := []) rfl)) (SF_glu (ι := []) hS22 eF22 (by decide +kernel)) (any_sub (l' := []) rfl)) (SA_trans (SA_trans (SA_trans (SA_trans (SA_trans (SA_trans (SA_refl) (SA_glu (ι := []) hA10 eA10 (by decide +kernel)) (any_subA (l' := []) rfl)) (SA_glu (ι := [4]) hA19 eA19 (by decide +kernel)) (any_subA (l' := []) rfl)) hA_c41 (any_subA rfl)) hA_c51 (any_subA rfl)) (SA_glu (ι := [5]) hA20 eA20 (by decide +kernel)) (any_subA (l' := []) rfl)) (SA_glu (ι := []) hA22 eA22 (by decide +kernel)) (any_subA (l' := []) rfl)) (show inr (z22) by omega))
        refine w_ifeq (t := 50) rfl rfl (show inr (z19) by omega) (fun b23 => ?_) (fun b23 => ?_)
        · refine Ew_of (pc' := 51) (fun _ => x_iconst rfl) ?_
          exact hc51 (0) _ _ _ _  (lc41_4) H O (SF_refl) (SA_refl)     (show inr (0) by omega) (show ((z19) = (0) ∧ (0) = (0)) ∨ ((z19) ≠ (0) ∧ (0) = (a3)) by omega)
        · refine Ew_of (pc' := 47) (fun _ => x_iload_n rfl lc41_3) ?_
          refine Ew_of (pc' := 51) (fun _ => x_goto rfl rfl) ?_
          exact hc51 (a3) _ _ _ _  (lc41_4) H O (SF_refl) (SA_refl)     (show inr (a3) by omega) (show ((z19) = (0) ∧ (a3) = (0)) ∨ ((z19) ≠ (0) ∧ (a3) = (a3)) by omega)
      refine w_ifeq (t := 40) rfl rfl (show inr (z19) by omega) (fun b24 => ?_) (fun b24 => ?_)
      · refine Ew_of (pc' := 41) (fun _ => x_iconst rfl) ?_
        exact hc41 (0) _ _ _ _  (rk_o (rfl) rfl rfl) (rk_o (rfl) rfl rfl) (rk_s) H O (SF_refl) (SA_refl)     (show inr (0) by omega) (show ((z19) = (0) ∧ (0) = (0)) ∨ ((z19) ≠ (0) ∧ (0) = (a2)) by omega)
      · refine Ew_of (pc' := 37) (fun _ => x_iload_n rfl (rk_o (rfl) rfl rfl)) ?_
        refine Ew_of (pc' := 41) (fun _ => x_goto rfl rfl) ?_
        exact hc41 (a2) _ _ _ _  (rk_o (rfl) rfl rfl) (rk_o (rfl) rfl rfl) (rk_s) H O (SF_refl) (SA_refl)     (show inr (a2) by omega) (show ((z19) = (0) ∧ (a2) = (0)) ∨ ((z19) ≠ (0) ∧ (a2) = (a2)) by omega)
    · refine v_lR H (o := 1) rfl rfl rfl rfl rfl (n := n1) (en1) (show 0 ≤ a1 ∧ a1 < n1 by have qh0 := HIDe r5; omega) (z := ((D 6 : Nat) : Int)) (v := .ref (D 6)) ((congrArg (A10 1) b12).trans ((congrFun (((show A10 1 = A 1 from (eA10 1)))) 2).trans (pf6))) (vrf rfl) ?_
      refine Ew_of (pc' := 16) (fun _ => x_iload_n rfl rfl) ?_
      refine Ew_of (pc' := 17) (fun _ => x_iload_n rfl rfl) ?_
      refine w_stat24 rfl rfl (by rfl) (C27_Row (D := pul [6] D) (N := pul [6] N) (HW_sub H (VS_of (show vsub V13 V27_Row [6] = true by decide +kernel))) (u6_1) ((((show F10 6 1 = F 6 1 from (eF10 6 1))).trans (eu6_1))) (show inr (a2) by omega) (show inr (a3) by omega) (fun z25 σ25 F25' A25' H' O' hS25 hA25 pz25_0 pz25_1 => ⟨rretB rfl pz25_0, ?_⟩))
      refine v_back (c := c) (s := s) H (show vsub V13 V27_Row [6] = true by decide +kernel) H' O' (fun F25 A25 H O' eF25 eA25 => ?_)
      have O := OUT_trans O O'
      -- PackHouse.isPart
      refine Ew_of (pc' := 22) (fun _ => x_istore rfl) ?_
      refine Ew_of (pc' := 23) (fun _ => x_aload_n rfl (rk_o (rfl) rfl rfl)) ?_
      refine v_g H (o := 0) (v := .ref (D 1)) rfl rfl rfl rfl rfl (vrf (((((show F25 0 0 = F10 0 0 from (eF25 0 0))).trans ((show F10 0 0 = F 0 0 from (eF10 0 0))))).trans (pf1))) ?_
      refine Ew_of (pc' := 27) (fun _ => x_iload_n rfl (rk_o (rfl) rfl rfl)) ?_
      refine v_lR H (o := 1) rfl rfl rfl rfl rfl (n := n1) (en1) (show 0 ≤ a1 ∧ a1 < n1 by have qh0 := HIDe r5; omega) (z := ((D 6 : Nat) : Int)) (v := .ref (D 6)) ((congrArg (A25 1) b12).trans ((congrFun ((((show A25 1 = A10 1 from (eA25 1))).trans ((show A10 1 = A 1 from (eA10 1))))) 2).trans (pf6))) (vrf rfl) ?_
      refine v_g H (o := 6) (v := .ref (D 7)) rfl rfl rfl rfl rfl (vrf (((((show F25 6 0 = F10 6 0 from (eF25 6 0).trans (hS25 0 0 rfl))).trans ((show F10 6 0 = F 6 0 from (eF10 6 0))))).trans (pf7))) ?_
      refine Ew_of (pc' := 33) (fun _ => x_iload rfl rk_s) ?_
      have hc41 : ∀ (tc41_0 : Int), ∀ (ls : rO) (σ : rS) (F_c41 : hF) (A_c41 : hA) , rlook ls 3 = some (I (a3)) → rlook ls 4 = some (I (a4)) → rlook ls 5 = some (I (z25)) → HW V13 σ D N F_c41 A_c41 → OUT (V13).length D N σE c s D N σ c s → SF [] F25 F_c41 → SA [] A25 A_c41 → (inr (tc41_0)) → (((z25) = (0) ∧ (tc41_0) = (0)) ∨ ((z25) ≠ (0) ∧ (tc41_0) = (a2))) → Ew 13 (d + 2) 41 ls [I (tc41_0), .ref (D 7)] σ c s Q := by
       as_aux_lemma =>
        intro tc41_0 ls σ F_c41 A_c41  lc41_3 lc41_4 lc41_5 H O hS_c41 hA_c41     jc41_0 jc41_1
        refine Ew_of (pc' := 43) (fun _ => x_iload rfl lc41_5) ?_
        have hc51 : ∀ (tc51_0 : Int), ∀ (ls : rO) (σ : rS) (F_c51 : hF) (A_c51 : hA) , rlook ls 4 = some (I (a4)) → HW V13 σ D N F_c51 A_c51 → OUT (V13).length D N σE c s D N σ c s → SF [] F_c41 F_c51 → SA [] A_c41 A_c51 → (inr (tc51_0)) → (((z25) = (0) ∧ (tc51_0) = (0)) ∨ ((z25) ≠ (0) ∧ (tc51_0) = (a3))) → Ew 13 (d + 2) 51 ls [I (tc51_0), I (tc41_0), .ref (D 7)] σ c s Q := by
         as_aux_lemma =>
          intro tc51_0 ls σ F_c51 A_c51  lc51_4 H O hS_c51 hA_c51     jc51_0 jc51_1
          refine w_stat24 rfl rfl (by rfl) (C53_Br (D := pul [7] D) (N := pul [7] N) (HW_sub H (VS_of (show vsub V13 V53_Br [7] = true by decide +kernel))) (STC_out HT HE O) (n7) (en7) (A 7) ((funext (hA_c51 7 rfl)).trans ((funext (hA_c41 7 rfl)).trans (((show A25 7 = A10 7 from (eA25 7))).trans ((show A10 7 = A 7 from (eA10 7)))))) (show inr (tc41_0) by omega) (show inr (tc51_0) by omega) (show 0 ≤ (tc41_0) ∧ (tc41_0) ≤ (tc51_0) ∧ (tc51_0) ≤ (n7) by have qh0 := HIDe r8; omega) (fun z26 σ26 F26' A26' H' O' hS26 hA26 pz26_0 pz26_1 => ⟨rfl, ?_⟩))
          refine v_back (c := c) (s := s) H (show vsub V13 V53_Br [7] = true by decide +kernel) H' O' (fun F26 A26 H O' eF26 eA26 => ?_)
          have O := OUT_trans O O'
          -- PackHouse.polynomialSum
          refine Ew_of (pc' := 56) (fun _ => x_istore rfl) ?_
          refine Ew_of (pc' := 58) (fun _ => x_iload rfl (rk_o (lc51_4) rfl rfl)) ?_
          refine w_ifeq (t := 69) rfl rfl (show inr (a4) by omega) (fun b27 => ?_) (fun b27 => ?_)
          · refine Ew_of (pc' := 71) (fun _ => x_iload rfl rk_s) ?_
            exact w_ireturn rfl (k (z26) _ _ _ H O (SF_trans (SF_trans (SF_trans (SF_trans (SF_trans (SF_refl) (SF_glu (ι := []) hS10 eF10 (by decide +kernel)) (any_sub (l' := []) rfl)) (SF_glu (ι := [6]) hS25 eF25 (by decide +kernel)) (any_sub (l' := []) rfl)) hS_c41 (any_sub rfl)) hS_c51 (any_sub rfl)) (SF_glu (ι := [7]) hS26 eF26 (by decide +kernel)) (any_sub (l' := []) rfl)) (SA_trans (SA_trans (SA_trans (SA_trans (SA_trans (SA_refl) (SA_glu (ι := []) hA10 eA10 (by decide +kernel)) (any_subA (l' := []) rfl)) (SA_glu (ι := [6]) hA25 eA25 (by decide +kernel)) (any_subA (l' := []) rfl)) hA_c41 (any_subA rfl)) hA_c51 (any_subA rfl)) (SA_glu (ι := [7]) hA26 eA26 (by decide +kernel)) (any_subA (l' := []) rfl)) (show inr (z26) by omega))
          · refine Ew_of (pc' := 63) (fun _ => x_iload rfl rk_s) ?_
            refine w_stat24 rfl rfl (by rfl) (C54 (D := pul [] D) (N := pul [] N) (HW_sub H (VS_of (show vsub V13 V54 [] = true by decide +kernel))) (show inr (z26) by omega) (fun z28 σ28 F28' A28' H' O' hS28 hA28 pz28_0 pz28_1 => ⟨rfl, ?_⟩))
            refine v_back (c := c) (s := s) H (show vsub V13 V54 [] = true by decide +kernel) H' O' (fun F28 A28 H O' eF28 eA28 => ?_)
            have O := OUT_trans O O'
            -- PackHouse.maskedSum
            refine Ew_of (pc' := 71) (fun _ => x_goto rfl rfl) ?_
            exact w_ireturn rfl (k (z28) _ _ _ H O (SF_trans (SF_trans (SF_trans (SF_trans (SF_trans (SF_trans (SF_refl) (SF_glu (ι := []) hS10 eF10 (by decide +kernel)) (any_sub (l' := []) rfl)) (SF_glu (ι := [6]) hS25 eF25 (by decide +kernel)) (any_sub (l' := []) rfl)) hS_c41 (any_sub rfl)) hS_c51 (any_sub rfl)) (SF_glu (ι := [7]) hS26 eF26 (by decide +kernel)) (any_sub (l' := []) rfl)) (SF_glu (ι := []) hS28 eF28 (by decide +kernel)) (any_sub (l' := []) rfl)) (SA_trans (SA_trans (SA_trans (SA_trans (SA_trans (SA_trans (SA_refl) (SA_glu (ι := []) hA10 eA10 (by decide +kernel)) (any_subA (l' := []) rfl)) (SA_glu (ι := [6]) hA25 eA25 (by decide +kernel)) (any_subA (l' := []) rfl)) hA_c41 (any_subA rfl)) hA_c51 (any_subA rfl)) (SA_glu (ι := [7]) hA26 eA26 (by decide +kernel)) (any_subA (l' := []) rfl)) (SA_glu (ι := []) hA28 eA28 (by decide +kernel)) (any_subA (l' := []) rfl)) (show inr (z28) by omega))
        refine w_ifeq (t := 50) rfl rfl (show inr (z25) by omega) (fun b29 => ?_) (fun b29 => ?_)
        · refine Ew_of (pc' := 51) (fun _ => x_iconst rfl) ?_
          exact hc51 (0) _ _ _ _  (lc41_4) H O (SF_refl) (SA_refl)     (show inr (0) by omega) (show ((z25) = (0) ∧ (0) = (0)) ∨ ((z25) ≠ (0) ∧ (0) = (a3)) by omega)
        · refine Ew_of (pc' := 47) (fun _ => x_iload_n rfl lc41_3) ?_
          refine Ew_of (pc' := 51) (fun _ => x_goto rfl rfl) ?_
          exact hc51 (a3) _ _ _ _  (lc41_4) H O (SF_refl) (SA_refl)     (show inr (a3) by omega) (show ((z25) = (0) ∧ (a3) = (0)) ∨ ((z25) ≠ (0) ∧ (a3) = (a3)) by omega)
      refine w_ifeq (t := 40) rfl rfl (show inr (z25) by omega) (fun b30 => ?_) (fun b30 => ?_)
      · refine Ew_of (pc' := 41) (fun _ => x_iconst rfl) ?_
        exact hc41 (0) _ _ _ _  (rk_o (rfl) rfl rfl) (rk_o (rfl) rfl rfl) (rk_s) H O (SF_refl) (SA_refl)     (show inr (0) by omega) (show ((z25) = (0) ∧ (0) = (0)) ∨ ((z25) ≠ (0) ∧ (0) = (a2)) by omega)
      · refine Ew_of (pc' := 37) (fun _ => x_iload_n rfl (rk_o (rfl) rfl rfl)) ?_
        refine Ew_of (pc' := 41) (fun _ => x_goto rfl rfl) ?_
        exact hc41 (a2) _ _ _ _  (rk_o (rfl) rfl rfl) (rk_o (rfl) rfl rfl) (rk_s) H O (SF_refl) (SA_refl)     (show inr (a2) by omega) (show ((z25) = (0) ∧ (a2) = (0)) ∨ ((z25) ≠ (0) ∧ (a2) = (a2)) by omega)
    · refine v_lR H (o := 1) rfl rfl rfl rfl rfl (n := n1) (en1) (show 0 ≤ a1 ∧ a1 < n1 by have qh0 := HIDe r5; omega) (z := ((D 8 : Nat) : Int)) (v := .ref (D 8)) ((congrArg (A10 1) b12).trans ((congrFun (((show A10 1 = A 1 from (eA10 1)))) 3).trans (pf8))) (vrf rfl) ?_
      refine Ew_of (pc' := 16) (fun _ => x_iload_n rfl rfl) ?_
      refine Ew_of (pc' := 17) (fun _ => x_iload_n rfl rfl) ?_
      refine w_stat24 rfl rfl (by rfl) (C27_Row (D := pul [8] D) (N := pul [8] N) (HW_sub H (VS_of (show vsub V13 V27_Row [8] = true by decide +kernel))) (u8_1) ((((show F10 8 1 = F 8 1 from (eF10 8 1))).trans (eu8_1))) (show inr (a2) by omega) (show inr (a3) by omega) (fun z31 σ31 F31' A31' H' O' hS31 hA31 pz31_0 pz31_1 => ⟨rretB rfl pz31_0, ?_⟩))
      refine v_back (c := c) (s := s) H (show vsub V13 V27_Row [8] = true by decide +kernel) H' O' (fun F31 A31 H O' eF31 eA31 => ?_)
      have O := OUT_trans O O'
      -- PackHouse.isPart
      refine Ew_of (pc' := 22) (fun _ => x_istore rfl) ?_
      refine Ew_of (pc' := 23) (fun _ => x_aload_n rfl (rk_o (rfl) rfl rfl)) ?_
      refine v_g H (o := 0) (v := .ref (D 1)) rfl rfl rfl rfl rfl (vrf (((((show F31 0 0 = F10 0 0 from (eF31 0 0))).trans ((show F10 0 0 = F 0 0 from (eF10 0 0))))).trans (pf1))) ?_
      refine Ew_of (pc' := 27) (fun _ => x_iload_n rfl (rk_o (rfl) rfl rfl)) ?_
      refine v_lR H (o := 1) rfl rfl rfl rfl rfl (n := n1) (en1) (show 0 ≤ a1 ∧ a1 < n1 by have qh0 := HIDe r5; omega) (z := ((D 8 : Nat) : Int)) (v := .ref (D 8)) ((congrArg (A31 1) b12).trans ((congrFun ((((show A31 1 = A10 1 from (eA31 1))).trans ((show A10 1 = A 1 from (eA10 1))))) 3).trans (pf8))) (vrf rfl) ?_
      refine v_g H (o := 8) (v := .ref (D 9)) rfl rfl rfl rfl rfl (vrf (((((show F31 8 0 = F10 8 0 from (eF31 8 0).trans (hS31 0 0 rfl))).trans ((show F10 8 0 = F 8 0 from (eF10 8 0))))).trans (pf9))) ?_
      refine Ew_of (pc' := 33) (fun _ => x_iload rfl rk_s) ?_
      have hc41 : ∀ (tc41_0 : Int), ∀ (ls : rO) (σ : rS) (F_c41 : hF) (A_c41 : hA) , rlook ls 3 = some (I (a3)) → rlook ls 4 = some (I (a4)) → rlook ls 5 = some (I (z31)) → HW V13 σ D N F_c41 A_c41 → OUT (V13).length D N σE c s D N σ c s → SF [] F31 F_c41 → SA [] A31 A_c41 → (inr (tc41_0)) → (((z31) = (0) ∧ (tc41_0) = (0)) ∨ ((z31) ≠ (0) ∧ (tc41_0) = (a2))) → Ew 13 (d + 2) 41 ls [I (tc41_0), .ref (D 9)] σ c s Q := by
       as_aux_lemma =>
        intro tc41_0 ls σ F_c41 A_c41  lc41_3 lc41_4 lc41_5 H O hS_c41 hA_c41     jc41_0 jc41_1
        refine Ew_of (pc' := 43) (fun _ => x_iload rfl lc41_5) ?_
        have hc51 : ∀ (tc51_0 : Int), ∀ (ls : rO) (σ : rS) (F_c51 : hF) (A_c51 : hA) , rlook ls 4 = some (I (a4)) → HW V13 σ D N F_c51 A_c51 → OUT (V13).length D N σE c s D N σ c s → SF [] F_c41 F_c51 → SA [] A_c41 A_c51 → (inr (tc51_0)) → (((z31) = (0) ∧ (tc51_0) = (0)) ∨ ((z31) ≠ (0) ∧ (tc51_0) = (a3))) → Ew 13 (d + 2) 51 ls [I (tc51_0), I (tc41_0), .ref (D 9)] σ c s Q := by
         as_aux_lemma =>
          intro tc51_0 ls σ F_c51 A_c51  lc51_4 H O hS_c51 hA_c51     jc51_0 jc51_1
          refine w_stat24 rfl rfl (by rfl) (C53_Br (D := pul [9] D) (N := pul [9] N) (HW_sub H (VS_of (show vsub V13 V53_Br [9] = true by decide +kernel))) (STC_out HT HE O) (n9) (en9) (A 9) ((funext (hA_c51 9 rfl)).trans ((funext (hA_c41 9 rfl)).trans (((show A31 9 = A10 9 from (eA31 9))).trans ((show A10 9 = A 9 from (eA10 9)))))) (show inr (tc41_0) by omega) (show inr (tc51_0) by omega) (show 0 ≤ (tc41_0) ∧ (tc41_0) ≤ (tc51_0) ∧ (tc51_0) ≤ (n9) by have qh0 := HIDe r9; omega) (fun z32 σ32 F32' A32' H' O' hS32 hA32 pz32_0 pz32_1 => ⟨rfl, ?_⟩))
          refine v_back (c := c) (s := s) H (show vsub V13 V53_Br [9] = true by decide +kernel) H' O' (fun F32 A32 H O' eF32 eA32 => ?_)
          have O := OUT_trans O O'
          -- PackHouse.polynomialSum
          refine Ew_of (pc' := 56) (fun _ => x_istore rfl) ?_
          refine Ew_of (pc' := 58) (fun _ => x_iload rfl (rk_o (lc51_4) rfl rfl)) ?_
          refine w_ifeq (t := 69) rfl rfl (show inr (a4) by omega) (fun b33 => ?_) (fun b33 => ?_)
          · refine Ew_of (pc' := 71) (fun _ => x_iload rfl rk_s) ?_
            exact w_ireturn rfl (k (z32) _ _ _ H O (SF_trans (SF_trans (SF_trans (SF_trans (SF_trans (SF_refl) (SF_glu (ι := []) hS10 eF10 (by decide +kernel)) (any_sub (l' := []) rfl)) (SF_glu (ι := [8]) hS31 eF31 (by decide +kernel)) (any_sub (l' := []) rfl)) hS_c41 (any_sub rfl)) hS_c51 (any_sub rfl)) (SF_glu (ι := [9]) hS32 eF32 (by decide +kernel)) (any_sub (l' := []) rfl)) (SA_trans (SA_trans (SA_trans (SA_trans (SA_trans (SA_refl) (SA_glu (ι := []) hA10 eA10 (by decide +kernel)) (any_subA (l' := []) rfl)) (SA_glu (ι := [8]) hA31 eA31 (by decide +kernel)) (any_subA (l' := []) rfl)) hA_c41 (any_subA rfl)) hA_c51 (any_subA rfl)) (SA_glu (ι := [9]) hA32 eA32 (by decide +kernel)) (any_subA (l' := []) rfl)) (show inr (z32) by omega))
          · refine Ew_of (pc' := 63) (fun _ => x_iload rfl rk_s) ?_
            refine w_stat24 rfl rfl (by rfl) (C54 (D := pul [] D) (N := pul [] N) (HW_sub H (VS_of (show vsub V13 V54 [] = true by decide +kernel))) (show inr (z32) by omega) (fun z34 σ34 F34' A34' H' O' hS34 hA34 pz34_0 pz34_1 => ⟨rfl, ?_⟩))
            refine v_back (c := c) (s := s) H (show vsub V13 V54 [] = true by decide +kernel) H' O' (fun F34 A34 H O' eF34 eA34 => ?_)
            have O := OUT_trans O O'
            -- PackHouse.maskedSum
            refine Ew_of (pc' := 71) (fun _ => x_goto rfl rfl) ?_
            exact w_ireturn rfl (k (z34) _ _ _ H O (SF_trans (SF_trans (SF_trans (SF_trans (SF_trans (SF_trans (SF_refl) (SF_glu (ι := []) hS10 eF10 (by decide +kernel)) (any_sub (l' := []) rfl)) (SF_glu (ι := [8]) hS31 eF31 (by decide +kernel)) (any_sub (l' := []) rfl)) hS_c41 (any_sub rfl)) hS_c51 (any_sub rfl)) (SF_glu (ι := [9]) hS32 eF32 (by decide +kernel)) (any_sub (l' := []) rfl)) (SF_glu (ι := []) hS34 eF34 (by decide +kernel)) (any_sub (l' := []) rfl)) (SA_trans (SA_trans (SA_trans (SA_trans (SA_trans (SA_trans (SA_refl) (SA_glu (ι := []) hA10 eA10 (by decide +kernel)) (any_subA (l' := []) rfl)) (SA_glu (ι := [8]) hA31 eA31 (by decide +kernel)) (any_subA (l' := []) rfl)) hA_c41 (any_subA rfl)) hA_c51 (any_subA rfl)) (SA_glu (ι := [9]) hA32 eA32 (by decide +kernel)) (any_subA (l' := []) rfl)) (SA_glu (ι := []) hA34 eA34 (by decide +kernel)) (any_subA (l' := []) rfl)) (show inr (z34) by omega))
        refine w_ifeq (t := 50) rfl rfl (show inr (z31) by omega) (fun b35 => ?_) (fun b35 => ?_)
        · refine Ew_of (pc' := 51) (fun _ => x_iconst rfl) ?_
          exact hc51 (0) _ _ _ _  (lc41_4) H O (SF_refl) (SA_refl)     (show inr (0) by omega) (show ((z31) = (0) ∧ (0) = (0)) ∨ ((z31) ≠ (0) ∧ (0) = (a3)) by omega)
        · refine Ew_of (pc' := 47) (fun _ => x_iload_n rfl lc41_3) ?_
          refine Ew_of (pc' := 51) (fun _ => x_goto rfl rfl) ?_
          exact hc51 (a3) _ _ _ _  (lc41_4) H O (SF_refl) (SA_refl)     (show inr (a3) by omega) (show ((z31) = (0) ∧ (a3) = (0)) ∨ ((z31) ≠ (0) ∧ (a3) = (a3)) by omega)
      refine w_ifeq (t := 40) rfl rfl (show inr (z31) by omega) (fun b36 => ?_) (fun b36 => ?_)
      · refine Ew_of (pc' := 41) (fun _ => x_iconst rfl) ?_
        exact hc41 (0) _ _ _ _  (rk_o (rfl) rfl rfl) (rk_o (rfl) rfl rfl) (rk_s) H O (SF_refl) (SA_refl)     (show inr (0) by omega) (show ((z31) = (0) ∧ (0) = (0)) ∨ ((z31) ≠ (0) ∧ (0) = (a2)) by omega)
      · refine Ew_of (pc' := 37) (fun _ => x_iload_n rfl (rk_o (rfl) rfl rfl)) ?_
        refine Ew_of (pc' := 41) (fun _ => x_goto rfl rfl) ?_
        exact hc41 (a2) _ _ _ _  (rk_o (rfl) rfl rfl) (rk_o (rfl) rfl rfl) (rk_s) H O (SF_refl) (SA_refl)     (show inr (a2) by omega) (show ((z31) = (0) ∧ (a2) = (0)) ∨ ((z31) ≠ (0) ∧ (a2) = (a2)) by omega)
  · refine Ew_of (pc' := 8) (fun _ => x_iconst rfl) ?_
    exact w_ireturn rfl (k (0) _ _ _ H O (SF_trans (SF_refl) (SF_glu (ι := []) hS10 eF10 (by decide +kernel)) (any_sub (l' := []) rfl)) (SA_trans (SA_refl) (SA_glu (ι := []) hA10 eA10 (by decide +kernel)) (any_subA (l' := []) rfl)) (show inr (0) by omega))
