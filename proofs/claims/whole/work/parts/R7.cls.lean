abbrev V17_va : vV := [(0, 0, [(4, 0), (4, 0), (4, 0), (4, 0), (4, 0), (4, 0), (4, 0), (4, 0), (4, 0), (4, 0), (4, 0), (4, 0), (4, 0), (4, 0), (4, 0), (4, 0), (4, 0), (0, 0), (0, 0)]), (1, 4, []), (0, 7, [(4, 0), (0, 0), (1, 0), (0, 0), (0, 0)]), (1, 0, []), (0, 7, [(4, 0), (0, 0), (1, 0), (0, 0), (0, 0)]), (1, 0, []), (0, 7, [(4, 0), (0, 0), (1, 0), (0, 0), (0, 0)]), (1, 0, []), (0, 7, [(4, 0), (0, 0), (1, 0), (0, 0), (0, 0)]), (1, 0, []), (0, 7, [(4, 0), (0, 0), (1, 0), (0, 0), (0, 0)]), (0, 4, [(4, 0), (4, 0), (0, 0), (4, 0), (4, 0)]), (0, 7, [(4, 0), (0, 0), (1, 0), (0, 0), (0, 0)])]
/-- PackHouse.write: this, this.rows, this.rows.0, this.rows.0.bytes, this.rows.1, this.rows.1.bytes, this.rows.2, this.rows.2.bytes, this.rows.3, this.rows.3.bytes, this.past, this.dictionary, this.dictionary.content -/
theorem C17_va {σE : rS} {D N : Nat → Nat} {F : hF} {A : hA} {d c s : Nat} {Q : wQ} (H : HW V17_va σE D N F A) {a1 a2 a3 : Int} (pf1 : F 0 0 = (D 1 : Int)) (pf2 : A 1 0 = (D 2 : Int)) (pf3 : F 2 0 = (D 3 : Int)) (pf4 : A 1 1 = (D 4 : Int)) (pf5 : F 4 0 = (D 5 : Int)) (pf6 : A 1 2 = (D 6 : Int)) (pf7 : F 6 0 = (D 7 : Int)) (pf8 : A 1 3 = (D 8 : Int)) (pf9 : F 8 0 = (D 9 : Int)) (pf10 : F 0 2 = (D 10 : Int)) (pf11 : F 0 3 = (D 11 : Int)) (pf12 : F 11 0 = (D 12 : Int)) (n1 : Int) (en1 : (N 1 : Int) = n1) (n3 : Int) (en3 : (N 3 : Int) = n3) (n5 : Int) (en5 : (N 5 : Int) = n5) (n7 : Int) (en7 : (N 7 : Int) = n7) (n9 : Int) (en9 : (N 9 : Int) = n9) (u2_1 : Int) (eu2_1 : F 2 1 = u2_1) (u4_1 : Int) (eu4_1 : F 4 1 = u4_1) (u6_1 : Int) (eu6_1 : F 6 1 = u6_1) (u8_1 : Int) (eu8_1 : F 8 1 = u8_1) (u10_1 : Int) (eu10_1 : F 10 1 = u10_1) (u12_1 : Int) (eu12_1 : F 12 1 = u12_1) (h0 : inr (a1)) (h1 : inr (a2)) (h2 : inr (a3)) (h3 : (n1) = 4) (h4 : 0 ≤ (u2_1) ∧ (u2_1) ≤ (n3) ∧ (n3) ≤ 65536) (h5 : 0 ≤ (u4_1) ∧ (u4_1) ≤ (n5) ∧ (n5) ≤ 65536) (h6 : 0 ≤ (u6_1) ∧ (u6_1) ≤ (n7) ∧ (n7) ≤ 65536) (h7 : 0 ≤ (u8_1) ∧ (u8_1) ≤ (n9) ∧ (n9) ≤ 65536) (h8 : 0 ≤ (u10_1) ∧ (u10_1) ≤ 65536) (h9 : 0 ≤ (u12_1) ∧ (u12_1) ≤ 65536) (hc46 : ∀ (ls : rO) (σ : rS) (F_c46 : hF) (A_c46 : hA) , rlook ls 0 = some (.ref (D 0)) → rlook ls 1 = some (I (a1)) → rlook ls 2 = some (I (a2)) → rlook ls 3 = some (I (a3)) → HW V17_va σ D N F_c46 A_c46 → OUT (V17_va).length D N σE c s D N σ c s → SF [] F F_c46 → SA [] A A_c46 → (0 ≤ (a1) ∧ (a1) ≤ 3) → (0 ≤ (a2) ∧ (a2) ≤ 3) → (0 ≤ (a3) ∧ (a3) ≤ 5) → (0 ≠ (a2) ∨ (u2_1) + (0) ≤ 16384) → (1 ≠ (a2) ∨ (u4_1) + (0) ≤ 16384) → (2 ≠ (a2) ∨ (u6_1) + (0) ≤ 16384) → (3 ≠ (a2) ∨ (u8_1) + (0) ≤ 16384) → (0 ≠ (a2) ∨ 2 ≤ (a3) ∨ (u2_1) + (u10_1) ≤ 16384) → (1 ≠ (a2) ∨ 2 ≤ (a3) ∨ (u4_1) + (u10_1) ≤ 16384) → (2 ≠ (a2) ∨ 2 ≤ (a3) ∨ (u6_1) + (u10_1) ≤ 16384) → (3 ≠ (a2) ∨ 2 ≤ (a3) ∨ (u8_1) + (u10_1) ≤ 16384) → (0 ≠ (a2) ∨ (a3) ≠ 4 ∨ (u2_1) + (u12_1) ≤ 16384) → (1 ≠ (a2) ∨ (a3) ≠ 4 ∨ (u4_1) + (u12_1) ≤ 16384) → (2 ≠ (a2) ∨ (a3) ≠ 4 ∨ (u6_1) + (u12_1) ≤ 16384) → (3 ≠ (a2) ∨ (a3) ≠ 4 ∨ (u8_1) + (u12_1) ≤ 16384) → Ew 17 (d + 1) 46 ls [] σ c s Q) (k : ∀ (z : Int) (σ : rS) (F' : hF) (A' : hA), HW V17_va σ D N F' A' → OUT (V17_va).length D N σE c s D N σ c s → SF [] F F' → SA [] A A' → (inr (z)) → Q (some (I z)) σ c s) : Ew 17 (d + 1) 0 (rargs 0 [.ref (D 0), I a1, I a2, I a3]) [] σE c s Q := by
  have O := OUT_refl (n := (V17_va).length) (D := D) (N := N) (σ := σE) (c := c) (s := s)
  have HE := H
  have r1 : HID ((-2147483648 : Int) ≤ u2_1 ∧ u2_1 ≤ 2147483647) := krg_e (show (-2147483648 : Int) ≤ F 2 1 ∧ F 2 1 ≤ 2147483647 from H.krg 2 1 (by decide)) (show F 2 1 = u2_1 from (eu2_1))
  have r2 : HID ((-2147483648 : Int) ≤ u4_1 ∧ u4_1 ≤ 2147483647) := krg_e (show (-2147483648 : Int) ≤ F 4 1 ∧ F 4 1 ≤ 2147483647 from H.krg 4 1 (by decide)) (show F 4 1 = u4_1 from (eu4_1))
  have r3 : HID ((-2147483648 : Int) ≤ u6_1 ∧ u6_1 ≤ 2147483647) := krg_e (show (-2147483648 : Int) ≤ F 6 1 ∧ F 6 1 ≤ 2147483647 from H.krg 6 1 (by decide)) (show F 6 1 = u6_1 from (eu6_1))
  have r4 : HID ((-2147483648 : Int) ≤ u8_1 ∧ u8_1 ≤ 2147483647) := krg_e (show (-2147483648 : Int) ≤ F 8 1 ∧ F 8 1 ≤ 2147483647 from H.krg 8 1 (by decide)) (show F 8 1 = u8_1 from (eu8_1))
  have r5 : HID ((-2147483648 : Int) ≤ u10_1 ∧ u10_1 ≤ 2147483647) := krg_e (show (-2147483648 : Int) ≤ F 10 1 ∧ F 10 1 ≤ 2147483647 from H.krg 10 1 (by decide)) (show F 10 1 = u10_1 from (eu10_1))
  have r6 : HID ((-2147483648 : Int) ≤ u12_1 ∧ u12_1 ≤ 2147483647) := krg_e (show (-2147483648 : Int) ≤ F 12 1 ∧ F 12 1 ≤ 2147483647 from H.krg 12 1 (by decide)) (show F 12 1 = u12_1 from (eu12_1))
  replace pf1 := HIDm pf1
  replace pf2 := HIDm pf2
  replace pf3 := HIDm pf3
  replace pf4 := HIDm pf4
  replace pf5 := HIDm pf5
  replace pf6 := HIDm pf6
  replace pf7 := HIDm pf7
  replace pf8 := HIDm pf8
  replace pf9 := HIDm pf9
  replace pf10 := HIDm pf10
  replace pf11 := HIDm pf11
  replace pf12 := HIDm pf12
  replace en1 := HIDm en1
  replace en3 := HIDm en3
  replace en5 := HIDm en5
  replace en7 := HIDm en7
  replace en9 := HIDm en9
  replace eu2_1 := HIDm eu2_1
  replace eu4_1 := HIDm eu4_1
  replace eu6_1 := HIDm eu6_1
  replace eu8_1 := HIDm eu8_1
  replace eu10_1 := HIDm eu10_1
  replace eu12_1 := HIDm eu12_1
  have r7 : HID ((0 : Int) ≤ n1 ∧ n1 ≤ 1000000) := nrng (H.nle 1 (by decide)) (show (N 1 : Int) = n1 from en1)
  have r8 : HID ((0 : Int) ≤ n3 ∧ n3 ≤ 1000000) := nrng (H.nle 3 (by decide)) (show (N 3 : Int) = n3 from en3)
  have r9 : HID ((0 : Int) ≤ n5 ∧ n5 ≤ 1000000) := nrng (H.nle 5 (by decide)) (show (N 5 : Int) = n5 from en5)
  have r10 : HID ((0 : Int) ≤ n7 ∧ n7 ≤ 1000000) := nrng (H.nle 7 (by decide)) (show (N 7 : Int) = n7 from en7)
  have r11 : HID ((0 : Int) ≤ n9 ∧ n9 ≤ 1000000) := nrng (H.nle 9 (by decide)) (show (N 9 : Int) = n9 from en9)
  refine Ew_of (pc' := 1) (fun _ => x_iload_n rfl rfl) ?_
  refine w_stat24 rfl rfl (by rfl) (C24 (D := pul [] D) (N := pul [] N) (HW_sub H (VS_of (show vsub V17_va V24 [] = true by decide +kernel))) (show inr (a1) by omega) (fun z12 σ12 F12' A12' H' O' hS12 hA12 pz12_0 pz12_1 => ⟨rretB rfl pz12_0, ?_⟩))
  refine v_back (c := c) (s := s) H (show vsub V17_va V24 [] = true by decide +kernel) H' O' (fun F12 A12 H O' eF12 eA12 => ?_)
  have O := OUT_trans O O'
  -- PackHouse.isRow
  refine w_ifeq (t := 44) rfl rfl (show inr (z12) by omega) (fun b13 => ?_) (fun b13 => ?_)
  · refine Ew_of (pc' := 45) (fun _ => x_iconst rfl) ?_
    exact w_ireturn rfl (k ((-1)) _ _ _ H O (SF_trans (SF_refl) (SF_glu (ι := []) hS12 eF12 (by decide +kernel)) (any_sub (l' := []) rfl)) (SA_trans (SA_refl) (SA_glu (ι := []) hA12 eA12 (by decide +kernel)) (any_subA (l' := []) rfl)) (show inr ((-1)) by omega))
  · refine Ew_of (pc' := 8) (fun _ => x_iload_n rfl rfl) ?_
    refine w_stat24 rfl rfl (by rfl) (C24 (D := pul [] D) (N := pul [] N) (HW_sub H (VS_of (show vsub V17_va V24 [] = true by decide +kernel))) (show inr (a2) by omega) (fun z14 σ14 F14' A14' H' O' hS14 hA14 pz14_0 pz14_1 => ⟨rretB rfl pz14_0, ?_⟩))
    refine v_back (c := c) (s := s) H (show vsub V17_va V24 [] = true by decide +kernel) H' O' (fun F14 A14 H O' eF14 eA14 => ?_)
    have O := OUT_trans O O'
    -- PackHouse.isRow
    refine w_ifeq (t := 44) rfl rfl (show inr (z14) by omega) (fun b15 => ?_) (fun b15 => ?_)
    · refine Ew_of (pc' := 45) (fun _ => x_iconst rfl) ?_
      exact w_ireturn rfl (k ((-1)) _ _ _ H O (SF_trans (SF_trans (SF_refl) (SF_glu (ι := []) hS12 eF12 (by decide +kernel)) (any_sub (l' := []) rfl)) (SF_glu (ι := []) hS14 eF14 (by decide +kernel)) (any_sub (l' := []) rfl)) (SA_trans (SA_trans (SA_refl) (SA_glu (ι := []) hA12 eA12 (by decide +kernel)) (any_subA (l' := []) rfl)) (SA_glu (ι := []) hA14 eA14 (by decide +kernel)) (any_subA (l' := []) rfl)) (show inr ((-1)) by omega))
    · refine Ew_of (pc' := 15) (fun _ => x_iload_n rfl rfl) ?_
      refine w_iflt (t := 44) rfl rfl (show inr (a3) by omega) (fun b16 => ?_) (fun b16 => ?_)
      · refine Ew_of (pc' := 45) (fun _ => x_iconst rfl) ?_
        exact w_ireturn rfl (k ((-1)) _ _ _ H O (SF_trans (SF_trans (SF_refl) (SF_glu (ι := []) hS12 eF12 (by decide +kernel)) (any_sub (l' := []) rfl)) (SF_glu (ι := []) hS14 eF14 (by decide +kernel)) (any_sub (l' := []) rfl)) (SA_trans (SA_trans (SA_refl) (SA_glu (ι := []) hA12 eA12 (by decide +kernel)) (any_subA (l' := []) rfl)) (SA_glu (ι := []) hA14 eA14 (by decide +kernel)) (any_subA (l' := []) rfl)) (show inr ((-1)) by omega))
      · refine Ew_of (pc' := 19) (fun _ => x_iload_n rfl rfl) ?_
        refine Ew_of (pc' := 20) (fun _ => x_iconst rfl) ?_
        refine w_icmpgt (t := 44) rfl rfl (show inr (a3) by omega) (show inr (5) by omega) (fun b17 => ?_) (fun b17 => ?_)
        · refine Ew_of (pc' := 45) (fun _ => x_iconst rfl) ?_
          exact w_ireturn rfl (k ((-1)) _ _ _ H O (SF_trans (SF_trans (SF_refl) (SF_glu (ι := []) hS12 eF12 (by decide +kernel)) (any_sub (l' := []) rfl)) (SF_glu (ι := []) hS14 eF14 (by decide +kernel)) (any_sub (l' := []) rfl)) (SA_trans (SA_trans (SA_refl) (SA_glu (ι := []) hA12 eA12 (by decide +kernel)) (any_subA (l' := []) rfl)) (SA_glu (ι := []) hA14 eA14 (by decide +kernel)) (any_subA (l' := []) rfl)) (show inr ((-1)) by omega))
        · refine Ew_of (pc' := 24) (fun _ => x_aload_n rfl rfl) ?_
          refine v_g H (o := 0) (v := .ref (D 1)) rfl rfl rfl rfl rfl (vrf (((((show F14 0 0 = F12 0 0 from (eF14 0 0))).trans ((show F12 0 0 = F 0 0 from (eF12 0 0))))).trans (pf1))) ?_
          refine Ew_of (pc' := 28) (fun _ => x_iload_n rfl rfl) ?_
          rcases (show a2 = 0 ∨ a2 = 1 ∨ a2 = 2 ∨ a2 = 3 by omega) with b18 | b18 | b18 | b18
          · refine v_lR H (o := 1) rfl rfl rfl rfl rfl (n := n1) (en1) (show 0 ≤ a2 ∧ a2 < n1 by have qh0 := HIDe r7; omega) (z := ((D 2 : Nat) : Int)) (v := .ref (D 2)) ((congrArg (A14 1) b18).trans ((congrFun ((((show A14 1 = A12 1 from (eA14 1))).trans ((show A12 1 = A 1 from (eA12 1))))) 0).trans (pf2))) (vrf rfl) ?_
            refine v_g H (o := 2) (v := I (u2_1)) rfl rfl rfl rfl rfl (congrArg (fun z : Int => I z) (((((show F14 2 1 = F12 2 1 from (eF14 2 1))).trans ((show F12 2 1 = F 2 1 from (eF12 2 1)))).trans (eu2_1)) : F14 2 1 = u2_1)) ?_
            refine Ew_of (pc' := 33) (fun _ => x_aload_n rfl rfl) ?_
            refine Ew_of (pc' := 34) (fun _ => x_iload_n rfl rfl) ?_
            refine v_inv H (o := 0) rfl rfl rfl rfl rfl rfl (by rfl) (C30 (D := pul [0, 10, 11, 12] D) (N := pul [0, 10, 11, 12] N) (HW_sub H (VS_of (show vsub V17_va V30 [0, 10, 11, 12] = true by decide +kernel))) (((((show F14 0 2 = F12 0 2 from (eF14 0 2))).trans ((show F12 0 2 = F 0 2 from (eF12 0 2))))).trans (pf10)) (((((show F14 0 3 = F12 0 3 from (eF14 0 3))).trans ((show F12 0 3 = F 0 3 from (eF12 0 3))))).trans (pf11)) (((((show F14 11 0 = F12 11 0 from (eF14 11 0))).trans ((show F12 11 0 = F 11 0 from (eF12 11 0))))).trans (pf12)) (u10_1) (((((show F14 10 1 = F12 10 1 from (eF14 10 1))).trans ((show F12 10 1 = F 10 1 from (eF12 10 1)))).trans (eu10_1))) (u12_1) (((((show F14 12 1 = F12 12 1 from (eF14 12 1))).trans ((show F12 12 1 = F 12 1 from (eF12 12 1)))).trans (eu12_1))) (show inr (a3) by omega) (fun z19 σ19 F19' A19' H' O' hS19 hA19 pz19_0 pz19_1 => ⟨rfl, ?_⟩))
            refine v_back (c := c) (s := s) H (show vsub V17_va V30 [0, 10, 11, 12] = true by decide +kernel) H' O' (fun F19 A19 H O' eF19 eA19 => ?_)
            have O := OUT_trans O O'
            -- PackHouse.bytesAhead
            refine w_iadd rfl ?_
            refine Ew_of (pc' := 41) (fun _ => x_sipush (z := 16384) rfl (by decide)) ?_
            refine w_icmple (t := 46) rfl rfl (show inr ((u2_1 + z19)) by have qh0 := HIDe r1; omega) (show inr (16384) by omega) (fun b20 => ?_) (fun b20 => ?_)
            · exact hc46  _ _ _ _  (rfl) (rfl) (rfl) (rfl) H O (SF_trans (SF_trans (SF_trans (SF_refl) (SF_glu (ι := []) hS12 eF12 (by decide +kernel)) (any_sub (l' := []) rfl)) (SF_glu (ι := []) hS14 eF14 (by decide +kernel)) (any_sub (l' := []) rfl)) (SF_glu (ι := [0, 10, 11, 12]) hS19 eF19 (by decide +kernel)) (any_sub (l' := []) rfl)) (SA_trans (SA_trans (SA_trans (SA_refl) (SA_glu (ι := []) hA12 eA12 (by decide +kernel)) (any_subA (l' := []) rfl)) (SA_glu (ι := []) hA14 eA14 (by decide +kernel)) (any_subA (l' := []) rfl)) (SA_glu (ι := [0, 10, 11, 12]) hA19 eA19 (by decide +kernel)) (any_subA (l' := []) rfl))     (show 0 ≤ (a1) ∧ (a1) ≤ 3 by omega) (show 0 ≤ (a2) ∧ (a2) ≤ 3 by omega) (show 0 ≤ (a3) ∧ (a3) ≤ 5 by omega) (show 0 ≠ (a2) ∨ (u2_1) + (0) ≤ 16384 by have qh0 := HIDe r1; omega) (show 1 ≠ (a2) ∨ (u4_1) + (0) ≤ 16384 by have qh0 := HIDe r2; omega) (show 2 ≠ (a2) ∨ (u6_1) + (0) ≤ 16384 by have qh0 := HIDe r3; omega) (show 3 ≠ (a2) ∨ (u8_1) + (0) ≤ 16384 by have qh0 := HIDe r4; omega) (show 0 ≠ (a2) ∨ 2 ≤ (a3) ∨ (u2_1) + (u10_1) ≤ 16384 by have qh0 := HIDe r1; have qh1 := HIDe r5; omega) (show 1 ≠ (a2) ∨ 2 ≤ (a3) ∨ (u4_1) + (u10_1) ≤ 16384 by have qh0 := HIDe r2; have qh1 := HIDe r5; omega) (show 2 ≠ (a2) ∨ 2 ≤ (a3) ∨ (u6_1) + (u10_1) ≤ 16384 by have qh0 := HIDe r3; have qh1 := HIDe r5; omega) (show 3 ≠ (a2) ∨ 2 ≤ (a3) ∨ (u8_1) + (u10_1) ≤ 16384 by have qh0 := HIDe r4; have qh1 := HIDe r5; omega) (show 0 ≠ (a2) ∨ (a3) ≠ 4 ∨ (u2_1) + (u12_1) ≤ 16384 by have qh0 := HIDe r1; have qh1 := HIDe r6; omega) (show 1 ≠ (a2) ∨ (a3) ≠ 4 ∨ (u4_1) + (u12_1) ≤ 16384 by have qh0 := HIDe r2; have qh1 := HIDe r6; omega) (show 2 ≠ (a2) ∨ (a3) ≠ 4 ∨ (u6_1) + (u12_1) ≤ 16384 by have qh0 := HIDe r3; have qh1 := HIDe r6; omega) (show 3 ≠ (a2) ∨ (a3) ≠ 4 ∨ (u8_1) + (u12_1) ≤ 16384 by have qh0 := HIDe r4; have qh1 := HIDe r6; omega)
            · refine Ew_of (pc' := 45) (fun _ => x_iconst rfl) ?_
              exact w_ireturn rfl (k ((-1)) _ _ _ H O (SF_trans (SF_trans (SF_trans (SF_refl) (SF_glu (ι := []) hS12 eF12 (by decide +kernel)) (any_sub (l' := []) rfl)) (SF_glu (ι := []) hS14 eF14 (by decide +kernel)) (any_sub (l' := []) rfl)) (SF_glu (ι := [0, 10, 11, 12]) hS19 eF19 (by decide +kernel)) (any_sub (l' := []) rfl)) (SA_trans (SA_trans (SA_trans (SA_refl) (SA_glu (ι := []) hA12 eA12 (by decide +kernel)) (any_subA (l' := []) rfl)) (SA_glu (ι := []) hA14 eA14 (by decide +kernel)) (any_subA (l' := []) rfl)) (SA_glu (ι := [0, 10, 11, 12]) hA19 eA19 (by decide +kernel)) (any_subA (l' := []) rfl)) (show inr ((-1)) by omega))
          · refine v_lR H (o := 1) rfl rfl rfl rfl rfl (n := n1) (en1) (show 0 ≤ a2 ∧ a2 < n1 by have qh0 := HIDe r7; omega) (z := ((D 4 : Nat) : Int)) (v := .ref (D 4)) ((congrArg (A14 1) b18).trans ((congrFun ((((show A14 1 = A12 1 from (eA14 1))).trans ((show A12 1 = A 1 from (eA12 1))))) 1).trans (pf4))) (vrf rfl) ?_
            refine v_g H (o := 4) (v := I (u4_1)) rfl rfl rfl rfl rfl (congrArg (fun z : Int => I z) (((((show F14 4 1 = F12 4 1 from (eF14 4 1))).trans ((show F12 4 1 = F 4 1 from (eF12 4 1)))).trans (eu4_1)) : F14 4 1 = u4_1)) ?_
            refine Ew_of (pc' := 33) (fun _ => x_aload_n rfl rfl) ?_
            refine Ew_of (pc' := 34) (fun _ => x_iload_n rfl rfl) ?_
            refine v_inv H (o := 0) rfl rfl rfl rfl rfl rfl (by rfl) (C30 (D := pul [0, 10, 11, 12] D) (N := pul [0, 10, 11, 12] N) (HW_sub H (VS_of (show vsub V17_va V30 [0, 10, 11, 12] = true by decide +kernel))) (((((show F14 0 2 = F12 0 2 from (eF14 0 2))).trans ((show F12 0 2 = F 0 2 from (eF12 0 2))))).trans (pf10)) (((((show F14 0 3 = F12 0 3 from (eF14 0 3))).trans ((show F12 0 3 = F 0 3 from (eF12 0 3))))).trans (pf11)) (((((show F14 11 0 = F12 11 0 from (eF14 11 0))).trans ((show F12 11 0 = F 11 0 from (eF12 11 0))))).trans (pf12)) (u10_1) (((((show F14 10 1 = F12 10 1 from (eF14 10 1))).trans ((show F12 10 1 = F 10 1 from (eF12 10 1)))).trans (eu10_1))) (u12_1) (((((show F14 12 1 = F12 12 1 from (eF14 12 1))).trans ((show F12 12 1 = F 12 1 from (eF12 12 1)))).trans (eu12_1))) (show inr (a3) by omega) (fun z21 σ21 F21' A21' H' O' hS21 hA21 pz21_0 pz21_1 => ⟨rfl, ?_⟩))
            refine v_back (c := c) (s := s) H (show vsub V17_va V30 [0, 10, 11, 12] = true by decide +kernel) H' O' (fun F21 A21 H O' eF21 eA21 => ?_)
            have O := OUT_trans O O'
            -- PackHouse.bytesAhead
            refine w_iadd rfl ?_
            refine Ew_of (pc' := 41) (fun _ => x_sipush (z := 16384) rfl (by decide)) ?_
            refine w_icmple (t := 46) rfl rfl (show inr ((u4_1 + z21)) by have qh0 := HIDe r2; omega) (show inr (16384) by omega) (fun b22 => ?_) (fun b22 => ?_)
            · exact hc46  _ _ _ _  (rfl) (rfl) (rfl) (rfl) H O (SF_trans (SF_trans (SF_trans (SF_refl) (SF_glu (ι := []) hS12 eF12 (by decide +kernel)) (any_sub (l' := []) rfl)) (SF_glu (ι := []) hS14 eF14 (by decide +kernel)) (any_sub (l' := []) rfl)) (SF_glu (ι := [0, 10, 11, 12]) hS21 eF21 (by decide +kernel)) (any_sub (l' := []) rfl)) (SA_trans (SA_trans (SA_trans (SA_refl) (SA_glu (ι := []) hA12 eA12 (by decide +kernel)) (any_subA (l' := []) rfl)) (SA_glu (ι := []) hA14 eA14 (by decide +kernel)) (any_subA (l' := []) rfl)) (SA_glu (ι := [0, 10, 11, 12]) hA21 eA21 (by decide +kernel)) (any_subA (l' := []) rfl))     (show 0 ≤ (a1) ∧ (a1) ≤ 3 by omega) (show 0 ≤ (a2) ∧ (a2) ≤ 3 by omega) (show 0 ≤ (a3) ∧ (a3) ≤ 5 by omega) (show 0 ≠ (a2) ∨ (u2_1) + (0) ≤ 16384 by have qh0 := HIDe r1; omega) (show 1 ≠ (a2) ∨ (u4_1) + (0) ≤ 16384 by have qh0 := HIDe r2; omega) (show 2 ≠ (a2) ∨ (u6_1) + (0) ≤ 16384 by have qh0 := HIDe r3; omega) (show 3 ≠ (a2) ∨ (u8_1) + (0) ≤ 16384 by have qh0 := HIDe r4; omega) (show 0 ≠ (a2) ∨ 2 ≤ (a3) ∨ (u2_1) + (u10_1) ≤ 16384 by have qh0 := HIDe r1; have qh1 := HIDe r5; omega) (show 1 ≠ (a2) ∨ 2 ≤ (a3) ∨ (u4_1) + (u10_1) ≤ 16384 by have qh0 := HIDe r2; have qh1 := HIDe r5; omega) (show 2 ≠ (a2) ∨ 2 ≤ (a3) ∨ (u6_1) + (u10_1) ≤ 16384 by have qh0 := HIDe r3; have qh1 := HIDe r5; omega) (show 3 ≠ (a2) ∨ 2 ≤ (a3) ∨ (u8_1) + (u10_1) ≤ 16384 by have qh0 := HIDe r4; have qh1 := HIDe r5; omega) (show 0 ≠ (a2) ∨ (a3) ≠ 4 ∨ (u2_1) + (u12_1) ≤ 16384 by have qh0 := HIDe r1; have qh1 := HIDe r6; omega) (show 1 ≠ (a2) ∨ (a3) ≠ 4 ∨ (u4_1) + (u12_1) ≤ 16384 by have qh0 := HIDe r2; have qh1 := HIDe r6; omega) (show 2 ≠ (a2) ∨ (a3) ≠ 4 ∨ (u6_1) + (u12_1) ≤ 16384 by have qh0 := HIDe r3; have qh1 := HIDe r6; omega) (show 3 ≠ (a2) ∨ (a3) ≠ 4 ∨ (u8_1) + (u12_1) ≤ 16384 by have qh0 := HIDe r4; have qh1 := HIDe r6; omega)
            · refine Ew_of (pc' := 45) (fun _ => x_iconst rfl) ?_
              exact w_ireturn rfl (k ((-1)) _ _ _ H O (SF_trans (SF_trans (SF_trans (SF_refl) (SF_glu (ι := []) hS12 eF12 (by decide +kernel)) (any_sub (l' := []) rfl)) (SF_glu (ι := []) hS14 eF14 (by decide +kernel)) (any_sub (l' := []) rfl)) (SF_glu (ι := [0, 10, 11, 12]) hS21 eF21 (by decide +kernel)) (any_sub (l' := []) rfl)) (SA_trans (SA_trans (SA_trans (SA_refl) (SA_glu (ι := []) hA12 eA12 (by decide +kernel)) (any_subA (l' := []) rfl)) (SA_glu (ι := []) hA14 eA14 (by decide +kernel)) (any_subA (l' := []) rfl)) (SA_glu (ι := [0, 10, 11, 12]) hA21 eA21 (by decide +kernel)) (any_subA (l' := []) rfl)) (show inr ((-1)) by omega))
          · refine v_lR H (o := 1) rfl rfl rfl rfl rfl (n := n1) (en1) (show 0 ≤ a2 ∧ a2 < n1 by have qh0 := HIDe r7; omega) (z := ((D 6 : Nat) : Int)) (v := .ref (D 6)) ((congrArg (A14 1) b18).trans ((congrFun ((((show A14 1 = A12 1 from (eA14 1))).trans ((show A12 1 = A 1 from (eA12 1))))) 2).trans (pf6))) (vrf rfl) ?_
            refine v_g H (o := 6) (v := I (u6_1)) rfl rfl rfl rfl rfl (congrArg (fun z : Int => I z) (((((show F14 6 1 = F12 6 1 from (eF14 6 1))).trans ((show F12 6 1 = F 6 1 from (eF12 6 1)))).trans (eu6_1)) : F14 6 1 = u6_1)) ?_
            refine Ew_of (pc' := 33) (fun _ => x_aload_n rfl rfl) ?_
            refine Ew_of (pc' := 34) (fun _ => x_iload_n rfl rfl) ?_
            refine v_inv H (o := 0) rfl rfl rfl rfl rfl rfl (by rfl) (C30 (D := pul [0, 10, 11, 12] D) (N := pul [0, 10, 11, 12] N) (HW_sub H (VS_of (show vsub V17_va V30 [0, 10, 11, 12] = true by decide +kernel))) (((((show F14 0 2 = F12 0 2 from (eF14 0 2))).trans ((show F12 0 2 = F 0 2 from (eF12 0 2))))).trans (pf10)) (((((show F14 0 3 = F12 0 3 from (eF14 0 3))).trans ((show F12 0 3 = F 0 3 from (eF12 0 3))))).trans (pf11)) (((((show F14 11 0 = F12 11 0 from (eF14 11 0))).trans ((show F12 11 0 = F 11 0 from (eF12 11 0))))).trans (pf12)) (u10_1) (((((show F14 10 1 = F12 10 1 from (eF14 10 1))).trans ((show F12 10 1 = F 10 1 from (eF12 10 1)))).trans (eu10_1))) (u12_1) (((((show F14 12 1 = F12 12 1 from (eF14 12 1))).trans ((show F12 12 1 = F 12 1 from (eF12 12 1)))).trans (eu12_1))) (show inr (a3) by omega) (fun z23 σ23 F23' A23' H' O' hS23 hA23 pz23_0 pz23_1 => ⟨rfl, ?_⟩))
            refine v_back (c := c) (s := s) H (show vsub V17_va V30 [0, 10, 11, 12] = true by decide +kernel) H' O' (fun F23 A23 H O' eF23 eA23 => ?_)
            have O := OUT_trans O O'
            -- PackHouse.bytesAhead
            refine w_iadd rfl ?_
            refine Ew_of (pc' := 41) (fun _ => x_sipush (z := 16384) rfl (by decide)) ?_
            refine w_icmple (t := 46) rfl rfl (show inr ((u6_1 + z23)) by have qh0 := HIDe r3; omega) (show inr (16384) by omega) (fun b24 => ?_) (fun b24 => ?_)
            · exact hc46  _ _ _ _  (rfl) (rfl) (rfl) (rfl) H O (SF_trans (SF_trans (SF_trans (SF_refl) (SF_glu (ι := []) hS12 eF12 (by decide +kernel)) (any_sub (l' := []) rfl)) (SF_glu (ι := []) hS14 eF14 (by decide +kernel)) (any_sub (l' := []) rfl)) (SF_glu (ι := [0, 10, 11, 12]) hS23 eF23 (by decide +kernel)) (any_sub (l' := []) rfl)) (SA_trans (SA_trans (SA_trans (SA_refl) (SA_glu (ι := []) hA12 eA12 (by decide +kernel)) (any_subA (l' := []) rfl)) (SA_glu (ι := []) hA14 eA14 (by decide +kernel)) (any_subA (l' := []) rfl)) (SA_glu (ι := [0, 10, 11, 12]) hA23 eA23 (by decide +kernel)) (any_subA (l' := []) rfl))     (show 0 ≤ (a1) ∧ (a1) ≤ 3 by omega) (show 0 ≤ (a2) ∧ (a2) ≤ 3 by omega) (show 0 ≤ (a3) ∧ (a3) ≤ 5 by omega) (show 0 ≠ (a2) ∨ (u2_1) + (0) ≤ 16384 by have qh0 := HIDe r1; omega) (show 1 ≠ (a2) ∨ (u4_1) + (0) ≤ 16384 by have qh0 := HIDe r2; omega) (show 2 ≠ (a2) ∨ (u6_1) + (0) ≤ 16384 by have qh0 := HIDe r3; omega) (show 3 ≠ (a2) ∨ (u8_1) + (0) ≤ 16384 by have qh0 := HIDe r4; omega) (show 0 ≠ (a2) ∨ 2 ≤ (a3) ∨ (u2_1) + (u10_1) ≤ 16384 by have qh0 := HIDe r1; have qh1 := HIDe r5; omega) (show 1 ≠ (a2) ∨ 2 ≤ (a3) ∨ (u4_1) + (u10_1) ≤ 16384 by have qh0 := HIDe r2; have qh1 := HIDe r5; omega) (show 2 ≠ (a2) ∨ 2 ≤ (a3) ∨ (u6_1) + (u10_1) ≤ 16384 by have qh0 := HIDe r3; have qh1 := HIDe r5; omega) (show 3 ≠ (a2) ∨ 2 ≤ (a3) ∨ (u8_1) + (u10_1) ≤ 16384 by have qh0 := HIDe r4; have qh1 := HIDe r5; omega) (show 0 ≠ (a2) ∨ (a3) ≠ 4 ∨ (u2_1) + (u12_1) ≤ 16384 by have qh0 := HIDe r1; have qh1 := HIDe r6; omega) (show 1 ≠ (a2) ∨ (a3) ≠ 4 ∨ (u4_1) + (u12_1) ≤ 16384 by have qh0 := HIDe r2; have qh1 := HIDe r6; omega) (show 2 ≠ (a2) ∨ (a3) ≠ 4 ∨ (u6_1) + (u12_1) ≤ 16384 by have qh0 := HIDe r3; have qh1 := HIDe r6; omega) (show 3 ≠ (a2) ∨ (a3) ≠ 4 ∨ (u8_1) + (u12_1) ≤ 16384 by have qh0 := HIDe r4; have qh1 := HIDe r6; omega)
            · refine Ew_of (pc' := 45) (fun _ => x_iconst rfl) ?_
              exact w_ireturn rfl (k ((-1)) _ _ _ H O (SF_trans (SF_trans (SF_trans (SF_refl) (SF_glu (ι := []) hS12 eF12 (by decide +kernel)) (any_sub (l' := []) rfl)) (SF_glu (ι := []) hS14 eF14 (by decide +kernel)) (any_sub (l' := []) rfl)) (SF_glu (ι := [0, 10, 11, 12]) hS23 eF23 (by decide +kernel)) (any_sub (l' := []) rfl)) (SA_trans (SA_trans (SA_trans (SA_refl) (SA_glu (ι := []) hA12 eA12 (by decide +kernel)) (any_subA (l' := []) rfl)) (SA_glu (ι := []) hA14 eA14 (by decide +kernel)) (any_subA (l' := []) rfl)) (SA_glu (ι := [0, 10, 11, 12]) hA23 eA23 (by decide +kernel)) (any_subA (l' := []) rfl)) (show inr ((-1)) by omega))
          · refine v_lR H (o := 1) rfl rfl rfl rfl rfl (n := n1) (en1) (show 0 ≤ a2 ∧ a2 < n1 by have qh0 := HIDe r7; omega) (z := ((D 8 : Nat) : Int)) (v := .ref (D 8)) ((congrArg (A14 1) b18).trans ((congrFun ((((show A14 1 = A12 1 from (eA14 1))).trans ((show A12 1 = A 1 from (eA12 1))))) 3).trans (pf8))) (vrf rfl) ?_
            refine v_g H (o := 8) (v := I (u8_1)) rfl rfl rfl rfl rfl (congrArg (fun z : Int => I z) (((((show F14 8 1 = F12 8 1 from (eF14 8 1))).trans ((show F12 8 1 = F 8 1 from (eF12 8 1)))).trans (eu8_1)) : F14 8 1 = u8_1)) ?_
            refine Ew_of (pc' := 33) (fun _ => x_aload_n rfl rfl) ?_
            refine Ew_of (pc' := 34) (fun _ => x_iload_n rfl rfl) ?_
            refine v_inv H (o := 0) rfl rfl rfl rfl rfl rfl (by rfl) (C30 (D := pul [0, 10, 11, 12] D) (N := pul [0, 10, 11, 12] N) (HW_sub H (VS_of (show vsub V17_va V30 [0, 10, 11, 12] = true by decide +kernel))) (((((show F14 0 2 = F12 0 2 from (eF14 0 2))).trans ((show F12 0 2 = F 0 2 from (eF12 0 2))))).trans (pf10)) (((((show F14 0 3 = F12 0 3 from (eF14 0 3))).trans ((show F12 0 3 = F 0 3 from (eF12 0 3))))).trans (pf11)) (((((show F14 11 0 = F12 11 0 from (eF14 11 0))).trans ((show F12 11 0 = F 11 0 from (eF12 11 0))))).trans (pf12)) (u10_1) (((((show F14 10 1 = F12 10 1 from (eF14 10 1))).trans ((show F12 10 1 = F 10 1 from (eF12 10 1)))).trans (eu10_1))) (u12_1) (((((show F14 12 1 = F12 12 1 from (eF14 12 1))).trans ((show F12 12 1 = F 12 1 from (eF12 12 1)))).trans (eu12_1))) (show inr (a3) by omega) (fun z25 σ25 F25' A25' H' O' hS25 hA25 pz25_0 pz25_1 => ⟨rfl, ?_⟩))
            refine v_back (c := c) (s := s) H (show vsub V17_va V30 [0, 10, 11, 12] = true by decide +kernel) H' O' (fun F25 A25 H O' eF25 eA25 => ?_)
            have O := OUT_trans O O'
            -- PackHouse.bytesAhead
            refine w_iadd rfl ?_
            refine Ew_of (pc' := 41) (fun _ => x_sipush (z := 16384) rfl (by decide)) ?_
            refine w_icmple (t := 46) rfl rfl (show inr ((u8_1 + z25)) by have qh0 := HIDe r4; omega) (show inr (16384) by omega) (fun b26 => ?_) (fun b26 => ?_)
            · exact hc46  _ _ _ _  (rfl) (rfl) (rfl) (rfl) H O (SF_trans (SF_trans (SF_trans (SF_refl) (SF_glu (ι := []) hS12 eF12 (by decide +kernel)) (any_sub (l' := []) rfl)) (SF_glu (ι := []) hS14 eF14 (by decide +kernel)) (any_sub (l' := []) rfl)) (SF_glu (ι := [0, 10, 11, 12]) hS25 eF25 (by decide +kernel)) (any_sub (l' := []) rfl)) (SA_trans (SA_trans (SA_trans (SA_refl) (SA_glu (ι := []) hA12 eA12 (by decide +kernel)) (any_subA (l' := []) rfl)) (SA_glu (ι := []) hA14 eA14 (by decide +kernel)) (any_subA (l' := []) rfl)) (SA_glu (ι := [0, 10, 11, 12]) hA25 eA25 (by decide +kernel)) (any_subA (l' := []) rfl))     (show 0 ≤ (a1) ∧ (a1) ≤ 3 by omega) (show 0 ≤ (a2) ∧ (a2) ≤ 3 by omega) (show 0 ≤ (a3) ∧ (a3) ≤ 5 by omega) (show 0 ≠ (a2) ∨ (u2_1) + (0) ≤ 16384 by have qh0 := HIDe r1; omega) (show 1 ≠ (a2) ∨ (u4_1) + (0) ≤ 16384 by have qh0 := HIDe r2; omega) (show 2 ≠ (a2) ∨ (u6_1) + (0) ≤ 16384 by have qh0 := HIDe r3; omega) (show 3 ≠ (a2) ∨ (u8_1) + (0) ≤ 16384 by have qh0 := HIDe r4; omega) (show 0 ≠ (a2) ∨ 2 ≤ (a3) ∨ (u2_1) + (u10_1) ≤ 16384 by have qh0 := HIDe r1; have qh1 := HIDe r5; omega) (show 1 ≠ (a2) ∨ 2 ≤ (a3) ∨ (u4_1) + (u10_1) ≤ 16384 by have qh0 := HIDe r2; have qh1 := HIDe r5; omega) (show 2 ≠ (a2) ∨ 2 ≤ (a3) ∨ (u6_1) + (u10_1) ≤ 16384 by have qh0 := HIDe r3; have qh1 := HIDe r5; omega) (show 3 ≠ (a2) ∨ 2 ≤ (a3) ∨ (u8_1) + (u10_1) ≤ 16384 by have qh0 := HIDe r4; have qh1 := HIDe r5; omega) (show 0 ≠ (a2) ∨ (a3) ≠ 4 ∨ (u2_1) + (u12_1) ≤ 16384 by have qh0 := HIDe r1; have qh1 := HIDe r6; omega) (show 1 ≠ (a2) ∨ (a3) ≠ 4 ∨ (u4_1) + (u12_1) ≤ 16384 by have qh0 := HIDe r2; have qh1 := HIDe r6; omega) (show 2 ≠ (a2) ∨ (a3) ≠ 4 ∨ (u6_1) + (u12_1) ≤ 16384 by have qh0 := HIDe r3; have qh1 := HIDe r6; omega) (show 3 ≠ (a2) ∨ (a3) ≠ 4 ∨ (u8_1) + (u12_1) ≤ 16384 by have qh0 := HIDe r4; have qh1 := HIDe r6; omega)
            · refine Ew_of (pc' := 45) (fun _ => x_iconst rfl) ?_
              exact w_ireturn rfl (k ((-1)) _ _ _ H O (SF_trans (SF_trans (SF_trans (SF_refl) (SF_glu (ι := []) hS12 eF12 (by decide +kernel)) (any_sub (l' := []) rfl)) (SF_glu (ι := []) hS14 eF14 (by decide +kernel)) (any_sub (l' := []) rfl)) (SF_glu (ι := [0, 10, 11, 12]) hS25 eF25 (by decide +kernel)) (any_sub (l' := []) rfl)) (SA_trans (SA_trans (SA_trans (SA_refl) (SA_glu (ι := []) hA12 eA12 (by decide +kernel)) (any_subA (l' := []) rfl)) (SA_glu (ι := []) hA14 eA14 (by decide +kernel)) (any_subA (l' := []) rfl)) (SA_glu (ι := [0, 10, 11, 12]) hA25 eA25 (by decide +kernel)) (any_subA (l' := []) rfl)) (show inr ((-1)) by omega))
abbrev V17_vb0 : vV := [(0, 0, [(4, 0), (4, 0), (4, 0), (4, 0), (4, 0), (4, 0), (4, 0), (4, 0), (4, 0), (4, 0), (4, 0), (4, 0), (4, 0), (4, 0), (4, 0), (4, 0), (4, 0), (0, 0), (0, 0)]), (1, 4, []), (0, 7, [(4, 0), (0, 0), (1, 0), (0, 0), (0, 0)]), (1, 0, []), (0, 7, [(4, 0), (0, 0), (1, 0), (0, 0), (0, 0)]), (1, 0, []), (0, 7, [(4, 0), (0, 0), (1, 0), (0, 0), (0, 0)]), (1, 0, []), (0, 7, [(4, 0), (0, 0), (1, 0), (0, 0), (0, 0)]), (1, 0, [])]
/-- PackHouse.write: this, this.rows, this.rows.0, this.rows.0.bytes, this.rows.1, this.rows.1.bytes, this.rows.2, this.rows.2.bytes, this.rows.3, this.rows.3.bytes -/
theorem C17_vb0 {σE : rS} {D N : Nat → Nat} {F : hF} {A : hA} {d c s : Nat} {Q : wQ} (H : HW V17_vb0 σE D N F A) {x1 x3 : Int} (pf1 : F 0 0 = (D 1 : Int)) (pf2 : A 1 0 = (D 2 : Int)) (pf3 : F 2 0 = (D 3 : Int)) (pf4 : A 1 1 = (D 4 : Int)) (pf5 : F 4 0 = (D 5 : Int)) (pf6 : A 1 2 = (D 6 : Int)) (pf7 : F 6 0 = (D 7 : Int)) (pf8 : A 1 3 = (D 8 : Int)) (pf9 : F 8 0 = (D 9 : Int)) (n1 : Int) (en1 : (N 1 : Int) = n1) (n3 : Int) (en3 : (N 3 : Int) = n3) (n5 : Int) (en5 : (N 5 : Int) = n5) (n7 : Int) (en7 : (N 7 : Int) = n7) (n9 : Int) (en9 : (N 9 : Int) = n9) (u2_1 : Int) (eu2_1 : F 2 1 = u2_1) (u4_1 : Int) (eu4_1 : F 4 1 = u4_1) (u6_1 : Int) (eu6_1 : F 6 1 = u6_1) (u8_1 : Int) (eu8_1 : F 8 1 = u8_1) {ls : rO} (hl0 : rlook ls 0 = some (.ref (D 0))) (hl1 : rlook ls 1 = some (I (x1))) (hl2 : rlook ls 2 = some (I (0))) (hl3 : rlook ls 3 = some (I (x3))) (h0 : inr (x1)) (h1 : inr (x3)) (h2 : (n1) = 4) (h3 : 0 ≤ (u2_1) ∧ (u2_1) ≤ (n3) ∧ (n3) ≤ 65536) (h4 : 0 ≤ (u4_1) ∧ (u4_1) ≤ (n5) ∧ (n5) ≤ 65536) (h5 : 0 ≤ (u6_1) ∧ (u6_1) ≤ (n7) ∧ (n7) ≤ 65536) (h6 : 0 ≤ (u8_1) ∧ (u8_1) ≤ (n9) ∧ (n9) ≤ 65536) (hc54 : ∀ (ls : rO) (σ : rS) (F_c54 : hF) (A_c54 : hA) , rlook ls 0 = some (.ref (D 0)) → rlook ls 1 = some (I (x1)) → rlook ls 3 = some (I (x3)) → rlook ls 4 = some (.ref (D 2)) → HW V17_vb0 σ D N F_c54 A_c54 → OUT (V17_vb0).length D N σE c s D N σ c s → SF [] F F_c54 → SA [] A A_c54 → Ew 17 (d + 0) 54 ls [] σ c s Q) (k : ∀ (z : Int) (σ : rS) (F' : hF) (A' : hA), HW V17_vb0 σ D N F' A' → OUT (V17_vb0).length D N σE c s D N σ c s → SF [] F F' → SA [] A A' → (inr (z)) → ((0 : Int) = 1) → Q (some (I z)) σ c s) : Ew 17 (d + 0) 46 ls [] σE c s Q := by
  have O := OUT_refl (n := (V17_vb0).length) (D := D) (N := N) (σ := σE) (c := c) (s := s)
  have HE := H
  have r1 : HID ((-2147483648 : Int) ≤ u2_1 ∧ u2_1 ≤ 2147483647) := krg_e (show (-2147483648 : Int) ≤ F 2 1 ∧ F 2 1 ≤ 2147483647 from H.krg 2 1 (by decide)) (show F 2 1 = u2_1 from (eu2_1))
  have r2 : HID ((-2147483648 : Int) ≤ u4_1 ∧ u4_1 ≤ 2147483647) := krg_e (show (-2147483648 : Int) ≤ F 4 1 ∧ F 4 1 ≤ 2147483647 from H.krg 4 1 (by decide)) (show F 4 1 = u4_1 from (eu4_1))
  have r3 : HID ((-2147483648 : Int) ≤ u6_1 ∧ u6_1 ≤ 2147483647) := krg_e (show (-2147483648 : Int) ≤ F 6 1 ∧ F 6 1 ≤ 2147483647 from H.krg 6 1 (by decide)) (show F 6 1 = u6_1 from (eu6_1))
  have r4 : HID ((-2147483648 : Int) ≤ u8_1 ∧ u8_1 ≤ 2147483647) := krg_e (show (-2147483648 : Int) ≤ F 8 1 ∧ F 8 1 ≤ 2147483647 from H.krg 8 1 (by decide)) (show F 8 1 = u8_1 from (eu8_1))
  replace pf1 := HIDm pf1
  replace pf2 := HIDm pf2
  replace pf3 := HIDm pf3
  replace pf4 := HIDm pf4
  replace pf5 := HIDm pf5
  replace pf6 := HIDm pf6
  replace pf7 := HIDm pf7
  replace pf8 := HIDm pf8
  replace pf9 := HIDm pf9
  replace en1 := HIDm en1
  replace en3 := HIDm en3
  replace en5 := HIDm en5
  replace en7 := HIDm en7
  replace en9 := HIDm en9
  replace eu2_1 := HIDm eu2_1
  replace eu4_1 := HIDm eu4_1
  replace eu6_1 := HIDm eu6_1
  replace eu8_1 := HIDm eu8_1
  have r5 : HID ((0 : Int) ≤ n1 ∧ n1 ≤ 1000000) := nrng (H.nle 1 (by decide)) (show (N 1 : Int) = n1 from en1)
  have r6 : HID ((0 : Int) ≤ n3 ∧ n3 ≤ 1000000) := nrng (H.nle 3 (by decide)) (show (N 3 : Int) = n3 from en3)
  have r7 : HID ((0 : Int) ≤ n5 ∧ n5 ≤ 1000000) := nrng (H.nle 5 (by decide)) (show (N 5 : Int) = n5 from en5)
  have r8 : HID ((0 : Int) ≤ n7 ∧ n7 ≤ 1000000) := nrng (H.nle 7 (by decide)) (show (N 7 : Int) = n7 from en7)
  have r9 : HID ((0 : Int) ≤ n9 ∧ n9 ≤ 1000000) := nrng (H.nle 9 (by decide)) (show (N 9 : Int) = n9 from en9)
  refine Ew_of (pc' := 47) (fun _ => x_aload_n rfl hl0) ?_
  refine v_g H (o := 0) (v := .ref (D 1)) rfl rfl rfl rfl rfl (vrf (pf1)) ?_
  refine Ew_of (pc' := 51) (fun _ => x_iload_n rfl hl2) ?_
  refine v_lR H (o := 1) rfl rfl rfl rfl rfl (n := n1) (en1) (show 0 ≤ 0 ∧ 0 < n1 by have qh0 := HIDe r5; omega) (z := ((D 2 : Nat) : Int)) (v := .ref (D 2)) (pf2) (vrf rfl) ?_
  refine Ew_of (pc' := 54) (fun _ => x_astore rfl) ?_
  exact hc54  _ _ _ _  (rk_o (hl0) rfl rfl) (rk_o (hl1) rfl rfl) (rk_o (hl3) rfl rfl) (rk_s) H O (SF_refl) (SA_refl)     
abbrev V17_vb1 : vV := [(0, 0, [(4, 0), (4, 0), (4, 0), (4, 0), (4, 0), (4, 0), (4, 0), (4, 0), (4, 0), (4, 0), (4, 0), (4, 0), (4, 0), (4, 0), (4, 0), (4, 0), (4, 0), (0, 0), (0, 0)]), (1, 4, []), (0, 7, [(4, 0), (0, 0), (1, 0), (0, 0), (0, 0)]), (1, 0, []), (0, 7, [(4, 0), (0, 0), (1, 0), (0, 0), (0, 0)]), (1, 0, []), (0, 7, [(4, 0), (0, 0), (1, 0), (0, 0), (0, 0)]), (1, 0, []), (0, 7, [(4, 0), (0, 0), (1, 0), (0, 0), (0, 0)]), (1, 0, [])]
/-- PackHouse.write: this, this.rows, this.rows.0, this.rows.0.bytes, this.rows.1, this.rows.1.bytes, this.rows.2, this.rows.2.bytes, this.rows.3, this.rows.3.bytes -/
theorem C17_vb1 {σE : rS} {D N : Nat → Nat} {F : hF} {A : hA} {d c s : Nat} {Q : wQ} (H : HW V17_vb1 σE D N F A) {x1 x3 : Int} (pf1 : F 0 0 = (D 1 : Int)) (pf2 : A 1 0 = (D 2 : Int)) (pf3 : F 2 0 = (D 3 : Int)) (pf4 : A 1 1 = (D 4 : Int)) (pf5 : F 4 0 = (D 5 : Int)) (pf6 : A 1 2 = (D 6 : Int)) (pf7 : F 6 0 = (D 7 : Int)) (pf8 : A 1 3 = (D 8 : Int)) (pf9 : F 8 0 = (D 9 : Int)) (n1 : Int) (en1 : (N 1 : Int) = n1) (n3 : Int) (en3 : (N 3 : Int) = n3) (n5 : Int) (en5 : (N 5 : Int) = n5) (n7 : Int) (en7 : (N 7 : Int) = n7) (n9 : Int) (en9 : (N 9 : Int) = n9) (u2_1 : Int) (eu2_1 : F 2 1 = u2_1) (u4_1 : Int) (eu4_1 : F 4 1 = u4_1) (u6_1 : Int) (eu6_1 : F 6 1 = u6_1) (u8_1 : Int) (eu8_1 : F 8 1 = u8_1) {ls : rO} (hl0 : rlook ls 0 = some (.ref (D 0))) (hl1 : rlook ls 1 = some (I (x1))) (hl2 : rlook ls 2 = some (I (1))) (hl3 : rlook ls 3 = some (I (x3))) (h0 : inr (x1)) (h1 : inr (x3)) (h2 : (n1) = 4) (h3 : 0 ≤ (u2_1) ∧ (u2_1) ≤ (n3) ∧ (n3) ≤ 65536) (h4 : 0 ≤ (u4_1) ∧ (u4_1) ≤ (n5) ∧ (n5) ≤ 65536) (h5 : 0 ≤ (u6_1) ∧ (u6_1) ≤ (n7) ∧ (n7) ≤ 65536) (h6 : 0 ≤ (u8_1) ∧ (u8_1) ≤ (n9) ∧ (n9) ≤ 65536) (hc54 : ∀ (ls : rO) (σ : rS) (F_c54 : hF) (A_c54 : hA) , rlook ls 0 = some (.ref (D 0)) → rlook ls 1 = some (I (x1)) → rlook ls 3 = some (I (x3)) → rlook ls 4 = some (.ref (D 4)) → HW V17_vb1 σ D N F_c54 A_c54 → OUT (V17_vb1).length D N σE c s D N σ c s → SF [] F F_c54 → SA [] A A_c54 → Ew 17 (d + 0) 54 ls [] σ c s Q) (k : ∀ (z : Int) (σ : rS) (F' : hF) (A' : hA), HW V17_vb1 σ D N F' A' → OUT (V17_vb1).length D N σE c s D N σ c s → SF [] F F' → SA [] A A' → (inr (z)) → ((0 : Int) = 1) → Q (some (I z)) σ c s) : Ew 17 (d + 0) 46 ls [] σE c s Q := by
  have O := OUT_refl (n := (V17_vb1).length) (D := D) (N := N) (σ := σE) (c := c) (s := s)
  have HE := H
  have r1 : HID ((-2147483648 : Int) ≤ u2_1 ∧ u2_1 ≤ 2147483647) := krg_e (show (-2147483648 : Int) ≤ F 2 1 ∧ F 2 1 ≤ 2147483647 from H.krg 2 1 (by decide)) (show F 2 1 = u2_1 from (eu2_1))
  have r2 : HID ((-2147483648 : Int) ≤ u4_1 ∧ u4_1 ≤ 2147483647) := krg_e (show (-2147483648 : Int) ≤ F 4 1 ∧ F 4 1 ≤ 2147483647 from H.krg 4 1 (by decide)) (show F 4 1 = u4_1 from (eu4_1))
  have r3 : HID ((-2147483648 : Int) ≤ u6_1 ∧ u6_1 ≤ 2147483647) := krg_e (show (-2147483648 : Int) ≤ F 6 1 ∧ F 6 1 ≤ 2147483647 from H.krg 6 1 (by decide)) (show F 6 1 = u6_1 from (eu6_1))
  have r4 : HID ((-2147483648 : Int) ≤ u8_1 ∧ u8_1 ≤ 2147483647) := krg_e (show (-2147483648 : Int) ≤ F 8 1 ∧ F 8 1 ≤ 2147483647 from H.krg 8 1 (by decide)) (show F 8 1 = u8_1 from (eu8_1))
  replace pf1 := HIDm pf1
  replace pf2 := HIDm pf2
  replace pf3 := HIDm pf3
  replace pf4 := HIDm pf4
  replace pf5 := HIDm pf5
  replace pf6 := HIDm pf6
  replace pf7 := HIDm pf7
  replace pf8 := HIDm pf8
  replace pf9 := HIDm pf9
  replace en1 := HIDm en1
  replace en3 := HIDm en3
  replace en5 := HIDm en5
  replace en7 := HIDm en7
  replace en9 := HIDm en9
  replace eu2_1 := HIDm eu2_1
  replace eu4_1 := HIDm eu4_1
  replace eu6_1 := HIDm eu6_1
  replace eu8_1 := HIDm eu8_1
  have r5 : HID ((0 : Int) ≤ n1 ∧ n1 ≤ 1000000) := nrng (H.nle 1 (by decide)) (show (N 1 : Int) = n1 from en1)
  have r6 : HID ((0 : Int) ≤ n3 ∧ n3 ≤ 1000000) := nrng (H.nle 3 (by decide)) (show (N 3 : Int) = n3 from en3)
  have r7 : HID ((0 : Int) ≤ n5 ∧ n5 ≤ 1000000) := nrng (H.nle 5 (by decide)) (show (N 5 : Int) = n5 from en5)
  have r8 : HID ((0 : Int) ≤ n7 ∧ n7 ≤ 1000000) := nrng (H.nle 7 (by decide)) (show (N 7 : Int) = n7 from en7)
  have r9 : HID ((0 : Int) ≤ n9 ∧ n9 ≤ 1000000) := nrng (H.nle 9 (by decide)) (show (N 9 : Int) = n9 from en9)
  refine Ew_of (pc' := 47) (fun _ => x_aload_n rfl hl0) ?_
  refine v_g H (o := 0) (v := .ref (D 1)) rfl rfl rfl rfl rfl (vrf (pf1)) ?_
  refine Ew_of (pc' := 51) (fun _ => x_iload_n rfl hl2) ?_
  refine v_lR H (o := 1) rfl rfl rfl rfl rfl (n := n1) (en1) (show 0 ≤ 1 ∧ 1 < n1 by have qh0 := HIDe r5; omega) (z := ((D 4 : Nat) : Int)) (v := .ref (D 4)) (pf4) (vrf rfl) ?_
  refine Ew_of (pc' := 54) (fun _ => x_astore rfl) ?_
  exact hc54  _ _ _ _  (rk_o (hl0) rfl rfl) (rk_o (hl1) rfl rfl) (rk_o (hl3) rfl rfl) (rk_s) H O (SF_refl) (SA_refl)     
abbrev V17_vb2 : vV := [(0, 0, [(4, 0), (4, 0), (4, 0), (4, 0), (4, 0), (4, 0), (4, 0), (4, 0), (4, 0), (4, 0), (4, 0), (4, 0), (4, 0), (4, 0), (4, 0), (4, 0), (4, 0), (0, 0), (0, 0)]), (1, 4, []), (0, 7, [(4, 0), (0, 0), (1, 0), (0, 0), (0, 0)]), (1, 0, []), (0, 7, [(4, 0), (0, 0), (1, 0), (0, 0), (0, 0)]), (1, 0, []), (0, 7, [(4, 0), (0, 0), (1, 0), (0, 0), (0, 0)]), (1, 0, []), (0, 7, [(4, 0), (0, 0), (1, 0), (0, 0), (0, 0)]), (1, 0, [])]
/-- PackHouse.write: this, this.rows, this.rows.0, this.rows.0.bytes, this.rows.1, this.rows.1.bytes, this.rows.2, this.rows.2.bytes, this.rows.3, this.rows.3.bytes -/
theorem C17_vb2 {σE : rS} {D N : Nat → Nat} {F : hF} {A : hA} {d c s : Nat} {Q : wQ} (H : HW V17_vb2 σE D N F A) {x1 x3 : Int} (pf1 : F 0 0 = (D 1 : Int)) (pf2 : A 1 0 = (D 2 : Int)) (pf3 : F 2 0 = (D 3 : Int)) (pf4 : A 1 1 = (D 4 : Int)) (pf5 : F 4 0 = (D 5 : Int)) (pf6 : A 1 2 = (D 6 : Int)) (pf7 : F 6 0 = (D 7 : Int)) (pf8 : A 1 3 = (D 8 : Int)) (pf9 : F 8 0 = (D 9 : Int)) (n1 : Int) (en1 : (N 1 : Int) = n1) (n3 : Int) (en3 : (N 3 : Int) = n3) (n5 : Int) (en5 : (N 5 : Int) = n5) (n7 : Int) (en7 : (N 7 : Int) = n7) (n9 : Int) (en9 : (N 9 : Int) = n9) (u2_1 : Int) (eu2_1 : F 2 1 = u2_1) (u4_1 : Int) (eu4_1 : F 4 1 = u4_1) (u6_1 : Int) (eu6_1 : F 6 1 = u6_1) (u8_1 : Int) (eu8_1 : F 8 1 = u8_1) {ls : rO} (hl0 : rlook ls 0 = some (.ref (D 0))) (hl1 : rlook ls 1 = some (I (x1))) (hl2 : rlook ls 2 = some (I (2))) (hl3 : rlook ls 3 = some (I (x3))) (h0 : inr (x1)) (h1 : inr (x3)) (h2 : (n1) = 4) (h3 : 0 ≤ (u2_1) ∧ (u2_1) ≤ (n3) ∧ (n3) ≤ 65536) (h4 : 0 ≤ (u4_1) ∧ (u4_1) ≤ (n5) ∧ (n5) ≤ 65536) (h5 : 0 ≤ (u6_1) ∧ (u6_1) ≤ (n7) ∧ (n7) ≤ 65536) (h6 : 0 ≤ (u8_1) ∧ (u8_1) ≤ (n9) ∧ (n9) ≤ 65536) (hc54 : ∀ (ls : rO) (σ : rS) (F_c54 : hF) (A_c54 : hA) , rlook ls 0 = some (.ref (D 0)) → rlook ls 1 = some (I (x1)) → rlook ls 3 = some (I (x3)) → rlook ls 4 = some (.ref (D 6)) → HW V17_vb2 σ D N F_c54 A_c54 → OUT (V17_vb2).length D N σE c s D N σ c s → SF [] F F_c54 → SA [] A A_c54 → Ew 17 (d + 0) 54 ls [] σ c s Q) (k : ∀ (z : Int) (σ : rS) (F' : hF) (A' : hA), HW V17_vb2 σ D N F' A' → OUT (V17_vb2).length D N σE c s D N σ c s → SF [] F F' → SA [] A A' → (inr (z)) → ((0 : Int) = 1) → Q (some (I z)) σ c s) : Ew 17 (d + 0) 46 ls [] σE c s Q := by
  have O := OUT_refl (n := (V17_vb2).length) (D := D) (N := N) (σ := σE) (c := c) (s := s)
  have HE := H
  have r1 : HID ((-2147483648 : Int) ≤ u2_1 ∧ u2_1 ≤ 2147483647) := krg_e (show (-2147483648 : Int) ≤ F 2 1 ∧ F 2 1 ≤ 2147483647 from H.krg 2 1 (by decide)) (show F 2 1 = u2_1 from (eu2_1))
  have r2 : HID ((-2147483648 : Int) ≤ u4_1 ∧ u4_1 ≤ 2147483647) := krg_e (show (-2147483648 : Int) ≤ F 4 1 ∧ F 4 1 ≤ 2147483647 from H.krg 4 1 (by decide)) (show F 4 1 = u4_1 from (eu4_1))
  have r3 : HID ((-2147483648 : Int) ≤ u6_1 ∧ u6_1 ≤ 2147483647) := krg_e (show (-2147483648 : Int) ≤ F 6 1 ∧ F 6 1 ≤ 2147483647 from H.krg 6 1 (by decide)) (show F 6 1 = u6_1 from (eu6_1))
  have r4 : HID ((-2147483648 : Int) ≤ u8_1 ∧ u8_1 ≤ 2147483647) := krg_e (show (-2147483648 : Int) ≤ F 8 1 ∧ F 8 1 ≤ 2147483647 from H.krg 8 1 (by decide)) (show F 8 1 = u8_1 from (eu8_1))
  replace pf1 := HIDm pf1
  replace pf2 := HIDm pf2
  replace pf3 := HIDm pf3
  replace pf4 := HIDm pf4
  replace pf5 := HIDm pf5
  replace pf6 := HIDm pf6
  replace pf7 := HIDm pf7
  replace pf8 := HIDm pf8
  replace pf9 := HIDm pf9
  replace en1 := HIDm en1
  replace en3 := HIDm en3
  replace en5 := HIDm en5
  replace en7 := HIDm en7
  replace en9 := HIDm en9
  replace eu2_1 := HIDm eu2_1
  replace eu4_1 := HIDm eu4_1
  replace eu6_1 := HIDm eu6_1
  replace eu8_1 := HIDm eu8_1
  have r5 : HID ((0 : Int) ≤ n1 ∧ n1 ≤ 1000000) := nrng (H.nle 1 (by decide)) (show (N 1 : Int) = n1 from en1)
  have r6 : HID ((0 : Int) ≤ n3 ∧ n3 ≤ 1000000) := nrng (H.nle 3 (by decide)) (show (N 3 : Int) = n3 from en3)
  have r7 : HID ((0 : Int) ≤ n5 ∧ n5 ≤ 1000000) := nrng (H.nle 5 (by decide)) (show (N 5 : Int) = n5 from en5)
  have r8 : HID ((0 : Int) ≤ n7 ∧ n7 ≤ 1000000) := nrng (H.nle 7 (by decide)) (show (N 7 : Int) = n7 from en7)
  have r9 : HID ((0 : Int) ≤ n9 ∧ n9 ≤ 1000000) := nrng (H.nle 9 (by decide)) (show (N 9 : Int) = n9 from en9)
  refine Ew_of (pc' := 47) (fun _ => x_aload_n rfl hl0) ?_
  refine v_g H (o := 0) (v := .ref (D 1)) rfl rfl rfl rfl rfl (vrf (pf1)) ?_
  refine Ew_of (pc' := 51) (fun _ => x_iload_n rfl hl2) ?_
  refine v_lR H (o := 1) rfl rfl rfl rfl rfl (n := n1) (en1) (show 0 ≤ 2 ∧ 2 < n1 by have qh0 := HIDe r5; omega) (z := ((D 6 : Nat) : Int)) (v := .ref (D 6)) (pf6) (vrf rfl) ?_
  refine Ew_of (pc' := 54) (fun _ => x_astore rfl) ?_
  exact hc54  _ _ _ _  (rk_o (hl0) rfl rfl) (rk_o (hl1) rfl rfl) (rk_o (hl3) rfl rfl) (rk_s) H O (SF_refl) (SA_refl)     
abbrev V17_vb3 : vV := [(0, 0, [(4, 0), (4, 0), (4, 0), (4, 0), (4, 0), (4, 0), (4, 0), (4, 0), (4, 0), (4, 0), (4, 0), (4, 0), (4, 0), (4, 0), (4, 0), (4, 0), (4, 0), (0, 0), (0, 0)]), (1, 4, []), (0, 7, [(4, 0), (0, 0), (1, 0), (0, 0), (0, 0)]), (1, 0, []), (0, 7, [(4, 0), (0, 0), (1, 0), (0, 0), (0, 0)]), (1, 0, []), (0, 7, [(4, 0), (0, 0), (1, 0), (0, 0), (0, 0)]), (1, 0, []), (0, 7, [(4, 0), (0, 0), (1, 0), (0, 0), (0, 0)]), (1, 0, [])]
/-- PackHouse.write: this, this.rows, this.rows.0, this.rows.0.bytes, this.rows.1, this.rows.1.bytes, this.rows.2, this.rows.2.bytes, this.rows.3, this.rows.3.bytes -/
theorem C17_vb3 {σE : rS} {D N : Nat → Nat} {F : hF} {A : hA} {d c s : Nat} {Q : wQ} (H : HW V17_vb3 σE D N F A) {x1 x3 : Int} (pf1 : F 0 0 = (D 1 : Int)) (pf2 : A 1 0 = (D 2 : Int)) (pf3 : F 2 0 = (D 3 : Int)) (pf4 : A 1 1 = (D 4 : Int)) (pf5 : F 4 0 = (D 5 : Int)) (pf6 : A 1 2 = (D 6 : Int)) (pf7 : F 6 0 = (D 7 : Int)) (pf8 : A 1 3 = (D 8 : Int)) (pf9 : F 8 0 = (D 9 : Int)) (n1 : Int) (en1 : (N 1 : Int) = n1) (n3 : Int) (en3 : (N 3 : Int) = n3) (n5 : Int) (en5 : (N 5 : Int) = n5) (n7 : Int) (en7 : (N 7 : Int) = n7) (n9 : Int) (en9 : (N 9 : Int) = n9) (u2_1 : Int) (eu2_1 : F 2 1 = u2_1) (u4_1 : Int) (eu4_1 : F 4 1 = u4_1) (u6_1 : Int) (eu6_1 : F 6 1 = u6_1) (u8_1 : Int) (eu8_1 : F 8 1 = u8_1) {ls : rO} (hl0 : rlook ls 0 = some (.ref (D 0))) (hl1 : rlook ls 1 = some (I (x1))) (hl2 : rlook ls 2 = some (I (3))) (hl3 : rlook ls 3 = some (I (x3))) (h0 : inr (x1)) (h1 : inr (x3)) (h2 : (n1) = 4) (h3 : 0 ≤ (u2_1) ∧ (u2_1) ≤ (n3) ∧ (n3) ≤ 65536) (h4 : 0 ≤ (u4_1) ∧ (u4_1) ≤ (n5) ∧ (n5) ≤ 65536) (h5 : 0 ≤ (u6_1) ∧ (u6_1) ≤ (n7) ∧ (n7) ≤ 65536) (h6 : 0 ≤ (u8_1) ∧ (u8_1) ≤ (n9) ∧ (n9) ≤ 65536) (hc54 : ∀ (ls : rO) (σ : rS) (F_c54 : hF) (A_c54 : hA) , rlook ls 0 = some (.ref (D 0)) → rlook ls 1 = some (I (x1)) → rlook ls 3 = some (I (x3)) → rlook ls 4 = some (.ref (D 8)) → HW V17_vb3 σ D N F_c54 A_c54 → OUT (V17_vb3).length D N σE c s D N σ c s → SF [] F F_c54 → SA [] A A_c54 → Ew 17 (d + 0) 54 ls [] σ c s Q) (k : ∀ (z : Int) (σ : rS) (F' : hF) (A' : hA), HW V17_vb3 σ D N F' A' → OUT (V17_vb3).length D N σE c s D N σ c s → SF [] F F' → SA [] A A' → (inr (z)) → ((0 : Int) = 1) → Q (some (I z)) σ c s) : Ew 17 (d + 0) 46 ls [] σE c s Q := by
  have O := OUT_refl (n := (V17_vb3).length) (D := D) (N := N) (σ := σE) (c := c) (s := s)
  have HE := H
  have r1 : HID ((-2147483648 : Int) ≤ u2_1 ∧ u2_1 ≤ 2147483647) := krg_e (show (-2147483648 : Int) ≤ F 2 1 ∧ F 2 1 ≤ 2147483647 from H.krg 2 1 (by decide)) (show F 2 1 = u2_1 from (eu2_1))
  have r2 : HID ((-2147483648 : Int) ≤ u4_1 ∧ u4_1 ≤ 2147483647) := krg_e (show (-2147483648 : Int) ≤ F 4 1 ∧ F 4 1 ≤ 2147483647 from H.krg 4 1 (by decide)) (show F 4 1 = u4_1 from (eu4_1))
  have r3 : HID ((-2147483648 : Int) ≤ u6_1 ∧ u6_1 ≤ 2147483647) := krg_e (show (-2147483648 : Int) ≤ F 6 1 ∧ F 6 1 ≤ 2147483647 from H.krg 6 1 (by decide)) (show F 6 1 = u6_1 from (eu6_1))
  have r4 : HID ((-2147483648 : Int) ≤ u8_1 ∧ u8_1 ≤ 2147483647) := krg_e (show (-2147483648 : Int) ≤ F 8 1 ∧ F 8 1 ≤ 2147483647 from H.krg 8 1 (by decide)) (show F 8 1 = u8_1 from (eu8_1))
  replace pf1 := HIDm pf1
  replace pf2 := HIDm pf2
  replace pf3 := HIDm pf3
  replace pf4 := HIDm pf4
  replace pf5 := HIDm pf5
  replace pf6 := HIDm pf6
  replace pf7 := HIDm pf7
  replace pf8 := HIDm pf8
  replace pf9 := HIDm pf9
  replace en1 := HIDm en1
  replace en3 := HIDm en3
  replace en5 := HIDm en5
  replace en7 := HIDm en7
  replace en9 := HIDm en9
  replace eu2_1 := HIDm eu2_1
  replace eu4_1 := HIDm eu4_1
  replace eu6_1 := HIDm eu6_1
  replace eu8_1 := HIDm eu8_1
  have r5 : HID ((0 : Int) ≤ n1 ∧ n1 ≤ 1000000) := nrng (H.nle 1 (by decide)) (show (N 1 : Int) = n1 from en1)
  have r6 : HID ((0 : Int) ≤ n3 ∧ n3 ≤ 1000000) := nrng (H.nle 3 (by decide)) (show (N 3 : Int) = n3 from en3)
  have r7 : HID ((0 : Int) ≤ n5 ∧ n5 ≤ 1000000) := nrng (H.nle 5 (by decide)) (show (N 5 : Int) = n5 from en5)
  have r8 : HID ((0 : Int) ≤ n7 ∧ n7 ≤ 1000000) := nrng (H.nle 7 (by decide)) (show (N 7 : Int) = n7 from en7)
  have r9 : HID ((0 : Int) ≤ n9 ∧ n9 ≤ 1000000) := nrng (H.nle 9 (by decide)) (show (N 9 : Int) = n9 from en9)
  refine Ew_of (pc' := 47) (fun _ => x_aload_n rfl hl0) ?_
  refine v_g H (o := 0) (v := .ref (D 1)) rfl rfl rfl rfl rfl (vrf (pf1)) ?_
  refine Ew_of (pc' := 51) (fun _ => x_iload_n rfl hl2) ?_
  refine v_lR H (o := 1) rfl rfl rfl rfl rfl (n := n1) (en1) (show 0 ≤ 3 ∧ 3 < n1 by have qh0 := HIDe r5; omega) (z := ((D 8 : Nat) : Int)) (v := .ref (D 8)) (pf8) (vrf rfl) ?_
  refine Ew_of (pc' := 54) (fun _ => x_astore rfl) ?_
  exact hc54  _ _ _ _  (rk_o (hl0) rfl rfl) (rk_o (hl1) rfl rfl) (rk_o (hl3) rfl rfl) (rk_s) H O (SF_refl) (SA_refl)     
abbrev V17_vc0 : vV := [(0, 0, [(4, 0), (4, 0), (4, 0), (4, 0), (4, 0), (4, 0), (4, 0), (4, 0), (4, 0), (4, 0), (4, 0), (4, 0), (4, 0), (4, 0), (4, 0), (4, 0), (4, 0), (0, 0), (0, 0)]), (0, 7, [(4, 0), (0, 0), (1, 0), (0, 0), (0, 0)]), (0, 7, [(4, 0), (0, 0), (1, 0), (0, 0), (0, 0)]), (1, 0, [])]
/-- PackHouse.write: this, @F, this.written, this.written.bytes -/
theorem C17_vc0 {σE : rS} {D N : Nat → Nat} {F : hF} {A : hA} {d c s : Nat} {Q : wQ} (H : HW V17_vc0 σE D N F A) {x1 : Int} (pf2 : F 0 5 = (D 2 : Int)) (pf3 : F 2 0 = (D 3 : Int)) (n3 : Int) (en3 : (N 3 : Int) = n3) (u2_1 : Int) (eu2_1 : F 2 1 = u2_1) {ls : rO} (hl0 : rlook ls 0 = some (.ref (D 0))) (hl1 : rlook ls 1 = some (I (x1))) (hl3 : rlook ls 3 = some (I (0))) (hl4 : rlook ls 4 = some (.ref (D 1))) (h0 : inr (x1)) (h1 : 0 ≤ (u2_1) ∧ (u2_1) ≤ (n3) ∧ (n3) ≤ 65536) (hc101 : ∀ (ls : rO) (σ : rS) (F_c101 : hF) (A_c101 : hA) (xc101_5 : Int), rlook ls 0 = some (.ref (D 0)) → rlook ls 1 = some (I (x1)) → rlook ls 3 = some (I (0)) → rlook ls 4 = some (.ref (D 1)) → rlook ls 5 = some (I (xc101_5)) → HW V17_vc0 σ D N F_c101 A_c101 → OUT (V17_vc0).length D N σE c s D N σ c s → SF [(2, 1), (2, 2), (2, 3), (2, 4)] F F_c101 → SA [] A A_c101 → ∀ yc101_2_1 : Int, F_c101 2 1 = yc101_2_1 → (inr (xc101_5)) → (0 ≤ (yc101_2_1) ∧ (yc101_2_1) ≤ (n3) ∧ (n3) ≤ 65536) → ((yc101_2_1) = 0) → ((xc101_5) = 1) → Ew 17 (d + 1) 101 ls [.ref (D 0)] σ c s Q) (k : ∀ (z : Int) (σ : rS) (F' : hF) (A' : hA), HW V17_vc0 σ D N F' A' → OUT (V17_vc0).length D N σE c s D N σ c s → SF [(2, 1), (2, 2), (2, 3), (2, 4)] F F' → SA [] A A' → (inr (z)) → ((0 : Int) = 1) → Q (some (I z)) σ c s) : Ew 17 (d + 1) 54 ls [] σE c s Q := by
  have O := OUT_refl (n := (V17_vc0).length) (D := D) (N := N) (σ := σE) (c := c) (s := s)
  have HE := H
  have r1 : HID ((-2147483648 : Int) ≤ u2_1 ∧ u2_1 ≤ 2147483647) := krg_e (show (-2147483648 : Int) ≤ F 2 1 ∧ F 2 1 ≤ 2147483647 from H.krg 2 1 (by decide)) (show F 2 1 = u2_1 from (eu2_1))
  replace pf2 := HIDm pf2
  replace pf3 := HIDm pf3
  replace en3 := HIDm en3
  replace eu2_1 := HIDm eu2_1
  have r2 : HID ((0 : Int) ≤ n3 ∧ n3 ≤ 1000000) := nrng (H.nle 3 (by decide)) (show (N 3 : Int) = n3 from en3)
  refine Ew_of (pc' := 55) (fun _ => x_iconst rfl) ?_
  refine Ew_of (pc' := 57) (fun _ => x_istore rfl) ?_
  refine Ew_of (pc' := 58) (fun _ => x_aload_n rfl (rk_o (hl0) rfl rfl)) ?_
  refine v_g H (o := 0) (v := .ref (D 2)) rfl rfl rfl rfl rfl (vrf (pf2)) ?_
  have r3 : HID ((0 : Int) ≤ F 2 2 ∧ F 2 2 ≤ 1) := krg_e (show (0 : Int) ≤ F 2 2 ∧ F 2 2 ≤ 1 from H.krg 2 2 (by decide)) (show F 2 2 = F 2 2 from rfl)
  have r4 : HID ((-2147483648 : Int) ≤ F 2 3 ∧ F 2 3 ≤ 2147483647) := krg_e (show (-2147483648 : Int) ≤ F 2 3 ∧ F 2 3 ≤ 2147483647 from H.krg 2 3 (by decide)) (show F 2 3 = F 2 3 from rfl)
  have r5 : HID ((-2147483648 : Int) ≤ F 2 4 ∧ F 2 4 ≤ 2147483647) := krg_e (show (-2147483648 : Int) ≤ F 2 4 ∧ F 2 4 ≤ 2147483647 from H.krg 2 4 (by decide)) (show F 2 4 = F 2 4 from rfl)
  refine v_inv H (o := 2) rfl rfl rfl rfl rfl rfl (by rfl) (C156h (D := pul [2] D) (N := pul [2] N) (HW_sub H (VS_of (show vsub V17_vc0 V156 [2] = true by decide +kernel))) (u2_1) ((eu2_1)) (F 2 2) (rfl) (F 2 3) (rfl) (F 2 4) (rfl)  (fun σ6 F6' A6' H' O' hS6 hA6 y6_0_1 ey6_0_1 y6_0_2 ey6_0_2 y6_0_3 ey6_0_3 y6_0_4 ey6_0_4 pz6_0 pz6_1 => ⟨rfl, ?_⟩))
  replace ey6_0_1 := HIDm ey6_0_1
  replace ey6_0_2 := HIDm ey6_0_2
  replace ey6_0_3 := HIDm ey6_0_3
  replace ey6_0_4 := HIDm ey6_0_4
  refine v_back (c := c) (s := s) H (show vsub V17_vc0 V156 [2] = true by decide +kernel) H' O' (fun F6 A6 H O' eF6 eA6 => ?_)
  have O := OUT_trans O O'
  -- Row.clear
  have r7 : HID ((-2147483648 : Int) ≤ y6_0_1 ∧ y6_0_1 ≤ 2147483647) := krg_e (show (-2147483648 : Int) ≤ F6 2 1 ∧ F6 2 1 ≤ 2147483647 from H.krg 2 1 (by decide)) (show F6 2 1 = y6_0_1 from ((eF6 2 1).trans ey6_0_1))
  have r8 : HID ((0 : Int) ≤ y6_0_2 ∧ y6_0_2 ≤ 1) := krg_e (show (0 : Int) ≤ F6 2 2 ∧ F6 2 2 ≤ 1 from H.krg 2 2 (by decide)) (show F6 2 2 = y6_0_2 from ((eF6 2 2).trans ey6_0_2))
  have r9 : HID ((-2147483648 : Int) ≤ y6_0_3 ∧ y6_0_3 ≤ 2147483647) := krg_e (show (-2147483648 : Int) ≤ F6 2 3 ∧ F6 2 3 ≤ 2147483647 from H.krg 2 3 (by decide)) (show F6 2 3 = y6_0_3 from ((eF6 2 3).trans ey6_0_3))
  have r10 : HID ((-2147483648 : Int) ≤ y6_0_4 ∧ y6_0_4 ≤ 2147483647) := krg_e (show (-2147483648 : Int) ≤ F6 2 4 ∧ F6 2 4 ≤ 2147483647 from H.krg 2 4 (by decide)) (show F6 2 4 = y6_0_4 from ((eF6 2 4).trans ey6_0_4))
  refine Ew_of (pc' := 65) (fun _ => x_iload_n rfl (rk_o (hl3) rfl rfl)) ?_
  refine w_tsk 0 100 rfl (show inr (0) by omega) (by omega) (by decide) rfl rfl ?_
  refine Ew_of (pc' := 101) (fun _ => x_aload_n rfl (rk_o (hl0) rfl rfl)) ?_
  exact hc101  _ _ _ _ (1) (rk_o (hl0) rfl rfl) (rk_o (hl1) rfl rfl) (rk_o (hl3) rfl rfl) (rk_o (hl4) rfl rfl) (rk_s) H O (SF_trans (SF_refl) (SF_glu (ι := [2]) hS6 eF6 (by decide +kernel)) (any_sub (l' := [(2, 1), (2, 2), (2, 3), (2, 4)]) rfl)) (SA_trans (SA_refl) (SA_glu (ι := [2]) hA6 eA6 (by decide +kernel)) (any_subA (l' := []) rfl))   (y6_0_1) (((eF6 2 1).trans ey6_0_1))  (show inr (1) by omega) (show 0 ≤ (y6_0_1) ∧ (y6_0_1) ≤ (n3) ∧ (n3) ≤ 65536 by have qh0 := HIDe r2; have qh1 := HIDe r7; omega) (show (y6_0_1) = 0 by have qh0 := HIDe r7; omega) (show (1) = 1 by omega)
abbrev V17_vc1 : vV := [(0, 0, [(4, 0), (4, 0), (4, 0), (4, 0), (4, 0), (4, 0), (4, 0), (4, 0), (4, 0), (4, 0), (4, 0), (4, 0), (4, 0), (4, 0), (4, 0), (4, 0), (4, 0), (0, 0), (0, 0)]), (0, 7, [(4, 0), (0, 0), (1, 0), (0, 0), (0, 0)]), (0, 7, [(4, 0), (0, 0), (1, 0), (0, 0), (0, 0)]), (1, 0, [])]
/-- PackHouse.write: this, @F, this.written, this.written.bytes -/
theorem C17_vc1 {σE : rS} {D N : Nat → Nat} {F : hF} {A : hA} {d c s : Nat} {Q : wQ} (H : HW V17_vc1 σE D N F A) {x1 : Int} (pf2 : F 0 5 = (D 2 : Int)) (pf3 : F 2 0 = (D 3 : Int)) (n3 : Int) (en3 : (N 3 : Int) = n3) (u2_1 : Int) (eu2_1 : F 2 1 = u2_1) {ls : rO} (hl0 : rlook ls 0 = some (.ref (D 0))) (hl1 : rlook ls 1 = some (I (x1))) (hl3 : rlook ls 3 = some (I (1))) (hl4 : rlook ls 4 = some (.ref (D 1))) (h0 : inr (x1)) (h1 : 0 ≤ (u2_1) ∧ (u2_1) ≤ (n3) ∧ (n3) ≤ 65536) (hc117 : ∀ (ls : rO) (σ : rS) (F_c117 : hF) (A_c117 : hA) (xc117_5 : Int), rlook ls 0 = some (.ref (D 0)) → rlook ls 1 = some (I (x1)) → rlook ls 3 = some (I (1)) → rlook ls 4 = some (.ref (D 1)) → rlook ls 5 = some (I (xc117_5)) → HW V17_vc1 σ D N F_c117 A_c117 → OUT (V17_vc1).length D N σE c s D N σ c s → SF [(2, 1), (2, 2), (2, 3), (2, 4)] F F_c117 → SA [] A A_c117 → ∀ yc117_2_1 : Int, F_c117 2 1 = yc117_2_1 → (inr (xc117_5)) → (0 ≤ (yc117_2_1) ∧ (yc117_2_1) ≤ (n3) ∧ (n3) ≤ 65536) → ((yc117_2_1) = 0) → ((xc117_5) = 1) → Ew 17 (d + 1) 117 ls [.ref (D 0)] σ c s Q) (k : ∀ (z : Int) (σ : rS) (F' : hF) (A' : hA), HW V17_vc1 σ D N F' A' → OUT (V17_vc1).length D N σE c s D N σ c s → SF [(2, 1), (2, 2), (2, 3), (2, 4)] F F' → SA [] A A' → (inr (z)) → ((0 : Int) = 1) → Q (some (I z)) σ c s) : Ew 17 (d + 1) 54 ls [] σE c s Q := by
  have O := OUT_refl (n := (V17_vc1).length) (D := D) (N := N) (σ := σE) (c := c) (s := s)
  have HE := H
  have r1 : HID ((-2147483648 : Int) ≤ u2_1 ∧ u2_1 ≤ 2147483647) := krg_e (show (-2147483648 : Int) ≤ F 2 1 ∧ F 2 1 ≤ 2147483647 from H.krg 2 1 (by decide)) (show F 2 1 = u2_1 from (eu2_1))
  replace pf2 := HIDm pf2
  replace pf3 := HIDm pf3
  replace en3 := HIDm en3
  replace eu2_1 := HIDm eu2_1
  have r2 : HID ((0 : Int) ≤ n3 ∧ n3 ≤ 1000000) := nrng (H.nle 3 (by decide)) (show (N 3 : Int) = n3 from en3)
  refine Ew_of (pc' := 55) (fun _ => x_iconst rfl) ?_
  refine Ew_of (pc' := 57) (fun _ => x_istore rfl) ?_
  refine Ew_of (pc' := 58) (fun _ => x_aload_n rfl (rk_o (hl0) rfl rfl)) ?_
  refine v_g H (o := 0) (v := .ref (D 2)) rfl rfl rfl rfl rfl (vrf (pf2)) ?_
  have r3 : HID ((0 : Int) ≤ F 2 2 ∧ F 2 2 ≤ 1) := krg_e (show (0 : Int) ≤ F 2 2 ∧ F 2 2 ≤ 1 from H.krg 2 2 (by decide)) (show F 2 2 = F 2 2 from rfl)
  have r4 : HID ((-2147483648 : Int) ≤ F 2 3 ∧ F 2 3 ≤ 2147483647) := krg_e (show (-2147483648 : Int) ≤ F 2 3 ∧ F 2 3 ≤ 2147483647 from H.krg 2 3 (by decide)) (show F 2 3 = F 2 3 from rfl)
  have r5 : HID ((-2147483648 : Int) ≤ F 2 4 ∧ F 2 4 ≤ 2147483647) := krg_e (show (-2147483648 : Int) ≤ F 2 4 ∧ F 2 4 ≤ 2147483647 from H.krg 2 4 (by decide)) (show F 2 4 = F 2 4 from rfl)
  refine v_inv H (o := 2) rfl rfl rfl rfl rfl rfl (by rfl) (C156h (D := pul [2] D) (N := pul [2] N) (HW_sub H (VS_of (show vsub V17_vc1 V156 [2] = true by decide +kernel))) (u2_1) ((eu2_1)) (F 2 2) (rfl) (F 2 3) (rfl) (F 2 4) (rfl)  (fun σ6 F6' A6' H' O' hS6 hA6 y6_0_1 ey6_0_1 y6_0_2 ey6_0_2 y6_0_3 ey6_0_3 y6_0_4 ey6_0_4 pz6_0 pz6_1 => ⟨rfl, ?_⟩))
  replace ey6_0_1 := HIDm ey6_0_1
  replace ey6_0_2 := HIDm ey6_0_2
  replace ey6_0_3 := HIDm ey6_0_3
  replace ey6_0_4 := HIDm ey6_0_4
  refine v_back (c := c) (s := s) H (show vsub V17_vc1 V156 [2] = true by decide +kernel) H' O' (fun F6 A6 H O' eF6 eA6 => ?_)
  have O := OUT_trans O O'
  -- Row.clear
  have r7 : HID ((-2147483648 : Int) ≤ y6_0_1 ∧ y6_0_1 ≤ 2147483647) := krg_e (show (-2147483648 : Int) ≤ F6 2 1 ∧ F6 2 1 ≤ 2147483647 from H.krg 2 1 (by decide)) (show F6 2 1 = y6_0_1 from ((eF6 2 1).trans ey6_0_1))
  have r8 : HID ((0 : Int) ≤ y6_0_2 ∧ y6_0_2 ≤ 1) := krg_e (show (0 : Int) ≤ F6 2 2 ∧ F6 2 2 ≤ 1 from H.krg 2 2 (by decide)) (show F6 2 2 = y6_0_2 from ((eF6 2 2).trans ey6_0_2))
  have r9 : HID ((-2147483648 : Int) ≤ y6_0_3 ∧ y6_0_3 ≤ 2147483647) := krg_e (show (-2147483648 : Int) ≤ F6 2 3 ∧ F6 2 3 ≤ 2147483647 from H.krg 2 3 (by decide)) (show F6 2 3 = y6_0_3 from ((eF6 2 3).trans ey6_0_3))
  have r10 : HID ((-2147483648 : Int) ≤ y6_0_4 ∧ y6_0_4 ≤ 2147483647) := krg_e (show (-2147483648 : Int) ≤ F6 2 4 ∧ F6 2 4 ≤ 2147483647 from H.krg 2 4 (by decide)) (show F6 2 4 = y6_0_4 from ((eF6 2 4).trans ey6_0_4))
  refine Ew_of (pc' := 65) (fun _ => x_iload_n rfl (rk_o (hl3) rfl rfl)) ?_
  refine w_tsk 1 116 rfl (show inr (1) by omega) (by omega) (by decide) rfl rfl ?_
  refine Ew_of (pc' := 117) (fun _ => x_aload_n rfl (rk_o (hl0) rfl rfl)) ?_
  exact hc117  _ _ _ _ (1) (rk_o (hl0) rfl rfl) (rk_o (hl1) rfl rfl) (rk_o (hl3) rfl rfl) (rk_o (hl4) rfl rfl) (rk_s) H O (SF_trans (SF_refl) (SF_glu (ι := [2]) hS6 eF6 (by decide +kernel)) (any_sub (l' := [(2, 1), (2, 2), (2, 3), (2, 4)]) rfl)) (SA_trans (SA_refl) (SA_glu (ι := [2]) hA6 eA6 (by decide +kernel)) (any_subA (l' := []) rfl))   (y6_0_1) (((eF6 2 1).trans ey6_0_1))  (show inr (1) by omega) (show 0 ≤ (y6_0_1) ∧ (y6_0_1) ≤ (n3) ∧ (n3) ≤ 65536 by have qh0 := HIDe r2; have qh1 := HIDe r7; omega) (show (y6_0_1) = 0 by have qh0 := HIDe r7; omega) (show (1) = 1 by omega)
abbrev V17_vc2 : vV := [(0, 0, [(4, 0), (4, 0), (4, 0), (4, 0), (4, 0), (4, 0), (4, 0), (4, 0), (4, 0), (4, 0), (4, 0), (4, 0), (4, 0), (4, 0), (4, 0), (4, 0), (4, 0), (0, 0), (0, 0)]), (0, 7, [(4, 0), (0, 0), (1, 0), (0, 0), (0, 0)]), (0, 7, [(4, 0), (0, 0), (1, 0), (0, 0), (0, 0)]), (1, 0, [])]
/-- PackHouse.write: this, @F, this.written, this.written.bytes -/
theorem C17_vc2 {σE : rS} {D N : Nat → Nat} {F : hF} {A : hA} {d c s : Nat} {Q : wQ} (H : HW V17_vc2 σE D N F A) {x1 : Int} (pf2 : F 0 5 = (D 2 : Int)) (pf3 : F 2 0 = (D 3 : Int)) (n3 : Int) (en3 : (N 3 : Int) = n3) (u2_1 : Int) (eu2_1 : F 2 1 = u2_1) {ls : rO} (hl0 : rlook ls 0 = some (.ref (D 0))) (hl1 : rlook ls 1 = some (I (x1))) (hl3 : rlook ls 3 = some (I (2))) (hl4 : rlook ls 4 = some (.ref (D 1))) (h0 : inr (x1)) (h1 : 0 ≤ (u2_1) ∧ (u2_1) ≤ (n3) ∧ (n3) ≤ 65536) (hc133 : ∀ (ls : rO) (σ : rS) (F_c133 : hF) (A_c133 : hA) (xc133_5 : Int), rlook ls 0 = some (.ref (D 0)) → rlook ls 1 = some (I (x1)) → rlook ls 3 = some (I (2)) → rlook ls 4 = some (.ref (D 1)) → rlook ls 5 = some (I (xc133_5)) → HW V17_vc2 σ D N F_c133 A_c133 → OUT (V17_vc2).length D N σE c s D N σ c s → SF [(2, 1), (2, 2), (2, 3), (2, 4)] F F_c133 → SA [] A A_c133 → ∀ yc133_2_1 : Int, F_c133 2 1 = yc133_2_1 → (inr (xc133_5)) → (0 ≤ (yc133_2_1) ∧ (yc133_2_1) ≤ (n3) ∧ (n3) ≤ 65536) → ((yc133_2_1) = 0) → ((xc133_5) = 1) → Ew 17 (d + 1) 133 ls [.ref (D 0)] σ c s Q) (k : ∀ (z : Int) (σ : rS) (F' : hF) (A' : hA), HW V17_vc2 σ D N F' A' → OUT (V17_vc2).length D N σE c s D N σ c s → SF [(2, 1), (2, 2), (2, 3), (2, 4)] F F' → SA [] A A' → (inr (z)) → ((0 : Int) = 1) → Q (some (I z)) σ c s) : Ew 17 (d + 1) 54 ls [] σE c s Q := by
  have O := OUT_refl (n := (V17_vc2).length) (D := D) (N := N) (σ := σE) (c := c) (s := s)
  have HE := H
  have r1 : HID ((-2147483648 : Int) ≤ u2_1 ∧ u2_1 ≤ 2147483647) := krg_e (show (-2147483648 : Int) ≤ F 2 1 ∧ F 2 1 ≤ 2147483647 from H.krg 2 1 (by decide)) (show F 2 1 = u2_1 from (eu2_1))
  replace pf2 := HIDm pf2
  replace pf3 := HIDm pf3
  replace en3 := HIDm en3
  replace eu2_1 := HIDm eu2_1
  have r2 : HID ((0 : Int) ≤ n3 ∧ n3 ≤ 1000000) := nrng (H.nle 3 (by decide)) (show (N 3 : Int) = n3 from en3)
  refine Ew_of (pc' := 55) (fun _ => x_iconst rfl) ?_
  refine Ew_of (pc' := 57) (fun _ => x_istore rfl) ?_
  refine Ew_of (pc' := 58) (fun _ => x_aload_n rfl (rk_o (hl0) rfl rfl)) ?_
  refine v_g H (o := 0) (v := .ref (D 2)) rfl rfl rfl rfl rfl (vrf (pf2)) ?_
  have r3 : HID ((0 : Int) ≤ F 2 2 ∧ F 2 2 ≤ 1) := krg_e (show (0 : Int) ≤ F 2 2 ∧ F 2 2 ≤ 1 from H.krg 2 2 (by decide)) (show F 2 2 = F 2 2 from rfl)
  have r4 : HID ((-2147483648 : Int) ≤ F 2 3 ∧ F 2 3 ≤ 2147483647) := krg_e (show (-2147483648 : Int) ≤ F 2 3 ∧ F 2 3 ≤ 2147483647 from H.krg 2 3 (by decide)) (show F 2 3 = F 2 3 from rfl)
  have r5 : HID ((-2147483648 : Int) ≤ F 2 4 ∧ F 2 4 ≤ 2147483647) := krg_e (show (-2147483648 : Int) ≤ F 2 4 ∧ F 2 4 ≤ 2147483647 from H.krg 2 4 (by decide)) (show F 2 4 = F 2 4 from rfl)
  refine v_inv H (o := 2) rfl rfl rfl rfl rfl rfl (by rfl) (C156h (D := pul [2] D) (N := pul [2] N) (HW_sub H (VS_of (show vsub V17_vc2 V156 [2] = true by decide +kernel))) (u2_1) ((eu2_1)) (F 2 2) (rfl) (F 2 3) (rfl) (F 2 4) (rfl)  (fun σ6 F6' A6' H' O' hS6 hA6 y6_0_1 ey6_0_1 y6_0_2 ey6_0_2 y6_0_3 ey6_0_3 y6_0_4 ey6_0_4 pz6_0 pz6_1 => ⟨rfl, ?_⟩))
  replace ey6_0_1 := HIDm ey6_0_1
  replace ey6_0_2 := HIDm ey6_0_2
  replace ey6_0_3 := HIDm ey6_0_3
  replace ey6_0_4 := HIDm ey6_0_4
  refine v_back (c := c) (s := s) H (show vsub V17_vc2 V156 [2] = true by decide +kernel) H' O' (fun F6 A6 H O' eF6 eA6 => ?_)
  have O := OUT_trans O O'
  -- Row.clear
  have r7 : HID ((-2147483648 : Int) ≤ y6_0_1 ∧ y6_0_1 ≤ 2147483647) := krg_e (show (-2147483648 : Int) ≤ F6 2 1 ∧ F6 2 1 ≤ 2147483647 from H.krg 2 1 (by decide)) (show F6 2 1 = y6_0_1 from ((eF6 2 1).trans ey6_0_1))
  have r8 : HID ((0 : Int) ≤ y6_0_2 ∧ y6_0_2 ≤ 1) := krg_e (show (0 : Int) ≤ F6 2 2 ∧ F6 2 2 ≤ 1 from H.krg 2 2 (by decide)) (show F6 2 2 = y6_0_2 from ((eF6 2 2).trans ey6_0_2))
  have r9 : HID ((-2147483648 : Int) ≤ y6_0_3 ∧ y6_0_3 ≤ 2147483647) := krg_e (show (-2147483648 : Int) ≤ F6 2 3 ∧ F6 2 3 ≤ 2147483647 from H.krg 2 3 (by decide)) (show F6 2 3 = y6_0_3 from ((eF6 2 3).trans ey6_0_3))
  have r10 : HID ((-2147483648 : Int) ≤ y6_0_4 ∧ y6_0_4 ≤ 2147483647) := krg_e (show (-2147483648 : Int) ≤ F6 2 4 ∧ F6 2 4 ≤ 2147483647 from H.krg 2 4 (by decide)) (show F6 2 4 = y6_0_4 from ((eF6 2 4).trans ey6_0_4))
  refine Ew_of (pc' := 65) (fun _ => x_iload_n rfl (rk_o (hl3) rfl rfl)) ?_
  refine w_tsk 2 132 rfl (show inr (2) by omega) (by omega) (by decide) rfl rfl ?_
  refine Ew_of (pc' := 133) (fun _ => x_aload_n rfl (rk_o (hl0) rfl rfl)) ?_
  exact hc133  _ _ _ _ (1) (rk_o (hl0) rfl rfl) (rk_o (hl1) rfl rfl) (rk_o (hl3) rfl rfl) (rk_o (hl4) rfl rfl) (rk_s) H O (SF_trans (SF_refl) (SF_glu (ι := [2]) hS6 eF6 (by decide +kernel)) (any_sub (l' := [(2, 1), (2, 2), (2, 3), (2, 4)]) rfl)) (SA_trans (SA_refl) (SA_glu (ι := [2]) hA6 eA6 (by decide +kernel)) (any_subA (l' := []) rfl))   (y6_0_1) (((eF6 2 1).trans ey6_0_1))  (show inr (1) by omega) (show 0 ≤ (y6_0_1) ∧ (y6_0_1) ≤ (n3) ∧ (n3) ≤ 65536 by have qh0 := HIDe r2; have qh1 := HIDe r7; omega) (show (y6_0_1) = 0 by have qh0 := HIDe r7; omega) (show (1) = 1 by omega)
abbrev V17_vc3 : vV := [(0, 0, [(4, 0), (4, 0), (4, 0), (4, 0), (4, 0), (4, 0), (4, 0), (4, 0), (4, 0), (4, 0), (4, 0), (4, 0), (4, 0), (4, 0), (4, 0), (4, 0), (4, 0), (0, 0), (0, 0)]), (0, 7, [(4, 0), (0, 0), (1, 0), (0, 0), (0, 0)]), (0, 7, [(4, 0), (0, 0), (1, 0), (0, 0), (0, 0)]), (1, 0, [])]
/-- PackHouse.write: this, @F, this.written, this.written.bytes -/
theorem C17_vc3 {σE : rS} {D N : Nat → Nat} {F : hF} {A : hA} {d c s : Nat} {Q : wQ} (H : HW V17_vc3 σE D N F A) {x1 : Int} (pf2 : F 0 5 = (D 2 : Int)) (pf3 : F 2 0 = (D 3 : Int)) (n3 : Int) (en3 : (N 3 : Int) = n3) (u2_1 : Int) (eu2_1 : F 2 1 = u2_1) {ls : rO} (hl0 : rlook ls 0 = some (.ref (D 0))) (hl1 : rlook ls 1 = some (I (x1))) (hl3 : rlook ls 3 = some (I (3))) (hl4 : rlook ls 4 = some (.ref (D 1))) (h0 : inr (x1)) (h1 : 0 ≤ (u2_1) ∧ (u2_1) ≤ (n3) ∧ (n3) ≤ 65536) (hc149 : ∀ (ls : rO) (σ : rS) (F_c149 : hF) (A_c149 : hA) (xc149_5 : Int), rlook ls 0 = some (.ref (D 0)) → rlook ls 1 = some (I (x1)) → rlook ls 3 = some (I (3)) → rlook ls 4 = some (.ref (D 1)) → rlook ls 5 = some (I (xc149_5)) → HW V17_vc3 σ D N F_c149 A_c149 → OUT (V17_vc3).length D N σE c s D N σ c s → SF [(2, 1), (2, 2), (2, 3), (2, 4)] F F_c149 → SA [] A A_c149 → ∀ yc149_2_1 : Int, F_c149 2 1 = yc149_2_1 → (inr (xc149_5)) → (0 ≤ (yc149_2_1) ∧ (yc149_2_1) ≤ (n3) ∧ (n3) ≤ 65536) → ((yc149_2_1) = 0) → ((xc149_5) = 1) → Ew 17 (d + 1) 149 ls [.ref (D 0)] σ c s Q) (k : ∀ (z : Int) (σ : rS) (F' : hF) (A' : hA), HW V17_vc3 σ D N F' A' → OUT (V17_vc3).length D N σE c s D N σ c s → SF [(2, 1), (2, 2), (2, 3), (2, 4)] F F' → SA [] A A' → (inr (z)) → ((0 : Int) = 1) → Q (some (I z)) σ c s) : Ew 17 (d + 1) 54 ls [] σE c s Q := by
  have O := OUT_refl (n := (V17_vc3).length) (D := D) (N := N) (σ := σE) (c := c) (s := s)
  have HE := H
  have r1 : HID ((-2147483648 : Int) ≤ u2_1 ∧ u2_1 ≤ 2147483647) := krg_e (show (-2147483648 : Int) ≤ F 2 1 ∧ F 2 1 ≤ 2147483647 from H.krg 2 1 (by decide)) (show F 2 1 = u2_1 from (eu2_1))
  replace pf2 := HIDm pf2
  replace pf3 := HIDm pf3
  replace en3 := HIDm en3
  replace eu2_1 := HIDm eu2_1
  have r2 : HID ((0 : Int) ≤ n3 ∧ n3 ≤ 1000000) := nrng (H.nle 3 (by decide)) (show (N 3 : Int) = n3 from en3)
  refine Ew_of (pc' := 55) (fun _ => x_iconst rfl) ?_
  refine Ew_of (pc' := 57) (fun _ => x_istore rfl) ?_
  refine Ew_of (pc' := 58) (fun _ => x_aload_n rfl (rk_o (hl0) rfl rfl)) ?_
  refine v_g H (o := 0) (v := .ref (D 2)) rfl rfl rfl rfl rfl (vrf (pf2)) ?_
  have r3 : HID ((0 : Int) ≤ F 2 2 ∧ F 2 2 ≤ 1) := krg_e (show (0 : Int) ≤ F 2 2 ∧ F 2 2 ≤ 1 from H.krg 2 2 (by decide)) (show F 2 2 = F 2 2 from rfl)
  have r4 : HID ((-2147483648 : Int) ≤ F 2 3 ∧ F 2 3 ≤ 2147483647) := krg_e (show (-2147483648 : Int) ≤ F 2 3 ∧ F 2 3 ≤ 2147483647 from H.krg 2 3 (by decide)) (show F 2 3 = F 2 3 from rfl)
  have r5 : HID ((-2147483648 : Int) ≤ F 2 4 ∧ F 2 4 ≤ 2147483647) := krg_e (show (-2147483648 : Int) ≤ F 2 4 ∧ F 2 4 ≤ 2147483647 from H.krg 2 4 (by decide)) (show F 2 4 = F 2 4 from rfl)
  refine v_inv H (o := 2) rfl rfl rfl rfl rfl rfl (by rfl) (C156h (D := pul [2] D) (N := pul [2] N) (HW_sub H (VS_of (show vsub V17_vc3 V156 [2] = true by decide +kernel))) (u2_1) ((eu2_1)) (F 2 2) (rfl) (F 2 3) (rfl) (F 2 4) (rfl)  (fun σ6 F6' A6' H' O' hS6 hA6 y6_0_1 ey6_0_1 y6_0_2 ey6_0_2 y6_0_3 ey6_0_3 y6_0_4 ey6_0_4 pz6_0 pz6_1 => ⟨rfl, ?_⟩))
  replace ey6_0_1 := HIDm ey6_0_1
  replace ey6_0_2 := HIDm ey6_0_2
  replace ey6_0_3 := HIDm ey6_0_3
  replace ey6_0_4 := HIDm ey6_0_4
  refine v_back (c := c) (s := s) H (show vsub V17_vc3 V156 [2] = true by decide +kernel) H' O' (fun F6 A6 H O' eF6 eA6 => ?_)
  have O := OUT_trans O O'
  -- Row.clear
  have r7 : HID ((-2147483648 : Int) ≤ y6_0_1 ∧ y6_0_1 ≤ 2147483647) := krg_e (show (-2147483648 : Int) ≤ F6 2 1 ∧ F6 2 1 ≤ 2147483647 from H.krg 2 1 (by decide)) (show F6 2 1 = y6_0_1 from ((eF6 2 1).trans ey6_0_1))
  have r8 : HID ((0 : Int) ≤ y6_0_2 ∧ y6_0_2 ≤ 1) := krg_e (show (0 : Int) ≤ F6 2 2 ∧ F6 2 2 ≤ 1 from H.krg 2 2 (by decide)) (show F6 2 2 = y6_0_2 from ((eF6 2 2).trans ey6_0_2))
  have r9 : HID ((-2147483648 : Int) ≤ y6_0_3 ∧ y6_0_3 ≤ 2147483647) := krg_e (show (-2147483648 : Int) ≤ F6 2 3 ∧ F6 2 3 ≤ 2147483647 from H.krg 2 3 (by decide)) (show F6 2 3 = y6_0_3 from ((eF6 2 3).trans ey6_0_3))
  have r10 : HID ((-2147483648 : Int) ≤ y6_0_4 ∧ y6_0_4 ≤ 2147483647) := krg_e (show (-2147483648 : Int) ≤ F6 2 4 ∧ F6 2 4 ≤ 2147483647 from H.krg 2 4 (by decide)) (show F6 2 4 = y6_0_4 from ((eF6 2 4).trans ey6_0_4))
  refine Ew_of (pc' := 65) (fun _ => x_iload_n rfl (rk_o (hl3) rfl rfl)) ?_
  refine w_tsk 3 148 rfl (show inr (3) by omega) (by omega) (by decide) rfl rfl ?_
  refine Ew_of (pc' := 149) (fun _ => x_aload_n rfl (rk_o (hl0) rfl rfl)) ?_
  exact hc149  _ _ _ _ (1) (rk_o (hl0) rfl rfl) (rk_o (hl1) rfl rfl) (rk_o (hl3) rfl rfl) (rk_o (hl4) rfl rfl) (rk_s) H O (SF_trans (SF_refl) (SF_glu (ι := [2]) hS6 eF6 (by decide +kernel)) (any_sub (l' := [(2, 1), (2, 2), (2, 3), (2, 4)]) rfl)) (SA_trans (SA_refl) (SA_glu (ι := [2]) hA6 eA6 (by decide +kernel)) (any_subA (l' := []) rfl))   (y6_0_1) (((eF6 2 1).trans ey6_0_1))  (show inr (1) by omega) (show 0 ≤ (y6_0_1) ∧ (y6_0_1) ≤ (n3) ∧ (n3) ≤ 65536 by have qh0 := HIDe r2; have qh1 := HIDe r7; omega) (show (y6_0_1) = 0 by have qh0 := HIDe r7; omega) (show (1) = 1 by omega)
abbrev V17_vc4 : vV := [(0, 0, [(4, 0), (4, 0), (4, 0), (4, 0), (4, 0), (4, 0), (4, 0), (4, 0), (4, 0), (4, 0), (4, 0), (4, 0), (4, 0), (4, 0), (4, 0), (4, 0), (4, 0), (0, 0), (0, 0)]), (0, 7, [(4, 0), (0, 0), (1, 0), (0, 0), (0, 0)]), (0, 7, [(4, 0), (0, 0), (1, 0), (0, 0), (0, 0)]), (1, 0, [])]
/-- PackHouse.write: this, @F, this.written, this.written.bytes -/
theorem C17_vc4 {σE : rS} {D N : Nat → Nat} {F : hF} {A : hA} {d c s : Nat} {Q : wQ} (H : HW V17_vc4 σE D N F A) {x1 : Int} (pf2 : F 0 5 = (D 2 : Int)) (pf3 : F 2 0 = (D 3 : Int)) (n3 : Int) (en3 : (N 3 : Int) = n3) (u2_1 : Int) (eu2_1 : F 2 1 = u2_1) {ls : rO} (hl0 : rlook ls 0 = some (.ref (D 0))) (hl1 : rlook ls 1 = some (I (x1))) (hl3 : rlook ls 3 = some (I (4))) (hl4 : rlook ls 4 = some (.ref (D 1))) (h0 : inr (x1)) (h1 : 0 ≤ (u2_1) ∧ (u2_1) ≤ (n3) ∧ (n3) ≤ 65536) (hc165 : ∀ (ls : rO) (σ : rS) (F_c165 : hF) (A_c165 : hA) (xc165_5 : Int), rlook ls 0 = some (.ref (D 0)) → rlook ls 1 = some (I (x1)) → rlook ls 3 = some (I (4)) → rlook ls 4 = some (.ref (D 1)) → rlook ls 5 = some (I (xc165_5)) → HW V17_vc4 σ D N F_c165 A_c165 → OUT (V17_vc4).length D N σE c s D N σ c s → SF [(2, 1), (2, 2), (2, 3), (2, 4)] F F_c165 → SA [] A A_c165 → ∀ yc165_2_1 : Int, F_c165 2 1 = yc165_2_1 → (inr (xc165_5)) → (0 ≤ (yc165_2_1) ∧ (yc165_2_1) ≤ (n3) ∧ (n3) ≤ 65536) → ((yc165_2_1) = 0) → ((xc165_5) = 1) → Ew 17 (d + 1) 165 ls [.ref (D 0)] σ c s Q) (k : ∀ (z : Int) (σ : rS) (F' : hF) (A' : hA), HW V17_vc4 σ D N F' A' → OUT (V17_vc4).length D N σE c s D N σ c s → SF [(2, 1), (2, 2), (2, 3), (2, 4)] F F' → SA [] A A' → (inr (z)) → ((0 : Int) = 1) → Q (some (I z)) σ c s) : Ew 17 (d + 1) 54 ls [] σE c s Q := by
  have O := OUT_refl (n := (V17_vc4).length) (D := D) (N := N) (σ := σE) (c := c) (s := s)
  have HE := H
  have r1 : HID ((-2147483648 : Int) ≤ u2_1 ∧ u2_1 ≤ 2147483647) := krg_e (show (-2147483648 : Int) ≤ F 2 1 ∧ F 2 1 ≤ 2147483647 from H.krg 2 1 (by decide)) (show F 2 1 = u2_1 from (eu2_1))
  replace pf2 := HIDm pf2
  replace pf3 := HIDm pf3
  replace en3 := HIDm en3
  replace eu2_1 := HIDm eu2_1
  have r2 : HID ((0 : Int) ≤ n3 ∧ n3 ≤ 1000000) := nrng (H.nle 3 (by decide)) (show (N 3 : Int) = n3 from en3)
  refine Ew_of (pc' := 55) (fun _ => x_iconst rfl) ?_
  refine Ew_of (pc' := 57) (fun _ => x_istore rfl) ?_
  refine Ew_of (pc' := 58) (fun _ => x_aload_n rfl (rk_o (hl0) rfl rfl)) ?_
  refine v_g H (o := 0) (v := .ref (D 2)) rfl rfl rfl rfl rfl (vrf (pf2)) ?_
  have r3 : HID ((0 : Int) ≤ F 2 2 ∧ F 2 2 ≤ 1) := krg_e (show (0 : Int) ≤ F 2 2 ∧ F 2 2 ≤ 1 from H.krg 2 2 (by decide)) (show F 2 2 = F 2 2 from rfl)
  have r4 : HID ((-2147483648 : Int) ≤ F 2 3 ∧ F 2 3 ≤ 2147483647) := krg_e (show (-2147483648 : Int) ≤ F 2 3 ∧ F 2 3 ≤ 2147483647 from H.krg 2 3 (by decide)) (show F 2 3 = F 2 3 from rfl)
  have r5 : HID ((-2147483648 : Int) ≤ F 2 4 ∧ F 2 4 ≤ 2147483647) := krg_e (show (-2147483648 : Int) ≤ F 2 4 ∧ F 2 4 ≤ 2147483647 from H.krg 2 4 (by decide)) (show F 2 4 = F 2 4 from rfl)
  refine v_inv H (o := 2) rfl rfl rfl rfl rfl rfl (by rfl) (C156h (D := pul [2] D) (N := pul [2] N) (HW_sub H (VS_of (show vsub V17_vc4 V156 [2] = true by decide +kernel))) (u2_1) ((eu2_1)) (F 2 2) (rfl) (F 2 3) (rfl) (F 2 4) (rfl)  (fun σ6 F6' A6' H' O' hS6 hA6 y6_0_1 ey6_0_1 y6_0_2 ey6_0_2 y6_0_3 ey6_0_3 y6_0_4 ey6_0_4 pz6_0 pz6_1 => ⟨rfl, ?_⟩))
  replace ey6_0_1 := HIDm ey6_0_1
  replace ey6_0_2 := HIDm ey6_0_2
  replace ey6_0_3 := HIDm ey6_0_3
  replace ey6_0_4 := HIDm ey6_0_4
  refine v_back (c := c) (s := s) H (show vsub V17_vc4 V156 [2] = true by decide +kernel) H' O' (fun F6 A6 H O' eF6 eA6 => ?_)
  have O := OUT_trans O O'
  -- Row.clear
  have r7 : HID ((-2147483648 : Int) ≤ y6_0_1 ∧ y6_0_1 ≤ 2147483647) := krg_e (show (-2147483648 : Int) ≤ F6 2 1 ∧ F6 2 1 ≤ 2147483647 from H.krg 2 1 (by decide)) (show F6 2 1 = y6_0_1 from ((eF6 2 1).trans ey6_0_1))
  have r8 : HID ((0 : Int) ≤ y6_0_2 ∧ y6_0_2 ≤ 1) := krg_e (show (0 : Int) ≤ F6 2 2 ∧ F6 2 2 ≤ 1 from H.krg 2 2 (by decide)) (show F6 2 2 = y6_0_2 from ((eF6 2 2).trans ey6_0_2))
  have r9 : HID ((-2147483648 : Int) ≤ y6_0_3 ∧ y6_0_3 ≤ 2147483647) := krg_e (show (-2147483648 : Int) ≤ F6 2 3 ∧ F6 2 3 ≤ 2147483647 from H.krg 2 3 (by decide)) (show F6 2 3 = y6_0_3 from ((eF6 2 3).trans ey6_0_3))
  have r10 : HID ((-2147483648 : Int) ≤ y6_0_4 ∧ y6_0_4 ≤ 2147483647) := krg_e (show (-2147483648 : Int) ≤ F6 2 4 ∧ F6 2 4 ≤ 2147483647 from H.krg 2 4 (by decide)) (show F6 2 4 = y6_0_4 from ((eF6 2 4).trans ey6_0_4))
  refine Ew_of (pc' := 65) (fun _ => x_iload_n rfl (rk_o (hl3) rfl rfl)) ?_
  refine w_tsk 4 164 rfl (show inr (4) by omega) (by omega) (by decide) rfl rfl ?_
  refine Ew_of (pc' := 165) (fun _ => x_aload_n rfl (rk_o (hl0) rfl rfl)) ?_
  exact hc165  _ _ _ _ (1) (rk_o (hl0) rfl rfl) (rk_o (hl1) rfl rfl) (rk_o (hl3) rfl rfl) (rk_o (hl4) rfl rfl) (rk_s) H O (SF_trans (SF_refl) (SF_glu (ι := [2]) hS6 eF6 (by decide +kernel)) (any_sub (l' := [(2, 1), (2, 2), (2, 3), (2, 4)]) rfl)) (SA_trans (SA_refl) (SA_glu (ι := [2]) hA6 eA6 (by decide +kernel)) (any_subA (l' := []) rfl))   (y6_0_1) (((eF6 2 1).trans ey6_0_1))  (show inr (1) by omega) (show 0 ≤ (y6_0_1) ∧ (y6_0_1) ≤ (n3) ∧ (n3) ≤ 65536 by have qh0 := HIDe r2; have qh1 := HIDe r7; omega) (show (y6_0_1) = 0 by have qh0 := HIDe r7; omega) (show (1) = 1 by omega)
abbrev V17_vc5 : vV := [(0, 0, [(4, 0), (4, 0), (4, 0), (4, 0), (4, 0), (4, 0), (4, 0), (4, 0), (4, 0), (4, 0), (4, 0), (4, 0), (4, 0), (4, 0), (4, 0), (4, 0), (4, 0), (0, 0), (0, 0)]), (0, 7, [(4, 0), (0, 0), (1, 0), (0, 0), (0, 0)]), (0, 7, [(4, 0), (0, 0), (1, 0), (0, 0), (0, 0)]), (1, 0, [])]
/-- PackHouse.write: this, @F, this.written, this.written.bytes -/
theorem C17_vc5 {σE : rS} {D N : Nat → Nat} {F : hF} {A : hA} {d c s : Nat} {Q : wQ} (H : HW V17_vc5 σE D N F A) {x1 : Int} (pf2 : F 0 5 = (D 2 : Int)) (pf3 : F 2 0 = (D 3 : Int)) (n3 : Int) (en3 : (N 3 : Int) = n3) (u2_1 : Int) (eu2_1 : F 2 1 = u2_1) {ls : rO} (hl0 : rlook ls 0 = some (.ref (D 0))) (hl1 : rlook ls 1 = some (I (x1))) (hl3 : rlook ls 3 = some (I (5))) (hl4 : rlook ls 4 = some (.ref (D 1))) (h0 : inr (x1)) (h1 : 0 ≤ (u2_1) ∧ (u2_1) ≤ (n3) ∧ (n3) ≤ 65536) (hc185 : ∀ (ls : rO) (σ : rS) (F_c185 : hF) (A_c185 : hA) , rlook ls 0 = some (.ref (D 0)) → rlook ls 1 = some (I (x1)) → rlook ls 3 = some (I (5)) → rlook ls 4 = some (.ref (D 1)) → HW V17_vc5 σ D N F_c185 A_c185 → OUT (V17_vc5).length D N σE c s D N σ c s → SF [(2, 1), (2, 2), (2, 3), (2, 4)] F F_c185 → SA [] A A_c185 → ∀ yc185_2_1 : Int, F_c185 2 1 = yc185_2_1 → ∀ yc185_2_4 : Int, F_c185 2 4 = yc185_2_4 → (0 ≤ (yc185_2_1) ∧ (yc185_2_1) ≤ (n3) ∧ (n3) ≤ 65536) → ((yc185_2_1) = 0) → ((yc185_2_4) = 0) → Ew 17 (d + 1) 185 ls [.ref (D 0)] σ c s Q) (k : ∀ (z : Int) (σ : rS) (F' : hF) (A' : hA), HW V17_vc5 σ D N F' A' → OUT (V17_vc5).length D N σE c s D N σ c s → SF [(2, 1), (2, 2), (2, 3), (2, 4)] F F' → SA [] A A' → (inr (z)) → ((0 : Int) = 1) → Q (some (I z)) σ c s) : Ew 17 (d + 1) 54 ls [] σE c s Q := by
  have O := OUT_refl (n := (V17_vc5).length) (D := D) (N := N) (σ := σE) (c := c) (s := s)
  have HE := H
  have r1 : HID ((-2147483648 : Int) ≤ u2_1 ∧ u2_1 ≤ 2147483647) := krg_e (show (-2147483648 : Int) ≤ F 2 1 ∧ F 2 1 ≤ 2147483647 from H.krg 2 1 (by decide)) (show F 2 1 = u2_1 from (eu2_1))
  replace pf2 := HIDm pf2
  replace pf3 := HIDm pf3
  replace en3 := HIDm en3
  replace eu2_1 := HIDm eu2_1
  have r2 : HID ((0 : Int) ≤ n3 ∧ n3 ≤ 1000000) := nrng (H.nle 3 (by decide)) (show (N 3 : Int) = n3 from en3)
  have r3 : HID ((-2147483648 : Int) ≤ F 2 4 ∧ F 2 4 ≤ 2147483647) := krg_e (show (-2147483648 : Int) ≤ F 2 4 ∧ F 2 4 ≤ 2147483647 from H.krg 2 4 (by decide)) (show F 2 4 = F 2 4 from rfl)
  refine Ew_of (pc' := 55) (fun _ => x_iconst rfl) ?_
  refine Ew_of (pc' := 57) (fun _ => x_istore rfl) ?_
  refine Ew_of (pc' := 58) (fun _ => x_aload_n rfl (rk_o (hl0) rfl rfl)) ?_
  refine v_g H (o := 0) (v := .ref (D 2)) rfl rfl rfl rfl rfl (vrf (pf2)) ?_
  have r4 : HID ((0 : Int) ≤ F 2 2 ∧ F 2 2 ≤ 1) := krg_e (show (0 : Int) ≤ F 2 2 ∧ F 2 2 ≤ 1 from H.krg 2 2 (by decide)) (show F 2 2 = F 2 2 from rfl)
  have r5 : HID ((-2147483648 : Int) ≤ F 2 3 ∧ F 2 3 ≤ 2147483647) := krg_e (show (-2147483648 : Int) ≤ F 2 3 ∧ F 2 3 ≤ 2147483647 from H.krg 2 3 (by decide)) (show F 2 3 = F 2 3 from rfl)
  refine v_inv H (o := 2) rfl rfl rfl rfl rfl rfl (by rfl) (C156h (D := pul [2] D) (N := pul [2] N) (HW_sub H (VS_of (show vsub V17_vc5 V156 [2] = true by decide +kernel))) (u2_1) ((eu2_1)) (F 2 2) (rfl) (F 2 3) (rfl) (F 2 4) (rfl)  (fun σ6 F6' A6' H' O' hS6 hA6 y6_0_1 ey6_0_1 y6_0_2 ey6_0_2 y6_0_3 ey6_0_3 y6_0_4 ey6_0_4 pz6_0 pz6_1 => ⟨rfl, ?_⟩))
  replace ey6_0_1 := HIDm ey6_0_1
  replace ey6_0_2 := HIDm ey6_0_2
  replace ey6_0_3 := HIDm ey6_0_3
  replace ey6_0_4 := HIDm ey6_0_4
  refine v_back (c := c) (s := s) H (show vsub V17_vc5 V156 [2] = true by decide +kernel) H' O' (fun F6 A6 H O' eF6 eA6 => ?_)
  have O := OUT_trans O O'
  -- Row.clear
  have r7 : HID ((-2147483648 : Int) ≤ y6_0_1 ∧ y6_0_1 ≤ 2147483647) := krg_e (show (-2147483648 : Int) ≤ F6 2 1 ∧ F6 2 1 ≤ 2147483647 from H.krg 2 1 (by decide)) (show F6 2 1 = y6_0_1 from ((eF6 2 1).trans ey6_0_1))
  have r8 : HID ((0 : Int) ≤ y6_0_2 ∧ y6_0_2 ≤ 1) := krg_e (show (0 : Int) ≤ F6 2 2 ∧ F6 2 2 ≤ 1 from H.krg 2 2 (by decide)) (show F6 2 2 = y6_0_2 from ((eF6 2 2).trans ey6_0_2))
  have r9 : HID ((-2147483648 : Int) ≤ y6_0_3 ∧ y6_0_3 ≤ 2147483647) := krg_e (show (-2147483648 : Int) ≤ F6 2 3 ∧ F6 2 3 ≤ 2147483647 from H.krg 2 3 (by decide)) (show F6 2 3 = y6_0_3 from ((eF6 2 3).trans ey6_0_3))
  have r10 : HID ((-2147483648 : Int) ≤ y6_0_4 ∧ y6_0_4 ≤ 2147483647) := krg_e (show (-2147483648 : Int) ≤ F6 2 4 ∧ F6 2 4 ≤ 2147483647 from H.krg 2 4 (by decide)) (show F6 2 4 = y6_0_4 from ((eF6 2 4).trans ey6_0_4))
  refine Ew_of (pc' := 65) (fun _ => x_iload_n rfl (rk_o (hl3) rfl rfl)) ?_
  refine w_tsd 184 rfl (show inr (5) by omega) (by omega) rfl ?_
  refine Ew_of (pc' := 185) (fun _ => x_aload_n rfl (rk_o (hl0) rfl rfl)) ?_
  exact hc185  _ _ _ _  (rk_o (hl0) rfl rfl) (rk_o (hl1) rfl rfl) (rk_o (hl3) rfl rfl) (rk_o (hl4) rfl rfl) H O (SF_trans (SF_refl) (SF_glu (ι := [2]) hS6 eF6 (by decide +kernel)) (any_sub (l' := [(2, 1), (2, 2), (2, 3), (2, 4)]) rfl)) (SA_trans (SA_refl) (SA_glu (ι := [2]) hA6 eA6 (by decide +kernel)) (any_subA (l' := []) rfl))   (y6_0_1) (((eF6 2 1).trans ey6_0_1)) (y6_0_4) (((eF6 2 4).trans ey6_0_4))  (show 0 ≤ (y6_0_1) ∧ (y6_0_1) ≤ (n3) ∧ (n3) ≤ 65536 by have qh0 := HIDe r2; have qh1 := HIDe r7; omega) (show (y6_0_1) = 0 by have qh0 := HIDe r7; omega) (show (y6_0_4) = 0 by have qh0 := HIDe r10; omega)
