abbrev V115_Row_vha : vV := [(0, 4, [(4, 0), (4, 0), (0, 0), (4, 0), (4, 0)]), (0, 7, [(4, 0), (0, 0), (1, 0), (0, 0), (0, 0)]), (1, 0, []), (0, 7, [(4, 0), (0, 0), (1, 0), (0, 0), (0, 0)]), (1, 0, []), (0, 9, [(4, 0), (4, 0), (4, 0)]), (1, 5, []), (1, 2, [])]
/-- Dictionary.hear: this, #1, #1.bytes, this.content, this.content.bytes, this.stand, this.stand.tables, this.stand.latest -/
theorem C115_Row_vha {σE : rS} {D N : Nat → Nat} {F : hF} {A : hA} {d c s : Nat} {Q : wQ} (H : HW V115_Row_vha σE D N F A)  (pf2 : F 1 0 = (D 2 : Int)) (pf3 : F 0 0 = (D 3 : Int)) (pf4 : F 3 0 = (D 4 : Int)) (pf5 : F 0 1 = (D 5 : Int)) (pf6 : F 5 1 = (D 6 : Int)) (pf7 : F 5 2 = (D 7 : Int)) (n2 : Int) (en2 : (N 2 : Int) = n2) (n4 : Int) (en4 : (N 4 : Int) = n4) (n6 : Int) (en6 : (N 6 : Int) = n6) (n7 : Int) (en7 : (N 7 : Int) = n7) (u1_1 : Int) (eu1_1 : F 1 1 = u1_1) (u3_1 : Int) (eu3_1 : F 3 1 = u3_1) (h0 : 0 ≤ (u1_1) ∧ (u1_1) ≤ (n2) ∧ (n2) ≤ 65536) (h1 : 0 ≤ (u3_1) ∧ (u3_1) ≤ (n4) ∧ (n4) ≤ 65536) (h2 : (n6) = 3 ∧ (n7) = 3) (hc57 : ∀ (ls : rO) (σ : rS) (D_c57 N_c57 : Nat → Nat) (c_c57 s_c57 : Nat) (F_c57 : hF) (A_c57 : hA) (xc57_3 : Int), rlook ls 0 = some (.ref (D_c57 0)) → rlook ls 2 = some (.ref (D_c57 2)) → rlook ls 3 = some (I (xc57_3)) → HW V115_Row_vha σ D_c57 N_c57 F_c57 A_c57 → OUT (V115_Row_vha).length D N σE c s D_c57 N_c57 σ c_c57 s_c57 → SD [4] D D_c57 → SD [4] N N_c57 → SF [(0, 2), (3, 0), (3, 1), (3, 2), (3, 3), (3, 4), (5, 0)] F F_c57 → SA [4, 6, 7] A A_c57 → F_c57 3 0 = (D_c57 4 : Int) → ∀ mc57_4 : Int, (N_c57 4 : Int) = mc57_4 → ∀ yc57_3_1 : Int, F_c57 3 1 = yc57_3_1 → ∀ yc57_5_0 : Int, F_c57 5 0 = yc57_5_0 → (inr (xc57_3)) → (0 ≤ (u1_1) ∧ (u1_1) ≤ (n2) ∧ (n2) ≤ 65536) → (8 ≤ (xc57_3) ∧ (xc57_3) = (u1_1)) → ((yc57_3_1) = 0) → (0 ≤ (yc57_3_1) ∧ (yc57_3_1) ≤ (mc57_4) ∧ (mc57_4) ≤ 65536) → ((yc57_5_0) = -1) → Ew 115 (d + 4) 57 ls [.ref (D_c57 0)] σ c_c57 s_c57 Q) (k : ∀ (z : Int) (σ : rS) (D' N' : Nat → Nat) (F' : hF) (A' : hA) (c' s' : Nat), HW V115_Row_vha σ D' N' F' A' → OUT (V115_Row_vha).length D N σE c s D' N' σ c' s' → SD [4] D D' → SD [4] N N' → SF [(0, 2), (3, 0), (3, 1), (3, 2), (3, 3), (3, 4), (5, 0)] F F' → SA [4, 6, 7] A A' → F' 3 0 = (D' 4 : Int) → ∀ m4 : Int, (N' 4 : Int) = m4 → ∀ y3_1 : Int, F' 3 1 = y3_1 → (inr (z)) → (0 ≤ (y3_1) ∧ (y3_1) ≤ (m4) ∧ (m4) ≤ 65536) → Q (some (I z)) σ c' s') : Ew 115 (d + 4) 0 (rargs 0 [.ref (D 0), .ref (D 1)]) [] σE c s Q := by
  have O := OUT_refl (n := (V115_Row_vha).length) (D := D) (N := N) (σ := σE) (c := c) (s := s)
  have HE := H
  have r1 : HID ((-2147483648 : Int) ≤ u1_1 ∧ u1_1 ≤ 2147483647) := krg_e (show (-2147483648 : Int) ≤ F 1 1 ∧ F 1 1 ≤ 2147483647 from H.krg 1 1 (by decide)) (show F 1 1 = u1_1 from (eu1_1))
  have r2 : HID ((-2147483648 : Int) ≤ u3_1 ∧ u3_1 ≤ 2147483647) := krg_e (show (-2147483648 : Int) ≤ F 3 1 ∧ F 3 1 ≤ 2147483647 from H.krg 3 1 (by decide)) (show F 3 1 = u3_1 from (eu3_1))
  replace pf2 := HIDm pf2
  replace pf3 := HIDm pf3
  replace pf4 := HIDm pf4
  replace pf5 := HIDm pf5
  replace pf6 := HIDm pf6
  replace pf7 := HIDm pf7
  replace en2 := HIDm en2
  replace en4 := HIDm en4
  replace en6 := HIDm en6
  replace en7 := HIDm en7
  replace eu1_1 := HIDm eu1_1
  replace eu3_1 := HIDm eu3_1
  have r3 : HID ((0 : Int) ≤ n2 ∧ n2 ≤ 1000000) := nrng (H.nle 2 (by decide)) (show (N 2 : Int) = n2 from en2)
  have r4 : HID ((0 : Int) ≤ n4 ∧ n4 ≤ 1000000) := nrng (H.nle 4 (by decide)) (show (N 4 : Int) = n4 from en4)
  have r5 : HID ((0 : Int) ≤ n6 ∧ n6 ≤ 1000000) := nrng (H.nle 6 (by decide)) (show (N 6 : Int) = n6 from en6)
  have r6 : HID ((0 : Int) ≤ n7 ∧ n7 ≤ 1000000) := nrng (H.nle 7 (by decide)) (show (N 7 : Int) = n7 from en7)
  refine Ew_of (pc' := 1) (fun _ => x_aload_n rfl rfl) ?_
  refine v_g H (o := 1) (v := .ref (D 2)) rfl rfl rfl rfl rfl (vrf (pf2)) ?_
  refine Ew_of (pc' := 5) (fun _ => x_astore_n rfl) ?_
  refine Ew_of (pc' := 6) (fun _ => x_aload_n rfl (rk_o (rfl) rfl rfl)) ?_
  refine v_g H (o := 1) (v := I (u1_1)) rfl rfl rfl rfl rfl (congrArg (fun z : Int => I z) ((eu1_1) : F 1 1 = u1_1)) ?_
  refine Ew_of (pc' := 10) (fun _ => x_istore_n rfl) ?_
  refine Ew_of (pc' := 11) (fun _ => x_aload_n rfl (rk_o (rk_o (rfl) rfl rfl) rfl rfl)) ?_
  have r7 : HID ((-2147483648 : Int) ≤ F 0 2 ∧ F 0 2 ≤ 2147483647) := krg_e (show (-2147483648 : Int) ≤ F 0 2 ∧ F 0 2 ≤ 2147483647 from H.krg 0 2 (by decide)) (show F 0 2 = F 0 2 from rfl)
  refine v_inv H (o := 0) rfl rfl rfl rfl rfl rfl (by rfl) (C114 (D := pul [0, 5, 6, 7, 3] D) (N := pul [0, 5, 6, 7, 3] N) (HW_sub H (VS_of (show vsub V115_Row_vha V114 [0, 5, 6, 7, 3] = true by decide +kernel))) (pf5) (pf6) (pf7) (pf3) (n6) (en6) (n7) (en7) (F 0 2) (rfl) (F 5 0) (rfl) (u3_1) ((eu3_1)) (A 6) (rfl) (show (n6) = 3 ∧ (n7) = 3 by have qh0 := HIDe r5; have qh1 := HIDe r6; omega) (fun σ8 F8' A8' H' O' hS8 hA8 y8_0_2 ey8_0_2 y8_1_0 ey8_1_0 y8_4_1 ey8_4_1 w8_2 ew8_2 pz8_0 pz8_1 pz8_2 pz8_3 => ⟨rfl, ?_⟩))
  replace ey8_0_2 := HIDm ey8_0_2
  replace ey8_1_0 := HIDm ey8_1_0
  replace ey8_4_1 := HIDm ey8_4_1
  refine v_back (c := c) (s := s) H (show vsub V115_Row_vha V114 [0, 5, 6, 7, 3] = true by decide +kernel) H' O' (fun F8 A8 H O' eF8 eA8 => ?_)
  have O := OUT_trans O O'
  -- Dictionary.clear
  have r9 : HID ((-2147483648 : Int) ≤ y8_0_2 ∧ y8_0_2 ≤ 2147483647) := krg_e (show (-2147483648 : Int) ≤ F8 0 2 ∧ F8 0 2 ≤ 2147483647 from H.krg 0 2 (by decide)) (show F8 0 2 = y8_0_2 from ((eF8 0 2).trans ey8_0_2))
  have r10 : HID ((-2147483648 : Int) ≤ y8_4_1 ∧ y8_4_1 ≤ 2147483647) := krg_e (show (-2147483648 : Int) ≤ F8 3 1 ∧ F8 3 1 ≤ 2147483647 from H.krg 3 1 (by decide)) (show F8 3 1 = y8_4_1 from ((eF8 3 1).trans ey8_4_1))
  refine Ew_of (pc' := 15) (fun _ => x_iload_n rfl rk_s) ?_
  refine Ew_of (pc' := 16) (fun _ => x_iconst rfl) ?_
  refine w_icmplt (t := 29) rfl rfl (show inr (u1_1) by have qh0 := HIDe r1; omega) (show inr (4) by omega) (fun b11 => ?_) (fun b11 => ?_)
  · refine Ew_of (pc' := 30) (fun _ => x_aload_n rfl (rk_o (rk_o (rfl) rfl rfl) rfl rfl)) ?_
    refine v_g H (o := 0) (v := .ref (D 3)) rfl rfl rfl rfl rfl (vrf ((((show F8 0 0 = F 0 0 from (eF8 0 0).trans (hS8 0 0 rfl)))).trans (pf3))) ?_
    refine Ew_of (pc' := 34) (fun _ => x_aload_n rfl (rk_o (rk_o (rfl) rfl rfl) rfl rfl)) ?_
    refine v_inv H (o := 3) rfl rfl rfl rfl rfl rfl (by rfl) (C158_Row (D := pul [3, 1, 4, 2] D) (N := pul [3, 1, 4, 2] N) (HW_sub H (VS_of (show vsub V115_Row_vha V158_Row [3, 1, 4, 2] = true by decide +kernel))) ((((show F8 3 0 = F 3 0 from (eF8 3 0).trans (hS8 4 0 rfl)))).trans (pf4)) ((((show F8 1 0 = F 1 0 from (eF8 1 0)))).trans (pf2)) (n4) (en4) (n2) (en2) (y8_4_1) (((eF8 3 1).trans ey8_4_1)) (u1_1) ((((show F8 1 1 = F 1 1 from (eF8 1 1))).trans (eu1_1))) (show 0 ≤ (y8_4_1) ∧ (y8_4_1) ≤ (n4) ∧ (n4) ≤ 65536 by have qh0 := HIDe r10; have qh1 := HIDe r4; omega) (show 0 ≤ (u1_1) ∧ (u1_1) ≤ (n2) ∧ (n2) ≤ 65536 by have qh0 := HIDe r1; have qh1 := HIDe r3; omega) (fun σ12 D12' N12' F12' A12' c12 s12 H' O' hD12 hN12 hS12 hA12 pm12_2 m12_2 em12_2 y12_0_1 ey12_0_1 pz12_0 pz12_1 => ⟨rfl, ?_⟩))
    replace pm12_2 := HIDm pm12_2
    replace em12_2 := HIDm em12_2
    replace ey12_0_1 := HIDm ey12_0_1
    refine v_backM (c := c) (s := s) H (show vsub V115_Row_vha V158_Row [3, 1, 4, 2] = true by decide +kernel) H' O' hD12 (show vmov V115_Row_vha [3, 1, 4, 2] [2] = true by decide +kernel) (fun D12 N12 F12 A12 H O' eD12 eN12 eF12 eA12 => ?_)
    have O := OUT_trans O O'
    -- Row.become
    have pf12_0_0 : HID (F12 0 0 = (D12 3 : Int)) := ((show F12 0 0 = F8 0 0 from (eF12 0 0))).trans (((((show F8 0 0 = F 0 0 from (eF8 0 0).trans (hS8 0 0 rfl)))).trans (pf3)).trans (congrArg (fun q : Nat => (q : Int)) ((show D12 3 = D 3 from (eD12 3).trans (hD12 0 rfl))).symm))
    have pf12_0_1 : HID (F12 0 1 = (D12 5 : Int)) := ((show F12 0 1 = F8 0 1 from (eF12 0 1))).trans (((((show F8 0 1 = F 0 1 from (eF8 0 1).trans (hS8 0 1 rfl)))).trans (pf5)).trans (congrArg (fun q : Nat => (q : Int)) ((show D12 5 = D 5 from (eD12 5))).symm))
    have pf12_1_0 : HID (F12 1 0 = (D12 2 : Int)) := ((show F12 1 0 = F8 1 0 from (eF12 1 0).trans (hS12 1 0 rfl))).trans (((((show F8 1 0 = F 1 0 from (eF8 1 0)))).trans (pf2)).trans (congrArg (fun q : Nat => (q : Int)) ((show D12 2 = D 2 from (eD12 2).trans (hD12 3 rfl))).symm))
    have pf12_3_0 : HID (F12 3 0 = (D12 4 : Int)) := (eF12 3 0).trans (pm12_2.trans (congrArg (fun q : Nat => (q : Int)) (eD12 4).symm))
    have pf12_5_1 : HID (F12 5 1 = (D12 6 : Int)) := ((show F12 5 1 = F8 5 1 from (eF12 5 1))).trans (((((show F8 5 1 = F 5 1 from (eF8 5 1).trans (hS8 1 1 rfl)))).trans (pf6)).trans (congrArg (fun q : Nat => (q : Int)) ((show D12 6 = D 6 from (eD12 6))).symm))
    have pf12_5_2 : HID (F12 5 2 = (D12 7 : Int)) := ((show F12 5 2 = F8 5 2 from (eF12 5 2))).trans (((((show F8 5 2 = F 5 2 from (eF8 5 2).trans (hS8 1 2 rfl)))).trans (pf7)).trans (congrArg (fun q : Nat => (q : Int)) ((show D12 7 = D 7 from (eD12 7))).symm))
    have r13 : HID ((0 : Int) ≤ m12_2 ∧ m12_2 ≤ 1000000) := nrng (H.nle 4 (by decide)) (show (N12 4 : Int) = m12_2 from (congrArg (fun q : Nat => (q : Int)) (eN12 4)).trans em12_2)
    have r14 : HID ((-2147483648 : Int) ≤ y12_0_1 ∧ y12_0_1 ≤ 2147483647) := krg_e (show (-2147483648 : Int) ≤ F12 3 1 ∧ F12 3 1 ≤ 2147483647 from H.krg 3 1 (by decide)) (show F12 3 1 = y12_0_1 from ((eF12 3 1).trans ey12_0_1))
    refine Ew_of (pc' := 38) (fun _ => x_iload_n rfl rk_s) ?_
    exact w_ireturn rfl (k (u1_1) _ _ _ _ _ _ _ H O (SD_trans (SD_refl) (SD_glu (ι := [3, 1, 4, 2]) hD12 eD12 (by decide +kernel)) (any_subA (l' := [4]) rfl)) (SD_trans (SD_refl) (SD_glu (ι := [3, 1, 4, 2]) hN12 eN12 (by decide +kernel)) (any_subA (l' := [4]) rfl)) (SF_trans (SF_trans (SF_refl) (SF_glu (ι := [0, 5, 6, 7, 3]) hS8 eF8 (by decide +kernel)) (any_sub (l' := [(0, 2), (3, 1), (3, 2), (3, 3), (3, 4), (5, 0)]) rfl)) (SF_glu (ι := [3, 1, 4, 2]) hS12 eF12 (by decide +kernel)) (any_sub (l' := [(3, 0), (3, 1), (3, 2), (3, 3), (3, 4)]) rfl)) (SA_trans (SA_trans (SA_refl) (SA_glu (ι := [0, 5, 6, 7, 3]) hA8 eA8 (by decide +kernel)) (any_subA (l' := [6, 7]) rfl)) (SA_glu (ι := [3, 1, 4, 2]) hA12 eA12 (by decide +kernel)) (any_subA (l' := [4]) rfl)) (pf12_3_0) (m12_2) ((congrArg (fun q : Nat => (q : Int)) (eN12 4)).trans em12_2) (y12_0_1) (((eF12 3 1).trans ey12_0_1)) (show inr (u1_1) by have qh0 := HIDe r1; omega) (show 0 ≤ (y12_0_1) ∧ (y12_0_1) ≤ (m12_2) ∧ (m12_2) ≤ 65536 by have qh0 := HIDe r13; have qh1 := HIDe r14; omega))
  · refine Ew_of (pc' := 20) (fun _ => x_aload_n rfl (rk_o (rk_s) rfl rfl)) ?_
    refine Ew_of (pc' := 21) (fun _ => x_iconst rfl) ?_
    refine w_stat25 rfl rfl (by rfl) (C41_Br (D := pul [2] D) (N := pul [2] N) (HW_sub H (VS_of (show vsub V115_Row_vha V41_Br [2] = true by decide +kernel))) (n2) (en2) (show inr (0) by omega) (show 0 ≤ (0) ∧ (0) + 4 ≤ (n2) by have qh0 := HIDe r3; omega) (fun z15 σ15 F15' A15' H' O' hS15 hA15 pz15_0 => ⟨rfl, ?_⟩))
    refine v_back (c := c) (s := s) H (show vsub V115_Row_vha V41_Br [2] = true by decide +kernel) H' O' (fun F15 A15 H O' eF15 eA15 => ?_)
    have O := OUT_trans O O'
    -- PackHouse.word
    refine Ew_of (pc' := 26) (fun _ => x_ldc (z := -332356553) rfl (by decide)) ?_
    refine w_icmpeq (t := 39) rfl rfl (show inr (z15) by omega) (show inr ((-332356553)) by omega) (fun b16 => ?_) (fun b16 => ?_)
    · refine Ew_of (pc' := 40) (fun _ => x_iload_n rfl rk_s) ?_
      refine Ew_of (pc' := 42) (fun _ => x_bipush (z := 8) rfl (by decide)) ?_
      refine w_icmpge (t := 47) rfl rfl (show inr (u1_1) by have qh0 := HIDe r1; omega) (show inr (8) by omega) (fun b17 => ?_) (fun b17 => ?_)
      · refine Ew_of (pc' := 48) (fun _ => x_aload_n rfl (rk_o (rk_o (rfl) rfl rfl) rfl rfl)) ?_
        refine Ew_of (pc' := 49) (fun _ => x_aload_n rfl (rk_o (rk_s) rfl rfl)) ?_
        refine Ew_of (pc' := 50) (fun _ => x_iconst rfl) ?_
        refine w_stat25 rfl rfl (by rfl) (C41_Br (D := pul [2] D) (N := pul [2] N) (HW_sub H (VS_of (show vsub V115_Row_vha V41_Br [2] = true by decide +kernel))) (n2) (en2) (show inr (4) by omega) (show 0 ≤ (4) ∧ (4) + 4 ≤ (n2) by have qh0 := HIDe r3; omega) (fun z18 σ18 F18' A18' H' O' hS18 hA18 pz18_0 => ⟨rfl, ?_⟩))
        refine v_back (c := c) (s := s) H (show vsub V115_Row_vha V41_Br [2] = true by decide +kernel) H' O' (fun F18 A18 H O' eF18 eA18 => ?_)
        have O := OUT_trans O O'
        -- PackHouse.word
        refine v_p H (o := 0) (z := z18) (v := I (z18)) rfl rfl rfl rfl rfl rfl rfl rfl (show (-2147483648 : Int) ≤ z18 ∧ z18 ≤ 2147483647 by omega) (fun σ H O' => ?_)
        have O := OUT_trans O O'
        refine Ew_of (pc' := 57) (fun _ => x_aload_n rfl (rk_o (rk_o (rfl) rfl rfl) rfl rfl)) ?_
        exact hc57  _ _ _ _ _ _ _ _ (u1_1) (rk_o (rk_o (rfl) rfl rfl) rfl rfl) (rk_o (rk_s) rfl rfl) (rk_s) H O (SD_refl) (SD_refl) (SF_upd (SF_trans (SF_trans (SF_trans (SF_refl) (SF_glu (ι := [0, 5, 6, 7, 3]) hS8 eF8 (by decide +kernel)) (any_sub (l' := [(0, 2), (3, 1), (3, 2), (3, 3), (3, 4), (5, 0)]) rfl)) (SF_glu (ι := [2]) hS15 eF15 (by decide +kernel)) (any_sub (l' := []) rfl)) (SF_glu (ι := [2]) hS18 eF18 (by decide +kernel)) (any_sub (l' := []) rfl)) rfl) (SA_trans (SA_trans (SA_trans (SA_refl) (SA_glu (ι := [0, 5, 6, 7, 3]) hA8 eA8 (by decide +kernel)) (any_subA (l' := [6, 7]) rfl)) (SA_glu (ι := [2]) hA15 eA15 (by decide +kernel)) (any_subA (l' := []) rfl)) (SA_glu (ι := [2]) hA18 eA18 (by decide +kernel)) (any_subA (l' := []) rfl)) ((((((show F18 3 0 = F15 3 0 from (eF18 3 0))).trans ((show F15 3 0 = F8 3 0 from (eF15 3 0)))).trans ((show F8 3 0 = F 3 0 from (eF8 3 0).trans (hS8 4 0 rfl))))).trans (pf4)) (n4) (en4) (y8_4_1) (((((show F18 3 1 = F15 3 1 from (eF18 3 1))).trans ((show F15 3 1 = F8 3 1 from (eF15 3 1)))).trans ((eF8 3 1).trans ey8_4_1))) (y8_1_0) (((((show F18 5 0 = F15 5 0 from (eF18 5 0))).trans ((show F15 5 0 = F8 5 0 from (eF15 5 0)))).trans ((eF8 5 0).trans ey8_1_0)))  (show inr (u1_1) by have qh0 := HIDe r1; omega) (show 0 ≤ (u1_1) ∧ (u1_1) ≤ (n2) ∧ (n2) ≤ 65536 by have qh0 := HIDe r1; have qh1 := HIDe r3; omega) (show 8 ≤ (u1_1) ∧ (u1_1) = (u1_1) by have qh0 := HIDe r1; omega) (show (y8_4_1) = 0 by have qh0 := HIDe r10; omega) (show 0 ≤ (y8_4_1) ∧ (y8_4_1) ≤ (n4) ∧ (n4) ≤ 65536 by have qh0 := HIDe r10; have qh1 := HIDe r4; omega) (show (y8_1_0) = -1 by omega)
      · refine Ew_of (pc' := 46) (fun _ => x_iconst rfl) ?_
        exact w_ireturn rfl (k ((-1)) _ _ _ _ _ _ _ H O (SD_refl) (SD_refl) (SF_trans (SF_trans (SF_refl) (SF_glu (ι := [0, 5, 6, 7, 3]) hS8 eF8 (by decide +kernel)) (any_sub (l' := [(0, 2), (3, 1), (3, 2), (3, 3), (3, 4), (5, 0)]) rfl)) (SF_glu (ι := [2]) hS15 eF15 (by decide +kernel)) (any_sub (l' := []) rfl)) (SA_trans (SA_trans (SA_refl) (SA_glu (ι := [0, 5, 6, 7, 3]) hA8 eA8 (by decide +kernel)) (any_subA (l' := [6, 7]) rfl)) (SA_glu (ι := [2]) hA15 eA15 (by decide +kernel)) (any_subA (l' := []) rfl)) (((((show F15 3 0 = F8 3 0 from (eF15 3 0))).trans ((show F8 3 0 = F 3 0 from (eF8 3 0).trans (hS8 4 0 rfl))))).trans (pf4)) (n4) (en4) (y8_4_1) ((((show F15 3 1 = F8 3 1 from (eF15 3 1))).trans ((eF8 3 1).trans ey8_4_1))) (show inr ((-1)) by omega) (show 0 ≤ (y8_4_1) ∧ (y8_4_1) ≤ (n4) ∧ (n4) ≤ 65536 by have qh0 := HIDe r10; have qh1 := HIDe r4; omega))
    · refine Ew_of (pc' := 30) (fun _ => x_aload_n rfl (rk_o (rk_o (rfl) rfl rfl) rfl rfl)) ?_
      refine v_g H (o := 0) (v := .ref (D 3)) rfl rfl rfl rfl rfl (vrf (((((show F15 0 0 = F8 0 0 from (eF15 0 0))).trans ((show F8 0 0 = F 0 0 from (eF8 0 0).trans (hS8 0 0 rfl))))).trans (pf3))) ?_
      refine Ew_of (pc' := 34) (fun _ => x_aload_n rfl (rk_o (rk_o (rfl) rfl rfl) rfl rfl)) ?_
      refine v_inv H (o := 3) rfl rfl rfl rfl rfl rfl (by rfl) (C158_Row (D := pul [3, 1, 4, 2] D) (N := pul [3, 1, 4, 2] N) (HW_sub H (VS_of (show vsub V115_Row_vha V158_Row [3, 1, 4, 2] = true by decide +kernel))) (((((show F15 3 0 = F8 3 0 from (eF15 3 0))).trans ((show F8 3 0 = F 3 0 from (eF8 3 0).trans (hS8 4 0 rfl))))).trans (pf4)) (((((show F15 1 0 = F8 1 0 from (eF15 1 0))).trans ((show F8 1 0 = F 1 0 from (eF8 1 0))))).trans (pf2)) (n4) (en4) (n2) (en2) (y8_4_1) ((((show F15 3 1 = F8 3 1 from (eF15 3 1))).trans ((eF8 3 1).trans ey8_4_1))) (u1_1) (((((show F15 1 1 = F8 1 1 from (eF15 1 1))).trans ((show F8 1 1 = F 1 1 from (eF8 1 1)))).trans (eu1_1))) (show 0 ≤ (y8_4_1) ∧ (y8_4_1) ≤ (n4) ∧ (n4) ≤ 65536 by have qh0 := HIDe r10; have qh1 := HIDe r4; omega) (show 0 ≤ (u1_1) ∧ (u1_1) ≤ (n2) ∧ (n2) ≤ 65536 by have qh0 := HIDe r1; have qh1 := HIDe r3; omega) (fun σ19 D19' N19' F19' A19' c19 s19 H' O' hD19 hN19 hS19 hA19 pm19_2 m19_2 em19_2 y19_0_1 ey19_0_1 pz19_0 pz19_1 => ⟨rfl, ?_⟩))
      replace pm19_2 := HIDm pm19_2
      replace em19_2 := HIDm em19_2
      replace ey19_0_1 := HIDm ey19_0_1
      refine v_backM (c := c) (s := s) H (show vsub V115_Row_vha V158_Row [3, 1, 4, 2] = true by decide +kernel) H' O' hD19 (show vmov V115_Row_vha [3, 1, 4, 2] [2] = true by decide +kernel) (fun D19 N19 F19 A19 H O' eD19 eN19 eF19 eA19 => ?_)
      have O := OUT_trans O O'
      -- Row.become
      have pf19_0_0 : HID (F19 0 0 = (D19 3 : Int)) := ((show F19 0 0 = F15 0 0 from (eF19 0 0))).trans ((((((show F15 0 0 = F8 0 0 from (eF15 0 0))).trans ((show F8 0 0 = F 0 0 from (eF8 0 0).trans (hS8 0 0 rfl))))).trans (pf3)).trans (congrArg (fun q : Nat => (q : Int)) ((show D19 3 = D 3 from (eD19 3).trans (hD19 0 rfl))).symm))
      have pf19_0_1 : HID (F19 0 1 = (D19 5 : Int)) := ((show F19 0 1 = F15 0 1 from (eF19 0 1))).trans ((((((show F15 0 1 = F8 0 1 from (eF15 0 1))).trans ((show F8 0 1 = F 0 1 from (eF8 0 1).trans (hS8 0 1 rfl))))).trans (pf5)).trans (congrArg (fun q : Nat => (q : Int)) ((show D19 5 = D 5 from (eD19 5))).symm))
      have pf19_1_0 : HID (F19 1 0 = (D19 2 : Int)) := ((show F19 1 0 = F15 1 0 from (eF19 1 0).trans (hS19 1 0 rfl))).trans ((((((show F15 1 0 = F8 1 0 from (eF15 1 0))).trans ((show F8 1 0 = F 1 0 from (eF8 1 0))))).trans (pf2)).trans (congrArg (fun q : Nat => (q : Int)) ((show D19 2 = D 2 from (eD19 2).trans (hD19 3 rfl))).symm))
      have pf19_3_0 : HID (F19 3 0 = (D19 4 : Int)) := (eF19 3 0).trans (pm19_2.trans (congrArg (fun q : Nat => (q : Int)) (eD19 4).symm))
      have pf19_5_1 : HID (F19 5 1 = (D19 6 : Int)) := ((show F19 5 1 = F15 5 1 from (eF19 5 1))).trans ((((((show F15 5 1 = F8 5 1 from (eF15 5 1))).trans ((show F8 5 1 = F 5 1 from (eF8 5 1).trans (hS8 1 1 rfl))))).trans (pf6)).trans (congrArg (fun q : Nat => (q : Int)) ((show D19 6 = D 6 from (eD19 6))).symm))
      have pf19_5_2 : HID (F19 5 2 = (D19 7 : Int)) := ((show F19 5 2 = F15 5 2 from (eF19 5 2))).trans ((((((show F15 5 2 = F8 5 2 from (eF15 5 2))).trans ((show F8 5 2 = F 5 2 from (eF8 5 2).trans (hS8 1 2 rfl))))).trans (pf7)).trans (congrArg (fun q : Nat => (q : Int)) ((show D19 7 = D 7 from (eD19 7))).symm))
      have r20 : HID ((0 : Int) ≤ m19_2 ∧ m19_2 ≤ 1000000) := nrng (H.nle 4 (by decide)) (show (N19 4 : Int) = m19_2 from (congrArg (fun q : Nat => (q : Int)) (eN19 4)).trans em19_2)
      have r21 : HID ((-2147483648 : Int) ≤ y19_0_1 ∧ y19_0_1 ≤ 2147483647) := krg_e (show (-2147483648 : Int) ≤ F19 3 1 ∧ F19 3 1 ≤ 2147483647 from H.krg 3 1 (by decide)) (show F19 3 1 = y19_0_1 from ((eF19 3 1).trans ey19_0_1))
      refine Ew_of (pc' := 38) (fun _ => x_iload_n rfl rk_s) ?_
      exact w_ireturn rfl (k (u1_1) _ _ _ _ _ _ _ H O (SD_trans (SD_refl) (SD_glu (ι := [3, 1, 4, 2]) hD19 eD19 (by decide +kernel)) (any_subA (l' := [4]) rfl)) (SD_trans (SD_refl) (SD_glu (ι := [3, 1, 4, 2]) hN19 eN19 (by decide +kernel)) (any_subA (l' := [4]) rfl)) (SF_trans (SF_trans (SF_trans (SF_refl) (SF_glu (ι := [0, 5, 6, 7, 3]) hS8 eF8 (by decide +kernel)) (any_sub (l' := [(0, 2), (3, 1), (3, 2), (3, 3), (3, 4), (5, 0)]) rfl)) (SF_glu (ι := [2]) hS15 eF15 (by decide +kernel)) (any_sub (l' := []) rfl)) (SF_glu (ι := [3, 1, 4, 2]) hS19 eF19 (by decide +kernel)) (any_sub (l' := [(3, 0), (3, 1), (3, 2), (3, 3), (3, 4)]) rfl)) (SA_trans (SA_trans (SA_trans (SA_refl) (SA_glu (ι := [0, 5, 6, 7, 3]) hA8 eA8 (by decide +kernel)) (any_subA (l' := [6, 7]) rfl)) (SA_glu (ι := [2]) hA15 eA15 (by decide +kernel)) (any_subA (l' := []) rfl)) (SA_glu (ι := [3, 1, 4, 2]) hA19 eA19 (by decide +kernel)) (any_subA (l' := [4]) rfl)) (pf19_3_0) (m19_2) ((congrArg (fun q : Nat => (q : Int)) (eN19 4)).trans em19_2) (y19_0_1) (((eF19 3 1).trans ey19_0_1)) (show inr (u1_1) by have qh0 := HIDe r1; omega) (show 0 ≤ (y19_0_1) ∧ (y19_0_1) ≤ (m19_2) ∧ (m19_2) ≤ 65536 by have qh0 := HIDe r20; have qh1 := HIDe r21; omega))
