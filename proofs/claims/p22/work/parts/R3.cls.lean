abbrev V11 : vV := [(0, 0, [(4, 0), (4, 0), (4, 0), (4, 0), (4, 0), (4, 0), (4, 0), (4, 0), (4, 0), (4, 0), (4, 0), (4, 0), (4, 0), (4, 0), (4, 0), (4, 0), (4, 0), (0, 0), (0, 0)]), (1, 4, []), (0, 7, [(4, 0), (0, 0), (1, 0), (0, 0), (0, 0)]), (1, 0, []), (0, 7, [(4, 0), (0, 0), (1, 0), (0, 0), (0, 0)]), (1, 0, []), (0, 7, [(4, 0), (0, 0), (1, 0), (0, 0), (0, 0)]), (1, 0, []), (0, 7, [(4, 0), (0, 0), (1, 0), (0, 0), (0, 0)]), (1, 0, [])]
theorem len_V11_oz_R3cls : (V11).length = 10 := by decide +kernel
theorem oz_R3cls_1 : vsub V11 V24 [] = true := by decide +kernel
theorem oz_R3cls_2 : vsub V11 V27_Row [2] = true := by decide +kernel
theorem oz_R3cls_3 : vsub V11 V49_Br [3] = true := by decide +kernel
theorem oz_R3cls_4 : vsub V11 V27_Row [4] = true := by decide +kernel
theorem oz_R3cls_5 : vsub V11 V49_Br [5] = true := by decide +kernel
theorem oz_R3cls_6 : vsub V11 V27_Row [6] = true := by decide +kernel
theorem oz_R3cls_7 : vsub V11 V49_Br [7] = true := by decide +kernel
theorem oz_R3cls_8 : vsub V11 V27_Row [8] = true := by decide +kernel
theorem oz_R3cls_9 : vsub V11 V49_Br [9] = true := by decide +kernel
def oz_R3clsl_0 : List (Nat × Nat) := []
theorem oz_R3cls_10 : (oz_R3clsl_0).all (fun p => !tbz 0 (Nat.add (Nat.mul 32 p.1) p.2)) = true := by decide +kernel
def oz_R3clsl_1 : List Nat := []
theorem oz_R3cls_11 : (oz_R3clsl_1).all (fun p => !tbz 0 p) = true := by decide +kernel
theorem oz_R3cls_12 : okc oz_R3clsl_1 0 = true := by decide +kernel
def oz_R3clsl_2 : List Nat := [2]
theorem oz_R3cls_13 : okc oz_R3clsl_2 2 = true := by decide +kernel
def oz_R3clsl_3 : List Nat := [3]
theorem oz_R3cls_14 : okc oz_R3clsl_3 3 = true := by decide +kernel
def oz_R3clsl_4 : List Nat := [4]
theorem oz_R3cls_15 : okc oz_R3clsl_4 4 = true := by decide +kernel
def oz_R3clsl_5 : List Nat := [5]
theorem oz_R3cls_16 : okc oz_R3clsl_5 5 = true := by decide +kernel
def oz_R3clsl_6 : List Nat := [6]
theorem oz_R3cls_17 : okc oz_R3clsl_6 6 = true := by decide +kernel
def oz_R3clsl_7 : List Nat := [7]
theorem oz_R3cls_18 : okc oz_R3clsl_7 7 = true := by decide +kernel
def oz_R3clsl_8 : List Nat := [8]
theorem oz_R3cls_19 : okc oz_R3clsl_8 8 = true := by decide +kernel
def oz_R3clsl_9 : List Nat := [9]
theorem oz_R3cls_20 : okc oz_R3clsl_9 9 = true := by decide +kernel
/-- PackHouse.narrow: this, this.rows, this.rows.0, this.rows.0.bytes, this.rows.1, this.rows.1.bytes, this.rows.2, this.rows.2.bytes, this.rows.3, this.rows.3.bytes -/
theorem C11 {σE : rS} {D N : Nat → Nat} {F : hF} {A : hA} {d c s : Nat} {Q : wQ} (H : HW V11 σE D N F A) {a1 a2 a3 a4 : Int} (pf1 : HID (F 0 0 = (D 1 : Int))) (pf2 : HID (A 1 0 = (D 2 : Int))) (pf3 : HID (F 2 0 = (D 3 : Int))) (pf4 : HID (A 1 1 = (D 4 : Int))) (pf5 : HID (F 4 0 = (D 5 : Int))) (pf6 : HID (A 1 2 = (D 6 : Int))) (pf7 : HID (F 6 0 = (D 7 : Int))) (pf8 : HID (A 1 3 = (D 8 : Int))) (pf9 : HID (F 8 0 = (D 9 : Int))) (n1 : Int) (en1 : HID ((N 1 : Int) = n1)) (n3 : Int) (en3 : HID ((N 3 : Int) = n3)) (n5 : Int) (en5 : HID ((N 5 : Int) = n5)) (n7 : Int) (en7 : HID ((N 7 : Int) = n7)) (n9 : Int) (en9 : HID ((N 9 : Int) = n9)) (u2_1 : Int) (eu2_1 : HID (F 2 1 = u2_1)) (u4_1 : Int) (eu4_1 : HID (F 4 1 = u4_1)) (u6_1 : Int) (eu6_1 : HID (F 6 1 = u6_1)) (u8_1 : Int) (eu8_1 : HID (F 8 1 = u8_1)) (h0 : inr (a1)) (h1 : inr (a2)) (h2 : inr (a3)) (h3 : inr (a4)) (h4 : (n1) = 4) (h5 : 0 ≤ (u2_1) ∧ (u2_1) ≤ (n3) ∧ (n3) ≤ 65536) (h6 : 0 ≤ (u4_1) ∧ (u4_1) ≤ (n5) ∧ (n5) ≤ 65536) (h7 : 0 ≤ (u6_1) ∧ (u6_1) ≤ (n7) ∧ (n7) ≤ 65536) (h8 : 0 ≤ (u8_1) ∧ (u8_1) ≤ (n9) ∧ (n9) ≤ 65536) (k : ∀ (z : Int) (σ : rS) (Fₚ : hF) (Aₚ : hA), HW V11 σ D N Fₚ Aₚ → OUT (V11).length D N σE c s D N σ c s → SF [] F Fₚ → SA [] A Aₚ → (inr (z)) → Q (some (I z)) σ c s) : Ew 11 (d + 3) 0 (rargs 0 [.ref (D 0), I a1, I a2, I a3, I a4]) [] σE c s Q := by
  have O := OUT_refl (n := (V11).length) (D := D) (N := N) (σ := σE) (c := c) (s := s)
  have HE := H
  have r5 : HID ((0 : Int) ≤ n1 ∧ n1 ≤ 1000000) := nrng (H.nle 1 (ltn len_V11_oz_R3cls rfl)) (show (N 1 : Int) = n1 from en1)
  have r6 : HID ((0 : Int) ≤ n3 ∧ n3 ≤ 1000000) := nrng (H.nle 3 (ltn len_V11_oz_R3cls rfl)) (show (N 3 : Int) = n3 from en3)
  have r7 : HID ((0 : Int) ≤ n5 ∧ n5 ≤ 1000000) := nrng (H.nle 5 (ltn len_V11_oz_R3cls rfl)) (show (N 5 : Int) = n5 from en5)
  have r8 : HID ((0 : Int) ≤ n7 ∧ n7 ≤ 1000000) := nrng (H.nle 7 (ltn len_V11_oz_R3cls rfl)) (show (N 7 : Int) = n7 from en7)
  have r9 : HID ((0 : Int) ≤ n9 ∧ n9 ≤ 1000000) := nrng (H.nle 9 (ltn len_V11_oz_R3cls rfl)) (show (N 9 : Int) = n9 from en9)
  refine Ew_of (pcₚ := 1) (fun _ => x_iload_n rfl rfl) ?_
  refine w_stat24 rfl rfl (by rfl) (C24 (D := puc 0 D) (N := puc 0 N) (HW_subc H oz_R3cls_1 oz_R3cls_12) (show inr (a1) from h0) (fun z10 σ10 F10ₚ A10ₚ Hₚ Oₚ hS10 hA10 pz10_0 pz10_1 => ⟨rretB rfl pz10_0, ?_⟩))
  refine v_backc (c := c) (s := s) H oz_R3cls_1 oz_R3cls_12 Hₚ Oₚ (fun F10 A10 H Oₚ eF10 eA10 => ?_)
  have O := OUT_trans O Oₚ
  -- PackHouse.isRow
  have cF10 : SF oz_R3clsl_0 F F10 := SF_trans (SF_refl) (SF_gluc (ι := oz_R3clsl_1) oz_R3cls_12 hS10 eF10 (by decide +kernel)) (any_sub (lₚ := []) (by decide +kernel))
  have mF10 := SFm_of cF10 oz_R3cls_10
  have cA10 : SA oz_R3clsl_1 A A10 := SA_trans (SA_refl) (SA_gluc (ι := oz_R3clsl_1) oz_R3cls_12 hA10 eA10 (by decide +kernel)) (any_subA (lₚ := []) (by decide +kernel))
  have mA10 := SAm_of cA10 oz_R3cls_11
  refine w_ifne (t := 9) rfl rfl (show inr (z10) from q_15 pz10_0) (fun b11 => ?_) (fun b11 => ?_)
  · refine Ew_of (pcₚ := 10) (fun _ => x_aload_n rfl rfl) ?_
    refine v_g H (o := 0) (v := .ref (D 1)) rfl rfl rfl rfl rfl (vrf ((mF10 0 0 rfl).trans (pf1))) ?_
    refine Ew_of (pcₚ := 14) (fun _ => x_iload_n rfl rfl) ?_
    rcases (show a1 = 0 ∨ a1 = 1 ∨ a1 = 2 ∨ a1 = 3 by omega) with b12 | b12 | b12 | b12
    · refine v_lR H (o := 1) rfl rfl rfl rfl rfl (n := n1) (en1) (show 0 ≤ a1 ∧ a1 < n1 from q_4225 (HIDe r5) b12 h4) (z := ((D 2 : Nat) : Int)) (v := .ref (D 2)) ((congrArg (A10 1) b12).trans ((mA10 1 rfl 0).trans (pf2))) (vrf rfl) ?_
      refine Ew_of (pcₚ := 16) (fun _ => x_iload_n rfl rfl) ?_
      refine Ew_of (pcₚ := 17) (fun _ => x_iload_n rfl rfl) ?_
      refine w_stat24 rfl rfl (by rfl) (C27_Row (D := puc 2 D) (N := puc 2 N) (HW_subc H oz_R3cls_2 oz_R3cls_13) (u2_1) (((mF10 2 1 rfl).trans (eu2_1))) (show inr (a2) from h1) (show inr (a3) from h2) (fun z13 σ13 F13ₚ A13ₚ Hₚ Oₚ hS13 hA13 pz13_0 pz13_1 => ⟨rretB rfl pz13_0, ?_⟩))
      refine v_backc (c := c) (s := s) H oz_R3cls_2 oz_R3cls_13 Hₚ Oₚ (fun F13 A13 H Oₚ eF13 eA13 => ?_)
      have O := OUT_trans O Oₚ
      -- PackHouse.isPart
      have cF13 : SF oz_R3clsl_0 F F13 := SF_trans (cF10) (SF_gluc (ι := oz_R3clsl_2) oz_R3cls_13 hS13 eF13 (by decide +kernel)) (any_sub (lₚ := []) (by decide +kernel))
      have mF13 := SFm_of cF13 oz_R3cls_10
      have cA13 : SA oz_R3clsl_1 A A13 := SA_trans (cA10) (SA_gluc (ι := oz_R3clsl_2) oz_R3cls_13 hA13 eA13 (by decide +kernel)) (any_subA (lₚ := []) (by decide +kernel))
      have mA13 := SAm_of cA13 oz_R3cls_11
      refine Ew_of (pcₚ := 22) (fun _ => x_istore rfl) ?_
      refine Ew_of (pcₚ := 23) (fun _ => x_aload_n rfl (rk_o (rfl) rfl rfl)) ?_
      refine v_g H (o := 0) (v := .ref (D 1)) rfl rfl rfl rfl rfl (vrf ((mF13 0 0 rfl).trans (pf1))) ?_
      refine Ew_of (pcₚ := 27) (fun _ => x_iload_n rfl (rk_o (rfl) rfl rfl)) ?_
      refine v_lR H (o := 1) rfl rfl rfl rfl rfl (n := n1) (en1) (show 0 ≤ a1 ∧ a1 < n1 from q_4225 (HIDe r5) b12 h4) (z := ((D 2 : Nat) : Int)) (v := .ref (D 2)) ((congrArg (A13 1) b12).trans ((mA13 1 rfl 0).trans (pf2))) (vrf rfl) ?_
      refine v_g H (o := 2) (v := .ref (D 3)) rfl rfl rfl rfl rfl (vrf ((mF13 2 0 rfl).trans (pf3))) ?_
      refine Ew_of (pcₚ := 33) (fun _ => x_iload rfl rk_s) ?_
      have hc41 : ∀ (tc41_0 : Int), ∀ (ls : rO) (σ : rS) (F_c41 : hF) (A_c41 : hA) , rlook ls 3 = some (I (a3)) → rlook ls 4 = some (I (a4)) → rlook ls 5 = some (I (z13)) → HW V11 σ D N F_c41 A_c41 → OUT (V11).length D N σE c s D N σ c s → SF [] F13 F_c41 → SA [] A13 A_c41 → (inr (tc41_0)) → (((z13) = (0) ∧ (tc41_0) = (0)) ∨ ((z13) ≠ (0) ∧ (tc41_0) = (a2))) → Ew 11 (d + 3) 41 ls [I (tc41_0), .ref (D 3)] σ c s Q := by
       as_aux_lemma =>
        intro tc41_0 ls σ F_c41 A_c41  lc41_3 lc41_4 lc41_5 H O hS_c41 hA_c41     jc41_0 jc41_1
        have cF_c41 : SF oz_R3clsl_0 F F_c41 := SF_trans (cF13) hS_c41 (any_sub (by decide +kernel))
        have mF_c41 := SFm_of cF_c41 oz_R3cls_10
        have cA_c41 : SA oz_R3clsl_1 A A_c41 := SA_trans (cA13) hA_c41 (any_subA (by decide +kernel))
        have mA_c41 := SAm_of cA_c41 oz_R3cls_11
        refine Ew_of (pcₚ := 43) (fun _ => x_iload rfl lc41_5) ?_
        refine w_ifeq (t := 50) rfl rfl (show inr (z13) from q_15 pz13_0) (fun b14 => ?_) (fun b14 => ?_)
        · refine Ew_of (pcₚ := 51) (fun _ => x_iconst rfl) ?_
          refine Ew_of (pcₚ := 53) (fun _ => x_iload rfl lc41_4) ?_
          refine w_stat24 rfl rfl (by rfl) (C49_Br (D := puc 3 D) (N := puc 3 N) (HW_subc H oz_R3cls_3 oz_R3cls_14) (n3) (en3) (show inr (tc41_0) from jc41_0) (show inr (0) from q_20) (show inr (a4) from h3) (show 0 ≤ (tc41_0) ∧ (tc41_0) ≤ (0) ∧ (0) ≤ (n3) by have qh0 := HIDe r6; omega) (fun z15 σ15 F15ₚ A15ₚ Hₚ Oₚ hS15 hA15 pz15_0 => ⟨rfl, ?_⟩))
          refine v_backc (c := c) (s := s) H oz_R3cls_3 oz_R3cls_14 Hₚ Oₚ (fun F15 A15 H Oₚ eF15 eA15 => ?_)
          have O := OUT_trans O Oₚ
          -- PackHouse.narrowSum
          have cF15 : SF oz_R3clsl_0 F F15 := SF_trans (cF_c41) (SF_gluc (ι := oz_R3clsl_3) oz_R3cls_14 hS15 eF15 (by decide +kernel)) (any_sub (lₚ := []) (by decide +kernel))
          have mF15 := SFm_of cF15 oz_R3cls_10
          have cA15 : SA oz_R3clsl_1 A A15 := SA_trans (cA_c41) (SA_gluc (ι := oz_R3clsl_3) oz_R3cls_14 hA15 eA15 (by decide +kernel)) (any_subA (lₚ := []) (by decide +kernel))
          have mA15 := SAm_of cA15 oz_R3cls_11
          exact w_ireturn rfl (k (z15) _ _ _ H O (cF15) (cA15) (show inr (z15) from pz15_0))
        · refine Ew_of (pcₚ := 47) (fun _ => x_iload_n rfl lc41_3) ?_
          refine Ew_of (pcₚ := 51) (fun _ => x_goto rfl rfl) ?_
          refine Ew_of (pcₚ := 53) (fun _ => x_iload rfl lc41_4) ?_
          refine w_stat24 rfl rfl (by rfl) (C49_Br (D := puc 3 D) (N := puc 3 N) (HW_subc H oz_R3cls_3 oz_R3cls_14) (n3) (en3) (show inr (tc41_0) from jc41_0) (show inr (a3) from h2) (show inr (a4) from h3) (show 0 ≤ (tc41_0) ∧ (tc41_0) ≤ (a3) ∧ (a3) ≤ (n3) from q_4233 b14 h5 jc41_1 pz13_0 pz13_1) (fun z16 σ16 F16ₚ A16ₚ Hₚ Oₚ hS16 hA16 pz16_0 => ⟨rfl, ?_⟩))
          refine v_backc (c := c) (s := s) H oz_R3cls_3 oz_R3cls_14 Hₚ Oₚ (fun F16 A16 H Oₚ eF16 eA16 => ?_)
          have O := OUT_trans O Oₚ
          -- PackHouse.narrowSum
          have cF16 : SF oz_R3clsl_0 F F16 := SF_trans (cF_c41) (SF_gluc (ι := oz_R3clsl_3) oz_R3cls_14 hS16 eF16 (by decide +kernel)) (any_sub (lₚ := []) (by decide +kernel))
          have mF16 := SFm_of cF16 oz_R3cls_10
          have cA16 : SA oz_R3clsl_1 A A16 := SA_trans (cA_c41) (SA_gluc (ι := oz_R3clsl_3) oz_R3cls_14 hA16 eA16 (by decide +kernel)) (any_subA (lₚ := []) (by decide +kernel))
          have mA16 := SAm_of cA16 oz_R3cls_11
          exact w_ireturn rfl (k (z16) _ _ _ H O (cF16) (cA16) (show inr (z16) from pz16_0))
      refine w_ifeq (t := 40) rfl rfl (show inr (z13) from q_15 pz13_0) (fun b17 => ?_) (fun b17 => ?_)
      · refine Ew_of (pcₚ := 41) (fun _ => x_iconst rfl) ?_
        exact hc41 (0) _ _ _ _  (rk_o (rfl) rfl rfl) (rk_o (rfl) rfl rfl) (rk_s) H O (SF_refl) (SA_refl)     (show inr (0) from q_20) (show ((z13) = (0) ∧ (0) = (0)) ∨ ((z13) ≠ (0) ∧ (0) = (a2)) from q_3568 b17)
      · refine Ew_of (pcₚ := 37) (fun _ => x_iload_n rfl (rk_o (rfl) rfl rfl)) ?_
        refine Ew_of (pcₚ := 41) (fun _ => x_goto rfl rfl) ?_
        exact hc41 (a2) _ _ _ _  (rk_o (rfl) rfl rfl) (rk_o (rfl) rfl rfl) (rk_s) H O (SF_refl) (SA_refl)     (show inr (a2) from h1) (show ((z13) = (0) ∧ (a2) = (0)) ∨ ((z13) ≠ (0) ∧ (a2) = (a2)) from q_3569 b17)
    · refine v_lR H (o := 1) rfl rfl rfl rfl rfl (n := n1) (en1) (show 0 ≤ a1 ∧ a1 < n1 from q_4226 (HIDe r5) b12 h4) (z := ((D 4 : Nat) : Int)) (v := .ref (D 4)) ((congrArg (A10 1) b12).trans ((mA10 1 rfl 1).trans (pf4))) (vrf rfl) ?_
      refine Ew_of (pcₚ := 16) (fun _ => x_iload_n rfl rfl) ?_
      refine Ew_of (pcₚ := 17) (fun _ => x_iload_n rfl rfl) ?_
      refine w_stat24 rfl rfl (by rfl) (C27_Row (D := puc 4 D) (N := puc 4 N) (HW_subc H oz_R3cls_4 oz_R3cls_15) (u4_1) (((mF10 4 1 rfl).trans (eu4_1))) (show inr (a2) from h1) (show inr (a3) from h2) (fun z18 σ18 F18ₚ A18ₚ Hₚ Oₚ hS18 hA18 pz18_0 pz18_1 => ⟨rretB rfl pz18_0, ?_⟩))
      refine v_backc (c := c) (s := s) H oz_R3cls_4 oz_R3cls_15 Hₚ Oₚ (fun F18 A18 H Oₚ eF18 eA18 => ?_)
      have O := OUT_trans O Oₚ
      -- PackHouse.isPart
      have cF18 : SF oz_R3clsl_0 F F18 := SF_trans (cF10) (SF_gluc (ι := oz_R3clsl_4) oz_R3cls_15 hS18 eF18 (by decide +kernel)) (any_sub (lₚ := []) (by decide +kernel))
      have mF18 := SFm_of cF18 oz_R3cls_10
      have cA18 : SA oz_R3clsl_1 A A18 := SA_trans (cA10) (SA_gluc (ι := oz_R3clsl_4) oz_R3cls_15 hA18 eA18 (by decide +kernel)) (any_subA (lₚ := []) (by decide +kernel))
      have mA18 := SAm_of cA18 oz_R3cls_11
      refine Ew_of (pcₚ := 22) (fun _ => x_istore rfl) ?_
      refine Ew_of (pcₚ := 23) (fun _ => x_aload_n rfl (rk_o (rfl) rfl rfl)) ?_
      refine v_g H (o := 0) (v := .ref (D 1)) rfl rfl rfl rfl rfl (vrf ((mF18 0 0 rfl).trans (pf1))) ?_
      refine Ew_of (pcₚ := 27) (fun _ => x_iload_n rfl (rk_o (rfl) rfl rfl)) ?_
      refine v_lR H (o := 1) rfl rfl rfl rfl rfl (n := n1) (en1) (show 0 ≤ a1 ∧ a1 < n1 from q_4226 (HIDe r5) b12 h4) (z := ((D 4 : Nat) : Int)) (v := .ref (D 4)) ((congrArg (A18 1) b12).trans ((mA18 1 rfl 1).trans (pf4))) (vrf rfl) ?_
      refine v_g H (o := 4) (v := .ref (D 5)) rfl rfl rfl rfl rfl (vrf ((mF18 4 0 rfl).trans (pf5))) ?_
      refine Ew_of (pcₚ := 33) (fun _ => x_iload rfl rk_s) ?_
      have hc41 : ∀ (tc41_0 : Int), ∀ (ls : rO) (σ : rS) (F_c41 : hF) (A_c41 : hA) , rlook ls 3 = some (I (a3)) → rlook ls 4 = some (I (a4)) → rlook ls 5 = some (I (z18)) → HW V11 σ D N F_c41 A_c41 → OUT (V11).length D N σE c s D N σ c s → SF [] F18 F_c41 → SA [] A18 A_c41 → (inr (tc41_0)) → (((z18) = (0) ∧ (tc41_0) = (0)) ∨ ((z18) ≠ (0) ∧ (tc41_0) = (a2))) → Ew 11 (d + 3) 41 ls [I (tc41_0), .ref (D 5)] σ c s Q := by
       as_aux_lemma =>
        intro tc41_0 ls σ F_c41 A_c41  lc41_3 lc41_4 lc41_5 H O hS_c41 hA_c41     jc41_0 jc41_1
        have cF_c41 : SF oz_R3clsl_0 F F_c41 := SF_trans (cF18) hS_c41 (any_sub (by decide +kernel))
        have mF_c41 := SFm_of cF_c41 oz_R3cls_10
        have cA_c41 : SA oz_R3clsl_1 A A_c41 := SA_trans (cA18) hA_c41 (any_subA (by decide +kernel))
        have mA_c41 := SAm_of cA_c41 oz_R3cls_11
        refine Ew_of (pcₚ := 43) (fun _ => x_iload rfl lc41_5) ?_
        refine w_ifeq (t := 50) rfl rfl (show inr (z18) from q_15 pz18_0) (fun b19 => ?_) (fun b19 => ?_)
        · refine Ew_of (pcₚ := 51) (fun _ => x_iconst rfl) ?_
          refine Ew_of (pcₚ := 53) (fun _ => x_iload rfl lc41_4) ?_
          refine w_stat24 rfl rfl (by rfl) (C49_Br (D := puc 5 D) (N := puc 5 N) (HW_subc H oz_R3cls_5 oz_R3cls_16) (n5) (en5) (show inr (tc41_0) from jc41_0) (show inr (0) from q_20) (show inr (a4) from h3) (show 0 ≤ (tc41_0) ∧ (tc41_0) ≤ (0) ∧ (0) ≤ (n5) by have qh0 := HIDe r7; omega) (fun z20 σ20 F20ₚ A20ₚ Hₚ Oₚ hS20 hA20 pz20_0 => ⟨rfl, ?_⟩))
          refine v_backc (c := c) (s := s) H oz_R3cls_5 oz_R3cls_16 Hₚ Oₚ (fun F20 A20 H Oₚ eF20 eA20 => ?_)
          have O := OUT_trans O Oₚ
          -- PackHouse.narrowSum
          have cF20 : SF oz_R3clsl_0 F F20 := SF_trans (cF_c41) (SF_gluc (ι := oz_R3clsl_5) oz_R3cls_16 hS20 eF20 (by decide +kernel)) (any_sub (lₚ := []) (by decide +kernel))
          have mF20 := SFm_of cF20 oz_R3cls_10
          have cA20 : SA oz_R3clsl_1 A A20 := SA_trans (cA_c41) (SA_gluc (ι := oz_R3clsl_5) oz_R3cls_16 hA20 eA20 (by decide +kernel)) (any_subA (lₚ := []) (by decide +kernel))
          have mA20 := SAm_of cA20 oz_R3cls_11
          exact w_ireturn rfl (k (z20) _ _ _ H O (cF20) (cA20) (show inr (z20) from pz20_0))
        · refine Ew_of (pcₚ := 47) (fun _ => x_iload_n rfl lc41_3) ?_
          refine Ew_of (pcₚ := 51) (fun _ => x_goto rfl rfl) ?_
          refine Ew_of (pcₚ := 53) (fun _ => x_iload rfl lc41_4) ?_
          refine w_stat24 rfl rfl (by rfl) (C49_Br (D := puc 5 D) (N := puc 5 N) (HW_subc H oz_R3cls_5 oz_R3cls_16) (n5) (en5) (show inr (tc41_0) from jc41_0) (show inr (a3) from h2) (show inr (a4) from h3) (show 0 ≤ (tc41_0) ∧ (tc41_0) ≤ (a3) ∧ (a3) ≤ (n5) from q_4233 b19 h6 jc41_1 pz18_0 pz18_1) (fun z21 σ21 F21ₚ A21ₚ Hₚ Oₚ hS21 hA21 pz21_0 => ⟨rfl, ?_⟩))
          refine v_backc (c := c) (s := s) H oz_R3cls_5 oz_R3cls_16 Hₚ Oₚ (fun F21 A21 H Oₚ eF21 eA21 => ?_)
          have O := OUT_trans O Oₚ
          -- PackHouse.narrowSum
          have cF21 : SF oz_R3clsl_0 F F21 := SF_trans (cF_c41) (SF_gluc (ι := oz_R3clsl_5) oz_R3cls_16 hS21 eF21 (by decide +kernel)) (any_sub (lₚ := []) (by decide +kernel))
          have mF21 := SFm_of cF21 oz_R3cls_10
          have cA21 : SA oz_R3clsl_1 A A21 := SA_trans (cA_c41) (SA_gluc (ι := oz_R3clsl_5) oz_R3cls_16 hA21 eA21 (by decide +kernel)) (any_subA (lₚ := []) (by decide +kernel))
          have mA21 := SAm_of cA21 oz_R3cls_11
          exact w_ireturn rfl (k (z21) _ _ _ H O (cF21) (cA21) (show inr (z21) from pz21_0))
      refine w_ifeq (t := 40) rfl rfl (show inr (z18) from q_15 pz18_0) (fun b22 => ?_) (fun b22 => ?_)
      · refine Ew_of (pcₚ := 41) (fun _ => x_iconst rfl) ?_
        exact hc41 (0) _ _ _ _  (rk_o (rfl) rfl rfl) (rk_o (rfl) rfl rfl) (rk_s) H O (SF_refl) (SA_refl)     (show inr (0) from q_20) (show ((z18) = (0) ∧ (0) = (0)) ∨ ((z18) ≠ (0) ∧ (0) = (a2)) from q_3568 b22)
      · refine Ew_of (pcₚ := 37) (fun _ => x_iload_n rfl (rk_o (rfl) rfl rfl)) ?_
        refine Ew_of (pcₚ := 41) (fun _ => x_goto rfl rfl) ?_
        exact hc41 (a2) _ _ _ _  (rk_o (rfl) rfl rfl) (rk_o (rfl) rfl rfl) (rk_s) H O (SF_refl) (SA_refl)     (show inr (a2) from h1) (show ((z18) = (0) ∧ (a2) = (0)) ∨ ((z18) ≠ (0) ∧ (a2) = (a2)) from q_3569 b22)
    · refine v_lR H (o := 1) rfl rfl rfl rfl rfl (n := n1) (en1) (show 0 ≤ a1 ∧ a1 < n1 from q_4227 (HIDe r5) b12 h4) (z := ((D 6 : Nat) : Int)) (v := .ref (D 6)) ((congrArg (A10 1) b12).trans ((mA10 1 rfl 2).trans (pf6))) (vrf rfl) ?_
      refine Ew_of (pcₚ := 16) (fun _ => x_iload_n rfl rfl) ?_
      refine Ew_of (pcₚ := 17) (fun _ => x_iload_n rfl rfl) ?_
      refine w_stat24 rfl rfl (by rfl) (C27_Row (D := puc 6 D) (N := puc 6 N) (HW_subc H oz_R3cls_6 oz_R3cls_17) (u6_1) (((mF10 6 1 rfl).trans (eu6_1))) (show inr (a2) from h1) (show inr (a3) from h2) (fun z23 σ23 F23ₚ A23ₚ Hₚ Oₚ hS23 hA23 pz23_0 pz23_1 => ⟨rretB rfl pz23_0, ?_⟩))
      refine v_backc (c := c) (s := s) H oz_R3cls_6 oz_R3cls_17 Hₚ Oₚ (fun F23 A23 H Oₚ eF23 eA23 => ?_)
      have O := OUT_trans O Oₚ
      -- PackHouse.isPart
      have cF23 : SF oz_R3clsl_0 F F23 := SF_trans (cF10) (SF_gluc (ι := oz_R3clsl_6) oz_R3cls_17 hS23 eF23 (by decide +kernel)) (any_sub (lₚ := []) (by decide +kernel))
      have mF23 := SFm_of cF23 oz_R3cls_10
      have cA23 : SA oz_R3clsl_1 A A23 := SA_trans (cA10) (SA_gluc (ι := oz_R3clsl_6) oz_R3cls_17 hA23 eA23 (by decide +kernel)) (any_subA (lₚ := []) (by decide +kernel))
      have mA23 := SAm_of cA23 oz_R3cls_11
      refine Ew_of (pcₚ := 22) (fun _ => x_istore rfl) ?_
      refine Ew_of (pcₚ := 23) (fun _ => x_aload_n rfl (rk_o (rfl) rfl rfl)) ?_
      refine v_g H (o := 0) (v := .ref (D 1)) rfl rfl rfl rfl rfl (vrf ((mF23 0 0 rfl).trans (pf1))) ?_
      refine Ew_of (pcₚ := 27) (fun _ => x_iload_n rfl (rk_o (rfl) rfl rfl)) ?_
      refine v_lR H (o := 1) rfl rfl rfl rfl rfl (n := n1) (en1) (show 0 ≤ a1 ∧ a1 < n1 from q_4227 (HIDe r5) b12 h4) (z := ((D 6 : Nat) : Int)) (v := .ref (D 6)) ((congrArg (A23 1) b12).trans ((mA23 1 rfl 2).trans (pf6))) (vrf rfl) ?_
      refine v_g H (o := 6) (v := .ref (D 7)) rfl rfl rfl rfl rfl (vrf ((mF23 6 0 rfl).trans (pf7))) ?_
      refine Ew_of (pcₚ := 33) (fun _ => x_iload rfl rk_s) ?_
      have hc41 : ∀ (tc41_0 : Int), ∀ (ls : rO) (σ : rS) (F_c41 : hF) (A_c41 : hA) , rlook ls 3 = some (I (a3)) → rlook ls 4 = some (I (a4)) → rlook ls 5 = some (I (z23)) → HW V11 σ D N F_c41 A_c41 → OUT (V11).length D N σE c s D N σ c s → SF [] F23 F_c41 → SA [] A23 A_c41 → (inr (tc41_0)) → (((z23) = (0) ∧ (tc41_0) = (0)) ∨ ((z23) ≠ (0) ∧ (tc41_0) = (a2))) → Ew 11 (d + 3) 41 ls [I (tc41_0), .ref (D 7)] σ c s Q := by
       as_aux_lemma =>
        intro tc41_0 ls σ F_c41 A_c41  lc41_3 lc41_4 lc41_5 H O hS_c41 hA_c41     jc41_0 jc41_1
        have cF_c41 : SF oz_R3clsl_0 F F_c41 := SF_trans (cF23) hS_c41 (any_sub (by decide +kernel))
        have mF_c41 := SFm_of cF_c41 oz_R3cls_10
        have cA_c41 : SA oz_R3clsl_1 A A_c41 := SA_trans (cA23) hA_c41 (any_subA (by decide +kernel))
        have mA_c41 := SAm_of cA_c41 oz_R3cls_11
        refine Ew_of (pcₚ := 43) (fun _ => x_iload rfl lc41_5) ?_
        refine w_ifeq (t := 50) rfl rfl (show inr (z23) from q_15 pz23_0) (fun b24 => ?_) (fun b24 => ?_)
        · refine Ew_of (pcₚ := 51) (fun _ => x_iconst rfl) ?_
          refine Ew_of (pcₚ := 53) (fun _ => x_iload rfl lc41_4) ?_
          refine w_stat24 rfl rfl (by rfl) (C49_Br (D := puc 7 D) (N := puc 7 N) (HW_subc H oz_R3cls_7 oz_R3cls_18) (n7) (en7) (show inr (tc41_0) from jc41_0) (show inr (0) from q_20) (show inr (a4) from h3) (show 0 ≤ (tc41_0) ∧ (tc41_0) ≤ (0) ∧ (0) ≤ (n7) by have qh0 := HIDe r8; omega) (fun z25 σ25 F25ₚ A25ₚ Hₚ Oₚ hS25 hA25 pz25_0 => ⟨rfl, ?_⟩))
          refine v_backc (c := c) (s := s) H oz_R3cls_7 oz_R3cls_18 Hₚ Oₚ (fun F25 A25 H Oₚ eF25 eA25 => ?_)
          have O := OUT_trans O Oₚ
          -- PackHouse.narrowSum
          have cF25 : SF oz_R3clsl_0 F F25 := SF_trans (cF_c41) (SF_gluc (ι := oz_R3clsl_7) oz_R3cls_18 hS25 eF25 (by decide +kernel)) (any_sub (lₚ := []) (by decide +kernel))
          have mF25 := SFm_of cF25 oz_R3cls_10
          have cA25 : SA oz_R3clsl_1 A A25 := SA_trans (cA_c41) (SA_gluc (ι := oz_R3clsl_7) oz_R3cls_18 hA25 eA25 (by decide +kernel)) (any_subA (lₚ := []) (by decide +kernel))
          have mA25 := SAm_of cA25 oz_R3cls_11
          exact w_ireturn rfl (k (z25) _ _ _ H O (cF25) (cA25) (show inr (z25) from pz25_0))
        · refine Ew_of (pcₚ := 47) (fun _ => x_iload_n rfl lc41_3) ?_
          refine Ew_of (pcₚ := 51) (fun _ => x_goto rfl rfl) ?_
          refine Ew_of (pcₚ := 53) (fun _ => x_iload rfl lc41_4) ?_
          refine w_stat24 rfl rfl (by rfl) (C49_Br (D := puc 7 D) (N := puc 7 N) (HW_subc H oz_R3cls_7 oz_R3cls_18) (n7) (en7) (show inr (tc41_0) from jc41_0) (show inr (a3) from h2) (show inr (a4) from h3) (show 0 ≤ (tc41_0) ∧ (tc41_0) ≤ (a3) ∧ (a3) ≤ (n7) from q_4233 b24 h7 jc41_1 pz23_0 pz23_1) (fun z26 σ26 F26ₚ A26ₚ Hₚ Oₚ hS26 hA26 pz26_0 => ⟨rfl, ?_⟩))
          refine v_backc (c := c) (s := s) H oz_R3cls_7 oz_R3cls_18 Hₚ Oₚ (fun F26 A26 H Oₚ eF26 eA26 => ?_)
          have O := OUT_trans O Oₚ
          -- PackHouse.narrowSum
          have cF26 : SF oz_R3clsl_0 F F26 := SF_trans (cF_c41) (SF_gluc (ι := oz_R3clsl_7) oz_R3cls_18 hS26 eF26 (by decide +kernel)) (any_sub (lₚ := []) (by decide +kernel))
          have mF26 := SFm_of cF26 oz_R3cls_10
          have cA26 : SA oz_R3clsl_1 A A26 := SA_trans (cA_c41) (SA_gluc (ι := oz_R3clsl_7) oz_R3cls_18 hA26 eA26 (by decide +kernel)) (any_subA (lₚ := []) (by decide +kernel))
          have mA26 := SAm_of cA26 oz_R3cls_11
          exact w_ireturn rfl (k (z26) _ _ _ H O (cF26) (cA26) (show inr (z26) from pz26_0))
      refine w_ifeq (t := 40) rfl rfl (show inr (z23) from q_15 pz23_0) (fun b27 => ?_) (fun b27 => ?_)
      · refine Ew_of (pcₚ := 41) (fun _ => x_iconst rfl) ?_
        exact hc41 (0) _ _ _ _  (rk_o (rfl) rfl rfl) (rk_o (rfl) rfl rfl) (rk_s) H O (SF_refl) (SA_refl)     (show inr (0) from q_20) (show ((z23) = (0) ∧ (0) = (0)) ∨ ((z23) ≠ (0) ∧ (0) = (a2)) from q_3568 b27)
      · refine Ew_of (pcₚ := 37) (fun _ => x_iload_n rfl (rk_o (rfl) rfl rfl)) ?_
        refine Ew_of (pcₚ := 41) (fun _ => x_goto rfl rfl) ?_
        exact hc41 (a2) _ _ _ _  (rk_o (rfl) rfl rfl) (rk_o (rfl) rfl rfl) (rk_s) H O (SF_refl) (SA_refl)     (show inr (a2) from h1) (show ((z23) = (0) ∧ (a2) = (0)) ∨ ((z23) ≠ (0) ∧ (a2) = (a2)) from q_3569 b27)
    · refine v_lR H (o := 1) rfl rfl rfl rfl rfl (n := n1) (en1) (show 0 ≤ a1 ∧ a1 < n1 from q_4228 b12 h4) (z := ((D 8 : Nat) : Int)) (v := .ref (D 8)) ((congrArg (A10 1) b12).trans ((mA10 1 rfl 3).trans (pf8))) (vrf rfl) ?_
      refine Ew_of (pcₚ := 16) (fun _ => x_iload_n rfl rfl) ?_
      refine Ew_of (pcₚ := 17) (fun _ => x_iload_n rfl rfl) ?_
      refine w_stat24 rfl rfl (by rfl) (C27_Row (D := puc 8 D) (N := puc 8 N) (HW_subc H oz_R3cls_8 oz_R3cls_19) (u8_1) (((mF10 8 1 rfl).trans (eu8_1))) (show inr (a2) from h1) (show inr (a3) from h2) (fun z28 σ28 F28ₚ A28ₚ Hₚ Oₚ hS28 hA28 pz28_0 pz28_1 => ⟨rretB rfl pz28_0, ?_⟩))
      refine v_backc (c := c) (s := s) H oz_R3cls_8 oz_R3cls_19 Hₚ Oₚ (fun F28 A28 H Oₚ eF28 eA28 => ?_)
      have O := OUT_trans O Oₚ
      -- PackHouse.isPart
      have cF28 : SF oz_R3clsl_0 F F28 := SF_trans (cF10) (SF_gluc (ι := oz_R3clsl_8) oz_R3cls_19 hS28 eF28 (by decide +kernel)) (any_sub (lₚ := []) (by decide +kernel))
      have mF28 := SFm_of cF28 oz_R3cls_10
      have cA28 : SA oz_R3clsl_1 A A28 := SA_trans (cA10) (SA_gluc (ι := oz_R3clsl_8) oz_R3cls_19 hA28 eA28 (by decide +kernel)) (any_subA (lₚ := []) (by decide +kernel))
      have mA28 := SAm_of cA28 oz_R3cls_11
      refine Ew_of (pcₚ := 22) (fun _ => x_istore rfl) ?_
      refine Ew_of (pcₚ := 23) (fun _ => x_aload_n rfl (rk_o (rfl) rfl rfl)) ?_
      refine v_g H (o := 0) (v := .ref (D 1)) rfl rfl rfl rfl rfl (vrf ((mF28 0 0 rfl).trans (pf1))) ?_
      refine Ew_of (pcₚ := 27) (fun _ => x_iload_n rfl (rk_o (rfl) rfl rfl)) ?_
      refine v_lR H (o := 1) rfl rfl rfl rfl rfl (n := n1) (en1) (show 0 ≤ a1 ∧ a1 < n1 from q_4228 b12 h4) (z := ((D 8 : Nat) : Int)) (v := .ref (D 8)) ((congrArg (A28 1) b12).trans ((mA28 1 rfl 3).trans (pf8))) (vrf rfl) ?_
      refine v_g H (o := 8) (v := .ref (D 9)) rfl rfl rfl rfl rfl (vrf ((mF28 8 0 rfl).trans (pf9))) ?_
      refine Ew_of (pcₚ := 33) (fun _ => x_iload rfl rk_s) ?_
      have hc41 : ∀ (tc41_0 : Int), ∀ (ls : rO) (σ : rS) (F_c41 : hF) (A_c41 : hA) , rlook ls 3 = some (I (a3)) → rlook ls 4 = some (I (a4)) → rlook ls 5 = some (I (z28)) → HW V11 σ D N F_c41 A_c41 → OUT (V11).length D N σE c s D N σ c s → SF [] F28 F_c41 → SA [] A28 A_c41 → (inr (tc41_0)) → (((z28) = (0) ∧ (tc41_0) = (0)) ∨ ((z28) ≠ (0) ∧ (tc41_0) = (a2))) → Ew 11 (d + 3) 41 ls [I (tc41_0), .ref (D 9)] σ c s Q := by
       as_aux_lemma =>
        intro tc41_0 ls σ F_c41 A_c41  lc41_3 lc41_4 lc41_5 H O hS_c41 hA_c41     jc41_0 jc41_1
        have cF_c41 : SF oz_R3clsl_0 F F_c41 := SF_trans (cF28) hS_c41 (any_sub (by decide +kernel))
        have mF_c41 := SFm_of cF_c41 oz_R3cls_10
        have cA_c41 : SA oz_R3clsl_1 A A_c41 := SA_trans (cA28) hA_c41 (any_subA (by decide +kernel))
        have mA_c41 := SAm_of cA_c41 oz_R3cls_11
        refine Ew_of (pcₚ := 43) (fun _ => x_iload rfl lc41_5) ?_
        refine w_ifeq (t := 50) rfl rfl (show inr (z28) from q_15 pz28_0) (fun b29 => ?_) (fun b29 => ?_)
        · refine Ew_of (pcₚ := 51) (fun _ => x_iconst rfl) ?_
          refine Ew_of (pcₚ := 53) (fun _ => x_iload rfl lc41_4) ?_
          refine w_stat24 rfl rfl (by rfl) (C49_Br (D := puc 9 D) (N := puc 9 N) (HW_subc H oz_R3cls_9 oz_R3cls_20) (n9) (en9) (show inr (tc41_0) from jc41_0) (show inr (0) from q_20) (show inr (a4) from h3) (show 0 ≤ (tc41_0) ∧ (tc41_0) ≤ (0) ∧ (0) ≤ (n9) by have qh0 := HIDe r9; omega) (fun z30 σ30 F30ₚ A30ₚ Hₚ Oₚ hS30 hA30 pz30_0 => ⟨rfl, ?_⟩))
          refine v_backc (c := c) (s := s) H oz_R3cls_9 oz_R3cls_20 Hₚ Oₚ (fun F30 A30 H Oₚ eF30 eA30 => ?_)
          have O := OUT_trans O Oₚ
          -- PackHouse.narrowSum
          have cF30 : SF oz_R3clsl_0 F F30 := SF_trans (cF_c41) (SF_gluc (ι := oz_R3clsl_9) oz_R3cls_20 hS30 eF30 (by decide +kernel)) (any_sub (lₚ := []) (by decide +kernel))
          have mF30 := SFm_of cF30 oz_R3cls_10
          have cA30 : SA oz_R3clsl_1 A A30 := SA_trans (cA_c41) (SA_gluc (ι := oz_R3clsl_9) oz_R3cls_20 hA30 eA30 (by decide +kernel)) (any_subA (lₚ := []) (by decide +kernel))
          have mA30 := SAm_of cA30 oz_R3cls_11
          exact w_ireturn rfl (k (z30) _ _ _ H O (cF30) (cA30) (show inr (z30) from pz30_0))
        · refine Ew_of (pcₚ := 47) (fun _ => x_iload_n rfl lc41_3) ?_
          refine Ew_of (pcₚ := 51) (fun _ => x_goto rfl rfl) ?_
          refine Ew_of (pcₚ := 53) (fun _ => x_iload rfl lc41_4) ?_
          refine w_stat24 rfl rfl (by rfl) (C49_Br (D := puc 9 D) (N := puc 9 N) (HW_subc H oz_R3cls_9 oz_R3cls_20) (n9) (en9) (show inr (tc41_0) from jc41_0) (show inr (a3) from h2) (show inr (a4) from h3) (show 0 ≤ (tc41_0) ∧ (tc41_0) ≤ (a3) ∧ (a3) ≤ (n9) from q_4233 b29 h8 jc41_1 pz28_0 pz28_1) (fun z31 σ31 F31ₚ A31ₚ Hₚ Oₚ hS31 hA31 pz31_0 => ⟨rfl, ?_⟩))
          refine v_backc (c := c) (s := s) H oz_R3cls_9 oz_R3cls_20 Hₚ Oₚ (fun F31 A31 H Oₚ eF31 eA31 => ?_)
          have O := OUT_trans O Oₚ
          -- PackHouse.narrowSum
          have cF31 : SF oz_R3clsl_0 F F31 := SF_trans (cF_c41) (SF_gluc (ι := oz_R3clsl_9) oz_R3cls_20 hS31 eF31 (by decide +kernel)) (any_sub (lₚ := []) (by decide +kernel))
          have mF31 := SFm_of cF31 oz_R3cls_10
          have cA31 : SA oz_R3clsl_1 A A31 := SA_trans (cA_c41) (SA_gluc (ι := oz_R3clsl_9) oz_R3cls_20 hA31 eA31 (by decide +kernel)) (any_subA (lₚ := []) (by decide +kernel))
          have mA31 := SAm_of cA31 oz_R3cls_11
          exact w_ireturn rfl (k (z31) _ _ _ H O (cF31) (cA31) (show inr (z31) from pz31_0))
      refine w_ifeq (t := 40) rfl rfl (show inr (z28) from q_15 pz28_0) (fun b32 => ?_) (fun b32 => ?_)
      · refine Ew_of (pcₚ := 41) (fun _ => x_iconst rfl) ?_
        exact hc41 (0) _ _ _ _  (rk_o (rfl) rfl rfl) (rk_o (rfl) rfl rfl) (rk_s) H O (SF_refl) (SA_refl)     (show inr (0) from q_20) (show ((z28) = (0) ∧ (0) = (0)) ∨ ((z28) ≠ (0) ∧ (0) = (a2)) from q_3568 b32)
      · refine Ew_of (pcₚ := 37) (fun _ => x_iload_n rfl (rk_o (rfl) rfl rfl)) ?_
        refine Ew_of (pcₚ := 41) (fun _ => x_goto rfl rfl) ?_
        exact hc41 (a2) _ _ _ _  (rk_o (rfl) rfl rfl) (rk_o (rfl) rfl rfl) (rk_s) H O (SF_refl) (SA_refl)     (show inr (a2) from h1) (show ((z28) = (0) ∧ (a2) = (0)) ∨ ((z28) ≠ (0) ∧ (a2) = (a2)) from q_3569 b32)
  · refine Ew_of (pcₚ := 8) (fun _ => x_iconst rfl) ?_
    exact w_ireturn rfl (k (0) _ _ _ H O (cF10) (cA10) (show inr (0) from q_20))
abbrev V12 : vV := [(0, 0, [(4, 0), (4, 0), (4, 0), (4, 0), (4, 0), (4, 0), (4, 0), (4, 0), (4, 0), (4, 0), (4, 0), (4, 0), (4, 0), (4, 0), (4, 0), (4, 0), (4, 0), (0, 0), (0, 0)]), (1, 4, []), (0, 7, [(4, 0), (0, 0), (1, 0), (0, 0), (0, 0)]), (1, 0, []), (0, 7, [(4, 0), (0, 0), (1, 0), (0, 0), (0, 0)]), (1, 0, []), (0, 7, [(4, 0), (0, 0), (1, 0), (0, 0), (0, 0)]), (1, 0, []), (0, 7, [(4, 0), (0, 0), (1, 0), (0, 0), (0, 0)]), (1, 0, [])]
theorem len_V12_oz_R3cls : (V12).length = 10 := by decide +kernel
theorem oz_R3cls_22 : vsub V12 V24 [] = true := by decide +kernel
theorem oz_R3cls_23 : vsub V12 V27_Row [2] = true := by decide +kernel
theorem oz_R3cls_24 : vsub V12 V51_Br [3] = true := by decide +kernel
theorem oz_R3cls_25 : vsub V12 V27_Row [4] = true := by decide +kernel
theorem oz_R3cls_26 : vsub V12 V51_Br [5] = true := by decide +kernel
theorem oz_R3cls_27 : vsub V12 V27_Row [6] = true := by decide +kernel
theorem oz_R3cls_28 : vsub V12 V51_Br [7] = true := by decide +kernel
theorem oz_R3cls_29 : vsub V12 V27_Row [8] = true := by decide +kernel
theorem oz_R3cls_30 : vsub V12 V51_Br [9] = true := by decide +kernel
/-- PackHouse.wide: this, this.rows, this.rows.0, this.rows.0.bytes, this.rows.1, this.rows.1.bytes, this.rows.2, this.rows.2.bytes, this.rows.3, this.rows.3.bytes -/
theorem C12 {σE : rS} {D N : Nat → Nat} {F : hF} {A : hA} {d c s : Nat} {Q : wQ} (H : HW V12 σE D N F A) {a1 a2 a3 a4 : Int} (pf1 : HID (F 0 0 = (D 1 : Int))) (pf2 : HID (A 1 0 = (D 2 : Int))) (pf3 : HID (F 2 0 = (D 3 : Int))) (pf4 : HID (A 1 1 = (D 4 : Int))) (pf5 : HID (F 4 0 = (D 5 : Int))) (pf6 : HID (A 1 2 = (D 6 : Int))) (pf7 : HID (F 6 0 = (D 7 : Int))) (pf8 : HID (A 1 3 = (D 8 : Int))) (pf9 : HID (F 8 0 = (D 9 : Int))) (n1 : Int) (en1 : HID ((N 1 : Int) = n1)) (n3 : Int) (en3 : HID ((N 3 : Int) = n3)) (n5 : Int) (en5 : HID ((N 5 : Int) = n5)) (n7 : Int) (en7 : HID ((N 7 : Int) = n7)) (n9 : Int) (en9 : HID ((N 9 : Int) = n9)) (u2_1 : Int) (eu2_1 : HID (F 2 1 = u2_1)) (u4_1 : Int) (eu4_1 : HID (F 4 1 = u4_1)) (u6_1 : Int) (eu6_1 : HID (F 6 1 = u6_1)) (u8_1 : Int) (eu8_1 : HID (F 8 1 = u8_1)) (h0 : inr (a1)) (h1 : inr (a2)) (h2 : inr (a3)) (h3 : inrJ (a4)) (h4 : (n1) = 4) (h5 : 0 ≤ (u2_1) ∧ (u2_1) ≤ (n3) ∧ (n3) ≤ 65536) (h6 : 0 ≤ (u4_1) ∧ (u4_1) ≤ (n5) ∧ (n5) ≤ 65536) (h7 : 0 ≤ (u6_1) ∧ (u6_1) ≤ (n7) ∧ (n7) ≤ 65536) (h8 : 0 ≤ (u8_1) ∧ (u8_1) ≤ (n9) ∧ (n9) ≤ 65536) (k : ∀ (z : Int) (σ : rS) (Fₚ : hF) (Aₚ : hA), HW V12 σ D N Fₚ Aₚ → OUT (V12).length D N σE c s D N σ c s → SF [] F Fₚ → SA [] A Aₚ → (inrJ (z)) → Q (some (J z)) σ c s) : Ew 12 (d + 4) 0 (rargs 0 [.ref (D 0), I a1, I a2, I a3, J a4]) [] σE c s Q := by
  have O := OUT_refl (n := (V12).length) (D := D) (N := N) (σ := σE) (c := c) (s := s)
  have HE := H
  have r5 : HID ((0 : Int) ≤ n1 ∧ n1 ≤ 1000000) := nrng (H.nle 1 (ltn len_V12_oz_R3cls rfl)) (show (N 1 : Int) = n1 from en1)
  have r6 : HID ((0 : Int) ≤ n3 ∧ n3 ≤ 1000000) := nrng (H.nle 3 (ltn len_V12_oz_R3cls rfl)) (show (N 3 : Int) = n3 from en3)
  have r7 : HID ((0 : Int) ≤ n5 ∧ n5 ≤ 1000000) := nrng (H.nle 5 (ltn len_V12_oz_R3cls rfl)) (show (N 5 : Int) = n5 from en5)
  have r8 : HID ((0 : Int) ≤ n7 ∧ n7 ≤ 1000000) := nrng (H.nle 7 (ltn len_V12_oz_R3cls rfl)) (show (N 7 : Int) = n7 from en7)
  have r9 : HID ((0 : Int) ≤ n9 ∧ n9 ≤ 1000000) := nrng (H.nle 9 (ltn len_V12_oz_R3cls rfl)) (show (N 9 : Int) = n9 from en9)
  refine Ew_of (pcₚ := 1) (fun _ => x_iload_n rfl rfl) ?_
  refine w_stat24 rfl rfl (by rfl) (C24 (D := puc 0 D) (N := puc 0 N) (HW_subc H oz_R3cls_22 oz_R3cls_12) (show inr (a1) from h0) (fun z10 σ10 F10ₚ A10ₚ Hₚ Oₚ hS10 hA10 pz10_0 pz10_1 => ⟨rretB rfl pz10_0, ?_⟩))
  refine v_backc (c := c) (s := s) H oz_R3cls_22 oz_R3cls_12 Hₚ Oₚ (fun F10 A10 H Oₚ eF10 eA10 => ?_)
  have O := OUT_trans O Oₚ
  -- PackHouse.isRow
  have cF10 : SF oz_R3clsl_0 F F10 := SF_trans (SF_refl) (SF_gluc (ι := oz_R3clsl_1) oz_R3cls_12 hS10 eF10 (by decide +kernel)) (any_sub (lₚ := []) (by decide +kernel))
  have mF10 := SFm_of cF10 oz_R3cls_10
  have cA10 : SA oz_R3clsl_1 A A10 := SA_trans (SA_refl) (SA_gluc (ι := oz_R3clsl_1) oz_R3cls_12 hA10 eA10 (by decide +kernel)) (any_subA (lₚ := []) (by decide +kernel))
  have mA10 := SAm_of cA10 oz_R3cls_11
  refine w_ifne (t := 9) rfl rfl (show inr (z10) from q_15 pz10_0) (fun b11 => ?_) (fun b11 => ?_)
  · refine Ew_of (pcₚ := 10) (fun _ => x_aload_n rfl rfl) ?_
    refine v_g H (o := 0) (v := .ref (D 1)) rfl rfl rfl rfl rfl (vrf ((mF10 0 0 rfl).trans (pf1))) ?_
    refine Ew_of (pcₚ := 14) (fun _ => x_iload_n rfl rfl) ?_
    rcases (show a1 = 0 ∨ a1 = 1 ∨ a1 = 2 ∨ a1 = 3 by omega) with b12 | b12 | b12 | b12
    · refine v_lR H (o := 1) rfl rfl rfl rfl rfl (n := n1) (en1) (show 0 ≤ a1 ∧ a1 < n1 from q_4225 (HIDe r5) b12 h4) (z := ((D 2 : Nat) : Int)) (v := .ref (D 2)) ((congrArg (A10 1) b12).trans ((mA10 1 rfl 0).trans (pf2))) (vrf rfl) ?_
      refine Ew_of (pcₚ := 16) (fun _ => x_iload_n rfl rfl) ?_
      refine Ew_of (pcₚ := 17) (fun _ => x_iload_n rfl rfl) ?_
      refine w_stat24 rfl rfl (by rfl) (C27_Row (D := puc 2 D) (N := puc 2 N) (HW_subc H oz_R3cls_23 oz_R3cls_13) (u2_1) (((mF10 2 1 rfl).trans (eu2_1))) (show inr (a2) from h1) (show inr (a3) from h2) (fun z13 σ13 F13ₚ A13ₚ Hₚ Oₚ hS13 hA13 pz13_0 pz13_1 => ⟨rretB rfl pz13_0, ?_⟩))
      refine v_backc (c := c) (s := s) H oz_R3cls_23 oz_R3cls_13 Hₚ Oₚ (fun F13 A13 H Oₚ eF13 eA13 => ?_)
      have O := OUT_trans O Oₚ
      -- PackHouse.isPart
      have cF13 : SF oz_R3clsl_0 F F13 := SF_trans (cF10) (SF_gluc (ι := oz_R3clsl_2) oz_R3cls_13 hS13 eF13 (by decide +kernel)) (any_sub (lₚ := []) (by decide +kernel))
      have mF13 := SFm_of cF13 oz_R3cls_10
      have cA13 : SA oz_R3clsl_1 A A13 := SA_trans (cA10) (SA_gluc (ι := oz_R3clsl_2) oz_R3cls_13 hA13 eA13 (by decide +kernel)) (any_subA (lₚ := []) (by decide +kernel))
      have mA13 := SAm_of cA13 oz_R3cls_11
      refine Ew_of (pcₚ := 22) (fun _ => x_istore rfl) ?_
      refine Ew_of (pcₚ := 23) (fun _ => x_aload_n rfl (rk_o (rfl) rfl rfl)) ?_
      refine v_g H (o := 0) (v := .ref (D 1)) rfl rfl rfl rfl rfl (vrf ((mF13 0 0 rfl).trans (pf1))) ?_
      refine Ew_of (pcₚ := 27) (fun _ => x_iload_n rfl (rk_o (rfl) rfl rfl)) ?_
      refine v_lR H (o := 1) rfl rfl rfl rfl rfl (n := n1) (en1) (show 0 ≤ a1 ∧ a1 < n1 from q_4225 (HIDe r5) b12 h4) (z := ((D 2 : Nat) : Int)) (v := .ref (D 2)) ((congrArg (A13 1) b12).trans ((mA13 1 rfl 0).trans (pf2))) (vrf rfl) ?_
      refine v_g H (o := 2) (v := .ref (D 3)) rfl rfl rfl rfl rfl (vrf ((mF13 2 0 rfl).trans (pf3))) ?_
      refine Ew_of (pcₚ := 33) (fun _ => x_iload rfl rk_s) ?_
      have hc41 : ∀ (tc41_0 : Int), ∀ (ls : rO) (σ : rS) (F_c41 : hF) (A_c41 : hA) , rlook ls 3 = some (I (a3)) → rlook ls 4 = some (J (a4)) → rlook ls 6 = some (I (z13)) → HW V12 σ D N F_c41 A_c41 → OUT (V12).length D N σE c s D N σ c s → SF [] F13 F_c41 → SA [] A13 A_c41 → (inr (tc41_0)) → (((z13) = (0) ∧ (tc41_0) = (0)) ∨ ((z13) ≠ (0) ∧ (tc41_0) = (a2))) → Ew 12 (d + 4) 41 ls [I (tc41_0), .ref (D 3)] σ c s Q := by
       as_aux_lemma =>
        intro tc41_0 ls σ F_c41 A_c41  lc41_3 lc41_4 lc41_6 H O hS_c41 hA_c41     jc41_0 jc41_1
        have cF_c41 : SF oz_R3clsl_0 F F_c41 := SF_trans (cF13) hS_c41 (any_sub (by decide +kernel))
        have mF_c41 := SFm_of cF_c41 oz_R3cls_10
        have cA_c41 : SA oz_R3clsl_1 A A_c41 := SA_trans (cA13) hA_c41 (any_subA (by decide +kernel))
        have mA_c41 := SAm_of cA_c41 oz_R3cls_11
        refine Ew_of (pcₚ := 43) (fun _ => x_iload rfl lc41_6) ?_
        refine w_ifeq (t := 50) rfl rfl (show inr (z13) from q_15 pz13_0) (fun b14 => ?_) (fun b14 => ?_)
        · refine Ew_of (pcₚ := 51) (fun _ => x_iconst rfl) ?_
          refine Ew_of (pcₚ := 53) (fun _ => x_lload rfl lc41_4) ?_
          refine w_stat24 rfl rfl (by rfl) (C51_Br (D := puc 3 D) (N := puc 3 N) (HW_subc H oz_R3cls_24 oz_R3cls_14) (n3) (en3) (show inr (tc41_0) from jc41_0) (show inr (0) from q_20) (show inrJ (a4) from h3) (show 0 ≤ (tc41_0) ∧ (tc41_0) ≤ (0) ∧ (0) ≤ (n3) by have qh0 := HIDe r6; omega) (fun z15 σ15 F15ₚ A15ₚ Hₚ Oₚ hS15 hA15 pz15_0 => ⟨rfl, ?_⟩))
          refine v_backc (c := c) (s := s) H oz_R3cls_24 oz_R3cls_14 Hₚ Oₚ (fun F15 A15 H Oₚ eF15 eA15 => ?_)
          have O := OUT_trans O Oₚ
          -- PackHouse.wideSum
          have cF15 : SF oz_R3clsl_0 F F15 := SF_trans (cF_c41) (SF_gluc (ι := oz_R3clsl_3) oz_R3cls_14 hS15 eF15 (by decide +kernel)) (any_sub (lₚ := []) (by decide +kernel))
          have mF15 := SFm_of cF15 oz_R3cls_10
          have cA15 : SA oz_R3clsl_1 A A15 := SA_trans (cA_c41) (SA_gluc (ι := oz_R3clsl_3) oz_R3cls_14 hA15 eA15 (by decide +kernel)) (any_subA (lₚ := []) (by decide +kernel))
          have mA15 := SAm_of cA15 oz_R3cls_11
          exact w_lreturn rfl (k (z15) _ _ _ H O (cF15) (cA15) (show inrJ (z15) from pz15_0))
        · refine Ew_of (pcₚ := 47) (fun _ => x_iload_n rfl lc41_3) ?_
          refine Ew_of (pcₚ := 51) (fun _ => x_goto rfl rfl) ?_
          refine Ew_of (pcₚ := 53) (fun _ => x_lload rfl lc41_4) ?_
          refine w_stat24 rfl rfl (by rfl) (C51_Br (D := puc 3 D) (N := puc 3 N) (HW_subc H oz_R3cls_24 oz_R3cls_14) (n3) (en3) (show inr (tc41_0) from jc41_0) (show inr (a3) from h2) (show inrJ (a4) from h3) (show 0 ≤ (tc41_0) ∧ (tc41_0) ≤ (a3) ∧ (a3) ≤ (n3) from q_4233 b14 h5 jc41_1 pz13_0 pz13_1) (fun z16 σ16 F16ₚ A16ₚ Hₚ Oₚ hS16 hA16 pz16_0 => ⟨rfl, ?_⟩))
          refine v_backc (c := c) (s := s) H oz_R3cls_24 oz_R3cls_14 Hₚ Oₚ (fun F16 A16 H Oₚ eF16 eA16 => ?_)
          have O := OUT_trans O Oₚ
          -- PackHouse.wideSum
          have cF16 : SF oz_R3clsl_0 F F16 := SF_trans (cF_c41) (SF_gluc (ι := oz_R3clsl_3) oz_R3cls_14 hS16 eF16 (by decide +kernel)) (any_sub (lₚ := []) (by decide +kernel))
          have mF16 := SFm_of cF16 oz_R3cls_10
          have cA16 : SA oz_R3clsl_1 A A16 := SA_trans (cA_c41) (SA_gluc (ι := oz_R3clsl_3) oz_R3cls_14 hA16 eA16 (by decide +kernel)) (any_subA (lₚ := []) (by decide +kernel))
          have mA16 := SAm_of cA16 oz_R3cls_11
          exact w_lreturn rfl (k (z16) _ _ _ H O (cF16) (cA16) (show inrJ (z16) from pz16_0))
      refine w_ifeq (t := 40) rfl rfl (show inr (z13) from q_15 pz13_0) (fun b17 => ?_) (fun b17 => ?_)
      · refine Ew_of (pcₚ := 41) (fun _ => x_iconst rfl) ?_
        exact hc41 (0) _ _ _ _  (rk_o (rfl) rfl rfl) (rk_o (rfl) rfl rfl) (rk_s) H O (SF_refl) (SA_refl)     (show inr (0) from q_20) (show ((z13) = (0) ∧ (0) = (0)) ∨ ((z13) ≠ (0) ∧ (0) = (a2)) from q_3568 b17)
      · refine Ew_of (pcₚ := 37) (fun _ => x_iload_n rfl (rk_o (rfl) rfl rfl)) ?_
        refine Ew_of (pcₚ := 41) (fun _ => x_goto rfl rfl) ?_
        exact hc41 (a2) _ _ _ _  (rk_o (rfl) rfl rfl) (rk_o (rfl) rfl rfl) (rk_s) H O (SF_refl) (SA_refl)     (show inr (a2) from h1) (show ((z13) = (0) ∧ (a2) = (0)) ∨ ((z13) ≠ (0) ∧ (a2) = (a2)) from q_3569 b17)
    · refine v_lR H (o := 1) rfl rfl rfl rfl rfl (n := n1) (en1) (show 0 ≤ a1 ∧ a1 < n1 from q_4226 (HIDe r5) b12 h4) (z := ((D 4 : Nat) : Int)) (v := .ref (D 4)) ((congrArg (A10 1) b12).trans ((mA10 1 rfl 1).trans (pf4))) (vrf rfl) ?_
      refine Ew_of (pcₚ := 16) (fun _ => x_iload_n rfl rfl) ?_
      refine Ew_of (pcₚ := 17) (fun _ => x_iload_n rfl rfl) ?_
      refine w_stat24 rfl rfl (by rfl) (C27_Row (D := puc 4 D) (N := puc 4 N) (HW_subc H oz_R3cls_25 oz_R3cls_15) (u4_1) (((mF10 4 1 rfl).trans (eu4_1))) (show inr (a2) from h1) (show inr (a3) from h2) (fun z18 σ18 F18ₚ A18ₚ Hₚ Oₚ hS18 hA18 pz18_0 pz18_1 => ⟨rretB rfl pz18_0, ?_⟩))
      refine v_backc (c := c) (s := s) H oz_R3cls_25 oz_R3cls_15 Hₚ Oₚ (fun F18 A18 H Oₚ eF18 eA18 => ?_)
      have O := OUT_trans O Oₚ
      -- PackHouse.isPart
      have cF18 : SF oz_R3clsl_0 F F18 := SF_trans (cF10) (SF_gluc (ι := oz_R3clsl_4) oz_R3cls_15 hS18 eF18 (by decide +kernel)) (any_sub (lₚ := []) (by decide +kernel))
      have mF18 := SFm_of cF18 oz_R3cls_10
      have cA18 : SA oz_R3clsl_1 A A18 := SA_trans (cA10) (SA_gluc (ι := oz_R3clsl_4) oz_R3cls_15 hA18 eA18 (by decide +kernel)) (any_subA (lₚ := []) (by decide +kernel))
      have mA18 := SAm_of cA18 oz_R3cls_11
      refine Ew_of (pcₚ := 22) (fun _ => x_istore rfl) ?_
      refine Ew_of (pcₚ := 23) (fun _ => x_aload_n rfl (rk_o (rfl) rfl rfl)) ?_
      refine v_g H (o := 0) (v := .ref (D 1)) rfl rfl rfl rfl rfl (vrf ((mF18 0 0 rfl).trans (pf1))) ?_
      refine Ew_of (pcₚ := 27) (fun _ => x_iload_n rfl (rk_o (rfl) rfl rfl)) ?_
      refine v_lR H (o := 1) rfl rfl rfl rfl rfl (n := n1) (en1) (show 0 ≤ a1 ∧ a1 < n1 from q_4226 (HIDe r5) b12 h4) (z := ((D 4 : Nat) : Int)) (v := .ref (D 4)) ((congrArg (A18 1) b12).trans ((mA18 1 rfl 1).trans (pf4))) (vrf rfl) ?_
      refine v_g H (o := 4) (v := .ref (D 5)) rfl rfl rfl rfl rfl (vrf ((mF18 4 0 rfl).trans (pf5))) ?_
      refine Ew_of (pcₚ := 33) (fun _ => x_iload rfl rk_s) ?_
      have hc41 : ∀ (tc41_0 : Int), ∀ (ls : rO) (σ : rS) (F_c41 : hF) (A_c41 : hA) , rlook ls 3 = some (I (a3)) → rlook ls 4 = some (J (a4)) → rlook ls 6 = some (I (z18)) → HW V12 σ D N F_c41 A_c41 → OUT (V12).length D N σE c s D N σ c s → SF [] F18 F_c41 → SA [] A18 A_c41 → (inr (tc41_0)) → (((z18) = (0) ∧ (tc41_0) = (0)) ∨ ((z18) ≠ (0) ∧ (tc41_0) = (a2))) → Ew 12 (d + 4) 41 ls [I (tc41_0), .ref (D 5)] σ c s Q := by
       as_aux_lemma =>
        intro tc41_0 ls σ F_c41 A_c41  lc41_3 lc41_4 lc41_6 H O hS_c41 hA_c41     jc41_0 jc41_1
        have cF_c41 : SF oz_R3clsl_0 F F_c41 := SF_trans (cF18) hS_c41 (any_sub (by decide +kernel))
        have mF_c41 := SFm_of cF_c41 oz_R3cls_10
        have cA_c41 : SA oz_R3clsl_1 A A_c41 := SA_trans (cA18) hA_c41 (any_subA (by decide +kernel))
        have mA_c41 := SAm_of cA_c41 oz_R3cls_11
        refine Ew_of (pcₚ := 43) (fun _ => x_iload rfl lc41_6) ?_
        refine w_ifeq (t := 50) rfl rfl (show inr (z18) from q_15 pz18_0) (fun b19 => ?_) (fun b19 => ?_)
        · refine Ew_of (pcₚ := 51) (fun _ => x_iconst rfl) ?_
          refine Ew_of (pcₚ := 53) (fun _ => x_lload rfl lc41_4) ?_
          refine w_stat24 rfl rfl (by rfl) (C51_Br (D := puc 5 D) (N := puc 5 N) (HW_subc H oz_R3cls_26 oz_R3cls_16) (n5) (en5) (show inr (tc41_0) from jc41_0) (show inr (0) from q_20) (show inrJ (a4) from h3) (show 0 ≤ (tc41_0) ∧ (tc41_0) ≤ (0) ∧ (0) ≤ (n5) by have qh0 := HIDe r7; omega) (fun z20 σ20 F20ₚ A20ₚ Hₚ Oₚ hS20 hA20 pz20_0 => ⟨rfl, ?_⟩))
          refine v_backc (c := c) (s := s) H oz_R3cls_26 oz_R3cls_16 Hₚ Oₚ (fun F20 A20 H Oₚ eF20 eA20 => ?_)
          have O := OUT_trans O Oₚ
          -- PackHouse.wideSum
          have cF20 : SF oz_R3clsl_0 F F20 := SF_trans (cF_c41) (SF_gluc (ι := oz_R3clsl_5) oz_R3cls_16 hS20 eF20 (by decide +kernel)) (any_sub (lₚ := []) (by decide +kernel))
          have mF20 := SFm_of cF20 oz_R3cls_10
          have cA20 : SA oz_R3clsl_1 A A20 := SA_trans (cA_c41) (SA_gluc (ι := oz_R3clsl_5) oz_R3cls_16 hA20 eA20 (by decide +kernel)) (any_subA (lₚ := []) (by decide +kernel))
          have mA20 := SAm_of cA20 oz_R3cls_11
          exact w_lreturn rfl (k (z20) _ _ _ H O (cF20) (cA20) (show inrJ (z20) from pz20_0))
        · refine Ew_of (pcₚ := 47) (fun _ => x_iload_n rfl lc41_3) ?_
          refine Ew_of (pcₚ := 51) (fun _ => x_goto rfl rfl) ?_
          refine Ew_of (pcₚ := 53) (fun _ => x_lload rfl lc41_4) ?_
          refine w_stat24 rfl rfl (by rfl) (C51_Br (D := puc 5 D) (N := puc 5 N) (HW_subc H oz_R3cls_26 oz_R3cls_16) (n5) (en5) (show inr (tc41_0) from jc41_0) (show inr (a3) from h2) (show inrJ (a4) from h3) (show 0 ≤ (tc41_0) ∧ (tc41_0) ≤ (a3) ∧ (a3) ≤ (n5) from q_4233 b19 h6 jc41_1 pz18_0 pz18_1) (fun z21 σ21 F21ₚ A21ₚ Hₚ Oₚ hS21 hA21 pz21_0 => ⟨rfl, ?_⟩))
          refine v_backc (c := c) (s := s) H oz_R3cls_26 oz_R3cls_16 Hₚ Oₚ (fun F21 A21 H Oₚ eF21 eA21 => ?_)
          have O := OUT_trans O Oₚ
          -- PackHouse.wideSum
          have cF21 : SF oz_R3clsl_0 F F21 := SF_trans (cF_c41) (SF_gluc (ι := oz_R3clsl_5) oz_R3cls_16 hS21 eF21 (by decide +kernel)) (any_sub (lₚ := []) (by decide +kernel))
          have mF21 := SFm_of cF21 oz_R3cls_10
          have cA21 : SA oz_R3clsl_1 A A21 := SA_trans (cA_c41) (SA_gluc (ι := oz_R3clsl_5) oz_R3cls_16 hA21 eA21 (by decide +kernel)) (any_subA (lₚ := []) (by decide +kernel))
          have mA21 := SAm_of cA21 oz_R3cls_11
          exact w_lreturn rfl (k (z21) _ _ _ H O (cF21) (cA21) (show inrJ (z21) from pz21_0))
      refine w_ifeq (t := 40) rfl rfl (show inr (z18) from q_15 pz18_0) (fun b22 => ?_) (fun b22 => ?_)
      · refine Ew_of (pcₚ := 41) (fun _ => x_iconst rfl) ?_
        exact hc41 (0) _ _ _ _  (rk_o (rfl) rfl rfl) (rk_o (rfl) rfl rfl) (rk_s) H O (SF_refl) (SA_refl)     (show inr (0) from q_20) (show ((z18) = (0) ∧ (0) = (0)) ∨ ((z18) ≠ (0) ∧ (0) = (a2)) from q_3568 b22)
      · refine Ew_of (pcₚ := 37) (fun _ => x_iload_n rfl (rk_o (rfl) rfl rfl)) ?_
        refine Ew_of (pcₚ := 41) (fun _ => x_goto rfl rfl) ?_
        exact hc41 (a2) _ _ _ _  (rk_o (rfl) rfl rfl) (rk_o (rfl) rfl rfl) (rk_s) H O (SF_refl) (SA_refl)     (show inr (a2) from h1) (show ((z18) = (0) ∧ (a2) = (0)) ∨ ((z18) ≠ (0) ∧ (a2) = (a2)) from q_3569 b22)
    · refine v_lR H (o := 1) rfl rfl rfl rfl rfl (n := n1) (en1) (show 0 ≤ a1 ∧ a1 < n1 from q_4227 (HIDe r5) b12 h4) (z := ((D 6 : Nat) : Int)) (v := .ref (D 6)) ((congrArg (A10 1) b12).trans ((mA10 1 rfl 2).trans (pf6))) (vrf rfl) ?_
      refine Ew_of (pcₚ := 16) (fun _ => x_iload_n rfl rfl) ?_
      refine Ew_of (pcₚ := 17) (fun _ => x_iload_n rfl rfl) ?_
      refine w_stat24 rfl rfl (by rfl) (C27_Row (D := puc 6 D) (N := puc 6 N) (HW_subc H oz_R3cls_27 oz_R3cls_17) (u6_1) (((mF10 6 1 rfl).trans (eu6_1))) (show inr (a2) from h1) (show inr (a3) from h2) (fun z23 σ23 F23ₚ A23ₚ Hₚ Oₚ hS23 hA23 pz23_0 pz23_1 => ⟨rretB rfl pz23_0, ?_⟩))
      refine v_backc (c := c) (s := s) H oz_R3cls_27 oz_R3cls_17 Hₚ Oₚ (fun F23 A23 H Oₚ eF23 eA23 => ?_)
      have O := OUT_trans O Oₚ
      -- PackHouse.isPart
      have cF23 : SF oz_R3clsl_0 F F23 := SF_trans (cF10) (SF_gluc (ι := oz_R3clsl_6) oz_R3cls_17 hS23 eF23 (by decide +kernel)) (any_sub (lₚ := []) (by decide +kernel))
      have mF23 := SFm_of cF23 oz_R3cls_10
      have cA23 : SA oz_R3clsl_1 A A23 := SA_trans (cA10) (SA_gluc (ι := oz_R3clsl_6) oz_R3cls_17 hA23 eA23 (by decide +kernel)) (any_subA (lₚ := []) (by decide +kernel))
      have mA23 := SAm_of cA23 oz_R3cls_11
      refine Ew_of (pcₚ := 22) (fun _ => x_istore rfl) ?_
      refine Ew_of (pcₚ := 23) (fun _ => x_aload_n rfl (rk_o (rfl) rfl rfl)) ?_
      refine v_g H (o := 0) (v := .ref (D 1)) rfl rfl rfl rfl rfl (vrf ((mF23 0 0 rfl).trans (pf1))) ?_
      refine Ew_of (pcₚ := 27) (fun _ => x_iload_n rfl (rk_o (rfl) rfl rfl)) ?_
      refine v_lR H (o := 1) rfl rfl rfl rfl rfl (n := n1) (en1) (show 0 ≤ a1 ∧ a1 < n1 from q_4227 (HIDe r5) b12 h4) (z := ((D 6 : Nat) : Int)) (v := .ref (D 6)) ((congrArg (A23 1) b12).trans ((mA23 1 rfl 2).trans (pf6))) (vrf rfl) ?_
      refine v_g H (o := 6) (v := .ref (D 7)) rfl rfl rfl rfl rfl (vrf ((mF23 6 0 rfl).trans (pf7))) ?_
      refine Ew_of (pcₚ := 33) (fun _ => x_iload rfl rk_s) ?_
      have hc41 : ∀ (tc41_0 : Int), ∀ (ls : rO) (σ : rS) (F_c41 : hF) (A_c41 : hA) , rlook ls 3 = some (I (a3)) → rlook ls 4 = some (J (a4)) → rlook ls 6 = some (I (z23)) → HW V12 σ D N F_c41 A_c41 → OUT (V12).length D N σE c s D N σ c s → SF [] F23 F_c41 → SA [] A23 A_c41 → (inr (tc41_0)) → (((z23) = (0) ∧ (tc41_0) = (0)) ∨ ((z23) ≠ (0) ∧ (tc41_0) = (a2))) → Ew 12 (d + 4) 41 ls [I (tc41_0), .ref (D 7)] σ c s Q := by
       as_aux_lemma =>
        intro tc41_0 ls σ F_c41 A_c41  lc41_3 lc41_4 lc41_6 H O hS_c41 hA_c41     jc41_0 jc41_1
        have cF_c41 : SF oz_R3clsl_0 F F_c41 := SF_trans (cF23) hS_c41 (any_sub (by decide +kernel))
        have mF_c41 := SFm_of cF_c41 oz_R3cls_10
        have cA_c41 : SA oz_R3clsl_1 A A_c41 := SA_trans (cA23) hA_c41 (any_subA (by decide +kernel))
        have mA_c41 := SAm_of cA_c41 oz_R3cls_11
        refine Ew_of (pcₚ := 43) (fun _ => x_iload rfl lc41_6) ?_
        refine w_ifeq (t := 50) rfl rfl (show inr (z23) from q_15 pz23_0) (fun b24 => ?_) (fun b24 => ?_)
        · refine Ew_of (pcₚ := 51) (fun _ => x_iconst rfl) ?_
          refine Ew_of (pcₚ := 53) (fun _ => x_lload rfl lc41_4) ?_
          refine w_stat24 rfl rfl (by rfl) (C51_Br (D := puc 7 D) (N := puc 7 N) (HW_subc H oz_R3cls_28 oz_R3cls_18) (n7) (en7) (show inr (tc41_0) from jc41_0) (show inr (0) from q_20) (show inrJ (a4) from h3) (show 0 ≤ (tc41_0) ∧ (tc41_0) ≤ (0) ∧ (0) ≤ (n7) by have qh0 := HIDe r8; omega) (fun z25 σ25 F25ₚ A25ₚ Hₚ Oₚ hS25 hA25 pz25_0 => ⟨rfl, ?_⟩))
          refine v_backc (c := c) (s := s) H oz_R3cls_28 oz_R3cls_18 Hₚ Oₚ (fun F25 A25 H Oₚ eF25 eA25 => ?_)
          have O := OUT_trans O Oₚ
          -- PackHouse.wideSum
          have cF25 : SF oz_R3clsl_0 F F25 := SF_trans (cF_c41) (SF_gluc (ι := oz_R3clsl_7) oz_R3cls_18 hS25 eF25 (by decide +kernel)) (any_sub (lₚ := []) (by decide +kernel))
          have mF25 := SFm_of cF25 oz_R3cls_10
          have cA25 : SA oz_R3clsl_1 A A25 := SA_trans (cA_c41) (SA_gluc (ι := oz_R3clsl_7) oz_R3cls_18 hA25 eA25 (by decide +kernel)) (any_subA (lₚ := []) (by decide +kernel))
          have mA25 := SAm_of cA25 oz_R3cls_11
          exact w_lreturn rfl (k (z25) _ _ _ H O (cF25) (cA25) (show inrJ (z25) from pz25_0))
        · refine Ew_of (pcₚ := 47) (fun _ => x_iload_n rfl lc41_3) ?_
          refine Ew_of (pcₚ := 51) (fun _ => x_goto rfl rfl) ?_
          refine Ew_of (pcₚ := 53) (fun _ => x_lload rfl lc41_4) ?_
          refine w_stat24 rfl rfl (by rfl) (C51_Br (D := puc 7 D) (N := puc 7 N) (HW_subc H oz_R3cls_28 oz_R3cls_18) (n7) (en7) (show inr (tc41_0) from jc41_0) (show inr (a3) from h2) (show inrJ (a4) from h3) (show 0 ≤ (tc41_0) ∧ (tc41_0) ≤ (a3) ∧ (a3) ≤ (n7) from q_4233 b24 h7 jc41_1 pz23_0 pz23_1) (fun z26 σ26 F26ₚ A26ₚ Hₚ Oₚ hS26 hA26 pz26_0 => ⟨rfl, ?_⟩))
          refine v_backc (c := c) (s := s) H oz_R3cls_28 oz_R3cls_18 Hₚ Oₚ (fun F26 A26 H Oₚ eF26 eA26 => ?_)
          have O := OUT_trans O Oₚ
          -- PackHouse.wideSum
          have cF26 : SF oz_R3clsl_0 F F26 := SF_trans (cF_c41) (SF_gluc (ι := oz_R3clsl_7) oz_R3cls_18 hS26 eF26 (by decide +kernel)) (any_sub (lₚ := []) (by decide +kernel))
          have mF26 := SFm_of cF26 oz_R3cls_10
          have cA26 : SA oz_R3clsl_1 A A26 := SA_trans (cA_c41) (SA_gluc (ι := oz_R3clsl_7) oz_R3cls_18 hA26 eA26 (by decide +kernel)) (any_subA (lₚ := []) (by decide +kernel))
          have mA26 := SAm_of cA26 oz_R3cls_11
          exact w_lreturn rfl (k (z26) _ _ _ H O (cF26) (cA26) (show inrJ (z26) from pz26_0))
      refine w_ifeq (t := 40) rfl rfl (show inr (z23) from q_15 pz23_0) (fun b27 => ?_) (fun b27 => ?_)
      · refine Ew_of (pcₚ := 41) (fun _ => x_iconst rfl) ?_
        exact hc41 (0) _ _ _ _  (rk_o (rfl) rfl rfl) (rk_o (rfl) rfl rfl) (rk_s) H O (SF_refl) (SA_refl)     (show inr (0) from q_20) (show ((z23) = (0) ∧ (0) = (0)) ∨ ((z23) ≠ (0) ∧ (0) = (a2)) from q_3568 b27)
      · refine Ew_of (pcₚ := 37) (fun _ => x_iload_n rfl (rk_o (rfl) rfl rfl)) ?_
        refine Ew_of (pcₚ := 41) (fun _ => x_goto rfl rfl) ?_
        exact hc41 (a2) _ _ _ _  (rk_o (rfl) rfl rfl) (rk_o (rfl) rfl rfl) (rk_s) H O (SF_refl) (SA_refl)     (show inr (a2) from h1) (show ((z23) = (0) ∧ (a2) = (0)) ∨ ((z23) ≠ (0) ∧ (a2) = (a2)) from q_3569 b27)
    · refine v_lR H (o := 1) rfl rfl rfl rfl rfl (n := n1) (en1) (show 0 ≤ a1 ∧ a1 < n1 from q_4228 b12 h4) (z := ((D 8 : Nat) : Int)) (v := .ref (D 8)) ((congrArg (A10 1) b12).trans ((mA10 1 rfl 3).trans (pf8))) (vrf rfl) ?_
      refine Ew_of (pcₚ := 16) (fun _ => x_iload_n rfl rfl) ?_
      refine Ew_of (pcₚ := 17) (fun _ => x_iload_n rfl rfl) ?_
      refine w_stat24 rfl rfl (by rfl) (C27_Row (D := puc 8 D) (N := puc 8 N) (HW_subc H oz_R3cls_29 oz_R3cls_19) (u8_1) (((mF10 8 1 rfl).trans (eu8_1))) (show inr (a2) from h1) (show inr (a3) from h2) (fun z28 σ28 F28ₚ A28ₚ Hₚ Oₚ hS28 hA28 pz28_0 pz28_1 => ⟨rretB rfl pz28_0, ?_⟩))
      refine v_backc (c := c) (s := s) H oz_R3cls_29 oz_R3cls_19 Hₚ Oₚ (fun F28 A28 H Oₚ eF28 eA28 => ?_)
      have O := OUT_trans O Oₚ
      -- PackHouse.isPart
      have cF28 : SF oz_R3clsl_0 F F28 := SF_trans (cF10) (SF_gluc (ι := oz_R3clsl_8) oz_R3cls_19 hS28 eF28 (by decide +kernel)) (any_sub (lₚ := []) (by decide +kernel))
      have mF28 := SFm_of cF28 oz_R3cls_10
      have cA28 : SA oz_R3clsl_1 A A28 := SA_trans (cA10) (SA_gluc (ι := oz_R3clsl_8) oz_R3cls_19 hA28 eA28 (by decide +kernel)) (any_subA (lₚ := []) (by decide +kernel))
      have mA28 := SAm_of cA28 oz_R3cls_11
      refine Ew_of (pcₚ := 22) (fun _ => x_istore rfl) ?_
      refine Ew_of (pcₚ := 23) (fun _ => x_aload_n rfl (rk_o (rfl) rfl rfl)) ?_
      refine v_g H (o := 0) (v := .ref (D 1)) rfl rfl rfl rfl rfl (vrf ((mF28 0 0 rfl).trans (pf1))) ?_
      refine Ew_of (pcₚ := 27) (fun _ => x_iload_n rfl (rk_o (rfl) rfl rfl)) ?_
      refine v_lR H (o := 1) rfl rfl rfl rfl rfl (n := n1) (en1) (show 0 ≤ a1 ∧ a1 < n1 from q_4228 b12 h4) (z := ((D 8 : Nat) : Int)) (v := .ref (D 8)) ((congrArg (A28 1) b12).trans ((mA28 1 rfl 3).trans (pf8))) (vrf rfl) ?_
      refine v_g H (o := 8) (v := .ref (D 9)) rfl rfl rfl rfl rfl (vrf ((mF28 8 0 rfl).trans (pf9))) ?_
      refine Ew_of (pcₚ := 33) (fun _ => x_iload rfl rk_s) ?_
      have hc41 : ∀ (tc41_0 : Int), ∀ (ls : rO) (σ : rS) (F_c41 : hF) (A_c41 : hA) , rlook ls 3 = some (I (a3)) → rlook ls 4 = some (J (a4)) → rlook ls 6 = some (I (z28)) → HW V12 σ D N F_c41 A_c41 → OUT (V12).length D N σE c s D N σ c s → SF [] F28 F_c41 → SA [] A28 A_c41 → (inr (tc41_0)) → (((z28) = (0) ∧ (tc41_0) = (0)) ∨ ((z28) ≠ (0) ∧ (tc41_0) = (a2))) → Ew 12 (d + 4) 41 ls [I (tc41_0), .ref (D 9)] σ c s Q := by
       as_aux_lemma =>
        intro tc41_0 ls σ F_c41 A_c41  lc41_3 lc41_4 lc41_6 H O hS_c41 hA_c41     jc41_0 jc41_1
        have cF_c41 : SF oz_R3clsl_0 F F_c41 := SF_trans (cF28) hS_c41 (any_sub (by decide +kernel))
        have mF_c41 := SFm_of cF_c41 oz_R3cls_10
        have cA_c41 : SA oz_R3clsl_1 A A_c41 := SA_trans (cA28) hA_c41 (any_subA (by decide +kernel))
        have mA_c41 := SAm_of cA_c41 oz_R3cls_11
        refine Ew_of (pcₚ := 43) (fun _ => x_iload rfl lc41_6) ?_
        refine w_ifeq (t := 50) rfl rfl (show inr (z28) from q_15 pz28_0) (fun b29 => ?_) (fun b29 => ?_)
        · refine Ew_of (pcₚ := 51) (fun _ => x_iconst rfl) ?_
          refine Ew_of (pcₚ := 53) (fun _ => x_lload rfl lc41_4) ?_
          refine w_stat24 rfl rfl (by rfl) (C51_Br (D := puc 9 D) (N := puc 9 N) (HW_subc H oz_R3cls_30 oz_R3cls_20) (n9) (en9) (show inr (tc41_0) from jc41_0) (show inr (0) from q_20) (show inrJ (a4) from h3) (show 0 ≤ (tc41_0) ∧ (tc41_0) ≤ (0) ∧ (0) ≤ (n9) by have qh0 := HIDe r9; omega) (fun z30 σ30 F30ₚ A30ₚ Hₚ Oₚ hS30 hA30 pz30_0 => ⟨rfl, ?_⟩))
          refine v_backc (c := c) (s := s) H oz_R3cls_30 oz_R3cls_20 Hₚ Oₚ (fun F30 A30 H Oₚ eF30 eA30 => ?_)
          have O := OUT_trans O Oₚ
          -- PackHouse.wideSum
          have cF30 : SF oz_R3clsl_0 F F30 := SF_trans (cF_c41) (SF_gluc (ι := oz_R3clsl_9) oz_R3cls_20 hS30 eF30 (by decide +kernel)) (any_sub (lₚ := []) (by decide +kernel))
          have mF30 := SFm_of cF30 oz_R3cls_10
          have cA30 : SA oz_R3clsl_1 A A30 := SA_trans (cA_c41) (SA_gluc (ι := oz_R3clsl_9) oz_R3cls_20 hA30 eA30 (by decide +kernel)) (any_subA (lₚ := []) (by decide +kernel))
          have mA30 := SAm_of cA30 oz_R3cls_11
          exact w_lreturn rfl (k (z30) _ _ _ H O (cF30) (cA30) (show inrJ (z30) from pz30_0))
        · refine Ew_of (pcₚ := 47) (fun _ => x_iload_n rfl lc41_3) ?_
          refine Ew_of (pcₚ := 51) (fun _ => x_goto rfl rfl) ?_
          refine Ew_of (pcₚ := 53) (fun _ => x_lload rfl lc41_4) ?_
          refine w_stat24 rfl rfl (by rfl) (C51_Br (D := puc 9 D) (N := puc 9 N) (HW_subc H oz_R3cls_30 oz_R3cls_20) (n9) (en9) (show inr (tc41_0) from jc41_0) (show inr (a3) from h2) (show inrJ (a4) from h3) (show 0 ≤ (tc41_0) ∧ (tc41_0) ≤ (a3) ∧ (a3) ≤ (n9) from q_4233 b29 h8 jc41_1 pz28_0 pz28_1) (fun z31 σ31 F31ₚ A31ₚ Hₚ Oₚ hS31 hA31 pz31_0 => ⟨rfl, ?_⟩))
          refine v_backc (c := c) (s := s) H oz_R3cls_30 oz_R3cls_20 Hₚ Oₚ (fun F31 A31 H Oₚ eF31 eA31 => ?_)
          have O := OUT_trans O Oₚ
          -- PackHouse.wideSum
          have cF31 : SF oz_R3clsl_0 F F31 := SF_trans (cF_c41) (SF_gluc (ι := oz_R3clsl_9) oz_R3cls_20 hS31 eF31 (by decide +kernel)) (any_sub (lₚ := []) (by decide +kernel))
          have mF31 := SFm_of cF31 oz_R3cls_10
          have cA31 : SA oz_R3clsl_1 A A31 := SA_trans (cA_c41) (SA_gluc (ι := oz_R3clsl_9) oz_R3cls_20 hA31 eA31 (by decide +kernel)) (any_subA (lₚ := []) (by decide +kernel))
          have mA31 := SAm_of cA31 oz_R3cls_11
          exact w_lreturn rfl (k (z31) _ _ _ H O (cF31) (cA31) (show inrJ (z31) from pz31_0))
      refine w_ifeq (t := 40) rfl rfl (show inr (z28) from q_15 pz28_0) (fun b32 => ?_) (fun b32 => ?_)
      · refine Ew_of (pcₚ := 41) (fun _ => x_iconst rfl) ?_
        exact hc41 (0) _ _ _ _  (rk_o (rfl) rfl rfl) (rk_o (rfl) rfl rfl) (rk_s) H O (SF_refl) (SA_refl)     (show inr (0) from q_20) (show ((z28) = (0) ∧ (0) = (0)) ∨ ((z28) ≠ (0) ∧ (0) = (a2)) from q_3568 b32)
      · refine Ew_of (pcₚ := 37) (fun _ => x_iload_n rfl (rk_o (rfl) rfl rfl)) ?_
        refine Ew_of (pcₚ := 41) (fun _ => x_goto rfl rfl) ?_
        exact hc41 (a2) _ _ _ _  (rk_o (rfl) rfl rfl) (rk_o (rfl) rfl rfl) (rk_s) H O (SF_refl) (SA_refl)     (show inr (a2) from h1) (show ((z28) = (0) ∧ (a2) = (0)) ∨ ((z28) ≠ (0) ∧ (a2) = (a2)) from q_3569 b32)
  · refine Ew_of (pcₚ := 8) (fun _ => x_lconst (z := 0) rfl (by decide)) ?_
    exact w_lreturn rfl (k (0) _ _ _ H O (cF10) (cA10) (show inrJ (0) from q_81))
abbrev V13 : vV := [(0, 0, [(4, 0), (4, 0), (4, 0), (4, 0), (4, 0), (4, 0), (4, 0), (4, 0), (4, 0), (4, 0), (4, 0), (4, 0), (4, 0), (4, 0), (4, 0), (4, 0), (4, 0), (0, 0), (0, 0)]), (1, 4, []), (0, 7, [(4, 0), (0, 0), (1, 0), (0, 0), (0, 0)]), (1, 0, []), (0, 7, [(4, 0), (0, 0), (1, 0), (0, 0), (0, 0)]), (1, 0, []), (0, 7, [(4, 0), (0, 0), (1, 0), (0, 0), (0, 0)]), (1, 0, []), (0, 7, [(4, 0), (0, 0), (1, 0), (0, 0), (0, 0)]), (1, 0, [])]
theorem len_V13_oz_R3cls : (V13).length = 10 := by decide +kernel
theorem oz_R3cls_32 : vsub V13 V24 [] = true := by decide +kernel
theorem oz_R3cls_33 : vsub V13 V27_Row [2] = true := by decide +kernel
theorem oz_R3cls_34 : vsub V13 V53_Br [3] = true := by decide +kernel
theorem oz_R3cls_35 : vsub V13 V54 [] = true := by decide +kernel
theorem oz_R3cls_36 : vsub V13 V27_Row [4] = true := by decide +kernel
theorem oz_R3cls_37 : vsub V13 V53_Br [5] = true := by decide +kernel
theorem oz_R3cls_38 : vsub V13 V27_Row [6] = true := by decide +kernel
theorem oz_R3cls_39 : vsub V13 V53_Br [7] = true := by decide +kernel
theorem oz_R3cls_40 : vsub V13 V27_Row [8] = true := by decide +kernel
theorem oz_R3cls_41 : vsub V13 V53_Br [9] = true := by decide +kernel
/-- PackHouse.poly: this, this.rows, this.rows.0, this.rows.0.bytes, this.rows.1, this.rows.1.bytes, this.rows.2, this.rows.2.bytes, this.rows.3, this.rows.3.bytes -/
theorem C13 {σE : rS} {D N : Nat → Nat} {F : hF} {A : hA} {d c s : Nat} {Q : wQ} (H : HW V13 σE D N F A) (HT : STC σE) {a1 a2 a3 a4 : Int} (pf1 : HID (F 0 0 = (D 1 : Int))) (pf2 : HID (A 1 0 = (D 2 : Int))) (pf3 : HID (F 2 0 = (D 3 : Int))) (pf4 : HID (A 1 1 = (D 4 : Int))) (pf5 : HID (F 4 0 = (D 5 : Int))) (pf6 : HID (A 1 2 = (D 6 : Int))) (pf7 : HID (F 6 0 = (D 7 : Int))) (pf8 : HID (A 1 3 = (D 8 : Int))) (pf9 : HID (F 8 0 = (D 9 : Int))) (n1 : Int) (en1 : HID ((N 1 : Int) = n1)) (n3 : Int) (en3 : HID ((N 3 : Int) = n3)) (n5 : Int) (en5 : HID ((N 5 : Int) = n5)) (n7 : Int) (en7 : HID ((N 7 : Int) = n7)) (n9 : Int) (en9 : HID ((N 9 : Int) = n9)) (u2_1 : Int) (eu2_1 : HID (F 2 1 = u2_1)) (u4_1 : Int) (eu4_1 : HID (F 4 1 = u4_1)) (u6_1 : Int) (eu6_1 : HID (F 6 1 = u6_1)) (u8_1 : Int) (eu8_1 : HID (F 8 1 = u8_1)) (h0 : inr (a1)) (h1 : inr (a2)) (h2 : inr (a3)) (h3 : inr (a4)) (h4 : (a4) = 0 ∨ (a4) = 1) (h5 : (n1) = 4) (h6 : 0 ≤ (u2_1) ∧ (u2_1) ≤ (n3) ∧ (n3) ≤ 65536) (h7 : 0 ≤ (u4_1) ∧ (u4_1) ≤ (n5) ∧ (n5) ≤ 65536) (h8 : 0 ≤ (u6_1) ∧ (u6_1) ≤ (n7) ∧ (n7) ≤ 65536) (h9 : 0 ≤ (u8_1) ∧ (u8_1) ≤ (n9) ∧ (n9) ≤ 65536) (k : ∀ (z : Int) (σ : rS) (Fₚ : hF) (Aₚ : hA), HW V13 σ D N Fₚ Aₚ → OUT (V13).length D N σE c s D N σ c s → SF [] F Fₚ → SA [] A Aₚ → (inr (z)) → Q (some (I z)) σ c s) : Ew 13 (d + 2) 0 (rargs 0 [.ref (D 0), I a1, I a2, I a3, I a4]) [] σE c s Q := by
  have O := OUT_refl (n := (V13).length) (D := D) (N := N) (σ := σE) (c := c) (s := s)
  have HE := H
  have r5 : HID ((0 : Int) ≤ n1 ∧ n1 ≤ 1000000) := nrng (H.nle 1 (ltn len_V13_oz_R3cls rfl)) (show (N 1 : Int) = n1 from en1)
  have r6 : HID ((0 : Int) ≤ n3 ∧ n3 ≤ 1000000) := nrng (H.nle 3 (ltn len_V13_oz_R3cls rfl)) (show (N 3 : Int) = n3 from en3)
  have r7 : HID ((0 : Int) ≤ n5 ∧ n5 ≤ 1000000) := nrng (H.nle 5 (ltn len_V13_oz_R3cls rfl)) (show (N 5 : Int) = n5 from en5)
  have r8 : HID ((0 : Int) ≤ n7 ∧ n7 ≤ 1000000) := nrng (H.nle 7 (ltn len_V13_oz_R3cls rfl)) (show (N 7 : Int) = n7 from en7)
  have r9 : HID ((0 : Int) ≤ n9 ∧ n9 ≤ 1000000) := nrng (H.nle 9 (ltn len_V13_oz_R3cls rfl)) (show (N 9 : Int) = n9 from en9)
  refine Ew_of (pcₚ := 1) (fun _ => x_iload_n rfl rfl) ?_
  refine w_stat24 rfl rfl (by rfl) (C24 (D := puc 0 D) (N := puc 0 N) (HW_subc H oz_R3cls_32 oz_R3cls_12) (show inr (a1) from h0) (fun z10 σ10 F10ₚ A10ₚ Hₚ Oₚ hS10 hA10 pz10_0 pz10_1 => ⟨rretB rfl pz10_0, ?_⟩))
  refine v_backc (c := c) (s := s) H oz_R3cls_32 oz_R3cls_12 Hₚ Oₚ (fun F10 A10 H Oₚ eF10 eA10 => ?_)
  have O := OUT_trans O Oₚ
  -- PackHouse.isRow
  have cF10 : SF oz_R3clsl_0 F F10 := SF_trans (SF_refl) (SF_gluc (ι := oz_R3clsl_1) oz_R3cls_12 hS10 eF10 (by decide +kernel)) (any_sub (lₚ := []) (by decide +kernel))
  have mF10 := SFm_of cF10 oz_R3cls_10
  have cA10 : SA oz_R3clsl_1 A A10 := SA_trans (SA_refl) (SA_gluc (ι := oz_R3clsl_1) oz_R3cls_12 hA10 eA10 (by decide +kernel)) (any_subA (lₚ := []) (by decide +kernel))
  have mA10 := SAm_of cA10 oz_R3cls_11
  refine w_ifne (t := 9) rfl rfl (show inr (z10) from q_15 pz10_0) (fun b11 => ?_) (fun b11 => ?_)
  · refine Ew_of (pcₚ := 10) (fun _ => x_aload_n rfl rfl) ?_
    refine v_g H (o := 0) (v := .ref (D 1)) rfl rfl rfl rfl rfl (vrf ((mF10 0 0 rfl).trans (pf1))) ?_
    refine Ew_of (pcₚ := 14) (fun _ => x_iload_n rfl rfl) ?_
    rcases (show a1 = 0 ∨ a1 = 1 ∨ a1 = 2 ∨ a1 = 3 by omega) with b12 | b12 | b12 | b12
    · refine v_lR H (o := 1) rfl rfl rfl rfl rfl (n := n1) (en1) (show 0 ≤ a1 ∧ a1 < n1 from q_4225 (HIDe r5) b12 h5) (z := ((D 2 : Nat) : Int)) (v := .ref (D 2)) ((congrArg (A10 1) b12).trans ((mA10 1 rfl 0).trans (pf2))) (vrf rfl) ?_
      refine Ew_of (pcₚ := 16) (fun _ => x_iload_n rfl rfl) ?_
      refine Ew_of (pcₚ := 17) (fun _ => x_iload_n rfl rfl) ?_
      refine w_stat24 rfl rfl (by rfl) (C27_Row (D := puc 2 D) (N := puc 2 N) (HW_subc H oz_R3cls_33 oz_R3cls_13) (u2_1) (((mF10 2 1 rfl).trans (eu2_1))) (show inr (a2) from h1) (show inr (a3) from h2) (fun z13 σ13 F13ₚ A13ₚ Hₚ Oₚ hS13 hA13 pz13_0 pz13_1 => ⟨rretB rfl pz13_0, ?_⟩))
      refine v_backc (c := c) (s := s) H oz_R3cls_33 oz_R3cls_13 Hₚ Oₚ (fun F13 A13 H Oₚ eF13 eA13 => ?_)
      have O := OUT_trans O Oₚ
      -- PackHouse.isPart
      have cF13 : SF oz_R3clsl_0 F F13 := SF_trans (cF10) (SF_gluc (ι := oz_R3clsl_2) oz_R3cls_13 hS13 eF13 (by decide +kernel)) (any_sub (lₚ := []) (by decide +kernel))
      have mF13 := SFm_of cF13 oz_R3cls_10
      have cA13 : SA oz_R3clsl_1 A A13 := SA_trans (cA10) (SA_gluc (ι := oz_R3clsl_2) oz_R3cls_13 hA13 eA13 (by decide +kernel)) (any_subA (lₚ := []) (by decide +kernel))
      have mA13 := SAm_of cA13 oz_R3cls_11
      refine Ew_of (pcₚ := 22) (fun _ => x_istore rfl) ?_
      refine Ew_of (pcₚ := 23) (fun _ => x_aload_n rfl (rk_o (rfl) rfl rfl)) ?_
      refine v_g H (o := 0) (v := .ref (D 1)) rfl rfl rfl rfl rfl (vrf ((mF13 0 0 rfl).trans (pf1))) ?_
      refine Ew_of (pcₚ := 27) (fun _ => x_iload_n rfl (rk_o (rfl) rfl rfl)) ?_
      refine v_lR H (o := 1) rfl rfl rfl rfl rfl (n := n1) (en1) (show 0 ≤ a1 ∧ a1 < n1 from q_4225 (HIDe r5) b12 h5) (z := ((D 2 : Nat) : Int)) (v := .ref (D 2)) ((congrArg (A13 1) b12).trans ((mA13 1 rfl 0).trans (pf2))) (vrf rfl) ?_
      refine v_g H (o := 2) (v := .ref (D 3)) rfl rfl rfl rfl rfl (vrf ((mF13 2 0 rfl).trans (pf3))) ?_
      refine Ew_of (pcₚ := 33) (fun _ => x_iload rfl rk_s) ?_
      have hc41 : ∀ (tc41_0 : Int), ∀ (ls : rO) (σ : rS) (F_c41 : hF) (A_c41 : hA) , rlook ls 3 = some (I (a3)) → rlook ls 4 = some (I (a4)) → rlook ls 5 = some (I (z13)) → HW V13 σ D N F_c41 A_c41 → OUT (V13).length D N σE c s D N σ c s → SF [] F13 F_c41 → SA [] A13 A_c41 → (inr (tc41_0)) → (((z13) = (0) ∧ (tc41_0) = (0)) ∨ ((z13) ≠ (0) ∧ (tc41_0) = (a2))) → Ew 13 (d + 2) 41 ls [I (tc41_0), .ref (D 3)] σ c s Q := by
       as_aux_lemma =>
        intro tc41_0 ls σ F_c41 A_c41  lc41_3 lc41_4 lc41_5 H O hS_c41 hA_c41     jc41_0 jc41_1
        have cF_c41 : SF oz_R3clsl_0 F F_c41 := SF_trans (cF13) hS_c41 (any_sub (by decide +kernel))
        have mF_c41 := SFm_of cF_c41 oz_R3cls_10
        have cA_c41 : SA oz_R3clsl_1 A A_c41 := SA_trans (cA13) hA_c41 (any_subA (by decide +kernel))
        have mA_c41 := SAm_of cA_c41 oz_R3cls_11
        refine Ew_of (pcₚ := 43) (fun _ => x_iload rfl lc41_5) ?_
        have hc51 : ∀ (tc51_0 : Int), ∀ (ls : rO) (σ : rS) (F_c51 : hF) (A_c51 : hA) , rlook ls 4 = some (I (a4)) → HW V13 σ D N F_c51 A_c51 → OUT (V13).length D N σE c s D N σ c s → SF [] F_c41 F_c51 → SA [] A_c41 A_c51 → (inr (tc51_0)) → (((z13) = (0) ∧ (tc51_0) = (0)) ∨ ((z13) ≠ (0) ∧ (tc51_0) = (a3))) → Ew 13 (d + 2) 51 ls [I (tc51_0), I (tc41_0), .ref (D 3)] σ c s Q := by
         as_aux_lemma =>
          intro tc51_0 ls σ F_c51 A_c51  lc51_4 H O hS_c51 hA_c51     jc51_0 jc51_1
          have cF_c51 : SF oz_R3clsl_0 F F_c51 := SF_trans (cF_c41) hS_c51 (any_sub (by decide +kernel))
          have mF_c51 := SFm_of cF_c51 oz_R3cls_10
          have cA_c51 : SA oz_R3clsl_1 A A_c51 := SA_trans (cA_c41) hA_c51 (any_subA (by decide +kernel))
          have mA_c51 := SAm_of cA_c51 oz_R3cls_11
          refine w_stat24 rfl rfl (by rfl) (C53_Br (D := puc 3 D) (N := puc 3 N) (HW_subc H oz_R3cls_34 oz_R3cls_14) (STC_out HT HE O) (n3) (en3) (show inr (tc41_0) from jc41_0) (show inr (tc51_0) from jc51_0) (show 0 ≤ (tc41_0) ∧ (tc41_0) ≤ (tc51_0) ∧ (tc51_0) ≤ (n3) by have qh0 := HIDe r6; omega) (fun z14 σ14 F14ₚ A14ₚ Hₚ Oₚ hS14 hA14 pz14_0 => ⟨rfl, ?_⟩))
          refine v_backc (c := c) (s := s) H oz_R3cls_34 oz_R3cls_14 Hₚ Oₚ (fun F14 A14 H Oₚ eF14 eA14 => ?_)
          have O := OUT_trans O Oₚ
          -- PackHouse.polynomialSum
          have cF14 : SF oz_R3clsl_0 F F14 := SF_trans (cF_c51) (SF_gluc (ι := oz_R3clsl_3) oz_R3cls_14 hS14 eF14 (by decide +kernel)) (any_sub (lₚ := []) (by decide +kernel))
          have mF14 := SFm_of cF14 oz_R3cls_10
          have cA14 : SA oz_R3clsl_1 A A14 := SA_trans (cA_c51) (SA_gluc (ι := oz_R3clsl_3) oz_R3cls_14 hA14 eA14 (by decide +kernel)) (any_subA (lₚ := []) (by decide +kernel))
          have mA14 := SAm_of cA14 oz_R3cls_11
          refine Ew_of (pcₚ := 56) (fun _ => x_istore rfl) ?_
          refine Ew_of (pcₚ := 58) (fun _ => x_iload rfl (rk_o (lc51_4) rfl rfl)) ?_
          refine w_ifeq (t := 69) rfl rfl (show inr (a4) from h3) (fun b15 => ?_) (fun b15 => ?_)
          · refine Ew_of (pcₚ := 71) (fun _ => x_iload rfl rk_s) ?_
            exact w_ireturn rfl (k (z14) _ _ _ H O (cF14) (cA14) (show inr (z14) from pz14_0))
          · refine Ew_of (pcₚ := 63) (fun _ => x_iload rfl rk_s) ?_
            refine w_stat24 rfl rfl (by rfl) (C54 (D := puc 0 D) (N := puc 0 N) (HW_subc H oz_R3cls_35 oz_R3cls_12) (show inr (z14) from pz14_0) (fun z16 σ16 F16ₚ A16ₚ Hₚ Oₚ hS16 hA16 pz16_0 => ⟨rfl, ?_⟩))
            refine v_backc (c := c) (s := s) H oz_R3cls_35 oz_R3cls_12 Hₚ Oₚ (fun F16 A16 H Oₚ eF16 eA16 => ?_)
            have O := OUT_trans O Oₚ
            -- PackHouse.maskedSum
            have cF16 : SF oz_R3clsl_0 F F16 := SF_trans (cF14) (SF_gluc (ι := oz_R3clsl_1) oz_R3cls_12 hS16 eF16 (by decide +kernel)) (any_sub (lₚ := []) (by decide +kernel))
            have mF16 := SFm_of cF16 oz_R3cls_10
            have cA16 : SA oz_R3clsl_1 A A16 := SA_trans (cA14) (SA_gluc (ι := oz_R3clsl_1) oz_R3cls_12 hA16 eA16 (by decide +kernel)) (any_subA (lₚ := []) (by decide +kernel))
            have mA16 := SAm_of cA16 oz_R3cls_11
            refine Ew_of (pcₚ := 71) (fun _ => x_goto rfl rfl) ?_
            exact w_ireturn rfl (k (z16) _ _ _ H O (cF16) (cA16) (show inr (z16) from pz16_0))
        refine w_ifeq (t := 50) rfl rfl (show inr (z13) from q_15 pz13_0) (fun b17 => ?_) (fun b17 => ?_)
        · refine Ew_of (pcₚ := 51) (fun _ => x_iconst rfl) ?_
          exact hc51 (0) _ _ _ _  (lc41_4) H O (SF_refl) (SA_refl)     (show inr (0) from q_20) (show ((z13) = (0) ∧ (0) = (0)) ∨ ((z13) ≠ (0) ∧ (0) = (a3)) from q_3568 b17)
        · refine Ew_of (pcₚ := 47) (fun _ => x_iload_n rfl lc41_3) ?_
          refine Ew_of (pcₚ := 51) (fun _ => x_goto rfl rfl) ?_
          exact hc51 (a3) _ _ _ _  (lc41_4) H O (SF_refl) (SA_refl)     (show inr (a3) from h2) (show ((z13) = (0) ∧ (a3) = (0)) ∨ ((z13) ≠ (0) ∧ (a3) = (a3)) from q_3569 b17)
      refine w_ifeq (t := 40) rfl rfl (show inr (z13) from q_15 pz13_0) (fun b18 => ?_) (fun b18 => ?_)
      · refine Ew_of (pcₚ := 41) (fun _ => x_iconst rfl) ?_
        exact hc41 (0) _ _ _ _  (rk_o (rfl) rfl rfl) (rk_o (rfl) rfl rfl) (rk_s) H O (SF_refl) (SA_refl)     (show inr (0) from q_20) (show ((z13) = (0) ∧ (0) = (0)) ∨ ((z13) ≠ (0) ∧ (0) = (a2)) from q_3568 b18)
      · refine Ew_of (pcₚ := 37) (fun _ => x_iload_n rfl (rk_o (rfl) rfl rfl)) ?_
        refine Ew_of (pcₚ := 41) (fun _ => x_goto rfl rfl) ?_
        exact hc41 (a2) _ _ _ _  (rk_o (rfl) rfl rfl) (rk_o (rfl) rfl rfl) (rk_s) H O (SF_refl) (SA_refl)     (show inr (a2) from h1) (show ((z13) = (0) ∧ (a2) = (0)) ∨ ((z13) ≠ (0) ∧ (a2) = (a2)) from q_3569 b18)
    · refine v_lR H (o := 1) rfl rfl rfl rfl rfl (n := n1) (en1) (show 0 ≤ a1 ∧ a1 < n1 from q_4226 (HIDe r5) b12 h5) (z := ((D 4 : Nat) : Int)) (v := .ref (D 4)) ((congrArg (A10 1) b12).trans ((mA10 1 rfl 1).trans (pf4))) (vrf rfl) ?_
      refine Ew_of (pcₚ := 16) (fun _ => x_iload_n rfl rfl) ?_
      refine Ew_of (pcₚ := 17) (fun _ => x_iload_n rfl rfl) ?_
      refine w_stat24 rfl rfl (by rfl) (C27_Row (D := puc 4 D) (N := puc 4 N) (HW_subc H oz_R3cls_36 oz_R3cls_15) (u4_1) (((mF10 4 1 rfl).trans (eu4_1))) (show inr (a2) from h1) (show inr (a3) from h2) (fun z19 σ19 F19ₚ A19ₚ Hₚ Oₚ hS19 hA19 pz19_0 pz19_1 => ⟨rretB rfl pz19_0, ?_⟩))
      refine v_backc (c := c) (s := s) H oz_R3cls_36 oz_R3cls_15 Hₚ Oₚ (fun F19 A19 H Oₚ eF19 eA19 => ?_)
      have O := OUT_trans O Oₚ
      -- PackHouse.isPart
      have cF19 : SF oz_R3clsl_0 F F19 := SF_trans (cF10) (SF_gluc (ι := oz_R3clsl_4) oz_R3cls_15 hS19 eF19 (by decide +kernel)) (any_sub (lₚ := []) (by decide +kernel))
      have mF19 := SFm_of cF19 oz_R3cls_10
      have cA19 : SA oz_R3clsl_1 A A19 := SA_trans (cA10) (SA_gluc (ι := oz_R3clsl_4) oz_R3cls_15 hA19 eA19 (by decide +kernel)) (any_subA (lₚ := []) (by decide +kernel))
      have mA19 := SAm_of cA19 oz_R3cls_11
      refine Ew_of (pcₚ := 22) (fun _ => x_istore rfl) ?_
      refine Ew_of (pcₚ := 23) (fun _ => x_aload_n rfl (rk_o (rfl) rfl rfl)) ?_
      refine v_g H (o := 0) (v := .ref (D 1)) rfl rfl rfl rfl rfl (vrf ((mF19 0 0 rfl).trans (pf1))) ?_
      refine Ew_of (pcₚ := 27) (fun _ => x_iload_n rfl (rk_o (rfl) rfl rfl)) ?_
      refine v_lR H (o := 1) rfl rfl rfl rfl rfl (n := n1) (en1) (show 0 ≤ a1 ∧ a1 < n1 from q_4226 (HIDe r5) b12 h5) (z := ((D 4 : Nat) : Int)) (v := .ref (D 4)) ((congrArg (A19 1) b12).trans ((mA19 1 rfl 1).trans (pf4))) (vrf rfl) ?_
      refine v_g H (o := 4) (v := .ref (D 5)) rfl rfl rfl rfl rfl (vrf ((mF19 4 0 rfl).trans (pf5))) ?_
      refine Ew_of (pcₚ := 33) (fun _ => x_iload rfl rk_s) ?_
      have hc41 : ∀ (tc41_0 : Int), ∀ (ls : rO) (σ : rS) (F_c41 : hF) (A_c41 : hA) , rlook ls 3 = some (I (a3)) → rlook ls 4 = some (I (a4)) → rlook ls 5 = some (I (z19)) → HW V13 σ D N F_c41 A_c41 → OUT (V13).length D N σE c s D N σ c s → SF [] F19 F_c41 → SA [] A19 A_c41 → (inr (tc41_0)) → (((z19) = (0) ∧ (tc41_0) = (0)) ∨ ((z19) ≠ (0) ∧ (tc41_0) = (a2))) → Ew 13 (d + 2) 41 ls [I (tc41_0), .ref (D 5)] σ c s Q := by
       as_aux_lemma =>
        intro tc41_0 ls σ F_c41 A_c41  lc41_3 lc41_4 lc41_5 H O hS_c41 hA_c41     jc41_0 jc41_1
        have cF_c41 : SF oz_R3clsl_0 F F_c41 := SF_trans (cF19) hS_c41 (any_sub (by decide +kernel))
        have mF_c41 := SFm_of cF_c41 oz_R3cls_10
        have cA_c41 : SA oz_R3clsl_1 A A_c41 := SA_trans (cA19) hA_c41 (any_subA (by decide +kernel))
        have mA_c41 := SAm_of cA_c41 oz_R3cls_11
        refine Ew_of (pcₚ := 43) (fun _ => x_iload rfl lc41_5) ?_
        have hc51 : ∀ (tc51_0 : Int), ∀ (ls : rO) (σ : rS) (F_c51 : hF) (A_c51 : hA) , rlook ls 4 = some (I (a4)) → HW V13 σ D N F_c51 A_c51 → OUT (V13).length D N σE c s D N σ c s → SF [] F_c41 F_c51 → SA [] A_c41 A_c51 → (inr (tc51_0)) → (((z19) = (0) ∧ (tc51_0) = (0)) ∨ ((z19) ≠ (0) ∧ (tc51_0) = (a3))) → Ew 13 (d + 2) 51 ls [I (tc51_0), I (tc41_0), .ref (D 5)] σ c s Q := by
         as_aux_lemma =>
          intro tc51_0 ls σ F_c51 A_c51  lc51_4 H O hS_c51 hA_c51     jc51_0 jc51_1
          have cF_c51 : SF oz_R3clsl_0 F F_c51 := SF_trans (cF_c41) hS_c51 (any_sub (by decide +kernel))
          have mF_c51 := SFm_of cF_c51 oz_R3cls_10
          have cA_c51 : SA oz_R3clsl_1 A A_c51 := SA_trans (cA_c41) hA_c51 (any_subA (by decide +kernel))
          have mA_c51 := SAm_of cA_c51 oz_R3cls_11
          refine w_stat24 rfl rfl (by rfl) (C53_Br (D := puc 5 D) (N := puc 5 N) (HW_subc H oz_R3cls_37 oz_R3cls_16) (STC_out HT HE O) (n5) (en5) (show inr (tc41_0) from jc41_0) (show inr (tc51_0) from jc51_0) (show 0 ≤ (tc41_0) ∧ (tc41_0) ≤ (tc51_0) ∧ (tc51_0) ≤ (n5) by have qh0 := HIDe r7; omega) (fun z20 σ20 F20ₚ A20ₚ Hₚ Oₚ hS20 hA20 pz20_0 => ⟨rfl, ?_⟩))
          refine v_backc (c := c) (s := s) H oz_R3cls_37 oz_R3cls_16 Hₚ Oₚ (fun F20 A20 H Oₚ eF20 eA20 => ?_)
          have O := OUT_trans O Oₚ
          -- PackHouse.polynomialSum
          have cF20 : SF oz_R3clsl_0 F F20 := SF_trans (cF_c51) (SF_gluc (ι := oz_R3clsl_5) oz_R3cls_16 hS20 eF20 (by decide +kernel)) (any_sub (lₚ := []) (by decide +kernel))
          have mF20 := SFm_of cF20 oz_R3cls_10
          have cA20 : SA oz_R3clsl_1 A A20 := SA_trans (cA_c51) (SA_gluc (ι := oz_R3clsl_5) oz_R3cls_16 hA20 eA20 (by decide +kernel)) (any_subA (lₚ := []) (by decide +kernel))
          have mA20 := SAm_of cA20 oz_R3cls_11
          refine Ew_of (pcₚ := 56) (fun _ => x_istore rfl) ?_
          refine Ew_of (pcₚ := 58) (fun _ => x_iload rfl (rk_o (lc51_4) rfl rfl)) ?_
          refine w_ifeq (t := 69) rfl rfl (show inr (a4) from h3) (fun b21 => ?_) (fun b21 => ?_)
          · refine Ew_of (pcₚ := 71) (fun _ => x_iload rfl rk_s) ?_
            exact w_ireturn rfl (k (z20) _ _ _ H O (cF20) (cA20) (show inr (z20) from pz20_0))
          · refine Ew_of (pcₚ := 63) (fun _ => x_iload rfl rk_s) ?_
            refine w_stat24 rfl rfl (by rfl) (C54 (D := puc 0 D) (N := puc 0 N) (HW_subc H oz_R3cls_35 oz_R3cls_12) (show inr (z20) from pz20_0) (fun z22 σ22 F22ₚ A22ₚ Hₚ Oₚ hS22 hA22 pz22_0 => ⟨rfl, ?_⟩))
            refine v_backc (c := c) (s := s) H oz_R3cls_35 oz_R3cls_12 Hₚ Oₚ (fun F22 A22 H Oₚ eF22 eA22 => ?_)
            have O := OUT_trans O Oₚ
            -- PackHouse.maskedSum
            have cF22 : SF oz_R3clsl_0 F F22 := SF_trans (cF20) (SF_gluc (ι := oz_R3clsl_1) oz_R3cls_12 hS22 eF22 (by decide +kernel)) (any_sub (lₚ := []) (by decide +kernel))
            have mF22 := SFm_of cF22 oz_R3cls_10
            have cA22 : SA oz_R3clsl_1 A A22 := SA_trans (cA20) (SA_gluc (ι := oz_R3clsl_1) oz_R3cls_12 hA22 eA22 (by decide +kernel)) (any_subA (lₚ := []) (by decide +kernel))
            have mA22 := SAm_of cA22 oz_R3cls_11
            refine Ew_of (pcₚ := 71) (fun _ => x_goto rfl rfl) ?_
            exact w_ireturn rfl (k (z22) _ _ _ H O (cF22) (cA22) (show inr (z22) from pz22_0))
        refine w_ifeq (t := 50) rfl rfl (show inr (z19) from q_15 pz19_0) (fun b23 => ?_) (fun b23 => ?_)
        · refine Ew_of (pcₚ := 51) (fun _ => x_iconst rfl) ?_
          exact hc51 (0) _ _ _ _  (lc41_4) H O (SF_refl) (SA_refl)     (show inr (0) from q_20) (show ((z19) = (0) ∧ (0) = (0)) ∨ ((z19) ≠ (0) ∧ (0) = (a3)) from q_3568 b23)
        · refine Ew_of (pcₚ := 47) (fun _ => x_iload_n rfl lc41_3) ?_
          refine Ew_of (pcₚ := 51) (fun _ => x_goto rfl rfl) ?_
          exact hc51 (a3) _ _ _ _  (lc41_4) H O (SF_refl) (SA_refl)     (show inr (a3) from h2) (show ((z19) = (0) ∧ (a3) = (0)) ∨ ((z19) ≠ (0) ∧ (a3) = (a3)) from q_3569 b23)
      refine w_ifeq (t := 40) rfl rfl (show inr (z19) from q_15 pz19_0) (fun b24 => ?_) (fun b24 => ?_)
      · refine Ew_of (pcₚ := 41) (fun _ => x_iconst rfl) ?_
        exact hc41 (0) _ _ _ _  (rk_o (rfl) rfl rfl) (rk_o (rfl) rfl rfl) (rk_s) H O (SF_refl) (SA_refl)     (show inr (0) from q_20) (show ((z19) = (0) ∧ (0) = (0)) ∨ ((z19) ≠ (0) ∧ (0) = (a2)) from q_3568 b24)
      · refine Ew_of (pcₚ := 37) (fun _ => x_iload_n rfl (rk_o (rfl) rfl rfl)) ?_
        refine Ew_of (pcₚ := 41) (fun _ => x_goto rfl rfl) ?_
        exact hc41 (a2) _ _ _ _  (rk_o (rfl) rfl rfl) (rk_o (rfl) rfl rfl) (rk_s) H O (SF_refl) (SA_refl)     (show inr (a2) from h1) (show ((z19) = (0) ∧ (a2) = (0)) ∨ ((z19) ≠ (0) ∧ (a2) = (a2)) from q_3569 b24)
    · refine v_lR H (o := 1) rfl rfl rfl rfl rfl (n := n1) (en1) (show 0 ≤ a1 ∧ a1 < n1 from q_4227 (HIDe r5) b12 h5) (z := ((D 6 : Nat) : Int)) (v := .ref (D 6)) ((congrArg (A10 1) b12).trans ((mA10 1 rfl 2).trans (pf6))) (vrf rfl) ?_
      refine Ew_of (pcₚ := 16) (fun _ => x_iload_n rfl rfl) ?_
      refine Ew_of (pcₚ := 17) (fun _ => x_iload_n rfl rfl) ?_
      refine w_stat24 rfl rfl (by rfl) (C27_Row (D := puc 6 D) (N := puc 6 N) (HW_subc H oz_R3cls_38 oz_R3cls_17) (u6_1) (((mF10 6 1 rfl).trans (eu6_1))) (show inr (a2) from h1) (show inr (a3) from h2) (fun z25 σ25 F25ₚ A25ₚ Hₚ Oₚ hS25 hA25 pz25_0 pz25_1 => ⟨rretB rfl pz25_0, ?_⟩))
      refine v_backc (c := c) (s := s) H oz_R3cls_38 oz_R3cls_17 Hₚ Oₚ (fun F25 A25 H Oₚ eF25 eA25 => ?_)
      have O := OUT_trans O Oₚ
      -- PackHouse.isPart
      have cF25 : SF oz_R3clsl_0 F F25 := SF_trans (cF10) (SF_gluc (ι := oz_R3clsl_6) oz_R3cls_17 hS25 eF25 (by decide +kernel)) (any_sub (lₚ := []) (by decide +kernel))
      have mF25 := SFm_of cF25 oz_R3cls_10
      have cA25 : SA oz_R3clsl_1 A A25 := SA_trans (cA10) (SA_gluc (ι := oz_R3clsl_6) oz_R3cls_17 hA25 eA25 (by decide +kernel)) (any_subA (lₚ := []) (by decide +kernel))
      have mA25 := SAm_of cA25 oz_R3cls_11
      refine Ew_of (pcₚ := 22) (fun _ => x_istore rfl) ?_
      refine Ew_of (pcₚ := 23) (fun _ => x_aload_n rfl (rk_o (rfl) rfl rfl)) ?_
      refine v_g H (o := 0) (v := .ref (D 1)) rfl rfl rfl rfl rfl (vrf ((mF25 0 0 rfl).trans (pf1))) ?_
      refine Ew_of (pcₚ := 27) (fun _ => x_iload_n rfl (rk_o (rfl) rfl rfl)) ?_
      refine v_lR H (o := 1) rfl rfl rfl rfl rfl (n := n1) (en1) (show 0 ≤ a1 ∧ a1 < n1 from q_4227 (HIDe r5) b12 h5) (z := ((D 6 : Nat) : Int)) (v := .ref (D 6)) ((congrArg (A25 1) b12).trans ((mA25 1 rfl 2).trans (pf6))) (vrf rfl) ?_
      refine v_g H (o := 6) (v := .ref (D 7)) rfl rfl rfl rfl rfl (vrf ((mF25 6 0 rfl).trans (pf7))) ?_
      refine Ew_of (pcₚ := 33) (fun _ => x_iload rfl rk_s) ?_
      have hc41 : ∀ (tc41_0 : Int), ∀ (ls : rO) (σ : rS) (F_c41 : hF) (A_c41 : hA) , rlook ls 3 = some (I (a3)) → rlook ls 4 = some (I (a4)) → rlook ls 5 = some (I (z25)) → HW V13 σ D N F_c41 A_c41 → OUT (V13).length D N σE c s D N σ c s → SF [] F25 F_c41 → SA [] A25 A_c41 → (inr (tc41_0)) → (((z25) = (0) ∧ (tc41_0) = (0)) ∨ ((z25) ≠ (0) ∧ (tc41_0) = (a2))) → Ew 13 (d + 2) 41 ls [I (tc41_0), .ref (D 7)] σ c s Q := by
       as_aux_lemma =>
        intro tc41_0 ls σ F_c41 A_c41  lc41_3 lc41_4 lc41_5 H O hS_c41 hA_c41     jc41_0 jc41_1
        have cF_c41 : SF oz_R3clsl_0 F F_c41 := SF_trans (cF25) hS_c41 (any_sub (by decide +kernel))
        have mF_c41 := SFm_of cF_c41 oz_R3cls_10
        have cA_c41 : SA oz_R3clsl_1 A A_c41 := SA_trans (cA25) hA_c41 (any_subA (by decide +kernel))
        have mA_c41 := SAm_of cA_c41 oz_R3cls_11
        refine Ew_of (pcₚ := 43) (fun _ => x_iload rfl lc41_5) ?_
        have hc51 : ∀ (tc51_0 : Int), ∀ (ls : rO) (σ : rS) (F_c51 : hF) (A_c51 : hA) , rlook ls 4 = some (I (a4)) → HW V13 σ D N F_c51 A_c51 → OUT (V13).length D N σE c s D N σ c s → SF [] F_c41 F_c51 → SA [] A_c41 A_c51 → (inr (tc51_0)) → (((z25) = (0) ∧ (tc51_0) = (0)) ∨ ((z25) ≠ (0) ∧ (tc51_0) = (a3))) → Ew 13 (d + 2) 51 ls [I (tc51_0), I (tc41_0), .ref (D 7)] σ c s Q := by
         as_aux_lemma =>
          intro tc51_0 ls σ F_c51 A_c51  lc51_4 H O hS_c51 hA_c51     jc51_0 jc51_1
          have cF_c51 : SF oz_R3clsl_0 F F_c51 := SF_trans (cF_c41) hS_c51 (any_sub (by decide +kernel))
          have mF_c51 := SFm_of cF_c51 oz_R3cls_10
          have cA_c51 : SA oz_R3clsl_1 A A_c51 := SA_trans (cA_c41) hA_c51 (any_subA (by decide +kernel))
          have mA_c51 := SAm_of cA_c51 oz_R3cls_11
          refine w_stat24 rfl rfl (by rfl) (C53_Br (D := puc 7 D) (N := puc 7 N) (HW_subc H oz_R3cls_39 oz_R3cls_18) (STC_out HT HE O) (n7) (en7) (show inr (tc41_0) from jc41_0) (show inr (tc51_0) from jc51_0) (show 0 ≤ (tc41_0) ∧ (tc41_0) ≤ (tc51_0) ∧ (tc51_0) ≤ (n7) by have qh0 := HIDe r8; omega) (fun z26 σ26 F26ₚ A26ₚ Hₚ Oₚ hS26 hA26 pz26_0 => ⟨rfl, ?_⟩))
          refine v_backc (c := c) (s := s) H oz_R3cls_39 oz_R3cls_18 Hₚ Oₚ (fun F26 A26 H Oₚ eF26 eA26 => ?_)
          have O := OUT_trans O Oₚ
          -- PackHouse.polynomialSum
          have cF26 : SF oz_R3clsl_0 F F26 := SF_trans (cF_c51) (SF_gluc (ι := oz_R3clsl_7) oz_R3cls_18 hS26 eF26 (by decide +kernel)) (any_sub (lₚ := []) (by decide +kernel))
          have mF26 := SFm_of cF26 oz_R3cls_10
          have cA26 : SA oz_R3clsl_1 A A26 := SA_trans (cA_c51) (SA_gluc (ι := oz_R3clsl_7) oz_R3cls_18 hA26 eA26 (by decide +kernel)) (any_subA (lₚ := []) (by decide +kernel))
          have mA26 := SAm_of cA26 oz_R3cls_11
          refine Ew_of (pcₚ := 56) (fun _ => x_istore rfl) ?_
          refine Ew_of (pcₚ := 58) (fun _ => x_iload rfl (rk_o (lc51_4) rfl rfl)) ?_
          refine w_ifeq (t := 69) rfl rfl (show inr (a4) from h3) (fun b27 => ?_) (fun b27 => ?_)
          · refine Ew_of (pcₚ := 71) (fun _ => x_iload rfl rk_s) ?_
            exact w_ireturn rfl (k (z26) _ _ _ H O (cF26) (cA26) (show inr (z26) from pz26_0))
          · refine Ew_of (pcₚ := 63) (fun _ => x_iload rfl rk_s) ?_
            refine w_stat24 rfl rfl (by rfl) (C54 (D := puc 0 D) (N := puc 0 N) (HW_subc H oz_R3cls_35 oz_R3cls_12) (show inr (z26) from pz26_0) (fun z28 σ28 F28ₚ A28ₚ Hₚ Oₚ hS28 hA28 pz28_0 => ⟨rfl, ?_⟩))
            refine v_backc (c := c) (s := s) H oz_R3cls_35 oz_R3cls_12 Hₚ Oₚ (fun F28 A28 H Oₚ eF28 eA28 => ?_)
            have O := OUT_trans O Oₚ
            -- PackHouse.maskedSum
            have cF28 : SF oz_R3clsl_0 F F28 := SF_trans (cF26) (SF_gluc (ι := oz_R3clsl_1) oz_R3cls_12 hS28 eF28 (by decide +kernel)) (any_sub (lₚ := []) (by decide +kernel))
            have mF28 := SFm_of cF28 oz_R3cls_10
            have cA28 : SA oz_R3clsl_1 A A28 := SA_trans (cA26) (SA_gluc (ι := oz_R3clsl_1) oz_R3cls_12 hA28 eA28 (by decide +kernel)) (any_subA (lₚ := []) (by decide +kernel))
            have mA28 := SAm_of cA28 oz_R3cls_11
            refine Ew_of (pcₚ := 71) (fun _ => x_goto rfl rfl) ?_
            exact w_ireturn rfl (k (z28) _ _ _ H O (cF28) (cA28) (show inr (z28) from pz28_0))
        refine w_ifeq (t := 50) rfl rfl (show inr (z25) from q_15 pz25_0) (fun b29 => ?_) (fun b29 => ?_)
        · refine Ew_of (pcₚ := 51) (fun _ => x_iconst rfl) ?_
          exact hc51 (0) _ _ _ _  (lc41_4) H O (SF_refl) (SA_refl)     (show inr (0) from q_20) (show ((z25) = (0) ∧ (0) = (0)) ∨ ((z25) ≠ (0) ∧ (0) = (a3)) from q_3568 b29)
        · refine Ew_of (pcₚ := 47) (fun _ => x_iload_n rfl lc41_3) ?_
          refine Ew_of (pcₚ := 51) (fun _ => x_goto rfl rfl) ?_
          exact hc51 (a3) _ _ _ _  (lc41_4) H O (SF_refl) (SA_refl)     (show inr (a3) from h2) (show ((z25) = (0) ∧ (a3) = (0)) ∨ ((z25) ≠ (0) ∧ (a3) = (a3)) from q_3569 b29)
      refine w_ifeq (t := 40) rfl rfl (show inr (z25) from q_15 pz25_0) (fun b30 => ?_) (fun b30 => ?_)
      · refine Ew_of (pcₚ := 41) (fun _ => x_iconst rfl) ?_
        exact hc41 (0) _ _ _ _  (rk_o (rfl) rfl rfl) (rk_o (rfl) rfl rfl) (rk_s) H O (SF_refl) (SA_refl)     (show inr (0) from q_20) (show ((z25) = (0) ∧ (0) = (0)) ∨ ((z25) ≠ (0) ∧ (0) = (a2)) from q_3568 b30)
      · refine Ew_of (pcₚ := 37) (fun _ => x_iload_n rfl (rk_o (rfl) rfl rfl)) ?_
        refine Ew_of (pcₚ := 41) (fun _ => x_goto rfl rfl) ?_
        exact hc41 (a2) _ _ _ _  (rk_o (rfl) rfl rfl) (rk_o (rfl) rfl rfl) (rk_s) H O (SF_refl) (SA_refl)     (show inr (a2) from h1) (show ((z25) = (0) ∧ (a2) = (0)) ∨ ((z25) ≠ (0) ∧ (a2) = (a2)) from q_3569 b30)
    · refine v_lR H (o := 1) rfl rfl rfl rfl rfl (n := n1) (en1) (show 0 ≤ a1 ∧ a1 < n1 from q_4228 b12 h5) (z := ((D 8 : Nat) : Int)) (v := .ref (D 8)) ((congrArg (A10 1) b12).trans ((mA10 1 rfl 3).trans (pf8))) (vrf rfl) ?_
      refine Ew_of (pcₚ := 16) (fun _ => x_iload_n rfl rfl) ?_
      refine Ew_of (pcₚ := 17) (fun _ => x_iload_n rfl rfl) ?_
      refine w_stat24 rfl rfl (by rfl) (C27_Row (D := puc 8 D) (N := puc 8 N) (HW_subc H oz_R3cls_40 oz_R3cls_19) (u8_1) (((mF10 8 1 rfl).trans (eu8_1))) (show inr (a2) from h1) (show inr (a3) from h2) (fun z31 σ31 F31ₚ A31ₚ Hₚ Oₚ hS31 hA31 pz31_0 pz31_1 => ⟨rretB rfl pz31_0, ?_⟩))
      refine v_backc (c := c) (s := s) H oz_R3cls_40 oz_R3cls_19 Hₚ Oₚ (fun F31 A31 H Oₚ eF31 eA31 => ?_)
      have O := OUT_trans O Oₚ
      -- PackHouse.isPart
      have cF31 : SF oz_R3clsl_0 F F31 := SF_trans (cF10) (SF_gluc (ι := oz_R3clsl_8) oz_R3cls_19 hS31 eF31 (by decide +kernel)) (any_sub (lₚ := []) (by decide +kernel))
      have mF31 := SFm_of cF31 oz_R3cls_10
      have cA31 : SA oz_R3clsl_1 A A31 := SA_trans (cA10) (SA_gluc (ι := oz_R3clsl_8) oz_R3cls_19 hA31 eA31 (by decide +kernel)) (any_subA (lₚ := []) (by decide +kernel))
      have mA31 := SAm_of cA31 oz_R3cls_11
      refine Ew_of (pcₚ := 22) (fun _ => x_istore rfl) ?_
      refine Ew_of (pcₚ := 23) (fun _ => x_aload_n rfl (rk_o (rfl) rfl rfl)) ?_
      refine v_g H (o := 0) (v := .ref (D 1)) rfl rfl rfl rfl rfl (vrf ((mF31 0 0 rfl).trans (pf1))) ?_
      refine Ew_of (pcₚ := 27) (fun _ => x_iload_n rfl (rk_o (rfl) rfl rfl)) ?_
      refine v_lR H (o := 1) rfl rfl rfl rfl rfl (n := n1) (en1) (show 0 ≤ a1 ∧ a1 < n1 from q_4228 b12 h5) (z := ((D 8 : Nat) : Int)) (v := .ref (D 8)) ((congrArg (A31 1) b12).trans ((mA31 1 rfl 3).trans (pf8))) (vrf rfl) ?_
      refine v_g H (o := 8) (v := .ref (D 9)) rfl rfl rfl rfl rfl (vrf ((mF31 8 0 rfl).trans (pf9))) ?_
      refine Ew_of (pcₚ := 33) (fun _ => x_iload rfl rk_s) ?_
      have hc41 : ∀ (tc41_0 : Int), ∀ (ls : rO) (σ : rS) (F_c41 : hF) (A_c41 : hA) , rlook ls 3 = some (I (a3)) → rlook ls 4 = some (I (a4)) → rlook ls 5 = some (I (z31)) → HW V13 σ D N F_c41 A_c41 → OUT (V13).length D N σE c s D N σ c s → SF [] F31 F_c41 → SA [] A31 A_c41 → (inr (tc41_0)) → (((z31) = (0) ∧ (tc41_0) = (0)) ∨ ((z31) ≠ (0) ∧ (tc41_0) = (a2))) → Ew 13 (d + 2) 41 ls [I (tc41_0), .ref (D 9)] σ c s Q := by
       as_aux_lemma =>
        intro tc41_0 ls σ F_c41 A_c41  lc41_3 lc41_4 lc41_5 H O hS_c41 hA_c41     jc41_0 jc41_1
        have cF_c41 : SF oz_R3clsl_0 F F_c41 := SF_trans (cF31) hS_c41 (any_sub (by decide +kernel))
        have mF_c41 := SFm_of cF_c41 oz_R3cls_10
        have cA_c41 : SA oz_R3clsl_1 A A_c41 := SA_trans (cA31) hA_c41 (any_subA (by decide +kernel))
        have mA_c41 := SAm_of cA_c41 oz_R3cls_11
        refine Ew_of (pcₚ := 43) (fun _ => x_iload rfl lc41_5) ?_
        have hc51 : ∀ (tc51_0 : Int), ∀ (ls : rO) (σ : rS) (F_c51 : hF) (A_c51 : hA) , rlook ls 4 = some (I (a4)) → HW V13 σ D N F_c51 A_c51 → OUT (V13).length D N σE c s D N σ c s → SF [] F_c41 F_c51 → SA [] A_c41 A_c51 → (inr (tc51_0)) → (((z31) = (0) ∧ (tc51_0) = (0)) ∨ ((z31) ≠ (0) ∧ (tc51_0) = (a3))) → Ew 13 (d + 2) 51 ls [I (tc51_0), I (tc41_0), .ref (D 9)] σ c s Q := by
         as_aux_lemma =>
          intro tc51_0 ls σ F_c51 A_c51  lc51_4 H O hS_c51 hA_c51     jc51_0 jc51_1
          have cF_c51 : SF oz_R3clsl_0 F F_c51 := SF_trans (cF_c41) hS_c51 (any_sub (by decide +kernel))
          have mF_c51 := SFm_of cF_c51 oz_R3cls_10
          have cA_c51 : SA oz_R3clsl_1 A A_c51 := SA_trans (cA_c41) hA_c51 (any_subA (by decide +kernel))
          have mA_c51 := SAm_of cA_c51 oz_R3cls_11
          refine w_stat24 rfl rfl (by rfl) (C53_Br (D := puc 9 D) (N := puc 9 N) (HW_subc H oz_R3cls_41 oz_R3cls_20) (STC_out HT HE O) (n9) (en9) (show inr (tc41_0) from jc41_0) (show inr (tc51_0) from jc51_0) (show 0 ≤ (tc41_0) ∧ (tc41_0) ≤ (tc51_0) ∧ (tc51_0) ≤ (n9) by have qh0 := HIDe r9; omega) (fun z32 σ32 F32ₚ A32ₚ Hₚ Oₚ hS32 hA32 pz32_0 => ⟨rfl, ?_⟩))
          refine v_backc (c := c) (s := s) H oz_R3cls_41 oz_R3cls_20 Hₚ Oₚ (fun F32 A32 H Oₚ eF32 eA32 => ?_)
          have O := OUT_trans O Oₚ
          -- PackHouse.polynomialSum
          have cF32 : SF oz_R3clsl_0 F F32 := SF_trans (cF_c51) (SF_gluc (ι := oz_R3clsl_9) oz_R3cls_20 hS32 eF32 (by decide +kernel)) (any_sub (lₚ := []) (by decide +kernel))
          have mF32 := SFm_of cF32 oz_R3cls_10
          have cA32 : SA oz_R3clsl_1 A A32 := SA_trans (cA_c51) (SA_gluc (ι := oz_R3clsl_9) oz_R3cls_20 hA32 eA32 (by decide +kernel)) (any_subA (lₚ := []) (by decide +kernel))
          have mA32 := SAm_of cA32 oz_R3cls_11
          refine Ew_of (pcₚ := 56) (fun _ => x_istore rfl) ?_
          refine Ew_of (pcₚ := 58) (fun _ => x_iload rfl (rk_o (lc51_4) rfl rfl)) ?_
          refine w_ifeq (t := 69) rfl rfl (show inr (a4) from h3) (fun b33 => ?_) (fun b33 => ?_)
          · refine Ew_of (pcₚ := 71) (fun _ => x_iload rfl rk_s) ?_
            exact w_ireturn rfl (k (z32) _ _ _ H O (cF32) (cA32) (show inr (z32) from pz32_0))
          · refine Ew_of (pcₚ := 63) (fun _ => x_iload rfl rk_s) ?_
            refine w_stat24 rfl rfl (by rfl) (C54 (D := puc 0 D) (N := puc 0 N) (HW_subc H oz_R3cls_35 oz_R3cls_12) (show inr (z32) from pz32_0) (fun z34 σ34 F34ₚ A34ₚ Hₚ Oₚ hS34 hA34 pz34_0 => ⟨rfl, ?_⟩))
            refine v_backc (c := c) (s := s) H oz_R3cls_35 oz_R3cls_12 Hₚ Oₚ (fun F34 A34 H Oₚ eF34 eA34 => ?_)
            have O := OUT_trans O Oₚ
            -- PackHouse.maskedSum
            have cF34 : SF oz_R3clsl_0 F F34 := SF_trans (cF32) (SF_gluc (ι := oz_R3clsl_1) oz_R3cls_12 hS34 eF34 (by decide +kernel)) (any_sub (lₚ := []) (by decide +kernel))
            have mF34 := SFm_of cF34 oz_R3cls_10
            have cA34 : SA oz_R3clsl_1 A A34 := SA_trans (cA32) (SA_gluc (ι := oz_R3clsl_1) oz_R3cls_12 hA34 eA34 (by decide +kernel)) (any_subA (lₚ := []) (by decide +kernel))
            have mA34 := SAm_of cA34 oz_R3cls_11
            refine Ew_of (pcₚ := 71) (fun _ => x_goto rfl rfl) ?_
            exact w_ireturn rfl (k (z34) _ _ _ H O (cF34) (cA34) (show inr (z34) from pz34_0))
        refine w_ifeq (t := 50) rfl rfl (show inr (z31) from q_15 pz31_0) (fun b35 => ?_) (fun b35 => ?_)
        · refine Ew_of (pcₚ := 51) (fun _ => x_iconst rfl) ?_
          exact hc51 (0) _ _ _ _  (lc41_4) H O (SF_refl) (SA_refl)     (show inr (0) from q_20) (show ((z31) = (0) ∧ (0) = (0)) ∨ ((z31) ≠ (0) ∧ (0) = (a3)) from q_3568 b35)
        · refine Ew_of (pcₚ := 47) (fun _ => x_iload_n rfl lc41_3) ?_
          refine Ew_of (pcₚ := 51) (fun _ => x_goto rfl rfl) ?_
          exact hc51 (a3) _ _ _ _  (lc41_4) H O (SF_refl) (SA_refl)     (show inr (a3) from h2) (show ((z31) = (0) ∧ (a3) = (0)) ∨ ((z31) ≠ (0) ∧ (a3) = (a3)) from q_3569 b35)
      refine w_ifeq (t := 40) rfl rfl (show inr (z31) from q_15 pz31_0) (fun b36 => ?_) (fun b36 => ?_)
      · refine Ew_of (pcₚ := 41) (fun _ => x_iconst rfl) ?_
        exact hc41 (0) _ _ _ _  (rk_o (rfl) rfl rfl) (rk_o (rfl) rfl rfl) (rk_s) H O (SF_refl) (SA_refl)     (show inr (0) from q_20) (show ((z31) = (0) ∧ (0) = (0)) ∨ ((z31) ≠ (0) ∧ (0) = (a2)) from q_3568 b36)
      · refine Ew_of (pcₚ := 37) (fun _ => x_iload_n rfl (rk_o (rfl) rfl rfl)) ?_
        refine Ew_of (pcₚ := 41) (fun _ => x_goto rfl rfl) ?_
        exact hc41 (a2) _ _ _ _  (rk_o (rfl) rfl rfl) (rk_o (rfl) rfl rfl) (rk_s) H O (SF_refl) (SA_refl)     (show inr (a2) from h1) (show ((z31) = (0) ∧ (a2) = (0)) ∨ ((z31) ≠ (0) ∧ (a2) = (a2)) from q_3569 b36)
  · refine Ew_of (pcₚ := 8) (fun _ => x_iconst rfl) ?_
    exact w_ireturn rfl (k (0) _ _ _ H O (cF10) (cA10) (show inr (0) from q_20))
