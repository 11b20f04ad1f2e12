abbrev V18_c20_vA : vV := [(0, 0, [(4, 0), (4, 0), (4, 0), (4, 0), (4, 0), (4, 0), (4, 0), (4, 0), (4, 0), (4, 0), (4, 0), (4, 0), (4, 0), (4, 0), (4, 0), (4, 0), (4, 0), (0, 0), (0, 0)]), (1, 4, []), (0, 7, [(4, 0), (0, 0), (1, 0), (0, 0), (0, 0)]), (1, 0, []), (0, 7, [(4, 0), (0, 0), (1, 0), (0, 0), (0, 0)]), (1, 0, []), (0, 7, [(4, 0), (0, 0), (1, 0), (0, 0), (0, 0)]), (1, 0, []), (0, 7, [(4, 0), (0, 0), (1, 0), (0, 0), (0, 0)]), (1, 0, []), (1, 1, [])]
theorem len_V18_c20_vA_oz_T9rcls : (V18_c20_vA).length = 11 := by decide +kernel
theorem oz_T9rcls_1 : vsub V18_c20_vA V24 [] = true := by decide +kernel
def oz_T9rclsl_0 : List (Nat × Nat) := []
theorem oz_T9rcls_2 : (oz_T9rclsl_0).all (fun p => !tbz 0 (Nat.add (Nat.mul 32 p.1) p.2)) = true := by decide +kernel
def oz_T9rclsl_1 : List Nat := []
theorem oz_T9rcls_3 : (oz_T9rclsl_1).all (fun p => !tbz 0 p) = true := by decide +kernel
theorem oz_T9rcls_4 : okc oz_T9rclsl_1 0 = true := by decide +kernel

theorem C18_c20_vA {σE : rS} {D N : Nat → Nat} {F : hF} {A : hA} {d c s : Nat} {Q : wQ} (H : HW V18_c20_vA σE D N F A) {a1 a3 a4 : Int} (pf1 : HID (F 0 0 = (D 1 : Int))) (pf2 : HID (A 1 0 = (D 2 : Int))) (pf3 : HID (F 2 0 = (D 3 : Int))) (pf4 : HID (A 1 1 = (D 4 : Int))) (pf5 : HID (F 4 0 = (D 5 : Int))) (pf6 : HID (A 1 2 = (D 6 : Int))) (pf7 : HID (F 6 0 = (D 7 : Int))) (pf8 : HID (A 1 3 = (D 8 : Int))) (pf9 : HID (F 8 0 = (D 9 : Int))) (pf10 : HID (F 0 14 = (D 10 : Int))) (n1 : Int) (en1 : HID ((N 1 : Int) = n1)) (n3 : Int) (en3 : HID ((N 3 : Int) = n3)) (n5 : Int) (en5 : HID ((N 5 : Int) = n5)) (n7 : Int) (en7 : HID ((N 7 : Int) = n7)) (n9 : Int) (en9 : HID ((N 9 : Int) = n9)) (n10 : Int) (en10 : HID ((N 10 : Int) = n10)) (u2_1 : Int) (eu2_1 : HID (F 2 1 = u2_1)) (u4_1 : Int) (eu4_1 : HID (F 4 1 = u4_1)) (u6_1 : Int) (eu6_1 : HID (F 6 1 = u6_1)) (u8_1 : Int) (eu8_1 : HID (F 8 1 = u8_1)) (h0 : inr (a1)) (h1 : inr (0)) (h2 : inr (a3)) (h3 : inr (a4)) (h4 : (n1) = 4) (h5 : 0 ≤ (u2_1) ∧ (u2_1) ≤ (n3) ∧ (n3) ≤ 65536) (h6 : 0 ≤ (u4_1) ∧ (u4_1) ≤ (n5) ∧ (n5) ≤ 65536) (h7 : 0 ≤ (u6_1) ∧ (u6_1) ≤ (n7) ∧ (n7) ≤ 65536) (h8 : 0 ≤ (u8_1) ∧ (u8_1) ≤ (n9) ∧ (n9) ≤ 65536) (hc54 : ∀ (tc54_1 : Int), ∀ (tc54_4 : Int), ∀ (tc54_5 : Int), ∀ (ls : rO) (σ : rS) (F_c54 : hF) (A_c54 : hA) , HW V18_c20_vA σ D N F_c54 A_c54 → OUT (V18_c20_vA).length D N σE c s D N σ c s → SF [] F F_c54 → SA [] A A_c54 → (inr (tc54_1)) → (inr (tc54_4)) → (inr (tc54_5)) → (0 ≤ (tc54_1) ∧ (tc54_1) ≤ 3) → (0 ≤ (tc54_4) ∧ (tc54_4) ≤ 4) → (0 ≤ (tc54_5) ∧ (tc54_5) ≤ 65536) → ((tc54_1) = (a1) ∧ (tc54_4) = (a3) ∧ (tc54_5) = (a4)) → Ew 18 (d + 1) 54 ls [.ref (D 10), I (tc54_5), I (tc54_4), .ref (D 2), .ref (D 0), I (tc54_1), .ref (D 0)] σ c s Q) (k : ∀ (z : Int) (σ : rS) (Fₚ : hF) (Aₚ : hA), HW V18_c20_vA σ D N Fₚ Aₚ → OUT (V18_c20_vA).length D N σE c s D N σ c s → SF [] F Fₚ → SA [] A Aₚ → (inr (z)) → ((z) = -50 ∧ ((a1) < 0 ∨ 3 < (a1) ∨ (a3) < 0 ∨ 4 < (a3) ∨ (a4) < 0 ∨ 65536 < (a4))) → Q (some (I z)) σ c s) : Ew 18 (d + 1) 0 (rargs 0 [.ref (D 0), I a1, I 0, I a3, I a4]) [] σE c s Q := by
  have O := OUT_refl (n := (V18_c20_vA).length) (D := D) (N := N) (σ := σE) (c := c) (s := s)
  have HE := H
  have r5 : HID ((0 : Int) ≤ n1 ∧ n1 ≤ 1000000) := nrng (H.nle 1 (ltn len_V18_c20_vA_oz_T9rcls rfl)) (show (N 1 : Int) = n1 from en1)
  refine Ew_of (pcₚ := 1) (fun _ => x_iload_n rfl rfl) ?_
  refine w_stat24 rfl rfl (by rfl) (C24x (D := puc 0 D) (N := puc 0 N) (HW_subc H oz_T9rcls_1 oz_T9rcls_4) (show inr (a1) from h0) (fun z10 σ10 F10ₚ A10ₚ Hₚ Oₚ hS10 hA10 pz10_0 pz10_1 => ⟨rretB rfl pz10_0, ?_⟩))
  refine v_backc (c := c) (s := s) H oz_T9rcls_1 oz_T9rcls_4 Hₚ Oₚ (fun F10 A10 H Oₚ eF10 eA10 => ?_)
  have O := OUT_trans O Oₚ
  -- PackHouse.isRow
  have cF10 : SF oz_T9rclsl_0 F F10 := SF_trans (SF_refl) (SF_gluc (ι := oz_T9rclsl_1) oz_T9rcls_4 hS10 eF10 (by decide +kernel)) (any_sub (lₚ := []) (by decide +kernel))
  have mF10 := SFm_of cF10 oz_T9rcls_2
  have cA10 : SA oz_T9rclsl_1 A A10 := SA_trans (SA_refl) (SA_gluc (ι := oz_T9rclsl_1) oz_T9rcls_4 hA10 eA10 (by decide +kernel)) (any_subA (lₚ := []) (by decide +kernel))
  have mA10 := SAm_of cA10 oz_T9rcls_3
  refine w_ifeq (t := 35) rfl rfl (show inr (z10) from q_138 pz10_0) (fun b11 => ?_) (fun b11 => ?_)
  · refine Ew_of (pcₚ := 37) (fun _ => x_bipush (z := -50) rfl (by decide)) ?_
    exact w_ireturn rfl (k ((-50)) _ _ _ H O (cF10) (cA10) (show inr ((-50)) from q_2311) (show ((-50)) = -50 ∧ ((a1) < 0 ∨ 3 < (a1) ∨ (a3) < 0 ∨ 4 < (a3) ∨ (a4) < 0 ∨ 65536 < (a4)) by first | exact q_5057 b11 pz10_1 | omega))
  · refine Ew_of (pcₚ := 8) (fun _ => x_iload_n rfl rfl) ?_
    refine w_stat24 rfl rfl (by rfl) (C24x (D := puc 0 D) (N := puc 0 N) (HW_subc H oz_T9rcls_1 oz_T9rcls_4) (show inr (0) from h1) (fun z12 σ12 F12ₚ A12ₚ Hₚ Oₚ hS12 hA12 pz12_0 pz12_1 => ⟨rretB rfl pz12_0, ?_⟩))
    refine v_backc (c := c) (s := s) H oz_T9rcls_1 oz_T9rcls_4 Hₚ Oₚ (fun F12 A12 H Oₚ eF12 eA12 => ?_)
    have O := OUT_trans O Oₚ
    -- PackHouse.isRow
    have cF12 : SF oz_T9rclsl_0 F F12 := SF_trans (cF10) (SF_gluc (ι := oz_T9rclsl_1) oz_T9rcls_4 hS12 eF12 (by decide +kernel)) (any_sub (lₚ := []) (by decide +kernel))
    have mF12 := SFm_of cF12 oz_T9rcls_2
    have cA12 : SA oz_T9rclsl_1 A A12 := SA_trans (cA10) (SA_gluc (ι := oz_T9rclsl_1) oz_T9rcls_4 hA12 eA12 (by decide +kernel)) (any_subA (lₚ := []) (by decide +kernel))
    have mA12 := SAm_of cA12 oz_T9rcls_3
    refine w_ifeq (t := 35) rfl rfl (show inr (z12) from q_138 pz12_0) (fun b13 => ?_) (fun b13 => ?_)
    · refine Ew_of (pcₚ := 37) (fun _ => x_bipush (z := -50) rfl (by decide)) ?_
      exact w_ireturn rfl (k ((-50)) _ _ _ H O (cF12) (cA12) (show inr ((-50)) from q_2311) (show ((-50)) = -50 ∧ ((a1) < 0 ∨ 3 < (a1) ∨ (a3) < 0 ∨ 4 < (a3) ∨ (a4) < 0 ∨ 65536 < (a4)) by omega))
    · refine Ew_of (pcₚ := 15) (fun _ => x_iload_n rfl rfl) ?_
      refine w_iflt (t := 35) rfl rfl (show inr (a3) from h2) (fun b14 => ?_) (fun b14 => ?_)
      · refine Ew_of (pcₚ := 37) (fun _ => x_bipush (z := -50) rfl (by decide)) ?_
        exact w_ireturn rfl (k ((-50)) _ _ _ H O (cF12) (cA12) (show inr ((-50)) from q_2311) (show ((-50)) = -50 ∧ ((a1) < 0 ∨ 3 < (a1) ∨ (a3) < 0 ∨ 4 < (a3) ∨ (a4) < 0 ∨ 65536 < (a4)) by first | exact q_5058 b14 | omega))
      · refine Ew_of (pcₚ := 19) (fun _ => x_iload_n rfl rfl) ?_
        refine Ew_of (pcₚ := 20) (fun _ => x_iconst rfl) ?_
        refine w_icmpgt (t := 35) rfl rfl (show inr (a3) from h2) (show inr (4) from q_216) (fun b15 => ?_) (fun b15 => ?_)
        · refine Ew_of (pcₚ := 37) (fun _ => x_bipush (z := -50) rfl (by decide)) ?_
          exact w_ireturn rfl (k ((-50)) _ _ _ H O (cF12) (cA12) (show inr ((-50)) from q_2311) (show ((-50)) = -50 ∧ ((a1) < 0 ∨ 3 < (a1) ∨ (a3) < 0 ∨ 4 < (a3) ∨ (a4) < 0 ∨ 65536 < (a4)) by first | exact q_5059 b15 | omega))
        · refine Ew_of (pcₚ := 25) (fun _ => x_iload rfl rfl) ?_
          refine w_iflt (t := 35) rfl rfl (show inr (a4) from h3) (fun b16 => ?_) (fun b16 => ?_)
          · refine Ew_of (pcₚ := 37) (fun _ => x_bipush (z := -50) rfl (by decide)) ?_
            exact w_ireturn rfl (k ((-50)) _ _ _ H O (cF12) (cA12) (show inr ((-50)) from q_2311) (show ((-50)) = -50 ∧ ((a1) < 0 ∨ 3 < (a1) ∨ (a3) < 0 ∨ 4 < (a3) ∨ (a4) < 0 ∨ 65536 < (a4)) by first | exact q_5060 b16 | omega))
          · refine Ew_of (pcₚ := 30) (fun _ => x_iload rfl rfl) ?_
            refine Ew_of (pcₚ := 32) (fun _ => x_ldc (z := 65536) rfl (by decide)) ?_
            refine w_icmple (t := 38) rfl rfl (show inr (a4) from h3) (show inr (65536) from q_52) (fun b17 => ?_) (fun b17 => ?_)
            · refine Ew_of (pcₚ := 39) (fun _ => x_aload_n rfl rfl) ?_
              refine Ew_of (pcₚ := 40) (fun _ => x_iload_n rfl rfl) ?_
              refine Ew_of (pcₚ := 41) (fun _ => x_aload_n rfl rfl) ?_
              refine Ew_of (pcₚ := 42) (fun _ => x_aload_n rfl rfl) ?_
              refine v_g H (o := 0) (v := .ref (D 1)) rfl rfl rfl rfl rfl (vrf ((mF12 0 0 rfl).trans (pf1))) ?_
              refine Ew_of (pcₚ := 46) (fun _ => x_iload_n rfl rfl) ?_
              refine v_lR H (o := 1) rfl rfl rfl rfl rfl (n := n1) (en1) (show 0 ≤ 0 ∧ 0 < n1 from q_4791 (HIDe r5) h4) (z := ((D 2 : Nat) : Int)) (v := .ref (D 2)) ((mA12 1 rfl 0).trans (pf2)) (vrf rfl) ?_
              refine Ew_of (pcₚ := 48) (fun _ => x_iload_n rfl rfl) ?_
              refine Ew_of (pcₚ := 50) (fun _ => x_iload rfl rfl) ?_
              refine Ew_of (pcₚ := 51) (fun _ => x_aload_n rfl rfl) ?_
              refine v_g H (o := 0) (v := .ref (D 10)) rfl rfl rfl rfl rfl (vrf ((mF12 0 14 rfl).trans (pf10))) ?_
              exact hc54 (a1) (a3) (a4) _ _ _ _   H O (SF_trans (SF_trans (SF_refl) (SF_gluc (ι := oz_T9rclsl_1) oz_T9rcls_4 hS10 eF10 (by decide +kernel)) (any_sub (lₚ := []) (by decide +kernel))) (SF_gluc (ι := oz_T9rclsl_1) oz_T9rcls_4 hS12 eF12 (by decide +kernel)) (any_sub (lₚ := []) (by decide +kernel))) (SA_trans (SA_trans (SA_refl) (SA_gluc (ι := oz_T9rclsl_1) oz_T9rcls_4 hA10 eA10 (by decide +kernel)) (any_subA (lₚ := []) (by decide +kernel))) (SA_gluc (ι := oz_T9rclsl_1) oz_T9rcls_4 hA12 eA12 (by decide +kernel)) (any_subA (lₚ := []) (by decide +kernel)))     (show inr (a1) from h0) (show inr (a3) from h2) (show inr (a4) from h3) (show 0 ≤ (a1) ∧ (a1) ≤ 3 by omega) (show 0 ≤ (a3) ∧ (a3) ≤ 4 from q_4817 b14 b15) (show 0 ≤ (a4) ∧ (a4) ≤ 65536 from q_4816 b16 b17) (show (a1) = (a1) ∧ (a3) = (a3) ∧ (a4) = (a4) from q_64)
            · refine Ew_of (pcₚ := 37) (fun _ => x_bipush (z := -50) rfl (by decide)) ?_
              exact w_ireturn rfl (k ((-50)) _ _ _ H O (cF12) (cA12) (show inr ((-50)) from q_2311) (show ((-50)) = -50 ∧ ((a1) < 0 ∨ 3 < (a1) ∨ (a3) < 0 ∨ 4 < (a3) ∨ (a4) < 0 ∨ 65536 < (a4)) by first | exact q_5061 b17 | omega))
abbrev V20_c20_vA : vV := [(0, 0, [(4, 0), (4, 0), (4, 0), (4, 0), (4, 0), (4, 0), (4, 0), (4, 0), (4, 0), (4, 0), (4, 0), (4, 0), (4, 0), (4, 0), (4, 0), (4, 0), (4, 0), (0, 0), (0, 0)]), (1, 4, []), (0, 7, [(4, 0), (0, 0), (1, 0), (0, 0), (0, 0)]), (1, 0, []), (0, 7, [(4, 0), (0, 0), (1, 0), (0, 0), (0, 0)]), (1, 0, []), (0, 7, [(4, 0), (0, 0), (1, 0), (0, 0), (0, 0)]), (1, 0, []), (0, 7, [(4, 0), (0, 0), (1, 0), (0, 0), (0, 0)]), (1, 0, []), (1, 1, [])]
theorem len_V20_c20_vA_oz_T9rcls : (V20_c20_vA).length = 11 := by decide +kernel
theorem oz_T9rcls_6 : vsub V20_c20_vA V24 [] = true := by decide +kernel
theorem oz_T9rcls_7 : vsub V20_c20_vA V33_Row [2, 3] = true := by decide +kernel
def oz_T9rclsl_2 : List Nat := [2, 3]
theorem oz_T9rcls_8 : okc oz_T9rclsl_2 1538 = true := by decide +kernel

theorem C20_c20_vA {σE : rS} {D N : Nat → Nat} {F : hF} {A : hA} {d c s : Nat} {Q : wQ} (H : HW V20_c20_vA σE D N F A) (HT : STC σE) {a1 a3 : Int} (pf1 : HID (F 0 0 = (D 1 : Int))) (pf2 : HID (A 1 0 = (D 2 : Int))) (pf3 : HID (F 2 0 = (D 3 : Int))) (pf4 : HID (A 1 1 = (D 4 : Int))) (pf5 : HID (F 4 0 = (D 5 : Int))) (pf6 : HID (A 1 2 = (D 6 : Int))) (pf7 : HID (F 6 0 = (D 7 : Int))) (pf8 : HID (A 1 3 = (D 8 : Int))) (pf9 : HID (F 8 0 = (D 9 : Int))) (pf10 : HID (F 0 14 = (D 10 : Int))) (n1 : Int) (en1 : HID ((N 1 : Int) = n1)) (n3 : Int) (en3 : HID ((N 3 : Int) = n3)) (n5 : Int) (en5 : HID ((N 5 : Int) = n5)) (n7 : Int) (en7 : HID ((N 7 : Int) = n7)) (n9 : Int) (en9 : HID ((N 9 : Int) = n9)) (n10 : Int) (en10 : HID ((N 10 : Int) = n10)) (u2_1 : Int) (eu2_1 : HID (F 2 1 = u2_1)) (u4_1 : Int) (eu4_1 : HID (F 4 1 = u4_1)) (u6_1 : Int) (eu6_1 : HID (F 6 1 = u6_1)) (u8_1 : Int) (eu8_1 : HID (F 8 1 = u8_1)) (w3 : Int → Int) (ew3 : A 3 = w3) (h0 : inr (a1)) (h1 : inr (0)) (h2 : inr (a3)) (h3 : (n1) = 4) (h4 : 0 ≤ (u2_1) ∧ (u2_1) ≤ (n3) ∧ (n3) ≤ 65536) (h5 : 0 ≤ (u4_1) ∧ (u4_1) ≤ (n5) ∧ (n5) ≤ 65536) (h6 : 0 ≤ (u6_1) ∧ (u6_1) ≤ (n7) ∧ (n7) ≤ 65536) (h7 : 0 ≤ (u8_1) ∧ (u8_1) ≤ (n9) ∧ (n9) ≤ 65536) (hc68 : ∀ (tc68_1 : Int), ∀ (tc68_4 : Int), ∀ (tc68_5 : Int), ∀ (ls : rO) (σ : rS) (F_c68 : hF) (A_c68 : hA) , HW V20_c20_vA σ D N F_c68 A_c68 → OUT (V20_c20_vA).length D N σE c s D N σ c s → SF [] F F_c68 → SA [] A A_c68 → (inr (tc68_1)) → (inr (tc68_4)) → (inr (tc68_5)) → (0 ≤ (tc68_1) ∧ (tc68_1) ≤ 3) → ((tc68_4) = 1 ∨ (tc68_4) = 3 ∨ (tc68_4) = 4) → (0 ≤ (tc68_5) ∧ (tc68_5) ≤ 65536) → ((tc68_1) = (a1) ∧ (tc68_5) = (a3)) → ((tc68_4) = knF (sc ((w3)) 0 ((u2_1)))) → Ew 20 (d + 3) 68 ls [.ref (D 10), I (tc68_5), I (tc68_4), .ref (D 2), .ref (D 0), I (tc68_1), .ref (D 0)] σ c s Q) (k : ∀ (z : Int) (σ : rS) (Fₚ : hF) (Aₚ : hA), HW V20_c20_vA σ D N Fₚ Aₚ → OUT (V20_c20_vA).length D N σE c s D N σ c s → SF [] F Fₚ → SA [] A Aₚ → (inr (z)) → ((z) = -50 ∧ ((a1) < 0 ∨ 3 < (a1) ∨ (a3) < 0 ∨ 65536 < (a3)) ∨ (z) = -51 ∧ (0 ≤ (a1) ∧ (a1) ≤ 3 ∧ 0 ≤ (a3) ∧ (a3) ≤ 65536) ∧ (knF (sc ((w3)) 0 ((u2_1))) = 0 ∨ knF (sc ((w3)) 0 ((u2_1))) = 5)) → Q (some (I z)) σ c s) : Ew 20 (d + 3) 0 (rargs 0 [.ref (D 0), I a1, I 0, I a3]) [] σE c s Q := by
  have O := OUT_refl (n := (V20_c20_vA).length) (D := D) (N := N) (σ := σE) (c := c) (s := s)
  have HE := H
  have r1 : HID ((-2147483648 : Int) ≤ u2_1 ∧ u2_1 ≤ 2147483647) := krg_e (show (-2147483648 : Int) ≤ F 2 1 ∧ F 2 1 ≤ 2147483647 from H.krg 2 1 (ltn len_V20_c20_vA_oz_T9rcls rfl)) (show F 2 1 = u2_1 from (eu2_1))
  have r5 : HID ((0 : Int) ≤ n1 ∧ n1 ≤ 1000000) := nrng (H.nle 1 (ltn len_V20_c20_vA_oz_T9rcls rfl)) (show (N 1 : Int) = n1 from en1)
  refine Ew_of (pcₚ := 1) (fun _ => x_iload_n rfl rfl) ?_
  refine w_stat24 rfl rfl (by rfl) (C24x (D := puc 0 D) (N := puc 0 N) (HW_subc H oz_T9rcls_6 oz_T9rcls_4) (show inr (a1) from h0) (fun z10 σ10 F10ₚ A10ₚ Hₚ Oₚ hS10 hA10 pz10_0 pz10_1 => ⟨rretB rfl pz10_0, ?_⟩))
  refine v_backc (c := c) (s := s) H oz_T9rcls_6 oz_T9rcls_4 Hₚ Oₚ (fun F10 A10 H Oₚ eF10 eA10 => ?_)
  have O := OUT_trans O Oₚ
  -- PackHouse.isRow
  have cF10 : SF oz_T9rclsl_0 F F10 := SF_trans (SF_refl) (SF_gluc (ι := oz_T9rclsl_1) oz_T9rcls_4 hS10 eF10 (by decide +kernel)) (any_sub (lₚ := []) (by decide +kernel))
  have mF10 := SFm_of cF10 oz_T9rcls_2
  have cA10 : SA oz_T9rclsl_1 A A10 := SA_trans (SA_refl) (SA_gluc (ι := oz_T9rclsl_1) oz_T9rcls_4 hA10 eA10 (by decide +kernel)) (any_subA (lₚ := []) (by decide +kernel))
  have mA10 := SAm_of cA10 oz_T9rcls_3
  refine w_ifeq (t := 24) rfl rfl (show inr (z10) from q_138 pz10_0) (fun b11 => ?_) (fun b11 => ?_)
  · refine Ew_of (pcₚ := 26) (fun _ => x_bipush (z := -50) rfl (by decide)) ?_
    exact w_ireturn rfl (k ((-50)) _ _ _ H O (cF10) (cA10) (show inr ((-50)) from q_2311) (show ((-50)) = -50 ∧ ((a1) < 0 ∨ 3 < (a1) ∨ (a3) < 0 ∨ 65536 < (a3)) ∨ ((-50)) = -51 ∧ (0 ≤ (a1) ∧ (a1) ≤ 3 ∧ 0 ≤ (a3) ∧ (a3) ≤ 65536) ∧ (knF (sc ((w3)) 0 ((u2_1))) = 0 ∨ knF (sc ((w3)) 0 ((u2_1))) = 5) by have qh0 := HIDe r1; omega))
  · refine Ew_of (pcₚ := 8) (fun _ => x_iload_n rfl rfl) ?_
    refine w_stat24 rfl rfl (by rfl) (C24x (D := puc 0 D) (N := puc 0 N) (HW_subc H oz_T9rcls_6 oz_T9rcls_4) (show inr (0) from h1) (fun z12 σ12 F12ₚ A12ₚ Hₚ Oₚ hS12 hA12 pz12_0 pz12_1 => ⟨rretB rfl pz12_0, ?_⟩))
    refine v_backc (c := c) (s := s) H oz_T9rcls_6 oz_T9rcls_4 Hₚ Oₚ (fun F12 A12 H Oₚ eF12 eA12 => ?_)
    have O := OUT_trans O Oₚ
    -- PackHouse.isRow
    have cF12 : SF oz_T9rclsl_0 F F12 := SF_trans (cF10) (SF_gluc (ι := oz_T9rclsl_1) oz_T9rcls_4 hS12 eF12 (by decide +kernel)) (any_sub (lₚ := []) (by decide +kernel))
    have mF12 := SFm_of cF12 oz_T9rcls_2
    have cA12 : SA oz_T9rclsl_1 A A12 := SA_trans (cA10) (SA_gluc (ι := oz_T9rclsl_1) oz_T9rcls_4 hA12 eA12 (by decide +kernel)) (any_subA (lₚ := []) (by decide +kernel))
    have mA12 := SAm_of cA12 oz_T9rcls_3
    refine w_ifeq (t := 24) rfl rfl (show inr (z12) from q_138 pz12_0) (fun b13 => ?_) (fun b13 => ?_)
    · refine Ew_of (pcₚ := 26) (fun _ => x_bipush (z := -50) rfl (by decide)) ?_
      exact w_ireturn rfl (k ((-50)) _ _ _ H O (cF12) (cA12) (show inr ((-50)) from q_2311) (show ((-50)) = -50 ∧ ((a1) < 0 ∨ 3 < (a1) ∨ (a3) < 0 ∨ 65536 < (a3)) ∨ ((-50)) = -51 ∧ (0 ≤ (a1) ∧ (a1) ≤ 3 ∧ 0 ≤ (a3) ∧ (a3) ≤ 65536) ∧ (knF (sc ((w3)) 0 ((u2_1))) = 0 ∨ knF (sc ((w3)) 0 ((u2_1))) = 5) by have qh0 := HIDe r1; omega))
    · refine Ew_of (pcₚ := 15) (fun _ => x_iload_n rfl rfl) ?_
      refine w_iflt (t := 24) rfl rfl (show inr (a3) from h2) (fun b14 => ?_) (fun b14 => ?_)
      · refine Ew_of (pcₚ := 26) (fun _ => x_bipush (z := -50) rfl (by decide)) ?_
        exact w_ireturn rfl (k ((-50)) _ _ _ H O (cF12) (cA12) (show inr ((-50)) from q_2311) (show ((-50)) = -50 ∧ ((a1) < 0 ∨ 3 < (a1) ∨ (a3) < 0 ∨ 65536 < (a3)) ∨ ((-50)) = -51 ∧ (0 ≤ (a1) ∧ (a1) ≤ 3 ∧ 0 ≤ (a3) ∧ (a3) ≤ 65536) ∧ (knF (sc ((w3)) 0 ((u2_1))) = 0 ∨ knF (sc ((w3)) 0 ((u2_1))) = 5) by first | exact q_5062 b14 | omega))
      · refine Ew_of (pcₚ := 19) (fun _ => x_iload_n rfl rfl) ?_
        refine Ew_of (pcₚ := 21) (fun _ => x_ldc (z := 65536) rfl (by decide)) ?_
        refine w_icmple (t := 27) rfl rfl (show inr (a3) from h2) (show inr (65536) from q_52) (fun b15 => ?_) (fun b15 => ?_)
        · refine Ew_of (pcₚ := 28) (fun _ => x_aload_n rfl rfl) ?_
          refine v_g H (o := 0) (v := .ref (D 1)) rfl rfl rfl rfl rfl (vrf ((mF12 0 0 rfl).trans (pf1))) ?_
          refine Ew_of (pcₚ := 32) (fun _ => x_iload_n rfl rfl) ?_
          refine v_lR H (o := 1) rfl rfl rfl rfl rfl (n := n1) (en1) (show 0 ≤ 0 ∧ 0 < n1 from q_4791 (HIDe r5) h3) (z := ((D 2 : Nat) : Int)) (v := .ref (D 2)) ((mA12 1 rfl 0).trans (pf2)) (vrf rfl) ?_
          refine w_stat24 rfl rfl (by rfl) (C33_Rowp (D := puc 1538 D) (N := puc 1538 N) (HW_subc H oz_T9rcls_7 oz_T9rcls_8) (STC_out HT HE O) ((mF12 2 0 rfl).trans (pf3)) (n3) (en3) (u2_1) (((mF12 2 1 rfl).trans (eu2_1))) (w3) ((funext (mA12 3 rfl)).trans (ew3)) (show 0 ≤ (u2_1) ∧ (u2_1) ≤ (n3) ∧ (n3) ≤ 65536 from h4) (fun z16 σ16 F16ₚ A16ₚ Hₚ Oₚ hS16 hA16 pz16_0 pz16_1 pz16_2 => ⟨rfl, ?_⟩))
          refine v_backc (c := c) (s := s) H oz_T9rcls_7 oz_T9rcls_8 Hₚ Oₚ (fun F16 A16 H Oₚ eF16 eA16 => ?_)
          have O := OUT_trans O Oₚ
          -- PackHouse.formatOf
          have cF16 : SF oz_T9rclsl_0 F F16 := SF_trans (cF12) (SF_gluc (ι := oz_T9rclsl_2) oz_T9rcls_8 hS16 eF16 (by decide +kernel)) (any_sub (lₚ := []) (by decide +kernel))
          have mF16 := SFm_of cF16 oz_T9rcls_2
          have cA16 : SA oz_T9rclsl_1 A A16 := SA_trans (cA12) (SA_gluc (ι := oz_T9rclsl_2) oz_T9rcls_8 hA16 eA16 (by decide +kernel)) (any_subA (lₚ := []) (by decide +kernel))
          have mA16 := SAm_of cA16 oz_T9rcls_3
          refine Ew_of (pcₚ := 38) (fun _ => x_istore rfl) ?_
          refine Ew_of (pcₚ := 40) (fun _ => x_iload rfl rk_s) ?_
          refine w_ifeq (t := 49) rfl rfl (show inr (z16) from pz16_0) (fun b17 => ?_) (fun b17 => ?_)
          · refine Ew_of (pcₚ := 51) (fun _ => x_bipush (z := -51) rfl (by decide)) ?_
            exact w_ireturn rfl (k ((-51)) _ _ _ H O (cF16) (cA16) (show inr ((-51)) from q_2344) (show ((-51)) = -50 ∧ ((a1) < 0 ∨ 3 < (a1) ∨ (a3) < 0 ∨ 65536 < (a3)) ∨ ((-51)) = -51 ∧ (0 ≤ (a1) ∧ (a1) ≤ 3 ∧ 0 ≤ (a3) ∧ (a3) ≤ 65536) ∧ (knF (sc ((w3)) 0 ((u2_1))) = 0 ∨ knF (sc ((w3)) 0 ((u2_1))) = 5) by have qh0 := HIDe r1; omega))
          · refine Ew_of (pcₚ := 45) (fun _ => x_iload rfl rk_s) ?_
            refine Ew_of (pcₚ := 46) (fun _ => x_iconst rfl) ?_
            refine w_icmpne (t := 52) rfl rfl (show inr (z16) from pz16_0) (show inr (5) from q_727) (fun b18 => ?_) (fun b18 => ?_)
            · refine Ew_of (pcₚ := 53) (fun _ => x_aload_n rfl (rk_o (rfl) rfl rfl)) ?_
              refine Ew_of (pcₚ := 54) (fun _ => x_iload_n rfl (rk_o (rfl) rfl rfl)) ?_
              refine Ew_of (pcₚ := 55) (fun _ => x_aload_n rfl (rk_o (rfl) rfl rfl)) ?_
              refine Ew_of (pcₚ := 56) (fun _ => x_aload_n rfl (rk_o (rfl) rfl rfl)) ?_
              refine v_g H (o := 0) (v := .ref (D 1)) rfl rfl rfl rfl rfl (vrf ((mF16 0 0 rfl).trans (pf1))) ?_
              refine Ew_of (pcₚ := 60) (fun _ => x_iload_n rfl (rk_o (rfl) rfl rfl)) ?_
              refine v_lR H (o := 1) rfl rfl rfl rfl rfl (n := n1) (en1) (show 0 ≤ 0 ∧ 0 < n1 from q_4791 (HIDe r5) h3) (z := ((D 2 : Nat) : Int)) (v := .ref (D 2)) ((mA16 1 rfl 0).trans (pf2)) (vrf rfl) ?_
              refine Ew_of (pcₚ := 63) (fun _ => x_iload rfl rk_s) ?_
              refine Ew_of (pcₚ := 64) (fun _ => x_iload_n rfl (rk_o (rfl) rfl rfl)) ?_
              refine Ew_of (pcₚ := 65) (fun _ => x_aload_n rfl (rk_o (rfl) rfl rfl)) ?_
              refine v_g H (o := 0) (v := .ref (D 10)) rfl rfl rfl rfl rfl (vrf ((mF16 0 14 rfl).trans (pf10))) ?_
              exact hc68 (a1) (z16) (a3) _ _ _ _   H O (SF_trans (SF_trans (SF_trans (SF_refl) (SF_gluc (ι := oz_T9rclsl_1) oz_T9rcls_4 hS10 eF10 (by decide +kernel)) (any_sub (lₚ := []) (by decide +kernel))) (SF_gluc (ι := oz_T9rclsl_1) oz_T9rcls_4 hS12 eF12 (by decide +kernel)) (any_sub (lₚ := []) (by decide +kernel))) (SF_gluc (ι := oz_T9rclsl_2) oz_T9rcls_8 hS16 eF16 (by decide +kernel)) (any_sub (lₚ := []) (by decide +kernel))) (SA_trans (SA_trans (SA_trans (SA_refl) (SA_gluc (ι := oz_T9rclsl_1) oz_T9rcls_4 hA10 eA10 (by decide +kernel)) (any_subA (lₚ := []) (by decide +kernel))) (SA_gluc (ι := oz_T9rclsl_1) oz_T9rcls_4 hA12 eA12 (by decide +kernel)) (any_subA (lₚ := []) (by decide +kernel))) (SA_gluc (ι := oz_T9rclsl_2) oz_T9rcls_8 hA16 eA16 (by decide +kernel)) (any_subA (lₚ := []) (by decide +kernel)))     (show inr (a1) from h0) (show inr (z16) from pz16_0) (show inr (a3) from h2) (show 0 ≤ (a1) ∧ (a1) ≤ 3 by omega) (show (z16) = 1 ∨ (z16) = 3 ∨ (z16) = 4 by omega) (show 0 ≤ (a3) ∧ (a3) ≤ 65536 from q_4816 b14 b15) (show (a1) = (a1) ∧ (a3) = (a3) from q_5063) (show (z16) = knF (sc ((w3)) 0 ((u2_1))) from pz16_2)
            · refine Ew_of (pcₚ := 51) (fun _ => x_bipush (z := -51) rfl (by decide)) ?_
              exact w_ireturn rfl (k ((-51)) _ _ _ H O (cF16) (cA16) (show inr ((-51)) from q_2344) (show ((-51)) = -50 ∧ ((a1) < 0 ∨ 3 < (a1) ∨ (a3) < 0 ∨ 65536 < (a3)) ∨ ((-51)) = -51 ∧ (0 ≤ (a1) ∧ (a1) ≤ 3 ∧ 0 ≤ (a3) ∧ (a3) ≤ 65536) ∧ (knF (sc ((w3)) 0 ((u2_1))) = 0 ∨ knF (sc ((w3)) 0 ((u2_1))) = 5) by have qh0 := HIDe r1; omega))
        · refine Ew_of (pcₚ := 26) (fun _ => x_bipush (z := -50) rfl (by decide)) ?_
          exact w_ireturn rfl (k ((-50)) _ _ _ H O (cF12) (cA12) (show inr ((-50)) from q_2311) (show ((-50)) = -50 ∧ ((a1) < 0 ∨ 3 < (a1) ∨ (a3) < 0 ∨ 65536 < (a3)) ∨ ((-50)) = -51 ∧ (0 ≤ (a1) ∧ (a1) ≤ 3 ∧ 0 ≤ (a3) ∧ (a3) ≤ 65536) ∧ (knF (sc ((w3)) 0 ((u2_1))) = 0 ∨ knF (sc ((w3)) 0 ((u2_1))) = 5) by first | exact q_5064 b15 | omega))
abbrev V18_c21_vA : vV := [(0, 0, [(4, 0), (4, 0), (4, 0), (4, 0), (4, 0), (4, 0), (4, 0), (4, 0), (4, 0), (4, 0), (4, 0), (4, 0), (4, 0), (4, 0), (4, 0), (4, 0), (4, 0), (0, 0), (0, 0)]), (1, 4, []), (0, 7, [(4, 0), (0, 0), (1, 0), (0, 0), (0, 0)]), (1, 0, []), (0, 7, [(4, 0), (0, 0), (1, 0), (0, 0), (0, 0)]), (1, 0, []), (0, 7, [(4, 0), (0, 0), (1, 0), (0, 0), (0, 0)]), (1, 0, []), (0, 7, [(4, 0), (0, 0), (1, 0), (0, 0), (0, 0)]), (1, 0, []), (1, 1, [])]
theorem len_V18_c21_vA_oz_T9rcls : (V18_c21_vA).length = 11 := by decide +kernel
theorem oz_T9rcls_10 : vsub V18_c21_vA V24 [] = true := by decide +kernel

theorem C18_c21_vA {σE : rS} {D N : Nat → Nat} {F : hF} {A : hA} {d c s : Nat} {Q : wQ} (H : HW V18_c21_vA σE D N F A) {a1 a3 a4 : Int} (pf1 : HID (F 0 0 = (D 1 : Int))) (pf2 : HID (A 1 0 = (D 2 : Int))) (pf3 : HID (F 2 0 = (D 3 : Int))) (pf4 : HID (A 1 1 = (D 4 : Int))) (pf5 : HID (F 4 0 = (D 5 : Int))) (pf6 : HID (A 1 2 = (D 6 : Int))) (pf7 : HID (F 6 0 = (D 7 : Int))) (pf8 : HID (A 1 3 = (D 8 : Int))) (pf9 : HID (F 8 0 = (D 9 : Int))) (pf10 : HID (F 0 14 = (D 10 : Int))) (n1 : Int) (en1 : HID ((N 1 : Int) = n1)) (n3 : Int) (en3 : HID ((N 3 : Int) = n3)) (n5 : Int) (en5 : HID ((N 5 : Int) = n5)) (n7 : Int) (en7 : HID ((N 7 : Int) = n7)) (n9 : Int) (en9 : HID ((N 9 : Int) = n9)) (n10 : Int) (en10 : HID ((N 10 : Int) = n10)) (u2_1 : Int) (eu2_1 : HID (F 2 1 = u2_1)) (u4_1 : Int) (eu4_1 : HID (F 4 1 = u4_1)) (u6_1 : Int) (eu6_1 : HID (F 6 1 = u6_1)) (u8_1 : Int) (eu8_1 : HID (F 8 1 = u8_1)) (h0 : inr (a1)) (h1 : inr (1)) (h2 : inr (a3)) (h3 : inr (a4)) (h4 : (n1) = 4) (h5 : 0 ≤ (u2_1) ∧ (u2_1) ≤ (n3) ∧ (n3) ≤ 65536) (h6 : 0 ≤ (u4_1) ∧ (u4_1) ≤ (n5) ∧ (n5) ≤ 65536) (h7 : 0 ≤ (u6_1) ∧ (u6_1) ≤ (n7) ∧ (n7) ≤ 65536) (h8 : 0 ≤ (u8_1) ∧ (u8_1) ≤ (n9) ∧ (n9) ≤ 65536) (hc54 : ∀ (tc54_1 : Int), ∀ (tc54_4 : Int), ∀ (tc54_5 : Int), ∀ (ls : rO) (σ : rS) (F_c54 : hF) (A_c54 : hA) , HW V18_c21_vA σ D N F_c54 A_c54 → OUT (V18_c21_vA).length D N σE c s D N σ c s → SF [] F F_c54 → SA [] A A_c54 → (inr (tc54_1)) → (inr (tc54_4)) → (inr (tc54_5)) → (0 ≤ (tc54_1) ∧ (tc54_1) ≤ 3) → (0 ≤ (tc54_4) ∧ (tc54_4) ≤ 4) → (0 ≤ (tc54_5) ∧ (tc54_5) ≤ 65536) → ((tc54_1) = (a1) ∧ (tc54_4) = (a3) ∧ (tc54_5) = (a4)) → Ew 18 (d + 1) 54 ls [.ref (D 10), I (tc54_5), I (tc54_4), .ref (D 4), .ref (D 0), I (tc54_1), .ref (D 0)] σ c s Q) (k : ∀ (z : Int) (σ : rS) (Fₚ : hF) (Aₚ : hA), HW V18_c21_vA σ D N Fₚ Aₚ → OUT (V18_c21_vA).length D N σE c s D N σ c s → SF [] F Fₚ → SA [] A Aₚ → (inr (z)) → ((z) = -50 ∧ ((a1) < 0 ∨ 3 < (a1) ∨ (a3) < 0 ∨ 4 < (a3) ∨ (a4) < 0 ∨ 65536 < (a4))) → Q (some (I z)) σ c s) : Ew 18 (d + 1) 0 (rargs 0 [.ref (D 0), I a1, I 1, I a3, I a4]) [] σE c s Q := by
  have O := OUT_refl (n := (V18_c21_vA).length) (D := D) (N := N) (σ := σE) (c := c) (s := s)
  have HE := H
  have r5 : HID ((0 : Int) ≤ n1 ∧ n1 ≤ 1000000) := nrng (H.nle 1 (ltn len_V18_c21_vA_oz_T9rcls rfl)) (show (N 1 : Int) = n1 from en1)
  refine Ew_of (pcₚ := 1) (fun _ => x_iload_n rfl rfl) ?_
  refine w_stat24 rfl rfl (by rfl) (C24x (D := puc 0 D) (N := puc 0 N) (HW_subc H oz_T9rcls_10 oz_T9rcls_4) (show inr (a1) from h0) (fun z10 σ10 F10ₚ A10ₚ Hₚ Oₚ hS10 hA10 pz10_0 pz10_1 => ⟨rretB rfl pz10_0, ?_⟩))
  refine v_backc (c := c) (s := s) H oz_T9rcls_10 oz_T9rcls_4 Hₚ Oₚ (fun F10 A10 H Oₚ eF10 eA10 => ?_)
  have O := OUT_trans O Oₚ
  -- PackHouse.isRow
  have cF10 : SF oz_T9rclsl_0 F F10 := SF_trans (SF_refl) (SF_gluc (ι := oz_T9rclsl_1) oz_T9rcls_4 hS10 eF10 (by decide +kernel)) (any_sub (lₚ := []) (by decide +kernel))
  have mF10 := SFm_of cF10 oz_T9rcls_2
  have cA10 : SA oz_T9rclsl_1 A A10 := SA_trans (SA_refl) (SA_gluc (ι := oz_T9rclsl_1) oz_T9rcls_4 hA10 eA10 (by decide +kernel)) (any_subA (lₚ := []) (by decide +kernel))
  have mA10 := SAm_of cA10 oz_T9rcls_3
  refine w_ifeq (t := 35) rfl rfl (show inr (z10) from q_138 pz10_0) (fun b11 => ?_) (fun b11 => ?_)
  · refine Ew_of (pcₚ := 37) (fun _ => x_bipush (z := -50) rfl (by decide)) ?_
    exact w_ireturn rfl (k ((-50)) _ _ _ H O (cF10) (cA10) (show inr ((-50)) from q_2311) (show ((-50)) = -50 ∧ ((a1) < 0 ∨ 3 < (a1) ∨ (a3) < 0 ∨ 4 < (a3) ∨ (a4) < 0 ∨ 65536 < (a4)) by first | exact q_5057 b11 pz10_1 | omega))
  · refine Ew_of (pcₚ := 8) (fun _ => x_iload_n rfl rfl) ?_
    refine w_stat24 rfl rfl (by rfl) (C24x (D := puc 0 D) (N := puc 0 N) (HW_subc H oz_T9rcls_10 oz_T9rcls_4) (show inr (1) from h1) (fun z12 σ12 F12ₚ A12ₚ Hₚ Oₚ hS12 hA12 pz12_0 pz12_1 => ⟨rretB rfl pz12_0, ?_⟩))
    refine v_backc (c := c) (s := s) H oz_T9rcls_10 oz_T9rcls_4 Hₚ Oₚ (fun F12 A12 H Oₚ eF12 eA12 => ?_)
    have O := OUT_trans O Oₚ
    -- PackHouse.isRow
    have cF12 : SF oz_T9rclsl_0 F F12 := SF_trans (cF10) (SF_gluc (ι := oz_T9rclsl_1) oz_T9rcls_4 hS12 eF12 (by decide +kernel)) (any_sub (lₚ := []) (by decide +kernel))
    have mF12 := SFm_of cF12 oz_T9rcls_2
    have cA12 : SA oz_T9rclsl_1 A A12 := SA_trans (cA10) (SA_gluc (ι := oz_T9rclsl_1) oz_T9rcls_4 hA12 eA12 (by decide +kernel)) (any_subA (lₚ := []) (by decide +kernel))
    have mA12 := SAm_of cA12 oz_T9rcls_3
    refine w_ifeq (t := 35) rfl rfl (show inr (z12) from q_138 pz12_0) (fun b13 => ?_) (fun b13 => ?_)
    · refine Ew_of (pcₚ := 37) (fun _ => x_bipush (z := -50) rfl (by decide)) ?_
      exact w_ireturn rfl (k ((-50)) _ _ _ H O (cF12) (cA12) (show inr ((-50)) from q_2311) (show ((-50)) = -50 ∧ ((a1) < 0 ∨ 3 < (a1) ∨ (a3) < 0 ∨ 4 < (a3) ∨ (a4) < 0 ∨ 65536 < (a4)) by omega))
    · refine Ew_of (pcₚ := 15) (fun _ => x_iload_n rfl rfl) ?_
      refine w_iflt (t := 35) rfl rfl (show inr (a3) from h2) (fun b14 => ?_) (fun b14 => ?_)
      · refine Ew_of (pcₚ := 37) (fun _ => x_bipush (z := -50) rfl (by decide)) ?_
        exact w_ireturn rfl (k ((-50)) _ _ _ H O (cF12) (cA12) (show inr ((-50)) from q_2311) (show ((-50)) = -50 ∧ ((a1) < 0 ∨ 3 < (a1) ∨ (a3) < 0 ∨ 4 < (a3) ∨ (a4) < 0 ∨ 65536 < (a4)) by first | exact q_5058 b14 | omega))
      · refine Ew_of (pcₚ := 19) (fun _ => x_iload_n rfl rfl) ?_
        refine Ew_of (pcₚ := 20) (fun _ => x_iconst rfl) ?_
        refine w_icmpgt (t := 35) rfl rfl (show inr (a3) from h2) (show inr (4) from q_216) (fun b15 => ?_) (fun b15 => ?_)
        · refine Ew_of (pcₚ := 37) (fun _ => x_bipush (z := -50) rfl (by decide)) ?_
          exact w_ireturn rfl (k ((-50)) _ _ _ H O (cF12) (cA12) (show inr ((-50)) from q_2311) (show ((-50)) = -50 ∧ ((a1) < 0 ∨ 3 < (a1) ∨ (a3) < 0 ∨ 4 < (a3) ∨ (a4) < 0 ∨ 65536 < (a4)) by first | exact q_5059 b15 | omega))
        · refine Ew_of (pcₚ := 25) (fun _ => x_iload rfl rfl) ?_
          refine w_iflt (t := 35) rfl rfl (show inr (a4) from h3) (fun b16 => ?_) (fun b16 => ?_)
          · refine Ew_of (pcₚ := 37) (fun _ => x_bipush (z := -50) rfl (by decide)) ?_
            exact w_ireturn rfl (k ((-50)) _ _ _ H O (cF12) (cA12) (show inr ((-50)) from q_2311) (show ((-50)) = -50 ∧ ((a1) < 0 ∨ 3 < (a1) ∨ (a3) < 0 ∨ 4 < (a3) ∨ (a4) < 0 ∨ 65536 < (a4)) by first | exact q_5060 b16 | omega))
          · refine Ew_of (pcₚ := 30) (fun _ => x_iload rfl rfl) ?_
            refine Ew_of (pcₚ := 32) (fun _ => x_ldc (z := 65536) rfl (by decide)) ?_
            refine w_icmple (t := 38) rfl rfl (show inr (a4) from h3) (show inr (65536) from q_52) (fun b17 => ?_) (fun b17 => ?_)
            · refine Ew_of (pcₚ := 39) (fun _ => x_aload_n rfl rfl) ?_
              refine Ew_of (pcₚ := 40) (fun _ => x_iload_n rfl rfl) ?_
              refine Ew_of (pcₚ := 41) (fun _ => x_aload_n rfl rfl) ?_
              refine Ew_of (pcₚ := 42) (fun _ => x_aload_n rfl rfl) ?_
              refine v_g H (o := 0) (v := .ref (D 1)) rfl rfl rfl rfl rfl (vrf ((mF12 0 0 rfl).trans (pf1))) ?_
              refine Ew_of (pcₚ := 46) (fun _ => x_iload_n rfl rfl) ?_
              refine v_lR H (o := 1) rfl rfl rfl rfl rfl (n := n1) (en1) (show 0 ≤ 1 ∧ 1 < n1 from q_4792 (HIDe r5) h4) (z := ((D 4 : Nat) : Int)) (v := .ref (D 4)) ((mA12 1 rfl 1).trans (pf4)) (vrf rfl) ?_
              refine Ew_of (pcₚ := 48) (fun _ => x_iload_n rfl rfl) ?_
              refine Ew_of (pcₚ := 50) (fun _ => x_iload rfl rfl) ?_
              refine Ew_of (pcₚ := 51) (fun _ => x_aload_n rfl rfl) ?_
              refine v_g H (o := 0) (v := .ref (D 10)) rfl rfl rfl rfl rfl (vrf ((mF12 0 14 rfl).trans (pf10))) ?_
              exact hc54 (a1) (a3) (a4) _ _ _ _   H O (SF_trans (SF_trans (SF_refl) (SF_gluc (ι := oz_T9rclsl_1) oz_T9rcls_4 hS10 eF10 (by decide +kernel)) (any_sub (lₚ := []) (by decide +kernel))) (SF_gluc (ι := oz_T9rclsl_1) oz_T9rcls_4 hS12 eF12 (by decide +kernel)) (any_sub (lₚ := []) (by decide +kernel))) (SA_trans (SA_trans (SA_refl) (SA_gluc (ι := oz_T9rclsl_1) oz_T9rcls_4 hA10 eA10 (by decide +kernel)) (any_subA (lₚ := []) (by decide +kernel))) (SA_gluc (ι := oz_T9rclsl_1) oz_T9rcls_4 hA12 eA12 (by decide +kernel)) (any_subA (lₚ := []) (by decide +kernel)))     (show inr (a1) from h0) (show inr (a3) from h2) (show inr (a4) from h3) (show 0 ≤ (a1) ∧ (a1) ≤ 3 by omega) (show 0 ≤ (a3) ∧ (a3) ≤ 4 from q_4817 b14 b15) (show 0 ≤ (a4) ∧ (a4) ≤ 65536 from q_4816 b16 b17) (show (a1) = (a1) ∧ (a3) = (a3) ∧ (a4) = (a4) from q_64)
            · refine Ew_of (pcₚ := 37) (fun _ => x_bipush (z := -50) rfl (by decide)) ?_
              exact w_ireturn rfl (k ((-50)) _ _ _ H O (cF12) (cA12) (show inr ((-50)) from q_2311) (show ((-50)) = -50 ∧ ((a1) < 0 ∨ 3 < (a1) ∨ (a3) < 0 ∨ 4 < (a3) ∨ (a4) < 0 ∨ 65536 < (a4)) by first | exact q_5061 b17 | omega))
abbrev V20_c21_vA : vV := [(0, 0, [(4, 0), (4, 0), (4, 0), (4, 0), (4, 0), (4, 0), (4, 0), (4, 0), (4, 0), (4, 0), (4, 0), (4, 0), (4, 0), (4, 0), (4, 0), (4, 0), (4, 0), (0, 0), (0, 0)]), (1, 4, []), (0, 7, [(4, 0), (0, 0), (1, 0), (0, 0), (0, 0)]), (1, 0, []), (0, 7, [(4, 0), (0, 0), (1, 0), (0, 0), (0, 0)]), (1, 0, []), (0, 7, [(4, 0), (0, 0), (1, 0), (0, 0), (0, 0)]), (1, 0, []), (0, 7, [(4, 0), (0, 0), (1, 0), (0, 0), (0, 0)]), (1, 0, []), (1, 1, [])]
theorem len_V20_c21_vA_oz_T9rcls : (V20_c21_vA).length = 11 := by decide +kernel
theorem oz_T9rcls_12 : vsub V20_c21_vA V24 [] = true := by decide +kernel
theorem oz_T9rcls_13 : vsub V20_c21_vA V33_Row [4, 5] = true := by decide +kernel
def oz_T9rclsl_3 : List Nat := [4, 5]
theorem oz_T9rcls_14 : okc oz_T9rclsl_3 2564 = true := by decide +kernel

theorem C20_c21_vA {σE : rS} {D N : Nat → Nat} {F : hF} {A : hA} {d c s : Nat} {Q : wQ} (H : HW V20_c21_vA σE D N F A) (HT : STC σE) {a1 a3 : Int} (pf1 : HID (F 0 0 = (D 1 : Int))) (pf2 : HID (A 1 0 = (D 2 : Int))) (pf3 : HID (F 2 0 = (D 3 : Int))) (pf4 : HID (A 1 1 = (D 4 : Int))) (pf5 : HID (F 4 0 = (D 5 : Int))) (pf6 : HID (A 1 2 = (D 6 : Int))) (pf7 : HID (F 6 0 = (D 7 : Int))) (pf8 : HID (A 1 3 = (D 8 : Int))) (pf9 : HID (F 8 0 = (D 9 : Int))) (pf10 : HID (F 0 14 = (D 10 : Int))) (n1 : Int) (en1 : HID ((N 1 : Int) = n1)) (n3 : Int) (en3 : HID ((N 3 : Int) = n3)) (n5 : Int) (en5 : HID ((N 5 : Int) = n5)) (n7 : Int) (en7 : HID ((N 7 : Int) = n7)) (n9 : Int) (en9 : HID ((N 9 : Int) = n9)) (n10 : Int) (en10 : HID ((N 10 : Int) = n10)) (u2_1 : Int) (eu2_1 : HID (F 2 1 = u2_1)) (u4_1 : Int) (eu4_1 : HID (F 4 1 = u4_1)) (u6_1 : Int) (eu6_1 : HID (F 6 1 = u6_1)) (u8_1 : Int) (eu8_1 : HID (F 8 1 = u8_1)) (w5 : Int → Int) (ew5 : A 5 = w5) (h0 : inr (a1)) (h1 : inr (1)) (h2 : inr (a3)) (h3 : (n1) = 4) (h4 : 0 ≤ (u2_1) ∧ (u2_1) ≤ (n3) ∧ (n3) ≤ 65536) (h5 : 0 ≤ (u4_1) ∧ (u4_1) ≤ (n5) ∧ (n5) ≤ 65536) (h6 : 0 ≤ (u6_1) ∧ (u6_1) ≤ (n7) ∧ (n7) ≤ 65536) (h7 : 0 ≤ (u8_1) ∧ (u8_1) ≤ (n9) ∧ (n9) ≤ 65536) (hc68 : ∀ (tc68_1 : Int), ∀ (tc68_4 : Int), ∀ (tc68_5 : Int), ∀ (ls : rO) (σ : rS) (F_c68 : hF) (A_c68 : hA) , HW V20_c21_vA σ D N F_c68 A_c68 → OUT (V20_c21_vA).length D N σE c s D N σ c s → SF [] F F_c68 → SA [] A A_c68 → (inr (tc68_1)) → (inr (tc68_4)) → (inr (tc68_5)) → (0 ≤ (tc68_1) ∧ (tc68_1) ≤ 3) → ((tc68_4) = 1 ∨ (tc68_4) = 3 ∨ (tc68_4) = 4) → (0 ≤ (tc68_5) ∧ (tc68_5) ≤ 65536) → ((tc68_1) = (a1) ∧ (tc68_5) = (a3)) → ((tc68_4) = knF (sc ((w5)) 0 ((u4_1)))) → Ew 20 (d + 3) 68 ls [.ref (D 10), I (tc68_5), I (tc68_4), .ref (D 4), .ref (D 0), I (tc68_1), .ref (D 0)] σ c s Q) (k : ∀ (z : Int) (σ : rS) (Fₚ : hF) (Aₚ : hA), HW V20_c21_vA σ D N Fₚ Aₚ → OUT (V20_c21_vA).length D N σE c s D N σ c s → SF [] F Fₚ → SA [] A Aₚ → (inr (z)) → ((z) = -50 ∧ ((a1) < 0 ∨ 3 < (a1) ∨ (a3) < 0 ∨ 65536 < (a3)) ∨ (z) = -51 ∧ (0 ≤ (a1) ∧ (a1) ≤ 3 ∧ 0 ≤ (a3) ∧ (a3) ≤ 65536) ∧ (knF (sc ((w5)) 0 ((u4_1))) = 0 ∨ knF (sc ((w5)) 0 ((u4_1))) = 5)) → Q (some (I z)) σ c s) : Ew 20 (d + 3) 0 (rargs 0 [.ref (D 0), I a1, I 1, I a3]) [] σE c s Q := by
  have O := OUT_refl (n := (V20_c21_vA).length) (D := D) (N := N) (σ := σE) (c := c) (s := s)
  have HE := H
  have r2 : HID ((-2147483648 : Int) ≤ u4_1 ∧ u4_1 ≤ 2147483647) := krg_e (show (-2147483648 : Int) ≤ F 4 1 ∧ F 4 1 ≤ 2147483647 from H.krg 4 1 (ltn len_V20_c21_vA_oz_T9rcls rfl)) (show F 4 1 = u4_1 from (eu4_1))
  have r5 : HID ((0 : Int) ≤ n1 ∧ n1 ≤ 1000000) := nrng (H.nle 1 (ltn len_V20_c21_vA_oz_T9rcls rfl)) (show (N 1 : Int) = n1 from en1)
  refine Ew_of (pcₚ := 1) (fun _ => x_iload_n rfl rfl) ?_
  refine w_stat24 rfl rfl (by rfl) (C24x (D := puc 0 D) (N := puc 0 N) (HW_subc H oz_T9rcls_12 oz_T9rcls_4) (show inr (a1) from h0) (fun z10 σ10 F10ₚ A10ₚ Hₚ Oₚ hS10 hA10 pz10_0 pz10_1 => ⟨rretB rfl pz10_0, ?_⟩))
  refine v_backc (c := c) (s := s) H oz_T9rcls_12 oz_T9rcls_4 Hₚ Oₚ (fun F10 A10 H Oₚ eF10 eA10 => ?_)
  have O := OUT_trans O Oₚ
  -- PackHouse.isRow
  have cF10 : SF oz_T9rclsl_0 F F10 := SF_trans (SF_refl) (SF_gluc (ι := oz_T9rclsl_1) oz_T9rcls_4 hS10 eF10 (by decide +kernel)) (any_sub (lₚ := []) (by decide +kernel))
  have mF10 := SFm_of cF10 oz_T9rcls_2
  have cA10 : SA oz_T9rclsl_1 A A10 := SA_trans (SA_refl) (SA_gluc (ι := oz_T9rclsl_1) oz_T9rcls_4 hA10 eA10 (by decide +kernel)) (any_subA (lₚ := []) (by decide +kernel))
  have mA10 := SAm_of cA10 oz_T9rcls_3
  refine w_ifeq (t := 24) rfl rfl (show inr (z10) from q_138 pz10_0) (fun b11 => ?_) (fun b11 => ?_)
  · refine Ew_of (pcₚ := 26) (fun _ => x_bipush (z := -50) rfl (by decide)) ?_
    exact w_ireturn rfl (k ((-50)) _ _ _ H O (cF10) (cA10) (show inr ((-50)) from q_2311) (show ((-50)) = -50 ∧ ((a1) < 0 ∨ 3 < (a1) ∨ (a3) < 0 ∨ 65536 < (a3)) ∨ ((-50)) = -51 ∧ (0 ≤ (a1) ∧ (a1) ≤ 3 ∧ 0 ≤ (a3) ∧ (a3) ≤ 65536) ∧ (knF (sc ((w5)) 0 ((u4_1))) = 0 ∨ knF (sc ((w5)) 0 ((u4_1))) = 5) by have qh0 := HIDe r2; omega))
  · refine Ew_of (pcₚ := 8) (fun _ => x_iload_n rfl rfl) ?_
    refine w_stat24 rfl rfl (by rfl) (C24x (D := puc 0 D) (N := puc 0 N) (HW_subc H oz_T9rcls_12 oz_T9rcls_4) (show inr (1) from h1) (fun z12 σ12 F12ₚ A12ₚ Hₚ Oₚ hS12 hA12 pz12_0 pz12_1 => ⟨rretB rfl pz12_0, ?_⟩))
    refine v_backc (c := c) (s := s) H oz_T9rcls_12 oz_T9rcls_4 Hₚ Oₚ (fun F12 A12 H Oₚ eF12 eA12 => ?_)
    have O := OUT_trans O Oₚ
    -- PackHouse.isRow
    have cF12 : SF oz_T9rclsl_0 F F12 := SF_trans (cF10) (SF_gluc (ι := oz_T9rclsl_1) oz_T9rcls_4 hS12 eF12 (by decide +kernel)) (any_sub (lₚ := []) (by decide +kernel))
    have mF12 := SFm_of cF12 oz_T9rcls_2
    have cA12 : SA oz_T9rclsl_1 A A12 := SA_trans (cA10) (SA_gluc (ι := oz_T9rclsl_1) oz_T9rcls_4 hA12 eA12 (by decide +kernel)) (any_subA (lₚ := []) (by decide +kernel))
    have mA12 := SAm_of cA12 oz_T9rcls_3
    refine w_ifeq (t := 24) rfl rfl (show inr (z12) from q_138 pz12_0) (fun b13 => ?_) (fun b13 => ?_)
    · refine Ew_of (pcₚ := 26) (fun _ => x_bipush (z := -50) rfl (by decide)) ?_
      exact w_ireturn rfl (k ((-50)) _ _ _ H O (cF12) (cA12) (show inr ((-50)) from q_2311) (show ((-50)) = -50 ∧ ((a1) < 0 ∨ 3 < (a1) ∨ (a3) < 0 ∨ 65536 < (a3)) ∨ ((-50)) = -51 ∧ (0 ≤ (a1) ∧ (a1) ≤ 3 ∧ 0 ≤ (a3) ∧ (a3) ≤ 65536) ∧ (knF (sc ((w5)) 0 ((u4_1))) = 0 ∨ knF (sc ((w5)) 0 ((u4_1))) = 5) by have qh0 := HIDe r2; omega))
    · refine Ew_of (pcₚ := 15) (fun _ => x_iload_n rfl rfl) ?_
      refine w_iflt (t := 24) rfl rfl (show inr (a3) from h2) (fun b14 => ?_) (fun b14 => ?_)
      · refine Ew_of (pcₚ := 26) (fun _ => x_bipush (z := -50) rfl (by decide)) ?_
        exact w_ireturn rfl (k ((-50)) _ _ _ H O (cF12) (cA12) (show inr ((-50)) from q_2311) (show ((-50)) = -50 ∧ ((a1) < 0 ∨ 3 < (a1) ∨ (a3) < 0 ∨ 65536 < (a3)) ∨ ((-50)) = -51 ∧ (0 ≤ (a1) ∧ (a1) ≤ 3 ∧ 0 ≤ (a3) ∧ (a3) ≤ 65536) ∧ (knF (sc ((w5)) 0 ((u4_1))) = 0 ∨ knF (sc ((w5)) 0 ((u4_1))) = 5) by first | exact q_5062 b14 | omega))
      · refine Ew_of (pcₚ := 19) (fun _ => x_iload_n rfl rfl) ?_
        refine Ew_of (pcₚ := 21) (fun _ => x_ldc (z := 65536) rfl (by decide)) ?_
        refine w_icmple (t := 27) rfl rfl (show inr (a3) from h2) (show inr (65536) from q_52) (fun b15 => ?_) (fun b15 => ?_)
        · refine Ew_of (pcₚ := 28) (fun _ => x_aload_n rfl rfl) ?_
          refine v_g H (o := 0) (v := .ref (D 1)) rfl rfl rfl rfl rfl (vrf ((mF12 0 0 rfl).trans (pf1))) ?_
          refine Ew_of (pcₚ := 32) (fun _ => x_iload_n rfl rfl) ?_
          refine v_lR H (o := 1) rfl rfl rfl rfl rfl (n := n1) (en1) (show 0 ≤ 1 ∧ 1 < n1 from q_4792 (HIDe r5) h3) (z := ((D 4 : Nat) : Int)) (v := .ref (D 4)) ((mA12 1 rfl 1).trans (pf4)) (vrf rfl) ?_
          refine w_stat24 rfl rfl (by rfl) (C33_Rowp (D := puc 2564 D) (N := puc 2564 N) (HW_subc H oz_T9rcls_13 oz_T9rcls_14) (STC_out HT HE O) ((mF12 4 0 rfl).trans (pf5)) (n5) (en5) (u4_1) (((mF12 4 1 rfl).trans (eu4_1))) (w5) ((funext (mA12 5 rfl)).trans (ew5)) (show 0 ≤ (u4_1) ∧ (u4_1) ≤ (n5) ∧ (n5) ≤ 65536 from h5) (fun z16 σ16 F16ₚ A16ₚ Hₚ Oₚ hS16 hA16 pz16_0 pz16_1 pz16_2 => ⟨rfl, ?_⟩))
          refine v_backc (c := c) (s := s) H oz_T9rcls_13 oz_T9rcls_14 Hₚ Oₚ (fun F16 A16 H Oₚ eF16 eA16 => ?_)
          have O := OUT_trans O Oₚ
          -- PackHouse.formatOf
          have cF16 : SF oz_T9rclsl_0 F F16 := SF_trans (cF12) (SF_gluc (ι := oz_T9rclsl_3) oz_T9rcls_14 hS16 eF16 (by decide +kernel)) (any_sub (lₚ := []) (by decide +kernel))
          have mF16 := SFm_of cF16 oz_T9rcls_2
          have cA16 : SA oz_T9rclsl_1 A A16 := SA_trans (cA12) (SA_gluc (ι := oz_T9rclsl_3) oz_T9rcls_14 hA16 eA16 (by decide +kernel)) (any_subA (lₚ := []) (by decide +kernel))
          have mA16 := SAm_of cA16 oz_T9rcls_3
          refine Ew_of (pcₚ := 38) (fun _ => x_istore rfl) ?_
          refine Ew_of (pcₚ := 40) (fun _ => x_iload rfl rk_s) ?_
          refine w_ifeq (t := 49) rfl rfl (show inr (z16) from pz16_0) (fun b17 => ?_) (fun b17 => ?_)
          · refine Ew_of (pcₚ := 51) (fun _ => x_bipush (z := -51) rfl (by decide)) ?_
            exact w_ireturn rfl (k ((-51)) _ _ _ H O (cF16) (cA16) (show inr ((-51)) from q_2344) (show ((-51)) = -50 ∧ ((a1) < 0 ∨ 3 < (a1) ∨ (a3) < 0 ∨ 65536 < (a3)) ∨ ((-51)) = -51 ∧ (0 ≤ (a1) ∧ (a1) ≤ 3 ∧ 0 ≤ (a3) ∧ (a3) ≤ 65536) ∧ (knF (sc ((w5)) 0 ((u4_1))) = 0 ∨ knF (sc ((w5)) 0 ((u4_1))) = 5) by have qh0 := HIDe r2; omega))
          · refine Ew_of (pcₚ := 45) (fun _ => x_iload rfl rk_s) ?_
            refine Ew_of (pcₚ := 46) (fun _ => x_iconst rfl) ?_
            refine w_icmpne (t := 52) rfl rfl (show inr (z16) from pz16_0) (show inr (5) from q_727) (fun b18 => ?_) (fun b18 => ?_)
            · refine Ew_of (pcₚ := 53) (fun _ => x_aload_n rfl (rk_o (rfl) rfl rfl)) ?_
              refine Ew_of (pcₚ := 54) (fun _ => x_iload_n rfl (rk_o (rfl) rfl rfl)) ?_
              refine Ew_of (pcₚ := 55) (fun _ => x_aload_n rfl (rk_o (rfl) rfl rfl)) ?_
              refine Ew_of (pcₚ := 56) (fun _ => x_aload_n rfl (rk_o (rfl) rfl rfl)) ?_
              refine v_g H (o := 0) (v := .ref (D 1)) rfl rfl rfl rfl rfl (vrf ((mF16 0 0 rfl).trans (pf1))) ?_
              refine Ew_of (pcₚ := 60) (fun _ => x_iload_n rfl (rk_o (rfl) rfl rfl)) ?_
              refine v_lR H (o := 1) rfl rfl rfl rfl rfl (n := n1) (en1) (show 0 ≤ 1 ∧ 1 < n1 from q_4792 (HIDe r5) h3) (z := ((D 4 : Nat) : Int)) (v := .ref (D 4)) ((mA16 1 rfl 1).trans (pf4)) (vrf rfl) ?_
              refine Ew_of (pcₚ := 63) (fun _ => x_iload rfl rk_s) ?_
              refine Ew_of (pcₚ := 64) (fun _ => x_iload_n rfl (rk_o (rfl) rfl rfl)) ?_
              refine Ew_of (pcₚ := 65) (fun _ => x_aload_n rfl (rk_o (rfl) rfl rfl)) ?_
              refine v_g H (o := 0) (v := .ref (D 10)) rfl rfl rfl rfl rfl (vrf ((mF16 0 14 rfl).trans (pf10))) ?_
              exact hc68 (a1) (z16) (a3) _ _ _ _   H O (SF_trans (SF_trans (SF_trans (SF_refl) (SF_gluc (ι := oz_T9rclsl_1) oz_T9rcls_4 hS10 eF10 (by decide +kernel)) (any_sub (lₚ := []) (by decide +kernel))) (SF_gluc (ι := oz_T9rclsl_1) oz_T9rcls_4 hS12 eF12 (by decide +kernel)) (any_sub (lₚ := []) (by decide +kernel))) (SF_gluc (ι := oz_T9rclsl_3) oz_T9rcls_14 hS16 eF16 (by decide +kernel)) (any_sub (lₚ := []) (by decide +kernel))) (SA_trans (SA_trans (SA_trans (SA_refl) (SA_gluc (ι := oz_T9rclsl_1) oz_T9rcls_4 hA10 eA10 (by decide +kernel)) (any_subA (lₚ := []) (by decide +kernel))) (SA_gluc (ι := oz_T9rclsl_1) oz_T9rcls_4 hA12 eA12 (by decide +kernel)) (any_subA (lₚ := []) (by decide +kernel))) (SA_gluc (ι := oz_T9rclsl_3) oz_T9rcls_14 hA16 eA16 (by decide +kernel)) (any_subA (lₚ := []) (by decide +kernel)))     (show inr (a1) from h0) (show inr (z16) from pz16_0) (show inr (a3) from h2) (show 0 ≤ (a1) ∧ (a1) ≤ 3 by omega) (show (z16) = 1 ∨ (z16) = 3 ∨ (z16) = 4 by omega) (show 0 ≤ (a3) ∧ (a3) ≤ 65536 from q_4816 b14 b15) (show (a1) = (a1) ∧ (a3) = (a3) from q_5063) (show (z16) = knF (sc ((w5)) 0 ((u4_1))) from pz16_2)
            · refine Ew_of (pcₚ := 51) (fun _ => x_bipush (z := -51) rfl (by decide)) ?_
              exact w_ireturn rfl (k ((-51)) _ _ _ H O (cF16) (cA16) (show inr ((-51)) from q_2344) (show ((-51)) = -50 ∧ ((a1) < 0 ∨ 3 < (a1) ∨ (a3) < 0 ∨ 65536 < (a3)) ∨ ((-51)) = -51 ∧ (0 ≤ (a1) ∧ (a1) ≤ 3 ∧ 0 ≤ (a3) ∧ (a3) ≤ 65536) ∧ (knF (sc ((w5)) 0 ((u4_1))) = 0 ∨ knF (sc ((w5)) 0 ((u4_1))) = 5) by have qh0 := HIDe r2; omega))
        · refine Ew_of (pcₚ := 26) (fun _ => x_bipush (z := -50) rfl (by decide)) ?_
          exact w_ireturn rfl (k ((-50)) _ _ _ H O (cF12) (cA12) (show inr ((-50)) from q_2311) (show ((-50)) = -50 ∧ ((a1) < 0 ∨ 3 < (a1) ∨ (a3) < 0 ∨ 65536 < (a3)) ∨ ((-50)) = -51 ∧ (0 ≤ (a1) ∧ (a1) ≤ 3 ∧ 0 ≤ (a3) ∧ (a3) ≤ 65536) ∧ (knF (sc ((w5)) 0 ((u4_1))) = 0 ∨ knF (sc ((w5)) 0 ((u4_1))) = 5) by first | exact q_5064 b15 | omega))
abbrev V18_c22_vA : vV := [(0, 0, [(4, 0), (4, 0), (4, 0), (4, 0), (4, 0), (4, 0), (4, 0), (4, 0), (4, 0), (4, 0), (4, 0), (4, 0), (4, 0), (4, 0), (4, 0), (4, 0), (4, 0), (0, 0), (0, 0)]), (1, 4, []), (0, 7, [(4, 0), (0, 0), (1, 0), (0, 0), (0, 0)]), (1, 0, []), (0, 7, [(4, 0), (0, 0), (1, 0), (0, 0), (0, 0)]), (1, 0, []), (0, 7, [(4, 0), (0, 0), (1, 0), (0, 0), (0, 0)]), (1, 0, []), (0, 7, [(4, 0), (0, 0), (1, 0), (0, 0), (0, 0)]), (1, 0, []), (1, 1, [])]
theorem len_V18_c22_vA_oz_T9rcls : (V18_c22_vA).length = 11 := by decide +kernel
theorem oz_T9rcls_16 : vsub V18_c22_vA V24 [] = true := by decide +kernel

theorem C18_c22_vA {σE : rS} {D N : Nat → Nat} {F : hF} {A : hA} {d c s : Nat} {Q : wQ} (H : HW V18_c22_vA σE D N F A) {a1 a3 a4 : Int} (pf1 : HID (F 0 0 = (D 1 : Int))) (pf2 : HID (A 1 0 = (D 2 : Int))) (pf3 : HID (F 2 0 = (D 3 : Int))) (pf4 : HID (A 1 1 = (D 4 : Int))) (pf5 : HID (F 4 0 = (D 5 : Int))) (pf6 : HID (A 1 2 = (D 6 : Int))) (pf7 : HID (F 6 0 = (D 7 : Int))) (pf8 : HID (A 1 3 = (D 8 : Int))) (pf9 : HID (F 8 0 = (D 9 : Int))) (pf10 : HID (F 0 14 = (D 10 : Int))) (n1 : Int) (en1 : HID ((N 1 : Int) = n1)) (n3 : Int) (en3 : HID ((N 3 : Int) = n3)) (n5 : Int) (en5 : HID ((N 5 : Int) = n5)) (n7 : Int) (en7 : HID ((N 7 : Int) = n7)) (n9 : Int) (en9 : HID ((N 9 : Int) = n9)) (n10 : Int) (en10 : HID ((N 10 : Int) = n10)) (u2_1 : Int) (eu2_1 : HID (F 2 1 = u2_1)) (u4_1 : Int) (eu4_1 : HID (F 4 1 = u4_1)) (u6_1 : Int) (eu6_1 : HID (F 6 1 = u6_1)) (u8_1 : Int) (eu8_1 : HID (F 8 1 = u8_1)) (h0 : inr (a1)) (h1 : inr (2)) (h2 : inr (a3)) (h3 : inr (a4)) (h4 : (n1) = 4) (h5 : 0 ≤ (u2_1) ∧ (u2_1) ≤ (n3) ∧ (n3) ≤ 65536) (h6 : 0 ≤ (u4_1) ∧ (u4_1) ≤ (n5) ∧ (n5) ≤ 65536) (h7 : 0 ≤ (u6_1) ∧ (u6_1) ≤ (n7) ∧ (n7) ≤ 65536) (h8 : 0 ≤ (u8_1) ∧ (u8_1) ≤ (n9) ∧ (n9) ≤ 65536) (hc54 : ∀ (tc54_1 : Int), ∀ (tc54_4 : Int), ∀ (tc54_5 : Int), ∀ (ls : rO) (σ : rS) (F_c54 : hF) (A_c54 : hA) , HW V18_c22_vA σ D N F_c54 A_c54 → OUT (V18_c22_vA).length D N σE c s D N σ c s → SF [] F F_c54 → SA [] A A_c54 → (inr (tc54_1)) → (inr (tc54_4)) → (inr (tc54_5)) → (0 ≤ (tc54_1) ∧ (tc54_1) ≤ 3) → (0 ≤ (tc54_4) ∧ (tc54_4) ≤ 4) → (0 ≤ (tc54_5) ∧ (tc54_5) ≤ 65536) → ((tc54_1) = (a1) ∧ (tc54_4) = (a3) ∧ (tc54_5) = (a4)) → Ew 18 (d + 1) 54 ls [.ref (D 10), I (tc54_5), I (tc54_4), .ref (D 6), .ref (D 0), I (tc54_1), .ref (D 0)] σ c s Q) (k : ∀ (z : Int) (σ : rS) (Fₚ : hF) (Aₚ : hA), HW V18_c22_vA σ D N Fₚ Aₚ → OUT (V18_c22_vA).length D N σE c s D N σ c s → SF [] F Fₚ → SA [] A Aₚ → (inr (z)) → ((z) = -50 ∧ ((a1) < 0 ∨ 3 < (a1) ∨ (a3) < 0 ∨ 4 < (a3) ∨ (a4) < 0 ∨ 65536 < (a4))) → Q (some (I z)) σ c s) : Ew 18 (d + 1) 0 (rargs 0 [.ref (D 0), I a1, I 2, I a3, I a4]) [] σE c s Q := by
  have O := OUT_refl (n := (V18_c22_vA).length) (D := D) (N := N) (σ := σE) (c := c) (s := s)
  have HE := H
  have r5 : HID ((0 : Int) ≤ n1 ∧ n1 ≤ 1000000) := nrng (H.nle 1 (ltn len_V18_c22_vA_oz_T9rcls rfl)) (show (N 1 : Int) = n1 from en1)
  refine Ew_of (pcₚ := 1) (fun _ => x_iload_n rfl rfl) ?_
  refine w_stat24 rfl rfl (by rfl) (C24x (D := puc 0 D) (N := puc 0 N) (HW_subc H oz_T9rcls_16 oz_T9rcls_4) (show inr (a1) from h0) (fun z10 σ10 F10ₚ A10ₚ Hₚ Oₚ hS10 hA10 pz10_0 pz10_1 => ⟨rretB rfl pz10_0, ?_⟩))
  refine v_backc (c := c) (s := s) H oz_T9rcls_16 oz_T9rcls_4 Hₚ Oₚ (fun F10 A10 H Oₚ eF10 eA10 => ?_)
  have O := OUT_trans O Oₚ
  -- PackHouse.isRow
  have cF10 : SF oz_T9rclsl_0 F F10 := SF_trans (SF_refl) (SF_gluc (ι := oz_T9rclsl_1) oz_T9rcls_4 hS10 eF10 (by decide +kernel)) (any_sub (lₚ := []) (by decide +kernel))
  have mF10 := SFm_of cF10 oz_T9rcls_2
  have cA10 : SA oz_T9rclsl_1 A A10 := SA_trans (SA_refl) (SA_gluc (ι := oz_T9rclsl_1) oz_T9rcls_4 hA10 eA10 (by decide +kernel)) (any_subA (lₚ := []) (by decide +kernel))
  have mA10 := SAm_of cA10 oz_T9rcls_3
  refine w_ifeq (t := 35) rfl rfl (show inr (z10) from q_138 pz10_0) (fun b11 => ?_) (fun b11 => ?_)
  · refine Ew_of (pcₚ := 37) (fun _ => x_bipush (z := -50) rfl (by decide)) ?_
    exact w_ireturn rfl (k ((-50)) _ _ _ H O (cF10) (cA10) (show inr ((-50)) from q_2311) (show ((-50)) = -50 ∧ ((a1) < 0 ∨ 3 < (a1) ∨ (a3) < 0 ∨ 4 < (a3) ∨ (a4) < 0 ∨ 65536 < (a4)) by first | exact q_5057 b11 pz10_1 | omega))
  · refine Ew_of (pcₚ := 8) (fun _ => x_iload_n rfl rfl) ?_
    refine w_stat24 rfl rfl (by rfl) (C24x (D := puc 0 D) (N := puc 0 N) (HW_subc H oz_T9rcls_16 oz_T9rcls_4) (show inr (2) from h1) (fun z12 σ12 F12ₚ A12ₚ Hₚ Oₚ hS12 hA12 pz12_0 pz12_1 => ⟨rretB rfl pz12_0, ?_⟩))
    refine v_backc (c := c) (s := s) H oz_T9rcls_16 oz_T9rcls_4 Hₚ Oₚ (fun F12 A12 H Oₚ eF12 eA12 => ?_)
    have O := OUT_trans O Oₚ
    -- PackHouse.isRow
    have cF12 : SF oz_T9rclsl_0 F F12 := SF_trans (cF10) (SF_gluc (ι := oz_T9rclsl_1) oz_T9rcls_4 hS12 eF12 (by decide +kernel)) (any_sub (lₚ := []) (by decide +kernel))
    have mF12 := SFm_of cF12 oz_T9rcls_2
    have cA12 : SA oz_T9rclsl_1 A A12 := SA_trans (cA10) (SA_gluc (ι := oz_T9rclsl_1) oz_T9rcls_4 hA12 eA12 (by decide +kernel)) (any_subA (lₚ := []) (by decide +kernel))
    have mA12 := SAm_of cA12 oz_T9rcls_3
    refine w_ifeq (t := 35) rfl rfl (show inr (z12) from q_138 pz12_0) (fun b13 => ?_) (fun b13 => ?_)
    · refine Ew_of (pcₚ := 37) (fun _ => x_bipush (z := -50) rfl (by decide)) ?_
      exact w_ireturn rfl (k ((-50)) _ _ _ H O (cF12) (cA12) (show inr ((-50)) from q_2311) (show ((-50)) = -50 ∧ ((a1) < 0 ∨ 3 < (a1) ∨ (a3) < 0 ∨ 4 < (a3) ∨ (a4) < 0 ∨ 65536 < (a4)) by omega))
    · refine Ew_of (pcₚ := 15) (fun _ => x_iload_n rfl rfl) ?_
      refine w_iflt (t := 35) rfl rfl (show inr (a3) from h2) (fun b14 => ?_) (fun b14 => ?_)
      · refine Ew_of (pcₚ := 37) (fun _ => x_bipush (z := -50) rfl (by decide)) ?_
        exact w_ireturn rfl (k ((-50)) _ _ _ H O (cF12) (cA12) (show inr ((-50)) from q_2311) (show ((-50)) = -50 ∧ ((a1) < 0 ∨ 3 < (a1) ∨ (a3) < 0 ∨ 4 < (a3) ∨ (a4) < 0 ∨ 65536 < (a4)) by first | exact q_5058 b14 | omega))
      · refine Ew_of (pcₚ := 19) (fun _ => x_iload_n rfl rfl) ?_
        refine Ew_of (pcₚ := 20) (fun _ => x_iconst rfl) ?_
        refine w_icmpgt (t := 35) rfl rfl (show inr (a3) from h2) (show inr (4) from q_216) (fun b15 => ?_) (fun b15 => ?_)
        · refine Ew_of (pcₚ := 37) (fun _ => x_bipush (z := -50) rfl (by decide)) ?_
          exact w_ireturn rfl (k ((-50)) _ _ _ H O (cF12) (cA12) (show inr ((-50)) from q_2311) (show ((-50)) = -50 ∧ ((a1) < 0 ∨ 3 < (a1) ∨ (a3) < 0 ∨ 4 < (a3) ∨ (a4) < 0 ∨ 65536 < (a4)) by first | exact q_5059 b15 | omega))
        · refine Ew_of (pcₚ := 25) (fun _ => x_iload rfl rfl) ?_
          refine w_iflt (t := 35) rfl rfl (show inr (a4) from h3) (fun b16 => ?_) (fun b16 => ?_)
          · refine Ew_of (pcₚ := 37) (fun _ => x_bipush (z := -50) rfl (by decide)) ?_
            exact w_ireturn rfl (k ((-50)) _ _ _ H O (cF12) (cA12) (show inr ((-50)) from q_2311) (show ((-50)) = -50 ∧ ((a1) < 0 ∨ 3 < (a1) ∨ (a3) < 0 ∨ 4 < (a3) ∨ (a4) < 0 ∨ 65536 < (a4)) by first | exact q_5060 b16 | omega))
          · refine Ew_of (pcₚ := 30) (fun _ => x_iload rfl rfl) ?_
            refine Ew_of (pcₚ := 32) (fun _ => x_ldc (z := 65536) rfl (by decide)) ?_
            refine w_icmple (t := 38) rfl rfl (show inr (a4) from h3) (show inr (65536) from q_52) (fun b17 => ?_) (fun b17 => ?_)
            · refine Ew_of (pcₚ := 39) (fun _ => x_aload_n rfl rfl) ?_
              refine Ew_of (pcₚ := 40) (fun _ => x_iload_n rfl rfl) ?_
              refine Ew_of (pcₚ := 41) (fun _ => x_aload_n rfl rfl) ?_
              refine Ew_of (pcₚ := 42) (fun _ => x_aload_n rfl rfl) ?_
              refine v_g H (o := 0) (v := .ref (D 1)) rfl rfl rfl rfl rfl (vrf ((mF12 0 0 rfl).trans (pf1))) ?_
              refine Ew_of (pcₚ := 46) (fun _ => x_iload_n rfl rfl) ?_
              refine v_lR H (o := 1) rfl rfl rfl rfl rfl (n := n1) (en1) (show 0 ≤ 2 ∧ 2 < n1 from q_4793 (HIDe r5) h4) (z := ((D 6 : Nat) : Int)) (v := .ref (D 6)) ((mA12 1 rfl 2).trans (pf6)) (vrf rfl) ?_
              refine Ew_of (pcₚ := 48) (fun _ => x_iload_n rfl rfl) ?_
              refine Ew_of (pcₚ := 50) (fun _ => x_iload rfl rfl) ?_
              refine Ew_of (pcₚ := 51) (fun _ => x_aload_n rfl rfl) ?_
              refine v_g H (o := 0) (v := .ref (D 10)) rfl rfl rfl rfl rfl (vrf ((mF12 0 14 rfl).trans (pf10))) ?_
              exact hc54 (a1) (a3) (a4) _ _ _ _   H O (SF_trans (SF_trans (SF_refl) (SF_gluc (ι := oz_T9rclsl_1) oz_T9rcls_4 hS10 eF10 (by decide +kernel)) (any_sub (lₚ := []) (by decide +kernel))) (SF_gluc (ι := oz_T9rclsl_1) oz_T9rcls_4 hS12 eF12 (by decide +kernel)) (any_sub (lₚ := []) (by decide +kernel))) (SA_trans (SA_trans (SA_refl) (SA_gluc (ι := oz_T9rclsl_1) oz_T9rcls_4 hA10 eA10 (by decide +kernel)) (any_subA (lₚ := []) (by decide +kernel))) (SA_gluc (ι := oz_T9rclsl_1) oz_T9rcls_4 hA12 eA12 (by decide +kernel)) (any_subA (lₚ := []) (by decide +kernel)))     (show inr (a1) from h0) (show inr (a3) from h2) (show inr (a4) from h3) (show 0 ≤ (a1) ∧ (a1) ≤ 3 by omega) (show 0 ≤ (a3) ∧ (a3) ≤ 4 from q_4817 b14 b15) (show 0 ≤ (a4) ∧ (a4) ≤ 65536 from q_4816 b16 b17) (show (a1) = (a1) ∧ (a3) = (a3) ∧ (a4) = (a4) from q_64)
            · refine Ew_of (pcₚ := 37) (fun _ => x_bipush (z := -50) rfl (by decide)) ?_
              exact w_ireturn rfl (k ((-50)) _ _ _ H O (cF12) (cA12) (show inr ((-50)) from q_2311) (show ((-50)) = -50 ∧ ((a1) < 0 ∨ 3 < (a1) ∨ (a3) < 0 ∨ 4 < (a3) ∨ (a4) < 0 ∨ 65536 < (a4)) by first | exact q_5061 b17 | omega))
abbrev V20_c22_vA : vV := [(0, 0, [(4, 0), (4, 0), (4, 0), (4, 0), (4, 0), (4, 0), (4, 0), (4, 0), (4, 0), (4, 0), (4, 0), (4, 0), (4, 0), (4, 0), (4, 0), (4, 0), (4, 0), (0, 0), (0, 0)]), (1, 4, []), (0, 7, [(4, 0), (0, 0), (1, 0), (0, 0), (0, 0)]), (1, 0, []), (0, 7, [(4, 0), (0, 0), (1, 0), (0, 0), (0, 0)]), (1, 0, []), (0, 7, [(4, 0), (0, 0), (1, 0), (0, 0), (0, 0)]), (1, 0, []), (0, 7, [(4, 0), (0, 0), (1, 0), (0, 0), (0, 0)]), (1, 0, []), (1, 1, [])]
theorem len_V20_c22_vA_oz_T9rcls : (V20_c22_vA).length = 11 := by decide +kernel
theorem oz_T9rcls_18 : vsub V20_c22_vA V24 [] = true := by decide +kernel
theorem oz_T9rcls_19 : vsub V20_c22_vA V33_Row [6, 7] = true := by decide +kernel
def oz_T9rclsl_4 : List Nat := [6, 7]
theorem oz_T9rcls_20 : okc oz_T9rclsl_4 3590 = true := by decide +kernel

theorem C20_c22_vA {σE : rS} {D N : Nat → Nat} {F : hF} {A : hA} {d c s : Nat} {Q : wQ} (H : HW V20_c22_vA σE D N F A) (HT : STC σE) {a1 a3 : Int} (pf1 : HID (F 0 0 = (D 1 : Int))) (pf2 : HID (A 1 0 = (D 2 : Int))) (pf3 : HID (F 2 0 = (D 3 : Int))) (pf4 : HID (A 1 1 = (D 4 : Int))) (pf5 : HID (F 4 0 = (D 5 : Int))) (pf6 : HID (A 1 2 = (D 6 : Int))) (pf7 : HID (F 6 0 = (D 7 : Int))) (pf8 : HID (A 1 3 = (D 8 : Int))) (pf9 : HID (F 8 0 = (D 9 : Int))) (pf10 : HID (F 0 14 = (D 10 : Int))) (n1 : Int) (en1 : HID ((N 1 : Int) = n1)) (n3 : Int) (en3 : HID ((N 3 : Int) = n3)) (n5 : Int) (en5 : HID ((N 5 : Int) = n5)) (n7 : Int) (en7 : HID ((N 7 : Int) = n7)) (n9 : Int) (en9 : HID ((N 9 : Int) = n9)) (n10 : Int) (en10 : HID ((N 10 : Int) = n10)) (u2_1 : Int) (eu2_1 : HID (F 2 1 = u2_1)) (u4_1 : Int) (eu4_1 : HID (F 4 1 = u4_1)) (u6_1 : Int) (eu6_1 : HID (F 6 1 = u6_1)) (u8_1 : Int) (eu8_1 : HID (F 8 1 = u8_1)) (w7 : Int → Int) (ew7 : A 7 = w7) (h0 : inr (a1)) (h1 : inr (2)) (h2 : inr (a3)) (h3 : (n1) = 4) (h4 : 0 ≤ (u2_1) ∧ (u2_1) ≤ (n3) ∧ (n3) ≤ 65536) (h5 : 0 ≤ (u4_1) ∧ (u4_1) ≤ (n5) ∧ (n5) ≤ 65536) (h6 : 0 ≤ (u6_1) ∧ (u6_1) ≤ (n7) ∧ (n7) ≤ 65536) (h7 : 0 ≤ (u8_1) ∧ (u8_1) ≤ (n9) ∧ (n9) ≤ 65536) (hc68 : ∀ (tc68_1 : Int), ∀ (tc68_4 : Int), ∀ (tc68_5 : Int), ∀ (ls : rO) (σ : rS) (F_c68 : hF) (A_c68 : hA) , HW V20_c22_vA σ D N F_c68 A_c68 → OUT (V20_c22_vA).length D N σE c s D N σ c s → SF [] F F_c68 → SA [] A A_c68 → (inr (tc68_1)) → (inr (tc68_4)) → (inr (tc68_5)) → (0 ≤ (tc68_1) ∧ (tc68_1) ≤ 3) → ((tc68_4) = 1 ∨ (tc68_4) = 3 ∨ (tc68_4) = 4) → (0 ≤ (tc68_5) ∧ (tc68_5) ≤ 65536) → ((tc68_1) = (a1) ∧ (tc68_5) = (a3)) → ((tc68_4) = knF (sc ((w7)) 0 ((u6_1)))) → Ew 20 (d + 3) 68 ls [.ref (D 10), I (tc68_5), I (tc68_4), .ref (D 6), .ref (D 0), I (tc68_1), .ref (D 0)] σ c s Q) (k : ∀ (z : Int) (σ : rS) (Fₚ : hF) (Aₚ : hA), HW V20_c22_vA σ D N Fₚ Aₚ → OUT (V20_c22_vA).length D N σE c s D N σ c s → SF [] F Fₚ → SA [] A Aₚ → (inr (z)) → ((z) = -50 ∧ ((a1) < 0 ∨ 3 < (a1) ∨ (a3) < 0 ∨ 65536 < (a3)) ∨ (z) = -51 ∧ (0 ≤ (a1) ∧ (a1) ≤ 3 ∧ 0 ≤ (a3) ∧ (a3) ≤ 65536) ∧ (knF (sc ((w7)) 0 ((u6_1))) = 0 ∨ knF (sc ((w7)) 0 ((u6_1))) = 5)) → Q (some (I z)) σ c s) : Ew 20 (d + 3) 0 (rargs 0 [.ref (D 0), I a1, I 2, I a3]) [] σE c s Q := by
  have O := OUT_refl (n := (V20_c22_vA).length) (D := D) (N := N) (σ := σE) (c := c) (s := s)
  have HE := H
  have r3 : HID ((-2147483648 : Int) ≤ u6_1 ∧ u6_1 ≤ 2147483647) := krg_e (show (-2147483648 : Int) ≤ F 6 1 ∧ F 6 1 ≤ 2147483647 from H.krg 6 1 (ltn len_V20_c22_vA_oz_T9rcls rfl)) (show F 6 1 = u6_1 from (eu6_1))
  have r5 : HID ((0 : Int) ≤ n1 ∧ n1 ≤ 1000000) := nrng (H.nle 1 (ltn len_V20_c22_vA_oz_T9rcls rfl)) (show (N 1 : Int) = n1 from en1)
  refine Ew_of (pcₚ := 1) (fun _ => x_iload_n rfl rfl) ?_
  refine w_stat24 rfl rfl (by rfl) (C24x (D := puc 0 D) (N := puc 0 N) (HW_subc H oz_T9rcls_18 oz_T9rcls_4) (show inr (a1) from h0) (fun z10 σ10 F10ₚ A10ₚ Hₚ Oₚ hS10 hA10 pz10_0 pz10_1 => ⟨rretB rfl pz10_0, ?_⟩))
  refine v_backc (c := c) (s := s) H oz_T9rcls_18 oz_T9rcls_4 Hₚ Oₚ (fun F10 A10 H Oₚ eF10 eA10 => ?_)
  have O := OUT_trans O Oₚ
  -- PackHouse.isRow
  have cF10 : SF oz_T9rclsl_0 F F10 := SF_trans (SF_refl) (SF_gluc (ι := oz_T9rclsl_1) oz_T9rcls_4 hS10 eF10 (by decide +kernel)) (any_sub (lₚ := []) (by decide +kernel))
  have mF10 := SFm_of cF10 oz_T9rcls_2
  have cA10 : SA oz_T9rclsl_1 A A10 := SA_trans (SA_refl) (SA_gluc (ι := oz_T9rclsl_1) oz_T9rcls_4 hA10 eA10 (by decide +kernel)) (any_subA (lₚ := []) (by decide +kernel))
  have mA10 := SAm_of cA10 oz_T9rcls_3
  refine w_ifeq (t := 24) rfl rfl (show inr (z10) from q_138 pz10_0) (fun b11 => ?_) (fun b11 => ?_)
  · refine Ew_of (pcₚ := 26) (fun _ => x_bipush (z := -50) rfl (by decide)) ?_
    exact w_ireturn rfl (k ((-50)) _ _ _ H O (cF10) (cA10) (show inr ((-50)) from q_2311) (show ((-50)) = -50 ∧ ((a1) < 0 ∨ 3 < (a1) ∨ (a3) < 0 ∨ 65536 < (a3)) ∨ ((-50)) = -51 ∧ (0 ≤ (a1) ∧ (a1) ≤ 3 ∧ 0 ≤ (a3) ∧ (a3) ≤ 65536) ∧ (knF (sc ((w7)) 0 ((u6_1))) = 0 ∨ knF (sc ((w7)) 0 ((u6_1))) = 5) by have qh0 := HIDe r3; omega))
  · refine Ew_of (pcₚ := 8) (fun _ => x_iload_n rfl rfl) ?_
    refine w_stat24 rfl rfl (by rfl) (C24x (D := puc 0 D) (N := puc 0 N) (HW_subc H oz_T9rcls_18 oz_T9rcls_4) (show inr (2) from h1) (fun z12 σ12 F12ₚ A12ₚ Hₚ Oₚ hS12 hA12 pz12_0 pz12_1 => ⟨rretB rfl pz12_0, ?_⟩))
    refine v_backc (c := c) (s := s) H oz_T9rcls_18 oz_T9rcls_4 Hₚ Oₚ (fun F12 A12 H Oₚ eF12 eA12 => ?_)
    have O := OUT_trans O Oₚ
    -- PackHouse.isRow
    have cF12 : SF oz_T9rclsl_0 F F12 := SF_trans (cF10) (SF_gluc (ι := oz_T9rclsl_1) oz_T9rcls_4 hS12 eF12 (by decide +kernel)) (any_sub (lₚ := []) (by decide +kernel))
    have mF12 := SFm_of cF12 oz_T9rcls_2
    have cA12 : SA oz_T9rclsl_1 A A12 := SA_trans (cA10) (SA_gluc (ι := oz_T9rclsl_1) oz_T9rcls_4 hA12 eA12 (by decide +kernel)) (any_subA (lₚ := []) (by decide +kernel))
    have mA12 := SAm_of cA12 oz_T9rcls_3
    refine w_ifeq (t := 24) rfl rfl (show inr (z12) from q_138 pz12_0) (fun b13 => ?_) (fun b13 => ?_)
    · refine Ew_of (pcₚ := 26) (fun _ => x_bipush (z := -50) rfl (by decide)) ?_
      exact w_ireturn rfl (k ((-50)) _ _ _ H O (cF12) (cA12) (show inr ((-50)) from q_2311) (show ((-50)) = -50 ∧ ((a1) < 0 ∨ 3 < (a1) ∨ (a3) < 0 ∨ 65536 < (a3)) ∨ ((-50)) = -51 ∧ (0 ≤ (a1) ∧ (a1) ≤ 3 ∧ 0 ≤ (a3) ∧ (a3) ≤ 65536) ∧ (knF (sc ((w7)) 0 ((u6_1))) = 0 ∨ knF (sc ((w7)) 0 ((u6_1))) = 5) by have qh0 := HIDe r3; omega))
    · refine Ew_of (pcₚ := 15) (fun _ => x_iload_n rfl rfl) ?_
      refine w_iflt (t := 24) rfl rfl (show inr (a3) from h2) (fun b14 => ?_) (fun b14 => ?_)
      · refine Ew_of (pcₚ := 26) (fun _ => x_bipush (z := -50) rfl (by decide)) ?_
        exact w_ireturn rfl (k ((-50)) _ _ _ H O (cF12) (cA12) (show inr ((-50)) from q_2311) (show ((-50)) = -50 ∧ ((a1) < 0 ∨ 3 < (a1) ∨ (a3) < 0 ∨ 65536 < (a3)) ∨ ((-50)) = -51 ∧ (0 ≤ (a1) ∧ (a1) ≤ 3 ∧ 0 ≤ (a3) ∧ (a3) ≤ 65536) ∧ (knF (sc ((w7)) 0 ((u6_1))) = 0 ∨ knF (sc ((w7)) 0 ((u6_1))) = 5) by first | exact q_5062 b14 | omega))
      · refine Ew_of (pcₚ := 19) (fun _ => x_iload_n rfl rfl) ?_
        refine Ew_of (pcₚ := 21) (fun _ => x_ldc (z := 65536) rfl (by decide)) ?_
        refine w_icmple (t := 27) rfl rfl (show inr (a3) from h2) (show inr (65536) from q_52) (fun b15 => ?_) (fun b15 => ?_)
        · refine Ew_of (pcₚ := 28) (fun _ => x_aload_n rfl rfl) ?_
          refine v_g H (o := 0) (v := .ref (D 1)) rfl rfl rfl rfl rfl (vrf ((mF12 0 0 rfl).trans (pf1))) ?_
          refine Ew_of (pcₚ := 32) (fun _ => x_iload_n rfl rfl) ?_
          refine v_lR H (o := 1) rfl rfl rfl rfl rfl (n := n1) (en1) (show 0 ≤ 2 ∧ 2 < n1 from q_4793 (HIDe r5) h3) (z := ((D 6 : Nat) : Int)) (v := .ref (D 6)) ((mA12 1 rfl 2).trans (pf6)) (vrf rfl) ?_
          refine w_stat24 rfl rfl (by rfl) (C33_Rowp (D := puc 3590 D) (N := puc 3590 N) (HW_subc H oz_T9rcls_19 oz_T9rcls_20) (STC_out HT HE O) ((mF12 6 0 rfl).trans (pf7)) (n7) (en7) (u6_1) (((mF12 6 1 rfl).trans (eu6_1))) (w7) ((funext (mA12 7 rfl)).trans (ew7)) (show 0 ≤ (u6_1) ∧ (u6_1) ≤ (n7) ∧ (n7) ≤ 65536 from h6) (fun z16 σ16 F16ₚ A16ₚ Hₚ Oₚ hS16 hA16 pz16_0 pz16_1 pz16_2 => ⟨rfl, ?_⟩))
          refine v_backc (c := c) (s := s) H oz_T9rcls_19 oz_T9rcls_20 Hₚ Oₚ (fun F16 A16 H Oₚ eF16 eA16 => ?_)
          have O := OUT_trans O Oₚ
          -- PackHouse.formatOf
          have cF16 : SF oz_T9rclsl_0 F F16 := SF_trans (cF12) (SF_gluc (ι := oz_T9rclsl_4) oz_T9rcls_20 hS16 eF16 (by decide +kernel)) (any_sub (lₚ := []) (by decide +kernel))
          have mF16 := SFm_of cF16 oz_T9rcls_2
          have cA16 : SA oz_T9rclsl_1 A A16 := SA_trans (cA12) (SA_gluc (ι := oz_T9rclsl_4) oz_T9rcls_20 hA16 eA16 (by decide +kernel)) (any_subA (lₚ := []) (by decide +kernel))
          have mA16 := SAm_of cA16 oz_T9rcls_3
          refine Ew_of (pcₚ := 38) (fun _ => x_istore rfl) ?_
          refine Ew_of (pcₚ := 40) (fun _ => x_iload rfl rk_s) ?_
          refine w_ifeq (t := 49) rfl rfl (show inr (z16) from pz16_0) (fun b17 => ?_) (fun b17 => ?_)
          · refine Ew_of (pcₚ := 51) (fun _ => x_bipush (z := -51) rfl (by decide)) ?_
            exact w_ireturn rfl (k ((-51)) _ _ _ H O (cF16) (cA16) (show inr ((-51)) from q_2344) (show ((-51)) = -50 ∧ ((a1) < 0 ∨ 3 < (a1) ∨ (a3) < 0 ∨ 65536 < (a3)) ∨ ((-51)) = -51 ∧ (0 ≤ (a1) ∧ (a1) ≤ 3 ∧ 0 ≤ (a3) ∧ (a3) ≤ 65536) ∧ (knF (sc ((w7)) 0 ((u6_1))) = 0 ∨ knF (sc ((w7)) 0 ((u6_1))) = 5) by have qh0 := HIDe r3; omega))
          · refine Ew_of (pcₚ := 45) (fun _ => x_iload rfl rk_s) ?_
            refine Ew_of (pcₚ := 46) (fun _ => x_iconst rfl) ?_
            refine w_icmpne (t := 52) rfl rfl (show inr (z16) from pz16_0) (show inr (5) from q_727) (fun b18 => ?_) (fun b18 => ?_)
            · refine Ew_of (pcₚ := 53) (fun _ => x_aload_n rfl (rk_o (rfl) rfl rfl)) ?_
              refine Ew_of (pcₚ := 54) (fun _ => x_iload_n rfl (rk_o (rfl) rfl rfl)) ?_
              refine Ew_of (pcₚ := 55) (fun _ => x_aload_n rfl (rk_o (rfl) rfl rfl)) ?_
              refine Ew_of (pcₚ := 56) (fun _ => x_aload_n rfl (rk_o (rfl) rfl rfl)) ?_
              refine v_g H (o := 0) (v := .ref (D 1)) rfl rfl rfl rfl rfl (vrf ((mF16 0 0 rfl).trans (pf1))) ?_
              refine Ew_of (pcₚ := 60) (fun _ => x_iload_n rfl (rk_o (rfl) rfl rfl)) ?_
              refine v_lR H (o := 1) rfl rfl rfl rfl rfl (n := n1) (en1) (show 0 ≤ 2 ∧ 2 < n1 from q_4793 (HIDe r5) h3) (z := ((D 6 : Nat) : Int)) (v := .ref (D 6)) ((mA16 1 rfl 2).trans (pf6)) (vrf rfl) ?_
              refine Ew_of (pcₚ := 63) (fun _ => x_iload rfl rk_s) ?_
              refine Ew_of (pcₚ := 64) (fun _ => x_iload_n rfl (rk_o (rfl) rfl rfl)) ?_
              refine Ew_of (pcₚ := 65) (fun _ => x_aload_n rfl (rk_o (rfl) rfl rfl)) ?_
              refine v_g H (o := 0) (v := .ref (D 10)) rfl rfl rfl rfl rfl (vrf ((mF16 0 14 rfl).trans (pf10))) ?_
              exact hc68 (a1) (z16) (a3) _ _ _ _   H O (SF_trans (SF_trans (SF_trans (SF_refl) (SF_gluc (ι := oz_T9rclsl_1) oz_T9rcls_4 hS10 eF10 (by decide +kernel)) (any_sub (lₚ := []) (by decide +kernel))) (SF_gluc (ι := oz_T9rclsl_1) oz_T9rcls_4 hS12 eF12 (by decide +kernel)) (any_sub (lₚ := []) (by decide +kernel))) (SF_gluc (ι := oz_T9rclsl_4) oz_T9rcls_20 hS16 eF16 (by decide +kernel)) (any_sub (lₚ := []) (by decide +kernel))) (SA_trans (SA_trans (SA_trans (SA_refl) (SA_gluc (ι := oz_T9rclsl_1) oz_T9rcls_4 hA10 eA10 (by decide +kernel)) (any_subA (lₚ := []) (by decide +kernel))) (SA_gluc (ι := oz_T9rclsl_1) oz_T9rcls_4 hA12 eA12 (by decide +kernel)) (any_subA (lₚ := []) (by decide +kernel))) (SA_gluc (ι := oz_T9rclsl_4) oz_T9rcls_20 hA16 eA16 (by decide +kernel)) (any_subA (lₚ := []) (by decide +kernel)))     (show inr (a1) from h0) (show inr (z16) from pz16_0) (show inr (a3) from h2) (show 0 ≤ (a1) ∧ (a1) ≤ 3 by omega) (show (z16) = 1 ∨ (z16) = 3 ∨ (z16) = 4 by omega) (show 0 ≤ (a3) ∧ (a3) ≤ 65536 from q_4816 b14 b15) (show (a1) = (a1) ∧ (a3) = (a3) from q_5063) (show (z16) = knF (sc ((w7)) 0 ((u6_1))) from pz16_2)
            · refine Ew_of (pcₚ := 51) (fun _ => x_bipush (z := -51) rfl (by decide)) ?_
              exact w_ireturn rfl (k ((-51)) _ _ _ H O (cF16) (cA16) (show inr ((-51)) from q_2344) (show ((-51)) = -50 ∧ ((a1) < 0 ∨ 3 < (a1) ∨ (a3) < 0 ∨ 65536 < (a3)) ∨ ((-51)) = -51 ∧ (0 ≤ (a1) ∧ (a1) ≤ 3 ∧ 0 ≤ (a3) ∧ (a3) ≤ 65536) ∧ (knF (sc ((w7)) 0 ((u6_1))) = 0 ∨ knF (sc ((w7)) 0 ((u6_1))) = 5) by have qh0 := HIDe r3; omega))
        · refine Ew_of (pcₚ := 26) (fun _ => x_bipush (z := -50) rfl (by decide)) ?_
          exact w_ireturn rfl (k ((-50)) _ _ _ H O (cF12) (cA12) (show inr ((-50)) from q_2311) (show ((-50)) = -50 ∧ ((a1) < 0 ∨ 3 < (a1) ∨ (a3) < 0 ∨ 65536 < (a3)) ∨ ((-50)) = -51 ∧ (0 ≤ (a1) ∧ (a1) ≤ 3 ∧ 0 ≤ (a3) ∧ (a3) ≤ 65536) ∧ (knF (sc ((w7)) 0 ((u6_1))) = 0 ∨ knF (sc ((w7)) 0 ((u6_1))) = 5) by first | exact q_5064 b15 | omega))
abbrev V18_c23_vA : vV := [(0, 0, [(4, 0), (4, 0), (4, 0), (4, 0), (4, 0), (4, 0), (4, 0), (4, 0), (4, 0), (4, 0), (4, 0), (4, 0), (4, 0), (4, 0), (4, 0), (4, 0), (4, 0), (0, 0), (0, 0)]), (1, 4, []), (0, 7, [(4, 0), (0, 0), (1, 0), (0, 0), (0, 0)]), (1, 0, []), (0, 7, [(4, 0), (0, 0), (1, 0), (0, 0), (0, 0)]), (1, 0, []), (0, 7, [(4, 0), (0, 0), (1, 0), (0, 0), (0, 0)]), (1, 0, []), (0, 7, [(4, 0), (0, 0), (1, 0), (0, 0), (0, 0)]), (1, 0, []), (1, 1, [])]
theorem oz_T9rcls_22 : vsub V18_c23_vA V24 [] = true := by decide +kernel

theorem C18_c23_vA {σE : rS} {D N : Nat → Nat} {F : hF} {A : hA} {d c s : Nat} {Q : wQ} (H : HW V18_c23_vA σE D N F A) {a1 a3 a4 : Int} (pf1 : HID (F 0 0 = (D 1 : Int))) (pf2 : HID (A 1 0 = (D 2 : Int))) (pf3 : HID (F 2 0 = (D 3 : Int))) (pf4 : HID (A 1 1 = (D 4 : Int))) (pf5 : HID (F 4 0 = (D 5 : Int))) (pf6 : HID (A 1 2 = (D 6 : Int))) (pf7 : HID (F 6 0 = (D 7 : Int))) (pf8 : HID (A 1 3 = (D 8 : Int))) (pf9 : HID (F 8 0 = (D 9 : Int))) (pf10 : HID (F 0 14 = (D 10 : Int))) (n1 : Int) (en1 : HID ((N 1 : Int) = n1)) (n3 : Int) (en3 : HID ((N 3 : Int) = n3)) (n5 : Int) (en5 : HID ((N 5 : Int) = n5)) (n7 : Int) (en7 : HID ((N 7 : Int) = n7)) (n9 : Int) (en9 : HID ((N 9 : Int) = n9)) (n10 : Int) (en10 : HID ((N 10 : Int) = n10)) (u2_1 : Int) (eu2_1 : HID (F 2 1 = u2_1)) (u4_1 : Int) (eu4_1 : HID (F 4 1 = u4_1)) (u6_1 : Int) (eu6_1 : HID (F 6 1 = u6_1)) (u8_1 : Int) (eu8_1 : HID (F 8 1 = u8_1)) (h0 : inr (a1)) (h1 : inr (3)) (h2 : inr (a3)) (h3 : inr (a4)) (h4 : (n1) = 4) (h5 : 0 ≤ (u2_1) ∧ (u2_1) ≤ (n3) ∧ (n3) ≤ 65536) (h6 : 0 ≤ (u4_1) ∧ (u4_1) ≤ (n5) ∧ (n5) ≤ 65536) (h7 : 0 ≤ (u6_1) ∧ (u6_1) ≤ (n7) ∧ (n7) ≤ 65536) (h8 : 0 ≤ (u8_1) ∧ (u8_1) ≤ (n9) ∧ (n9) ≤ 65536) (hc54 : ∀ (tc54_1 : Int), ∀ (tc54_4 : Int), ∀ (tc54_5 : Int), ∀ (ls : rO) (σ : rS) (F_c54 : hF) (A_c54 : hA) , HW V18_c23_vA σ D N F_c54 A_c54 → OUT (V18_c23_vA).length D N σE c s D N σ c s → SF [] F F_c54 → SA [] A A_c54 → (inr (tc54_1)) → (inr (tc54_4)) → (inr (tc54_5)) → (0 ≤ (tc54_1) ∧ (tc54_1) ≤ 3) → (0 ≤ (tc54_4) ∧ (tc54_4) ≤ 4) → (0 ≤ (tc54_5) ∧ (tc54_5) ≤ 65536) → ((tc54_1) = (a1) ∧ (tc54_4) = (a3) ∧ (tc54_5) = (a4)) → Ew 18 (d + 1) 54 ls [.ref (D 10), I (tc54_5), I (tc54_4), .ref (D 8), .ref (D 0), I (tc54_1), .ref (D 0)] σ c s Q) (k : ∀ (z : Int) (σ : rS) (Fₚ : hF) (Aₚ : hA), HW V18_c23_vA σ D N Fₚ Aₚ → OUT (V18_c23_vA).length D N σE c s D N σ c s → SF [] F Fₚ → SA [] A Aₚ → (inr (z)) → ((z) = -50 ∧ ((a1) < 0 ∨ 3 < (a1) ∨ (a3) < 0 ∨ 4 < (a3) ∨ (a4) < 0 ∨ 65536 < (a4))) → Q (some (I z)) σ c s) : Ew 18 (d + 1) 0 (rargs 0 [.ref (D 0), I a1, I 3, I a3, I a4]) [] σE c s Q := by
  have O := OUT_refl (n := (V18_c23_vA).length) (D := D) (N := N) (σ := σE) (c := c) (s := s)
  have HE := H
  refine Ew_of (pcₚ := 1) (fun _ => x_iload_n rfl rfl) ?_
  refine w_stat24 rfl rfl (by rfl) (C24x (D := puc 0 D) (N := puc 0 N) (HW_subc H oz_T9rcls_22 oz_T9rcls_4) (show inr (a1) from h0) (fun z10 σ10 F10ₚ A10ₚ Hₚ Oₚ hS10 hA10 pz10_0 pz10_1 => ⟨rretB rfl pz10_0, ?_⟩))
  refine v_backc (c := c) (s := s) H oz_T9rcls_22 oz_T9rcls_4 Hₚ Oₚ (fun F10 A10 H Oₚ eF10 eA10 => ?_)
  have O := OUT_trans O Oₚ
  -- PackHouse.isRow
  have cF10 : SF oz_T9rclsl_0 F F10 := SF_trans (SF_refl) (SF_gluc (ι := oz_T9rclsl_1) oz_T9rcls_4 hS10 eF10 (by decide +kernel)) (any_sub (lₚ := []) (by decide +kernel))
  have mF10 := SFm_of cF10 oz_T9rcls_2
  have cA10 : SA oz_T9rclsl_1 A A10 := SA_trans (SA_refl) (SA_gluc (ι := oz_T9rclsl_1) oz_T9rcls_4 hA10 eA10 (by decide +kernel)) (any_subA (lₚ := []) (by decide +kernel))
  have mA10 := SAm_of cA10 oz_T9rcls_3
  refine w_ifeq (t := 35) rfl rfl (show inr (z10) from q_138 pz10_0) (fun b11 => ?_) (fun b11 => ?_)
  · refine Ew_of (pcₚ := 37) (fun _ => x_bipush (z := -50) rfl (by decide)) ?_
    exact w_ireturn rfl (k ((-50)) _ _ _ H O (cF10) (cA10) (show inr ((-50)) from q_2311) (show ((-50)) = -50 ∧ ((a1) < 0 ∨ 3 < (a1) ∨ (a3) < 0 ∨ 4 < (a3) ∨ (a4) < 0 ∨ 65536 < (a4)) by first | exact q_5057 b11 pz10_1 | omega))
  · refine Ew_of (pcₚ := 8) (fun _ => x_iload_n rfl rfl) ?_
    refine w_stat24 rfl rfl (by rfl) (C24x (D := puc 0 D) (N := puc 0 N) (HW_subc H oz_T9rcls_22 oz_T9rcls_4) (show inr (3) from h1) (fun z12 σ12 F12ₚ A12ₚ Hₚ Oₚ hS12 hA12 pz12_0 pz12_1 => ⟨rretB rfl pz12_0, ?_⟩))
    refine v_backc (c := c) (s := s) H oz_T9rcls_22 oz_T9rcls_4 Hₚ Oₚ (fun F12 A12 H Oₚ eF12 eA12 => ?_)
    have O := OUT_trans O Oₚ
    -- PackHouse.isRow
    have cF12 : SF oz_T9rclsl_0 F F12 := SF_trans (cF10) (SF_gluc (ι := oz_T9rclsl_1) oz_T9rcls_4 hS12 eF12 (by decide +kernel)) (any_sub (lₚ := []) (by decide +kernel))
    have mF12 := SFm_of cF12 oz_T9rcls_2
    have cA12 : SA oz_T9rclsl_1 A A12 := SA_trans (cA10) (SA_gluc (ι := oz_T9rclsl_1) oz_T9rcls_4 hA12 eA12 (by decide +kernel)) (any_subA (lₚ := []) (by decide +kernel))
    have mA12 := SAm_of cA12 oz_T9rcls_3
    refine w_ifeq (t := 35) rfl rfl (show inr (z12) from q_138 pz12_0) (fun b13 => ?_) (fun b13 => ?_)
    · refine Ew_of (pcₚ := 37) (fun _ => x_bipush (z := -50) rfl (by decide)) ?_
      exact w_ireturn rfl (k ((-50)) _ _ _ H O (cF12) (cA12) (show inr ((-50)) from q_2311) (show ((-50)) = -50 ∧ ((a1) < 0 ∨ 3 < (a1) ∨ (a3) < 0 ∨ 4 < (a3) ∨ (a4) < 0 ∨ 65536 < (a4)) by omega))
    · refine Ew_of (pcₚ := 15) (fun _ => x_iload_n rfl rfl) ?_
      refine w_iflt (t := 35) rfl rfl (show inr (a3) from h2) (fun b14 => ?_) (fun b14 => ?_)
      · refine Ew_of (pcₚ := 37) (fun _ => x_bipush (z := -50) rfl (by decide)) ?_
        exact w_ireturn rfl (k ((-50)) _ _ _ H O (cF12) (cA12) (show inr ((-50)) from q_2311) (show ((-50)) = -50 ∧ ((a1) < 0 ∨ 3 < (a1) ∨ (a3) < 0 ∨ 4 < (a3) ∨ (a4) < 0 ∨ 65536 < (a4)) by first | exact q_5058 b14 | omega))
      · refine Ew_of (pcₚ := 19) (fun _ => x_iload_n rfl rfl) ?_
        refine Ew_of (pcₚ := 20) (fun _ => x_iconst rfl) ?_
        refine w_icmpgt (t := 35) rfl rfl (show inr (a3) from h2) (show inr (4) from q_216) (fun b15 => ?_) (fun b15 => ?_)
        · refine Ew_of (pcₚ := 37) (fun _ => x_bipush (z := -50) rfl (by decide)) ?_
          exact w_ireturn rfl (k ((-50)) _ _ _ H O (cF12) (cA12) (show inr ((-50)) from q_2311) (show ((-50)) = -50 ∧ ((a1) < 0 ∨ 3 < (a1) ∨ (a3) < 0 ∨ 4 < (a3) ∨ (a4) < 0 ∨ 65536 < (a4)) by first | exact q_5059 b15 | omega))
        · refine Ew_of (pcₚ := 25) (fun _ => x_iload rfl rfl) ?_
          refine w_iflt (t := 35) rfl rfl (show inr (a4) from h3) (fun b16 => ?_) (fun b16 => ?_)
          · refine Ew_of (pcₚ := 37) (fun _ => x_bipush (z := -50) rfl (by decide)) ?_
            exact w_ireturn rfl (k ((-50)) _ _ _ H O (cF12) (cA12) (show inr ((-50)) from q_2311) (show ((-50)) = -50 ∧ ((a1) < 0 ∨ 3 < (a1) ∨ (a3) < 0 ∨ 4 < (a3) ∨ (a4) < 0 ∨ 65536 < (a4)) by first | exact q_5060 b16 | omega))
          · refine Ew_of (pcₚ := 30) (fun _ => x_iload rfl rfl) ?_
            refine Ew_of (pcₚ := 32) (fun _ => x_ldc (z := 65536) rfl (by decide)) ?_
            refine w_icmple (t := 38) rfl rfl (show inr (a4) from h3) (show inr (65536) from q_52) (fun b17 => ?_) (fun b17 => ?_)
            · refine Ew_of (pcₚ := 39) (fun _ => x_aload_n rfl rfl) ?_
              refine Ew_of (pcₚ := 40) (fun _ => x_iload_n rfl rfl) ?_
              refine Ew_of (pcₚ := 41) (fun _ => x_aload_n rfl rfl) ?_
              refine Ew_of (pcₚ := 42) (fun _ => x_aload_n rfl rfl) ?_
              refine v_g H (o := 0) (v := .ref (D 1)) rfl rfl rfl rfl rfl (vrf ((mF12 0 0 rfl).trans (pf1))) ?_
              refine Ew_of (pcₚ := 46) (fun _ => x_iload_n rfl rfl) ?_
              refine v_lR H (o := 1) rfl rfl rfl rfl rfl (n := n1) (en1) (show 0 ≤ 3 ∧ 3 < n1 from q_4794 h4) (z := ((D 8 : Nat) : Int)) (v := .ref (D 8)) ((mA12 1 rfl 3).trans (pf8)) (vrf rfl) ?_
              refine Ew_of (pcₚ := 48) (fun _ => x_iload_n rfl rfl) ?_
              refine Ew_of (pcₚ := 50) (fun _ => x_iload rfl rfl) ?_
              refine Ew_of (pcₚ := 51) (fun _ => x_aload_n rfl rfl) ?_
              refine v_g H (o := 0) (v := .ref (D 10)) rfl rfl rfl rfl rfl (vrf ((mF12 0 14 rfl).trans (pf10))) ?_
              exact hc54 (a1) (a3) (a4) _ _ _ _   H O (SF_trans (SF_trans (SF_refl) (SF_gluc (ι := oz_T9rclsl_1) oz_T9rcls_4 hS10 eF10 (by decide +kernel)) (any_sub (lₚ := []) (by decide +kernel))) (SF_gluc (ι := oz_T9rclsl_1) oz_T9rcls_4 hS12 eF12 (by decide +kernel)) (any_sub (lₚ := []) (by decide +kernel))) (SA_trans (SA_trans (SA_refl) (SA_gluc (ι := oz_T9rclsl_1) oz_T9rcls_4 hA10 eA10 (by decide +kernel)) (any_subA (lₚ := []) (by decide +kernel))) (SA_gluc (ι := oz_T9rclsl_1) oz_T9rcls_4 hA12 eA12 (by decide +kernel)) (any_subA (lₚ := []) (by decide +kernel)))     (show inr (a1) from h0) (show inr (a3) from h2) (show inr (a4) from h3) (show 0 ≤ (a1) ∧ (a1) ≤ 3 by omega) (show 0 ≤ (a3) ∧ (a3) ≤ 4 from q_4817 b14 b15) (show 0 ≤ (a4) ∧ (a4) ≤ 65536 from q_4816 b16 b17) (show (a1) = (a1) ∧ (a3) = (a3) ∧ (a4) = (a4) from q_64)
            · refine Ew_of (pcₚ := 37) (fun _ => x_bipush (z := -50) rfl (by decide)) ?_
              exact w_ireturn rfl (k ((-50)) _ _ _ H O (cF12) (cA12) (show inr ((-50)) from q_2311) (show ((-50)) = -50 ∧ ((a1) < 0 ∨ 3 < (a1) ∨ (a3) < 0 ∨ 4 < (a3) ∨ (a4) < 0 ∨ 65536 < (a4)) by first | exact q_5061 b17 | omega))
abbrev V20_c23_vA : vV := [(0, 0, [(4, 0), (4, 0), (4, 0), (4, 0), (4, 0), (4, 0), (4, 0), (4, 0), (4, 0), (4, 0), (4, 0), (4, 0), (4, 0), (4, 0), (4, 0), (4, 0), (4, 0), (0, 0), (0, 0)]), (1, 4, []), (0, 7, [(4, 0), (0, 0), (1, 0), (0, 0), (0, 0)]), (1, 0, []), (0, 7, [(4, 0), (0, 0), (1, 0), (0, 0), (0, 0)]), (1, 0, []), (0, 7, [(4, 0), (0, 0), (1, 0), (0, 0), (0, 0)]), (1, 0, []), (0, 7, [(4, 0), (0, 0), (1, 0), (0, 0), (0, 0)]), (1, 0, []), (1, 1, [])]
theorem len_V20_c23_vA_oz_T9rcls : (V20_c23_vA).length = 11 := by decide +kernel
theorem oz_T9rcls_24 : vsub V20_c23_vA V24 [] = true := by decide +kernel
theorem oz_T9rcls_25 : vsub V20_c23_vA V33_Row [8, 9] = true := by decide +kernel
def oz_T9rclsl_5 : List Nat := [8, 9]
theorem oz_T9rcls_26 : okc oz_T9rclsl_5 4616 = true := by decide +kernel

theorem C20_c23_vA {σE : rS} {D N : Nat → Nat} {F : hF} {A : hA} {d c s : Nat} {Q : wQ} (H : HW V20_c23_vA σE D N F A) (HT : STC σE) {a1 a3 : Int} (pf1 : HID (F 0 0 = (D 1 : Int))) (pf2 : HID (A 1 0 = (D 2 : Int))) (pf3 : HID (F 2 0 = (D 3 : Int))) (pf4 : HID (A 1 1 = (D 4 : Int))) (pf5 : HID (F 4 0 = (D 5 : Int))) (pf6 : HID (A 1 2 = (D 6 : Int))) (pf7 : HID (F 6 0 = (D 7 : Int))) (pf8 : HID (A 1 3 = (D 8 : Int))) (pf9 : HID (F 8 0 = (D 9 : Int))) (pf10 : HID (F 0 14 = (D 10 : Int))) (n1 : Int) (en1 : HID ((N 1 : Int) = n1)) (n3 : Int) (en3 : HID ((N 3 : Int) = n3)) (n5 : Int) (en5 : HID ((N 5 : Int) = n5)) (n7 : Int) (en7 : HID ((N 7 : Int) = n7)) (n9 : Int) (en9 : HID ((N 9 : Int) = n9)) (n10 : Int) (en10 : HID ((N 10 : Int) = n10)) (u2_1 : Int) (eu2_1 : HID (F 2 1 = u2_1)) (u4_1 : Int) (eu4_1 : HID (F 4 1 = u4_1)) (u6_1 : Int) (eu6_1 : HID (F 6 1 = u6_1)) (u8_1 : Int) (eu8_1 : HID (F 8 1 = u8_1)) (w9 : Int → Int) (ew9 : A 9 = w9) (h0 : inr (a1)) (h1 : inr (3)) (h2 : inr (a3)) (h3 : (n1) = 4) (h4 : 0 ≤ (u2_1) ∧ (u2_1) ≤ (n3) ∧ (n3) ≤ 65536) (h5 : 0 ≤ (u4_1) ∧ (u4_1) ≤ (n5) ∧ (n5) ≤ 65536) (h6 : 0 ≤ (u6_1) ∧ (u6_1) ≤ (n7) ∧ (n7) ≤ 65536) (h7 : 0 ≤ (u8_1) ∧ (u8_1) ≤ (n9) ∧ (n9) ≤ 65536) (hc68 : ∀ (tc68_1 : Int), ∀ (tc68_4 : Int), ∀ (tc68_5 : Int), ∀ (ls : rO) (σ : rS) (F_c68 : hF) (A_c68 : hA) , HW V20_c23_vA σ D N F_c68 A_c68 → OUT (V20_c23_vA).length D N σE c s D N σ c s → SF [] F F_c68 → SA [] A A_c68 → (inr (tc68_1)) → (inr (tc68_4)) → (inr (tc68_5)) → (0 ≤ (tc68_1) ∧ (tc68_1) ≤ 3) → ((tc68_4) = 1 ∨ (tc68_4) = 3 ∨ (tc68_4) = 4) → (0 ≤ (tc68_5) ∧ (tc68_5) ≤ 65536) → ((tc68_1) = (a1) ∧ (tc68_5) = (a3)) → ((tc68_4) = knF (sc ((w9)) 0 ((u8_1)))) → Ew 20 (d + 3) 68 ls [.ref (D 10), I (tc68_5), I (tc68_4), .ref (D 8), .ref (D 0), I (tc68_1), .ref (D 0)] σ c s Q) (k : ∀ (z : Int) (σ : rS) (Fₚ : hF) (Aₚ : hA), HW V20_c23_vA σ D N Fₚ Aₚ → OUT (V20_c23_vA).length D N σE c s D N σ c s → SF [] F Fₚ → SA [] A Aₚ → (inr (z)) → ((z) = -50 ∧ ((a1) < 0 ∨ 3 < (a1) ∨ (a3) < 0 ∨ 65536 < (a3)) ∨ (z) = -51 ∧ (0 ≤ (a1) ∧ (a1) ≤ 3 ∧ 0 ≤ (a3) ∧ (a3) ≤ 65536) ∧ (knF (sc ((w9)) 0 ((u8_1))) = 0 ∨ knF (sc ((w9)) 0 ((u8_1))) = 5)) → Q (some (I z)) σ c s) : Ew 20 (d + 3) 0 (rargs 0 [.ref (D 0), I a1, I 3, I a3]) [] σE c s Q := by
  have O := OUT_refl (n := (V20_c23_vA).length) (D := D) (N := N) (σ := σE) (c := c) (s := s)
  have HE := H
  have r4 : HID ((-2147483648 : Int) ≤ u8_1 ∧ u8_1 ≤ 2147483647) := krg_e (show (-2147483648 : Int) ≤ F 8 1 ∧ F 8 1 ≤ 2147483647 from H.krg 8 1 (ltn len_V20_c23_vA_oz_T9rcls rfl)) (show F 8 1 = u8_1 from (eu8_1))
  refine Ew_of (pcₚ := 1) (fun _ => x_iload_n rfl rfl) ?_
  refine w_stat24 rfl rfl (by rfl) (C24x (D := puc 0 D) (N := puc 0 N) (HW_subc H oz_T9rcls_24 oz_T9rcls_4) (show inr (a1) from h0) (fun z10 σ10 F10ₚ A10ₚ Hₚ Oₚ hS10 hA10 pz10_0 pz10_1 => ⟨rretB rfl pz10_0, ?_⟩))
  refine v_backc (c := c) (s := s) H oz_T9rcls_24 oz_T9rcls_4 Hₚ Oₚ (fun F10 A10 H Oₚ eF10 eA10 => ?_)
  have O := OUT_trans O Oₚ
  -- PackHouse.isRow
  have cF10 : SF oz_T9rclsl_0 F F10 := SF_trans (SF_refl) (SF_gluc (ι := oz_T9rclsl_1) oz_T9rcls_4 hS10 eF10 (by decide +kernel)) (any_sub (lₚ := []) (by decide +kernel))
  have mF10 := SFm_of cF10 oz_T9rcls_2
  have cA10 : SA oz_T9rclsl_1 A A10 := SA_trans (SA_refl) (SA_gluc (ι := oz_T9rclsl_1) oz_T9rcls_4 hA10 eA10 (by decide +kernel)) (any_subA (lₚ := []) (by decide +kernel))
  have mA10 := SAm_of cA10 oz_T9rcls_3
  refine w_ifeq (t := 24) rfl rfl (show inr (z10) from q_138 pz10_0) (fun b11 => ?_) (fun b11 => ?_)
  · refine Ew_of (pcₚ := 26) (fun _ => x_bipush (z := -50) rfl (by decide)) ?_
    exact w_ireturn rfl (k ((-50)) _ _ _ H O (cF10) (cA10) (show inr ((-50)) from q_2311) (show ((-50)) = -50 ∧ ((a1) < 0 ∨ 3 < (a1) ∨ (a3) < 0 ∨ 65536 < (a3)) ∨ ((-50)) = -51 ∧ (0 ≤ (a1) ∧ (a1) ≤ 3 ∧ 0 ≤ (a3) ∧ (a3) ≤ 65536) ∧ (knF (sc ((w9)) 0 ((u8_1))) = 0 ∨ knF (sc ((w9)) 0 ((u8_1))) = 5) by have qh0 := HIDe r4; omega))
  · refine Ew_of (pcₚ := 8) (fun _ => x_iload_n rfl rfl) ?_
    refine w_stat24 rfl rfl (by rfl) (C24x (D := puc 0 D) (N := puc 0 N) (HW_subc H oz_T9rcls_24 oz_T9rcls_4) (show inr (3) from h1) (fun z12 σ12 F12ₚ A12ₚ Hₚ Oₚ hS12 hA12 pz12_0 pz12_1 => ⟨rretB rfl pz12_0, ?_⟩))
    refine v_backc (c := c) (s := s) H oz_T9rcls_24 oz_T9rcls_4 Hₚ Oₚ (fun F12 A12 H Oₚ eF12 eA12 => ?_)
    have O := OUT_trans O Oₚ
    -- PackHouse.isRow
    have cF12 : SF oz_T9rclsl_0 F F12 := SF_trans (cF10) (SF_gluc (ι := oz_T9rclsl_1) oz_T9rcls_4 hS12 eF12 (by decide +kernel)) (any_sub (lₚ := []) (by decide +kernel))
    have mF12 := SFm_of cF12 oz_T9rcls_2
    have cA12 : SA oz_T9rclsl_1 A A12 := SA_trans (cA10) (SA_gluc (ι := oz_T9rclsl_1) oz_T9rcls_4 hA12 eA12 (by decide +kernel)) (any_subA (lₚ := []) (by decide +kernel))
    have mA12 := SAm_of cA12 oz_T9rcls_3
    refine w_ifeq (t := 24) rfl rfl (show inr (z12) from q_138 pz12_0) (fun b13 => ?_) (fun b13 => ?_)
    · refine Ew_of (pcₚ := 26) (fun _ => x_bipush (z := -50) rfl (by decide)) ?_
      exact w_ireturn rfl (k ((-50)) _ _ _ H O (cF12) (cA12) (show inr ((-50)) from q_2311) (show ((-50)) = -50 ∧ ((a1) < 0 ∨ 3 < (a1) ∨ (a3) < 0 ∨ 65536 < (a3)) ∨ ((-50)) = -51 ∧ (0 ≤ (a1) ∧ (a1) ≤ 3 ∧ 0 ≤ (a3) ∧ (a3) ≤ 65536) ∧ (knF (sc ((w9)) 0 ((u8_1))) = 0 ∨ knF (sc ((w9)) 0 ((u8_1))) = 5) by have qh0 := HIDe r4; omega))
    · refine Ew_of (pcₚ := 15) (fun _ => x_iload_n rfl rfl) ?_
      refine w_iflt (t := 24) rfl rfl (show inr (a3) from h2) (fun b14 => ?_) (fun b14 => ?_)
      · refine Ew_of (pcₚ := 26) (fun _ => x_bipush (z := -50) rfl (by decide)) ?_
        exact w_ireturn rfl (k ((-50)) _ _ _ H O (cF12) (cA12) (show inr ((-50)) from q_2311) (show ((-50)) = -50 ∧ ((a1) < 0 ∨ 3 < (a1) ∨ (a3) < 0 ∨ 65536 < (a3)) ∨ ((-50)) = -51 ∧ (0 ≤ (a1) ∧ (a1) ≤ 3 ∧ 0 ≤ (a3) ∧ (a3) ≤ 65536) ∧ (knF (sc ((w9)) 0 ((u8_1))) = 0 ∨ knF (sc ((w9)) 0 ((u8_1))) = 5) by first | exact q_5062 b14 | omega))
      · refine Ew_of (pcₚ := 19) (fun _ => x_iload_n rfl rfl) ?_
        refine Ew_of (pcₚ := 21) (fun _ => x_ldc (z := 65536) rfl (by decide)) ?_
        refine w_icmple (t := 27) rfl rfl (show inr (a3) from h2) (show inr (65536) from q_52) (fun b15 => ?_) (fun b15 => ?_)
        · refine Ew_of (pcₚ := 28) (fun _ => x_aload_n rfl rfl) ?_
          refine v_g H (o := 0) (v := .ref (D 1)) rfl rfl rfl rfl rfl (vrf ((mF12 0 0 rfl).trans (pf1))) ?_
          refine Ew_of (pcₚ := 32) (fun _ => x_iload_n rfl rfl) ?_
          refine v_lR H (o := 1) rfl rfl rfl rfl rfl (n := n1) (en1) (show 0 ≤ 3 ∧ 3 < n1 from q_4794 h3) (z := ((D 8 : Nat) : Int)) (v := .ref (D 8)) ((mA12 1 rfl 3).trans (pf8)) (vrf rfl) ?_
          refine w_stat24 rfl rfl (by rfl) (C33_Rowp (D := puc 4616 D) (N := puc 4616 N) (HW_subc H oz_T9rcls_25 oz_T9rcls_26) (STC_out HT HE O) ((mF12 8 0 rfl).trans (pf9)) (n9) (en9) (u8_1) (((mF12 8 1 rfl).trans (eu8_1))) (w9) ((funext (mA12 9 rfl)).trans (ew9)) (show 0 ≤ (u8_1) ∧ (u8_1) ≤ (n9) ∧ (n9) ≤ 65536 from h7) (fun z16 σ16 F16ₚ A16ₚ Hₚ Oₚ hS16 hA16 pz16_0 pz16_1 pz16_2 => ⟨rfl, ?_⟩))
          refine v_backc (c := c) (s := s) H oz_T9rcls_25 oz_T9rcls_26 Hₚ Oₚ (fun F16 A16 H Oₚ eF16 eA16 => ?_)
          have O := OUT_trans O Oₚ
          -- PackHouse.formatOf
          have cF16 : SF oz_T9rclsl_0 F F16 := SF_trans (cF12) (SF_gluc (ι := oz_T9rclsl_5) oz_T9rcls_26 hS16 eF16 (by decide +kernel)) (any_sub (lₚ := []) (by decide +kernel))
          have mF16 := SFm_of cF16 oz_T9rcls_2
          have cA16 : SA oz_T9rclsl_1 A A16 := SA_trans (cA12) (SA_gluc (ι := oz_T9rclsl_5) oz_T9rcls_26 hA16 eA16 (by decide +kernel)) (any_subA (lₚ := []) (by decide +kernel))
          have mA16 := SAm_of cA16 oz_T9rcls_3
          refine Ew_of (pcₚ := 38) (fun _ => x_istore rfl) ?_
          refine Ew_of (pcₚ := 40) (fun _ => x_iload rfl rk_s) ?_
          refine w_ifeq (t := 49) rfl rfl (show inr (z16) from pz16_0) (fun b17 => ?_) (fun b17 => ?_)
          · refine Ew_of (pcₚ := 51) (fun _ => x_bipush (z := -51) rfl (by decide)) ?_
            exact w_ireturn rfl (k ((-51)) _ _ _ H O (cF16) (cA16) (show inr ((-51)) from q_2344) (show ((-51)) = -50 ∧ ((a1) < 0 ∨ 3 < (a1) ∨ (a3) < 0 ∨ 65536 < (a3)) ∨ ((-51)) = -51 ∧ (0 ≤ (a1) ∧ (a1) ≤ 3 ∧ 0 ≤ (a3) ∧ (a3) ≤ 65536) ∧ (knF (sc ((w9)) 0 ((u8_1))) = 0 ∨ knF (sc ((w9)) 0 ((u8_1))) = 5) by have qh0 := HIDe r4; omega))
          · refine Ew_of (pcₚ := 45) (fun _ => x_iload rfl rk_s) ?_
            refine Ew_of (pcₚ := 46) (fun _ => x_iconst rfl) ?_
            refine w_icmpne (t := 52) rfl rfl (show inr (z16) from pz16_0) (show inr (5) from q_727) (fun b18 => ?_) (fun b18 => ?_)
            · refine Ew_of (pcₚ := 53) (fun _ => x_aload_n rfl (rk_o (rfl) rfl rfl)) ?_
              refine Ew_of (pcₚ := 54) (fun _ => x_iload_n rfl (rk_o (rfl) rfl rfl)) ?_
              refine Ew_of (pcₚ := 55) (fun _ => x_aload_n rfl (rk_o (rfl) rfl rfl)) ?_
              refine Ew_of (pcₚ := 56) (fun _ => x_aload_n rfl (rk_o (rfl) rfl rfl)) ?_
              refine v_g H (o := 0) (v := .ref (D 1)) rfl rfl rfl rfl rfl (vrf ((mF16 0 0 rfl).trans (pf1))) ?_
              refine Ew_of (pcₚ := 60) (fun _ => x_iload_n rfl (rk_o (rfl) rfl rfl)) ?_
              refine v_lR H (o := 1) rfl rfl rfl rfl rfl (n := n1) (en1) (show 0 ≤ 3 ∧ 3 < n1 from q_4794 h3) (z := ((D 8 : Nat) : Int)) (v := .ref (D 8)) ((mA16 1 rfl 3).trans (pf8)) (vrf rfl) ?_
              refine Ew_of (pcₚ := 63) (fun _ => x_iload rfl rk_s) ?_
              refine Ew_of (pcₚ := 64) (fun _ => x_iload_n rfl (rk_o (rfl) rfl rfl)) ?_
              refine Ew_of (pcₚ := 65) (fun _ => x_aload_n rfl (rk_o (rfl) rfl rfl)) ?_
              refine v_g H (o := 0) (v := .ref (D 10)) rfl rfl rfl rfl rfl (vrf ((mF16 0 14 rfl).trans (pf10))) ?_
              exact hc68 (a1) (z16) (a3) _ _ _ _   H O (SF_trans (SF_trans (SF_trans (SF_refl) (SF_gluc (ι := oz_T9rclsl_1) oz_T9rcls_4 hS10 eF10 (by decide +kernel)) (any_sub (lₚ := []) (by decide +kernel))) (SF_gluc (ι := oz_T9rclsl_1) oz_T9rcls_4 hS12 eF12 (by decide +kernel)) (any_sub (lₚ := []) (by decide +kernel))) (SF_gluc (ι := oz_T9rclsl_5) oz_T9rcls_26 hS16 eF16 (by decide +kernel)) (any_sub (lₚ := []) (by decide +kernel))) (SA_trans (SA_trans (SA_trans (SA_refl) (SA_gluc (ι := oz_T9rclsl_1) oz_T9rcls_4 hA10 eA10 (by decide +kernel)) (any_subA (lₚ := []) (by decide +kernel))) (SA_gluc (ι := oz_T9rclsl_1) oz_T9rcls_4 hA12 eA12 (by decide +kernel)) (any_subA (lₚ := []) (by decide +kernel))) (SA_gluc (ι := oz_T9rclsl_5) oz_T9rcls_26 hA16 eA16 (by decide +kernel)) (any_subA (lₚ := []) (by decide +kernel)))     (show inr (a1) from h0) (show inr (z16) from pz16_0) (show inr (a3) from h2) (show 0 ≤ (a1) ∧ (a1) ≤ 3 by omega) (show (z16) = 1 ∨ (z16) = 3 ∨ (z16) = 4 by omega) (show 0 ≤ (a3) ∧ (a3) ≤ 65536 from q_4816 b14 b15) (show (a1) = (a1) ∧ (a3) = (a3) from q_5063) (show (z16) = knF (sc ((w9)) 0 ((u8_1))) from pz16_2)
            · refine Ew_of (pcₚ := 51) (fun _ => x_bipush (z := -51) rfl (by decide)) ?_
              exact w_ireturn rfl (k ((-51)) _ _ _ H O (cF16) (cA16) (show inr ((-51)) from q_2344) (show ((-51)) = -50 ∧ ((a1) < 0 ∨ 3 < (a1) ∨ (a3) < 0 ∨ 65536 < (a3)) ∨ ((-51)) = -51 ∧ (0 ≤ (a1) ∧ (a1) ≤ 3 ∧ 0 ≤ (a3) ∧ (a3) ≤ 65536) ∧ (knF (sc ((w9)) 0 ((u8_1))) = 0 ∨ knF (sc ((w9)) 0 ((u8_1))) = 5) by have qh0 := HIDe r4; omega))
        · refine Ew_of (pcₚ := 26) (fun _ => x_bipush (z := -50) rfl (by decide)) ?_
          exact w_ireturn rfl (k ((-50)) _ _ _ H O (cF12) (cA12) (show inr ((-50)) from q_2311) (show ((-50)) = -50 ∧ ((a1) < 0 ∨ 3 < (a1) ∨ (a3) < 0 ∨ 65536 < (a3)) ∨ ((-50)) = -51 ∧ (0 ≤ (a1) ∧ (a1) ≤ 3 ∧ 0 ≤ (a3) ∧ (a3) ≤ 65536) ∧ (knF (sc ((w9)) 0 ((u8_1))) = 0 ∨ knF (sc ((w9)) 0 ((u8_1))) = 5) by first | exact q_5064 b15 | omega))
abbrev V18_vB : vV := [(0, 0, [(4, 0), (4, 0), (4, 0), (4, 0), (4, 0), (4, 0), (4, 0), (4, 0), (4, 0), (4, 0), (4, 0), (4, 0), (4, 0), (4, 0), (4, 0), (4, 0), (4, 0), (0, 0), (0, 0)]), (1, 4, []), (0, 7, [(4, 0), (0, 0), (1, 0), (0, 0), (0, 0)]), (1, 0, []), (0, 7, [(4, 0), (0, 0), (1, 0), (0, 0), (0, 0)]), (1, 0, []), (0, 7, [(4, 0), (0, 0), (1, 0), (0, 0), (0, 0)]), (1, 0, []), (0, 7, [(4, 0), (0, 0), (1, 0), (0, 0), (0, 0)]), (1, 0, []), (0, 7, [(4, 0), (0, 0), (1, 0), (0, 0), (0, 0)]), (1, 0, [])]
theorem oz_T9rcls_28 : vsub V18_vB V31 [0, 1, 2, 3, 4, 5, 6, 7, 8, 9, 10, 11] = true := by decide +kernel
theorem oz_T9rcls_29 : vmov V18_vB [0, 1, 2, 3, 4, 5, 6, 7, 8, 9, 10, 11] [3, 5, 7, 9] = true := by decide +kernel
def oz_T9rclsl_6 : List (Nat × Nat) := [(0, 18), (2, 0), (2, 1), (2, 2), (2, 3), (2, 4), (4, 0), (4, 1), (4, 2), (4, 3), (4, 4), (6, 0), (6, 1), (6, 2), (6, 3), (6, 4), (8, 0), (8, 1), (8, 2), (8, 3), (8, 4)]
theorem oz_T9rcls_30 : (oz_T9rclsl_6).all (fun p => !tbz 3589554766356802058325290689066312247140827750128844236490294584920361899655168 (Nat.add (Nat.mul 32 p.1) p.2)) = true := by decide +kernel
def oz_T9rclsl_7 : List Nat := [3, 5, 7, 9]
theorem oz_T9rcls_31 : (oz_T9rclsl_7).all (fun p => !tbz 680 p) = true := by decide +kernel
def oz_T9rclsl_8 : List Nat := [0, 1, 2, 3, 4, 5, 6, 7, 8, 9, 10, 11]
theorem oz_T9rcls_32 : okc oz_T9rclsl_8 6984479500156472304109347144192 = true := by decide +kernel

theorem C18_vB {σE : rS} {D N : Nat → Nat} {F : hF} {A : hA} {d c s : Nat} {Q : wQ} (H : HW V18_vB σE D N F A) {y1 y2 : Int} (pf1 : HID (F 0 0 = (D 1 : Int))) (pf2 : HID (A 1 0 = (D 2 : Int))) (pf3 : HID (F 2 0 = (D 3 : Int))) (pf4 : HID (A 1 1 = (D 4 : Int))) (pf5 : HID (F 4 0 = (D 5 : Int))) (pf6 : HID (A 1 2 = (D 6 : Int))) (pf7 : HID (F 6 0 = (D 7 : Int))) (pf8 : HID (A 1 3 = (D 8 : Int))) (pf9 : HID (F 8 0 = (D 9 : Int))) (pf10 : HID (F 0 6 = (D 10 : Int))) (pf11 : HID (F 10 0 = (D 11 : Int))) (n1 : Int) (en1 : HID ((N 1 : Int) = n1)) (n3 : Int) (en3 : HID ((N 3 : Int) = n3)) (n5 : Int) (en5 : HID ((N 5 : Int) = n5)) (n7 : Int) (en7 : HID ((N 7 : Int) = n7)) (n9 : Int) (en9 : HID ((N 9 : Int) = n9)) (n11 : Int) (en11 : HID ((N 11 : Int) = n11)) (u0_17 : Int) (eu0_17 : HID (F 0 17 = u0_17)) (u0_18 : Int) (eu0_18 : HID (F 0 18 = u0_18)) (u2_1 : Int) (eu2_1 : HID (F 2 1 = u2_1)) (u2_2 : Int) (eu2_2 : HID (F 2 2 = u2_2)) (u4_1 : Int) (eu4_1 : HID (F 4 1 = u4_1)) (u4_2 : Int) (eu4_2 : HID (F 4 2 = u4_2)) (u6_1 : Int) (eu6_1 : HID (F 6 1 = u6_1)) (u6_2 : Int) (eu6_2 : HID (F 6 2 = u6_2)) (u8_1 : Int) (eu8_1 : HID (F 8 1 = u8_1)) (u8_2 : Int) (eu8_2 : HID (F 8 2 = u8_2)) (u10_1 : Int) (eu10_1 : HID (F 10 1 = u10_1)) (w3 : Int → Int) (ew3 : A 3 = w3) (w5 : Int → Int) (ew5 : A 5 = w5) (w7 : Int → Int) (ew7 : A 7 = w7) (w9 : Int → Int) (ew9 : A 9 = w9) (w11 : Int → Int) (ew11 : A 11 = w11) {ls : rO}  (h0 : inr y1) (h1 : inr y2) (h2 : (n1) = 4) (h3 : 0 ≤ (u2_1) ∧ (u2_1) ≤ (n3) ∧ (n3) ≤ 65536) (h4 : 0 ≤ (u4_1) ∧ (u4_1) ≤ (n5) ∧ (n5) ≤ 65536) (h5 : 0 ≤ (u6_1) ∧ (u6_1) ≤ (n7) ∧ (n7) ≤ 65536) (h6 : 0 ≤ (u8_1) ∧ (u8_1) ≤ (n9) ∧ (n9) ≤ 65536) (h7 : (u2_2) = 0) (h8 : (u4_2) = 0) (h9 : (u6_2) = 0) (h10 : (u8_2) = 0) (h11 : 0 ≤ (u10_1) ∧ (u10_1) ≤ (n11) ∧ (n11) ≤ 65536) (h12 : 0 ≤ y1 ∧ y1 ≤ 3) (k : ∀ (z : Int) (σ : rS) (Dₚ Nₚ : Nat → Nat) (Fₚ : hF) (Aₚ : hA) (cₚ sₚ : Nat), HW V18_vB σ Dₚ Nₚ Fₚ Aₚ → OUT (V18_vB).length D N σE c s Dₚ Nₚ σ cₚ sₚ → SD [3, 5, 7, 9] D Dₚ → SD [3, 5, 7, 9] N Nₚ → SF [(0, 18), (2, 0), (2, 1), (2, 2), (2, 3), (2, 4), (4, 0), (4, 1), (4, 2), (4, 3), (4, 4), (6, 0), (6, 1), (6, 2), (6, 3), (6, 4), (8, 0), (8, 1), (8, 2), (8, 3), (8, 4)] F Fₚ → SA [3, 5, 7, 9] A Aₚ → Fₚ 2 0 = (Dₚ 3 : Int) → Fₚ 4 0 = (Dₚ 5 : Int) → Fₚ 6 0 = (Dₚ 7 : Int) → Fₚ 8 0 = (Dₚ 9 : Int) → ∀ m3 : Int, (Nₚ 3 : Int) = m3 → ∀ m5 : Int, (Nₚ 5 : Int) = m5 → ∀ m7 : Int, (Nₚ 7 : Int) = m7 → ∀ m9 : Int, (Nₚ 9 : Int) = m9 → ∀ y0_18 : Int, Fₚ 0 18 = y0_18 → ∀ y2_1 : Int, Fₚ 2 1 = y2_1 → ∀ y2_2 : Int, Fₚ 2 2 = y2_2 → ∀ y4_1 : Int, Fₚ 4 1 = y4_1 → ∀ y4_2 : Int, Fₚ 4 2 = y4_2 → ∀ y6_1 : Int, Fₚ 6 1 = y6_1 → ∀ y6_2 : Int, Fₚ 6 2 = y6_2 → ∀ y8_1 : Int, Fₚ 8 1 = y8_1 → ∀ y8_2 : Int, Fₚ 8 2 = y8_2 → ∀ v3 : Int → Int, Aₚ 3 = v3 → ∀ v5 : Int → Int, Aₚ 5 = v5 → ∀ v7 : Int → Int, Aₚ 7 = v7 → ∀ v9 : Int → Int, Aₚ 9 = v9 → (inr (z)) → (0 ≤ (y2_1) ∧ (y2_1) ≤ (m3) ∧ (m3) ≤ 65536) → (0 ≤ (y4_1) ∧ (y4_1) ≤ (m5) ∧ (m5) ≤ 65536) → (0 ≤ (y6_1) ∧ (y6_1) ≤ (m7) ∧ (m7) ≤ 65536) → (0 ≤ (y8_1) ∧ (y8_1) ≤ (m9) ∧ (m9) ≤ 65536) → (0 ≤ (u10_1) ∧ (u10_1) ≤ (n11) ∧ (n11) ≤ 65536) → ((y2_2) = 0) → ((y4_2) = 0) → ((y6_2) = 0) → ((y8_2) = 0) → ((z) = y2) → ((y0_18) = (u0_17)) → (IMP (y1 = 0 ∧ 0 ≤ y2) (sc ((v3)) 0 ((y2_1)) = sc ((w11)) 0 ((u10_1)))) → (IMP (y1 = 1 ∧ 0 ≤ y2) (sc ((v5)) 0 ((y4_1)) = sc ((w11)) 0 ((u10_1)))) → (IMP (y1 = 2 ∧ 0 ≤ y2) (sc ((v7)) 0 ((y6_1)) = sc ((w11)) 0 ((u10_1)))) → (IMP (y1 = 3 ∧ 0 ≤ y2) (sc ((v9)) 0 ((y8_1)) = sc ((w11)) 0 ((u10_1)))) → (IMP (y1 ≠ 0 ∨ y2 < 0) (sc ((v3)) 0 ((y2_1)) = sc ((w3)) 0 ((u2_1)))) → (IMP (y1 ≠ 1 ∨ y2 < 0) (sc ((v5)) 0 ((y4_1)) = sc ((w5)) 0 ((u4_1)))) → (IMP (y1 ≠ 2 ∨ y2 < 0) (sc ((v7)) 0 ((y6_1)) = sc ((w7)) 0 ((u6_1)))) → (IMP (y1 ≠ 3 ∨ y2 < 0) (sc ((v9)) 0 ((y8_1)) = sc ((w9)) 0 ((u8_1)))) → Q (some (I z)) σ cₚ sₚ) : Ew 18 (d + 5) 57 ls [I (y2), I (y1), .ref (D 0)] σE c s Q := by
  have O := OUT_refl (n := (V18_vB).length) (D := D) (N := N) (σ := σE) (c := c) (s := s)
  have HE := H
  refine v_inv H (o := 0) rfl rfl rfl rfl rfl rfl (by rfl) (C31p (D := puc 6984479500156472304109347144192 D) (N := puc 6984479500156472304109347144192 N) (HW_subc H oz_T9rcls_28 oz_T9rcls_32) (pf1) (pf2) (pf3) (pf4) (pf5) (pf6) (pf7) (pf8) (pf9) (pf10) (pf11) (n1) (en1) (n3) (en3) (n5) (en5) (n7) (en7) (n9) (en9) (n11) (en11) (u0_17) ((eu0_17)) (u0_18) ((eu0_18)) (u2_1) ((eu2_1)) (u2_2) ((eu2_2)) (u4_1) ((eu4_1)) (u4_2) ((eu4_2)) (u6_1) ((eu6_1)) (u6_2) ((eu6_2)) (u8_1) ((eu8_1)) (u8_2) ((eu8_2)) (u10_1) ((eu10_1)) (w3) (ew3) (w5) (ew5) (w7) (ew7) (w9) (ew9) (w11) (ew11) (show inr (y1) from h0) (show inr (y2) from h1) (show (n1) = 4 from h2) (show 0 ≤ (u2_1) ∧ (u2_1) ≤ (n3) ∧ (n3) ≤ 65536 from h3) (show 0 ≤ (u4_1) ∧ (u4_1) ≤ (n5) ∧ (n5) ≤ 65536 from h4) (show 0 ≤ (u6_1) ∧ (u6_1) ≤ (n7) ∧ (n7) ≤ 65536 from h5) (show 0 ≤ (u8_1) ∧ (u8_1) ≤ (n9) ∧ (n9) ≤ 65536 from h6) (show 0 ≤ (u10_1) ∧ (u10_1) ≤ (n11) ∧ (n11) ≤ 65536 from h11) (show 0 ≤ (y1) ∧ (y1) ≤ 3 from h12) (show (u2_2) = 0 from h7) (show (u4_2) = 0 from h8) (show (u6_2) = 0 from h9) (show (u8_2) = 0 from h10) (fun z18 σ18 D18ₚ N18ₚ F18ₚ A18ₚ c18 s18 Hₚ Oₚ hD18 hN18 hS18 hA18 (pm18_3 : HID _) (pm18_5 : HID _) (pm18_7 : HID _) (pm18_9 : HID _) m18_3 (em18_3 : HID _) m18_5 (em18_5 : HID _) m18_7 (em18_7 : HID _) m18_9 (em18_9 : HID _) y18_0_18 (ey18_0_18 : HID _) y18_2_1 (ey18_2_1 : HID _) y18_2_2 (ey18_2_2 : HID _) y18_4_1 (ey18_4_1 : HID _) y18_4_2 (ey18_4_2 : HID _) y18_6_1 (ey18_6_1 : HID _) y18_6_2 (ey18_6_2 : HID _) y18_8_1 (ey18_8_1 : HID _) y18_8_2 (ey18_8_2 : HID _) w18_3 ew18_3 w18_5 ew18_5 w18_7 ew18_7 w18_9 ew18_9 pz18_0 pz18_1 pz18_2 pz18_3 pz18_4 pz18_5 pz18_6 pz18_7 pz18_8 pz18_9 pz18_10 pz18_11 pz18_12 pz18_13 pz18_14 pz18_15 pz18_16 pz18_17 pz18_18 pz18_19 => ⟨rfl, ?_⟩))
  refine v_backMc (c := c) (s := s) H oz_T9rcls_28 oz_T9rcls_32 Hₚ Oₚ hD18 oz_T9rcls_29 (fun D18 N18 F18 A18 H Oₚ eD18 eN18 eF18 eA18 => ?_)
  have O := OUT_trans O Oₚ
  -- PackHouse.settle
  have cF18 : SF oz_T9rclsl_6 F F18 := SF_trans (SF_refl) (SF_gluc (ι := oz_T9rclsl_8) oz_T9rcls_32 hS18 eF18 (by decide +kernel)) (any_sub (lₚ := [(0, 18), (2, 0), (2, 1), (2, 2), (2, 3), (2, 4), (4, 0), (4, 1), (4, 2), (4, 3), (4, 4), (6, 0), (6, 1), (6, 2), (6, 3), (6, 4), (8, 0), (8, 1), (8, 2), (8, 3), (8, 4)]) (by decide +kernel))
  have mF18 := SFm_of cF18 oz_T9rcls_30
  have cA18 : SA oz_T9rclsl_7 A A18 := SA_trans (SA_refl) (SA_gluc (ι := oz_T9rclsl_8) oz_T9rcls_32 hA18 eA18 (by decide +kernel)) (any_subA (lₚ := [3, 5, 7, 9]) (by decide +kernel))
  have mA18 := SAm_of cA18 oz_T9rcls_31
  have cD18 : SD oz_T9rclsl_7 D D18 := SD_trans (SD_refl) (SD_gluc (ι := oz_T9rclsl_8) oz_T9rcls_32 hD18 eD18 (by decide +kernel)) (any_subA (lₚ := [3, 5, 7, 9]) (by decide +kernel))
  have mD18 := SDm_of cD18 oz_T9rcls_31
  have cN18 : SD oz_T9rclsl_7 N N18 := SD_trans (SD_refl) (SD_gluc (ι := oz_T9rclsl_8) oz_T9rcls_32 hN18 eN18 (by decide +kernel)) (any_subA (lₚ := [3, 5, 7, 9]) (by decide +kernel))
  have mN18 := SDm_of cN18 oz_T9rcls_31
  have pf18_2_0 : HID (F18 2 0 = (D18 3 : Int)) := (eF18 2 0).trans (pm18_3.trans (congrArg (fun q : Nat => (q : Int)) (eD18 3).symm))
  have pf18_4_0 : HID (F18 4 0 = (D18 5 : Int)) := (eF18 4 0).trans (pm18_5.trans (congrArg (fun q : Nat => (q : Int)) (eD18 5).symm))
  have pf18_6_0 : HID (F18 6 0 = (D18 7 : Int)) := (eF18 6 0).trans (pm18_7.trans (congrArg (fun q : Nat => (q : Int)) (eD18 7).symm))
  have pf18_8_0 : HID (F18 8 0 = (D18 9 : Int)) := (eF18 8 0).trans (pm18_9.trans (congrArg (fun q : Nat => (q : Int)) (eD18 9).symm))
  exact w_ireturn rfl (k (z18) _ _ _ _ _ _ _ H O (cD18) (cN18) (cF18) (cA18) (pf18_2_0) (pf18_4_0) (pf18_6_0) (pf18_8_0) (m18_3) ((congrArg (fun q : Nat => (q : Int)) (eN18 3)).trans em18_3) (m18_5) ((congrArg (fun q : Nat => (q : Int)) (eN18 5)).trans em18_5) (m18_7) ((congrArg (fun q : Nat => (q : Int)) (eN18 7)).trans em18_7) (m18_9) ((congrArg (fun q : Nat => (q : Int)) (eN18 9)).trans em18_9) (y18_0_18) (((eF18 0 18).trans ey18_0_18)) (y18_2_1) (((eF18 2 1).trans ey18_2_1)) (y18_2_2) (((eF18 2 2).trans ey18_2_2)) (y18_4_1) (((eF18 4 1).trans ey18_4_1)) (y18_4_2) (((eF18 4 2).trans ey18_4_2)) (y18_6_1) (((eF18 6 1).trans ey18_6_1)) (y18_6_2) (((eF18 6 2).trans ey18_6_2)) (y18_8_1) (((eF18 8 1).trans ey18_8_1)) (y18_8_2) (((eF18 8 2).trans ey18_8_2)) (w18_3) ((eA18 3).trans ew18_3) (w18_5) ((eA18 5).trans ew18_5) (w18_7) ((eA18 7).trans ew18_7) (w18_9) ((eA18 9).trans ew18_9) (show inr (z18) from pz18_0) (show 0 ≤ (y18_2_1) ∧ (y18_2_1) ≤ (m18_3) ∧ (m18_3) ≤ 65536 from pz18_1) (show 0 ≤ (y18_4_1) ∧ (y18_4_1) ≤ (m18_5) ∧ (m18_5) ≤ 65536 from pz18_2) (show 0 ≤ (y18_6_1) ∧ (y18_6_1) ≤ (m18_7) ∧ (m18_7) ≤ 65536 from pz18_3) (show 0 ≤ (y18_8_1) ∧ (y18_8_1) ≤ (m18_9) ∧ (m18_9) ≤ 65536 from pz18_4) (show 0 ≤ (u10_1) ∧ (u10_1) ≤ (n11) ∧ (n11) ≤ 65536 from pz18_5) (show (y18_2_2) = 0 from pz18_6) (show (y18_4_2) = 0 from pz18_7) (show (y18_6_2) = 0 from pz18_8) (show (y18_8_2) = 0 from pz18_9) (show (z18) = y2 from pz18_10) (show (y18_0_18) = (u0_17) from pz18_11) (pz18_12) (pz18_13) (pz18_14) (pz18_15) (pz18_16) (pz18_17) (pz18_18) (pz18_19))
abbrev V20_vB : vV := [(0, 0, [(4, 0), (4, 0), (4, 0), (4, 0), (4, 0), (4, 0), (4, 0), (4, 0), (4, 0), (4, 0), (4, 0), (4, 0), (4, 0), (4, 0), (4, 0), (4, 0), (4, 0), (0, 0), (0, 0)]), (1, 4, []), (0, 7, [(4, 0), (0, 0), (1, 0), (0, 0), (0, 0)]), (1, 0, []), (0, 7, [(4, 0), (0, 0), (1, 0), (0, 0), (0, 0)]), (1, 0, []), (0, 7, [(4, 0), (0, 0), (1, 0), (0, 0), (0, 0)]), (1, 0, []), (0, 7, [(4, 0), (0, 0), (1, 0), (0, 0), (0, 0)]), (1, 0, []), (0, 7, [(4, 0), (0, 0), (1, 0), (0, 0), (0, 0)]), (1, 0, [])]
theorem oz_T9rcls_34 : vsub V20_vB V31 [0, 1, 2, 3, 4, 5, 6, 7, 8, 9, 10, 11] = true := by decide +kernel
theorem oz_T9rcls_35 : vmov V20_vB [0, 1, 2, 3, 4, 5, 6, 7, 8, 9, 10, 11] [3, 5, 7, 9] = true := by decide +kernel

theorem C20_vB {σE : rS} {D N : Nat → Nat} {F : hF} {A : hA} {d c s : Nat} {Q : wQ} (H : HW V20_vB σE D N F A) {y1 y2 : Int} (pf1 : HID (F 0 0 = (D 1 : Int))) (pf2 : HID (A 1 0 = (D 2 : Int))) (pf3 : HID (F 2 0 = (D 3 : Int))) (pf4 : HID (A 1 1 = (D 4 : Int))) (pf5 : HID (F 4 0 = (D 5 : Int))) (pf6 : HID (A 1 2 = (D 6 : Int))) (pf7 : HID (F 6 0 = (D 7 : Int))) (pf8 : HID (A 1 3 = (D 8 : Int))) (pf9 : HID (F 8 0 = (D 9 : Int))) (pf10 : HID (F 0 6 = (D 10 : Int))) (pf11 : HID (F 10 0 = (D 11 : Int))) (n1 : Int) (en1 : HID ((N 1 : Int) = n1)) (n3 : Int) (en3 : HID ((N 3 : Int) = n3)) (n5 : Int) (en5 : HID ((N 5 : Int) = n5)) (n7 : Int) (en7 : HID ((N 7 : Int) = n7)) (n9 : Int) (en9 : HID ((N 9 : Int) = n9)) (n11 : Int) (en11 : HID ((N 11 : Int) = n11)) (u0_17 : Int) (eu0_17 : HID (F 0 17 = u0_17)) (u0_18 : Int) (eu0_18 : HID (F 0 18 = u0_18)) (u2_1 : Int) (eu2_1 : HID (F 2 1 = u2_1)) (u2_2 : Int) (eu2_2 : HID (F 2 2 = u2_2)) (u4_1 : Int) (eu4_1 : HID (F 4 1 = u4_1)) (u4_2 : Int) (eu4_2 : HID (F 4 2 = u4_2)) (u6_1 : Int) (eu6_1 : HID (F 6 1 = u6_1)) (u6_2 : Int) (eu6_2 : HID (F 6 2 = u6_2)) (u8_1 : Int) (eu8_1 : HID (F 8 1 = u8_1)) (u8_2 : Int) (eu8_2 : HID (F 8 2 = u8_2)) (u10_1 : Int) (eu10_1 : HID (F 10 1 = u10_1)) (w3 : Int → Int) (ew3 : A 3 = w3) (w5 : Int → Int) (ew5 : A 5 = w5) (w7 : Int → Int) (ew7 : A 7 = w7) (w9 : Int → Int) (ew9 : A 9 = w9) (w11 : Int → Int) (ew11 : A 11 = w11) {ls : rO}  (h0 : inr y1) (h1 : inr y2) (h2 : (n1) = 4) (h3 : 0 ≤ (u2_1) ∧ (u2_1) ≤ (n3) ∧ (n3) ≤ 65536) (h4 : 0 ≤ (u4_1) ∧ (u4_1) ≤ (n5) ∧ (n5) ≤ 65536) (h5 : 0 ≤ (u6_1) ∧ (u6_1) ≤ (n7) ∧ (n7) ≤ 65536) (h6 : 0 ≤ (u8_1) ∧ (u8_1) ≤ (n9) ∧ (n9) ≤ 65536) (h7 : (u2_2) = 0) (h8 : (u4_2) = 0) (h9 : (u6_2) = 0) (h10 : (u8_2) = 0) (h11 : 0 ≤ (u10_1) ∧ (u10_1) ≤ (n11) ∧ (n11) ≤ 65536) (h12 : 0 ≤ y1 ∧ y1 ≤ 3) (k : ∀ (z : Int) (σ : rS) (Dₚ Nₚ : Nat → Nat) (Fₚ : hF) (Aₚ : hA) (cₚ sₚ : Nat), HW V20_vB σ Dₚ Nₚ Fₚ Aₚ → OUT (V20_vB).length D N σE c s Dₚ Nₚ σ cₚ sₚ → SD [3, 5, 7, 9] D Dₚ → SD [3, 5, 7, 9] N Nₚ → SF [(0, 18), (2, 0), (2, 1), (2, 2), (2, 3), (2, 4), (4, 0), (4, 1), (4, 2), (4, 3), (4, 4), (6, 0), (6, 1), (6, 2), (6, 3), (6, 4), (8, 0), (8, 1), (8, 2), (8, 3), (8, 4)] F Fₚ → SA [3, 5, 7, 9] A Aₚ → Fₚ 2 0 = (Dₚ 3 : Int) → Fₚ 4 0 = (Dₚ 5 : Int) → Fₚ 6 0 = (Dₚ 7 : Int) → Fₚ 8 0 = (Dₚ 9 : Int) → ∀ m3 : Int, (Nₚ 3 : Int) = m3 → ∀ m5 : Int, (Nₚ 5 : Int) = m5 → ∀ m7 : Int, (Nₚ 7 : Int) = m7 → ∀ m9 : Int, (Nₚ 9 : Int) = m9 → ∀ y0_18 : Int, Fₚ 0 18 = y0_18 → ∀ y2_1 : Int, Fₚ 2 1 = y2_1 → ∀ y2_2 : Int, Fₚ 2 2 = y2_2 → ∀ y4_1 : Int, Fₚ 4 1 = y4_1 → ∀ y4_2 : Int, Fₚ 4 2 = y4_2 → ∀ y6_1 : Int, Fₚ 6 1 = y6_1 → ∀ y6_2 : Int, Fₚ 6 2 = y6_2 → ∀ y8_1 : Int, Fₚ 8 1 = y8_1 → ∀ y8_2 : Int, Fₚ 8 2 = y8_2 → ∀ v3 : Int → Int, Aₚ 3 = v3 → ∀ v5 : Int → Int, Aₚ 5 = v5 → ∀ v7 : Int → Int, Aₚ 7 = v7 → ∀ v9 : Int → Int, Aₚ 9 = v9 → (inr (z)) → (0 ≤ (y2_1) ∧ (y2_1) ≤ (m3) ∧ (m3) ≤ 65536) → (0 ≤ (y4_1) ∧ (y4_1) ≤ (m5) ∧ (m5) ≤ 65536) → (0 ≤ (y6_1) ∧ (y6_1) ≤ (m7) ∧ (m7) ≤ 65536) → (0 ≤ (y8_1) ∧ (y8_1) ≤ (m9) ∧ (m9) ≤ 65536) → (0 ≤ (u10_1) ∧ (u10_1) ≤ (n11) ∧ (n11) ≤ 65536) → ((y2_2) = 0) → ((y4_2) = 0) → ((y6_2) = 0) → ((y8_2) = 0) → ((z) = y2) → ((y0_18) = (u0_17)) → (IMP (y1 = 0 ∧ 0 ≤ y2) (sc ((v3)) 0 ((y2_1)) = sc ((w11)) 0 ((u10_1)))) → (IMP (y1 = 1 ∧ 0 ≤ y2) (sc ((v5)) 0 ((y4_1)) = sc ((w11)) 0 ((u10_1)))) → (IMP (y1 = 2 ∧ 0 ≤ y2) (sc ((v7)) 0 ((y6_1)) = sc ((w11)) 0 ((u10_1)))) → (IMP (y1 = 3 ∧ 0 ≤ y2) (sc ((v9)) 0 ((y8_1)) = sc ((w11)) 0 ((u10_1)))) → (IMP (y1 ≠ 0 ∨ y2 < 0) (sc ((v3)) 0 ((y2_1)) = sc ((w3)) 0 ((u2_1)))) → (IMP (y1 ≠ 1 ∨ y2 < 0) (sc ((v5)) 0 ((y4_1)) = sc ((w5)) 0 ((u4_1)))) → (IMP (y1 ≠ 2 ∨ y2 < 0) (sc ((v7)) 0 ((y6_1)) = sc ((w7)) 0 ((u6_1)))) → (IMP (y1 ≠ 3 ∨ y2 < 0) (sc ((v9)) 0 ((y8_1)) = sc ((w9)) 0 ((u8_1)))) → Q (some (I z)) σ cₚ sₚ) : Ew 20 (d + 5) 71 ls [I (y2), I (y1), .ref (D 0)] σE c s Q := by
  have O := OUT_refl (n := (V20_vB).length) (D := D) (N := N) (σ := σE) (c := c) (s := s)
  have HE := H
  refine v_inv H (o := 0) rfl rfl rfl rfl rfl rfl (by rfl) (C31p (D := puc 6984479500156472304109347144192 D) (N := puc 6984479500156472304109347144192 N) (HW_subc H oz_T9rcls_34 oz_T9rcls_32) (pf1) (pf2) (pf3) (pf4) (pf5) (pf6) (pf7) (pf8) (pf9) (pf10) (pf11) (n1) (en1) (n3) (en3) (n5) (en5) (n7) (en7) (n9) (en9) (n11) (en11) (u0_17) ((eu0_17)) (u0_18) ((eu0_18)) (u2_1) ((eu2_1)) (u2_2) ((eu2_2)) (u4_1) ((eu4_1)) (u4_2) ((eu4_2)) (u6_1) ((eu6_1)) (u6_2) ((eu6_2)) (u8_1) ((eu8_1)) (u8_2) ((eu8_2)) (u10_1) ((eu10_1)) (w3) (ew3) (w5) (ew5) (w7) (ew7) (w9) (ew9) (w11) (ew11) (show inr (y1) from h0) (show inr (y2) from h1) (show (n1) = 4 from h2) (show 0 ≤ (u2_1) ∧ (u2_1) ≤ (n3) ∧ (n3) ≤ 65536 from h3) (show 0 ≤ (u4_1) ∧ (u4_1) ≤ (n5) ∧ (n5) ≤ 65536 from h4) (show 0 ≤ (u6_1) ∧ (u6_1) ≤ (n7) ∧ (n7) ≤ 65536 from h5) (show 0 ≤ (u8_1) ∧ (u8_1) ≤ (n9) ∧ (n9) ≤ 65536 from h6) (show 0 ≤ (u10_1) ∧ (u10_1) ≤ (n11) ∧ (n11) ≤ 65536 from h11) (show 0 ≤ (y1) ∧ (y1) ≤ 3 from h12) (show (u2_2) = 0 from h7) (show (u4_2) = 0 from h8) (show (u6_2) = 0 from h9) (show (u8_2) = 0 from h10) (fun z18 σ18 D18ₚ N18ₚ F18ₚ A18ₚ c18 s18 Hₚ Oₚ hD18 hN18 hS18 hA18 (pm18_3 : HID _) (pm18_5 : HID _) (pm18_7 : HID _) (pm18_9 : HID _) m18_3 (em18_3 : HID _) m18_5 (em18_5 : HID _) m18_7 (em18_7 : HID _) m18_9 (em18_9 : HID _) y18_0_18 (ey18_0_18 : HID _) y18_2_1 (ey18_2_1 : HID _) y18_2_2 (ey18_2_2 : HID _) y18_4_1 (ey18_4_1 : HID _) y18_4_2 (ey18_4_2 : HID _) y18_6_1 (ey18_6_1 : HID _) y18_6_2 (ey18_6_2 : HID _) y18_8_1 (ey18_8_1 : HID _) y18_8_2 (ey18_8_2 : HID _) w18_3 ew18_3 w18_5 ew18_5 w18_7 ew18_7 w18_9 ew18_9 pz18_0 pz18_1 pz18_2 pz18_3 pz18_4 pz18_5 pz18_6 pz18_7 pz18_8 pz18_9 pz18_10 pz18_11 pz18_12 pz18_13 pz18_14 pz18_15 pz18_16 pz18_17 pz18_18 pz18_19 => ⟨rfl, ?_⟩))
  refine v_backMc (c := c) (s := s) H oz_T9rcls_34 oz_T9rcls_32 Hₚ Oₚ hD18 oz_T9rcls_35 (fun D18 N18 F18 A18 H Oₚ eD18 eN18 eF18 eA18 => ?_)
  have O := OUT_trans O Oₚ
  -- PackHouse.settle
  have cF18 : SF oz_T9rclsl_6 F F18 := SF_trans (SF_refl) (SF_gluc (ι := oz_T9rclsl_8) oz_T9rcls_32 hS18 eF18 (by decide +kernel)) (any_sub (lₚ := [(0, 18), (2, 0), (2, 1), (2, 2), (2, 3), (2, 4), (4, 0), (4, 1), (4, 2), (4, 3), (4, 4), (6, 0), (6, 1), (6, 2), (6, 3), (6, 4), (8, 0), (8, 1), (8, 2), (8, 3), (8, 4)]) (by decide +kernel))
  have mF18 := SFm_of cF18 oz_T9rcls_30
  have cA18 : SA oz_T9rclsl_7 A A18 := SA_trans (SA_refl) (SA_gluc (ι := oz_T9rclsl_8) oz_T9rcls_32 hA18 eA18 (by decide +kernel)) (any_subA (lₚ := [3, 5, 7, 9]) (by decide +kernel))
  have mA18 := SAm_of cA18 oz_T9rcls_31
  have cD18 : SD oz_T9rclsl_7 D D18 := SD_trans (SD_refl) (SD_gluc (ι := oz_T9rclsl_8) oz_T9rcls_32 hD18 eD18 (by decide +kernel)) (any_subA (lₚ := [3, 5, 7, 9]) (by decide +kernel))
  have mD18 := SDm_of cD18 oz_T9rcls_31
  have cN18 : SD oz_T9rclsl_7 N N18 := SD_trans (SD_refl) (SD_gluc (ι := oz_T9rclsl_8) oz_T9rcls_32 hN18 eN18 (by decide +kernel)) (any_subA (lₚ := [3, 5, 7, 9]) (by decide +kernel))
  have mN18 := SDm_of cN18 oz_T9rcls_31
  have pf18_2_0 : HID (F18 2 0 = (D18 3 : Int)) := (eF18 2 0).trans (pm18_3.trans (congrArg (fun q : Nat => (q : Int)) (eD18 3).symm))
  have pf18_4_0 : HID (F18 4 0 = (D18 5 : Int)) := (eF18 4 0).trans (pm18_5.trans (congrArg (fun q : Nat => (q : Int)) (eD18 5).symm))
  have pf18_6_0 : HID (F18 6 0 = (D18 7 : Int)) := (eF18 6 0).trans (pm18_7.trans (congrArg (fun q : Nat => (q : Int)) (eD18 7).symm))
  have pf18_8_0 : HID (F18 8 0 = (D18 9 : Int)) := (eF18 8 0).trans (pm18_9.trans (congrArg (fun q : Nat => (q : Int)) (eD18 9).symm))
  exact w_ireturn rfl (k (z18) _ _ _ _ _ _ _ H O (cD18) (cN18) (cF18) (cA18) (pf18_2_0) (pf18_4_0) (pf18_6_0) (pf18_8_0) (m18_3) ((congrArg (fun q : Nat => (q : Int)) (eN18 3)).trans em18_3) (m18_5) ((congrArg (fun q : Nat => (q : Int)) (eN18 5)).trans em18_5) (m18_7) ((congrArg (fun q : Nat => (q : Int)) (eN18 7)).trans em18_7) (m18_9) ((congrArg (fun q : Nat => (q : Int)) (eN18 9)).trans em18_9) (y18_0_18) (((eF18 0 18).trans ey18_0_18)) (y18_2_1) (((eF18 2 1).trans ey18_2_1)) (y18_2_2) (((eF18 2 2).trans ey18_2_2)) (y18_4_1) (((eF18 4 1).trans ey18_4_1)) (y18_4_2) (((eF18 4 2).trans ey18_4_2)) (y18_6_1) (((eF18 6 1).trans ey18_6_1)) (y18_6_2) (((eF18 6 2).trans ey18_6_2)) (y18_8_1) (((eF18 8 1).trans ey18_8_1)) (y18_8_2) (((eF18 8 2).trans ey18_8_2)) (w18_3) ((eA18 3).trans ew18_3) (w18_5) ((eA18 5).trans ew18_5) (w18_7) ((eA18 7).trans ew18_7) (w18_9) ((eA18 9).trans ew18_9) (show inr (z18) from pz18_0) (show 0 ≤ (y18_2_1) ∧ (y18_2_1) ≤ (m18_3) ∧ (m18_3) ≤ 65536 from pz18_1) (show 0 ≤ (y18_4_1) ∧ (y18_4_1) ≤ (m18_5) ∧ (m18_5) ≤ 65536 from pz18_2) (show 0 ≤ (y18_6_1) ∧ (y18_6_1) ≤ (m18_7) ∧ (m18_7) ≤ 65536 from pz18_3) (show 0 ≤ (y18_8_1) ∧ (y18_8_1) ≤ (m18_9) ∧ (m18_9) ≤ 65536 from pz18_4) (show 0 ≤ (u10_1) ∧ (u10_1) ≤ (n11) ∧ (n11) ≤ 65536 from pz18_5) (show (y18_2_2) = 0 from pz18_6) (show (y18_4_2) = 0 from pz18_7) (show (y18_6_2) = 0 from pz18_8) (show (y18_8_2) = 0 from pz18_9) (show (z18) = y2 from pz18_10) (show (y18_0_18) = (u0_17) from pz18_11) (pz18_12) (pz18_13) (pz18_14) (pz18_15) (pz18_16) (pz18_17) (pz18_18) (pz18_19))
abbrev V18_vX : vV := [(0, 0, [(4, 0), (4, 0), (4, 0), (4, 0), (4, 0), (4, 0), (4, 0), (4, 0), (4, 0), (4, 0), (4, 0), (4, 0), (4, 0), (4, 0), (4, 0), (4, 0), (4, 0), (0, 0), (0, 0)])]
theorem oz_T9rcls_37 : vsub V18_vX V24 [] = true := by decide +kernel

theorem C18_vX {σE : rS} {D N : Nat → Nat} {F : hF} {A : hA} {d c s : Nat} {Q : wQ} (H : HW V18_vX σE D N F A) {a1 a2 a3 a4 : Int} (h0 : inr (a1)) (h1 : inr (a2)) (h2 : inr (a3)) (h3 : inr (a4)) (h4 : (a2) < 0 ∨ 4 ≤ (a2)) (k : ∀ (z : Int) (σ : rS) (Fₚ : hF) (Aₚ : hA), HW V18_vX σ D N Fₚ Aₚ → OUT (V18_vX).length D N σE c s D N σ c s → SF [] F Fₚ → SA [] A Aₚ → (inr (z)) → ((z) = -50) → Q (some (I z)) σ c s) : Ew 18 (d + 1) 0 (rargs 0 [.ref (D 0), I a1, I a2, I a3, I a4]) [] σE c s Q := by
  have O := OUT_refl (n := (V18_vX).length) (D := D) (N := N) (σ := σE) (c := c) (s := s)
  have HE := H
  refine Ew_of (pcₚ := 1) (fun _ => x_iload_n rfl rfl) ?_
  refine w_stat24 rfl rfl (by rfl) (C24x (D := puc 0 D) (N := puc 0 N) (HW_subc H oz_T9rcls_37 oz_T9rcls_4) (show inr (a1) from h0) (fun z1 σ1 F1ₚ A1ₚ Hₚ Oₚ hS1 hA1 pz1_0 pz1_1 => ⟨rretB rfl pz1_0, ?_⟩))
  refine v_backc (c := c) (s := s) H oz_T9rcls_37 oz_T9rcls_4 Hₚ Oₚ (fun F1 A1 H Oₚ eF1 eA1 => ?_)
  have O := OUT_trans O Oₚ
  -- PackHouse.isRow
  have cF1 : SF oz_T9rclsl_0 F F1 := SF_trans (SF_refl) (SF_gluc (ι := oz_T9rclsl_1) oz_T9rcls_4 hS1 eF1 (by decide +kernel)) (any_sub (lₚ := []) (by decide +kernel))
  have mF1 := SFm_of cF1 oz_T9rcls_2
  have cA1 : SA oz_T9rclsl_1 A A1 := SA_trans (SA_refl) (SA_gluc (ι := oz_T9rclsl_1) oz_T9rcls_4 hA1 eA1 (by decide +kernel)) (any_subA (lₚ := []) (by decide +kernel))
  have mA1 := SAm_of cA1 oz_T9rcls_3
  refine w_ifeq (t := 35) rfl rfl (show inr (z1) from q_138 pz1_0) (fun b2 => ?_) (fun b2 => ?_)
  · refine Ew_of (pcₚ := 37) (fun _ => x_bipush (z := -50) rfl (by decide)) ?_
    exact w_ireturn rfl (k ((-50)) _ _ _ H O (cF1) (cA1) (show inr ((-50)) from q_2311) (show ((-50)) = -50 by first | exact q_5065 | omega))
  · refine Ew_of (pcₚ := 8) (fun _ => x_iload_n rfl rfl) ?_
    refine w_stat24 rfl rfl (by rfl) (C24x (D := puc 0 D) (N := puc 0 N) (HW_subc H oz_T9rcls_37 oz_T9rcls_4) (show inr (a2) from h1) (fun z3 σ3 F3ₚ A3ₚ Hₚ Oₚ hS3 hA3 pz3_0 pz3_1 => ⟨rretB rfl pz3_0, ?_⟩))
    refine v_backc (c := c) (s := s) H oz_T9rcls_37 oz_T9rcls_4 Hₚ Oₚ (fun F3 A3 H Oₚ eF3 eA3 => ?_)
    have O := OUT_trans O Oₚ
    -- PackHouse.isRow
    have cF3 : SF oz_T9rclsl_0 F F3 := SF_trans (cF1) (SF_gluc (ι := oz_T9rclsl_1) oz_T9rcls_4 hS3 eF3 (by decide +kernel)) (any_sub (lₚ := []) (by decide +kernel))
    have mF3 := SFm_of cF3 oz_T9rcls_2
    have cA3 : SA oz_T9rclsl_1 A A3 := SA_trans (cA1) (SA_gluc (ι := oz_T9rclsl_1) oz_T9rcls_4 hA3 eA3 (by decide +kernel)) (any_subA (lₚ := []) (by decide +kernel))
    have mA3 := SAm_of cA3 oz_T9rcls_3
    refine w_ifeq (t := 35) rfl rfl (show inr (z3) from q_138 pz3_0) (fun b4 => ?_) (fun b4 => ?_)
    · refine Ew_of (pcₚ := 37) (fun _ => x_bipush (z := -50) rfl (by decide)) ?_
      exact w_ireturn rfl (k ((-50)) _ _ _ H O (cF3) (cA3) (show inr ((-50)) from q_2311) (show ((-50)) = -50 by first | exact q_5065 | omega))
    · exfalso
      omega
abbrev V20_vX : vV := [(0, 0, [(4, 0), (4, 0), (4, 0), (4, 0), (4, 0), (4, 0), (4, 0), (4, 0), (4, 0), (4, 0), (4, 0), (4, 0), (4, 0), (4, 0), (4, 0), (4, 0), (4, 0), (0, 0), (0, 0)])]
theorem oz_T9rcls_39 : vsub V20_vX V24 [] = true := by decide +kernel

theorem C20_vX {σE : rS} {D N : Nat → Nat} {F : hF} {A : hA} {d c s : Nat} {Q : wQ} (H : HW V20_vX σE D N F A) {a1 a2 a3 : Int} (h0 : inr (a1)) (h1 : inr (a2)) (h2 : inr (a3)) (h3 : (a2) < 0 ∨ 4 ≤ (a2)) (k : ∀ (z : Int) (σ : rS) (Fₚ : hF) (Aₚ : hA), HW V20_vX σ D N Fₚ Aₚ → OUT (V20_vX).length D N σE c s D N σ c s → SF [] F Fₚ → SA [] A Aₚ → (inr (z)) → ((z) = -50) → Q (some (I z)) σ c s) : Ew 20 (d + 1) 0 (rargs 0 [.ref (D 0), I a1, I a2, I a3]) [] σE c s Q := by
  have O := OUT_refl (n := (V20_vX).length) (D := D) (N := N) (σ := σE) (c := c) (s := s)
  have HE := H
  refine Ew_of (pcₚ := 1) (fun _ => x_iload_n rfl rfl) ?_
  refine w_stat24 rfl rfl (by rfl) (C24x (D := puc 0 D) (N := puc 0 N) (HW_subc H oz_T9rcls_39 oz_T9rcls_4) (show inr (a1) from h0) (fun z1 σ1 F1ₚ A1ₚ Hₚ Oₚ hS1 hA1 pz1_0 pz1_1 => ⟨rretB rfl pz1_0, ?_⟩))
  refine v_backc (c := c) (s := s) H oz_T9rcls_39 oz_T9rcls_4 Hₚ Oₚ (fun F1 A1 H Oₚ eF1 eA1 => ?_)
  have O := OUT_trans O Oₚ
  -- PackHouse.isRow
  have cF1 : SF oz_T9rclsl_0 F F1 := SF_trans (SF_refl) (SF_gluc (ι := oz_T9rclsl_1) oz_T9rcls_4 hS1 eF1 (by decide +kernel)) (any_sub (lₚ := []) (by decide +kernel))
  have mF1 := SFm_of cF1 oz_T9rcls_2
  have cA1 : SA oz_T9rclsl_1 A A1 := SA_trans (SA_refl) (SA_gluc (ι := oz_T9rclsl_1) oz_T9rcls_4 hA1 eA1 (by decide +kernel)) (any_subA (lₚ := []) (by decide +kernel))
  have mA1 := SAm_of cA1 oz_T9rcls_3
  refine w_ifeq (t := 24) rfl rfl (show inr (z1) from q_138 pz1_0) (fun b2 => ?_) (fun b2 => ?_)
  · refine Ew_of (pcₚ := 26) (fun _ => x_bipush (z := -50) rfl (by decide)) ?_
    exact w_ireturn rfl (k ((-50)) _ _ _ H O (cF1) (cA1) (show inr ((-50)) from q_2311) (show ((-50)) = -50 by first | exact q_5065 | omega))
  · refine Ew_of (pcₚ := 8) (fun _ => x_iload_n rfl rfl) ?_
    refine w_stat24 rfl rfl (by rfl) (C24x (D := puc 0 D) (N := puc 0 N) (HW_subc H oz_T9rcls_39 oz_T9rcls_4) (show inr (a2) from h1) (fun z3 σ3 F3ₚ A3ₚ Hₚ Oₚ hS3 hA3 pz3_0 pz3_1 => ⟨rretB rfl pz3_0, ?_⟩))
    refine v_backc (c := c) (s := s) H oz_T9rcls_39 oz_T9rcls_4 Hₚ Oₚ (fun F3 A3 H Oₚ eF3 eA3 => ?_)
    have O := OUT_trans O Oₚ
    -- PackHouse.isRow
    have cF3 : SF oz_T9rclsl_0 F F3 := SF_trans (cF1) (SF_gluc (ι := oz_T9rclsl_1) oz_T9rcls_4 hS3 eF3 (by decide +kernel)) (any_sub (lₚ := []) (by decide +kernel))
    have mF3 := SFm_of cF3 oz_T9rcls_2
    have cA3 : SA oz_T9rclsl_1 A A3 := SA_trans (cA1) (SA_gluc (ι := oz_T9rclsl_1) oz_T9rcls_4 hA3 eA3 (by decide +kernel)) (any_subA (lₚ := []) (by decide +kernel))
    have mA3 := SAm_of cA3 oz_T9rcls_3
    refine w_ifeq (t := 24) rfl rfl (show inr (z3) from q_138 pz3_0) (fun b4 => ?_) (fun b4 => ?_)
    · refine Ew_of (pcₚ := 26) (fun _ => x_bipush (z := -50) rfl (by decide)) ?_
      exact w_ireturn rfl (k ((-50)) _ _ _ H O (cF3) (cA3) (show inr ((-50)) from q_2311) (show ((-50)) = -50 by first | exact q_5065 | omega))
    · exfalso
      omega

