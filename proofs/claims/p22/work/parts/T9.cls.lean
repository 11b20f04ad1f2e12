abbrev V18_c20_va : vV := [(0, 0, [(4, 0), (4, 0), (4, 0), (4, 0), (4, 0), (4, 0), (4, 0), (4, 0), (4, 0), (4, 0), (4, 0), (4, 0), (4, 0), (4, 0), (4, 0), (4, 0), (4, 0), (0, 0), (0, 0)]), (1, 4, []), (0, 7, [(4, 0), (0, 0), (1, 0), (0, 0), (0, 0)]), (1, 0, []), (0, 7, [(4, 0), (0, 0), (1, 0), (0, 0), (0, 0)]), (1, 0, []), (0, 7, [(4, 0), (0, 0), (1, 0), (0, 0), (0, 0)]), (1, 0, []), (0, 7, [(4, 0), (0, 0), (1, 0), (0, 0), (0, 0)]), (1, 0, []), (1, 1, [])]
theorem len_V18_c20_va_oz_T9cls : (V18_c20_va).length = 11 := by decide +kernel
theorem oz_T9cls_1 : vsub V18_c20_va V24 [] = true := by decide +kernel
def oz_T9clsl_0 : List (Nat × Nat) := []
theorem oz_T9cls_2 : (oz_T9clsl_0).all (fun p => !tbz 0 (Nat.add (Nat.mul 32 p.1) p.2)) = true := by decide +kernel
def oz_T9clsl_1 : List Nat := []
theorem oz_T9cls_3 : (oz_T9clsl_1).all (fun p => !tbz 0 p) = true := by decide +kernel
theorem oz_T9cls_4 : okc oz_T9clsl_1 0 = true := by decide +kernel
/-- PackHouse.read: this, this.rows, this.rows.0, this.rows.0.bytes, this.rows.1, this.rows.1.bytes, this.rows.2, this.rows.2.bytes, this.rows.3, this.rows.3.bytes, this.readCounts -/
theorem C18_c20_va {σE : rS} {D N : Nat → Nat} {F : hF} {A : hA} {d c s : Nat} {Q : wQ} (H : HW V18_c20_va σE D N F A) {a1 a3 a4 : Int} (pf1 : HID (F 0 0 = (D 1 : Int))) (pf2 : HID (A 1 0 = (D 2 : Int))) (pf3 : HID (F 2 0 = (D 3 : Int))) (pf4 : HID (A 1 1 = (D 4 : Int))) (pf5 : HID (F 4 0 = (D 5 : Int))) (pf6 : HID (A 1 2 = (D 6 : Int))) (pf7 : HID (F 6 0 = (D 7 : Int))) (pf8 : HID (A 1 3 = (D 8 : Int))) (pf9 : HID (F 8 0 = (D 9 : Int))) (pf10 : HID (F 0 14 = (D 10 : Int))) (n1 : Int) (en1 : HID ((N 1 : Int) = n1)) (n3 : Int) (en3 : HID ((N 3 : Int) = n3)) (n5 : Int) (en5 : HID ((N 5 : Int) = n5)) (n7 : Int) (en7 : HID ((N 7 : Int) = n7)) (n9 : Int) (en9 : HID ((N 9 : Int) = n9)) (n10 : Int) (en10 : HID ((N 10 : Int) = n10)) (u2_1 : Int) (eu2_1 : HID (F 2 1 = u2_1)) (u4_1 : Int) (eu4_1 : HID (F 4 1 = u4_1)) (u6_1 : Int) (eu6_1 : HID (F 6 1 = u6_1)) (u8_1 : Int) (eu8_1 : HID (F 8 1 = u8_1)) (h0 : inr (a1)) (h1 : inr (0)) (h2 : inr (a3)) (h3 : inr (a4)) (h4 : (n1) = 4) (h5 : 0 ≤ (u2_1) ∧ (u2_1) ≤ (n3) ∧ (n3) ≤ 65536) (h6 : 0 ≤ (u4_1) ∧ (u4_1) ≤ (n5) ∧ (n5) ≤ 65536) (h7 : 0 ≤ (u6_1) ∧ (u6_1) ≤ (n7) ∧ (n7) ≤ 65536) (h8 : 0 ≤ (u8_1) ∧ (u8_1) ≤ (n9) ∧ (n9) ≤ 65536) (hc54 : ∀ (tc54_1 : Int), ∀ (tc54_4 : Int), ∀ (tc54_5 : Int), ∀ (ls : rO) (σ : rS) (F_c54 : hF) (A_c54 : hA) , HW V18_c20_va σ D N F_c54 A_c54 → OUT (V18_c20_va).length D N σE c s D N σ c s → SF [] F F_c54 → SA [] A A_c54 → (inr (tc54_1)) → (inr (tc54_4)) → (inr (tc54_5)) → (0 ≤ (tc54_1) ∧ (tc54_1) ≤ 3) → (0 ≤ (tc54_4) ∧ (tc54_4) ≤ 4) → (0 ≤ (tc54_5) ∧ (tc54_5) ≤ 65536) → Ew 18 (d + 1) 54 ls [.ref (D 10), I (tc54_5), I (tc54_4), .ref (D 2), .ref (D 0), I (tc54_1), .ref (D 0)] σ c s Q) (k : ∀ (z : Int) (σ : rS) (Fₚ : hF) (Aₚ : hA), HW V18_c20_va σ D N Fₚ Aₚ → OUT (V18_c20_va).length D N σE c s D N σ c s → SF [] F Fₚ → SA [] A Aₚ → (inr (z)) → Q (some (I z)) σ c s) : Ew 18 (d + 1) 0 (rargs 0 [.ref (D 0), I a1, I 0, I a3, I a4]) [] σE c s Q := by
  have O := OUT_refl (n := (V18_c20_va).length) (D := D) (N := N) (σ := σE) (c := c) (s := s)
  have HE := H
  have r5 : HID ((0 : Int) ≤ n1 ∧ n1 ≤ 1000000) := nrng (H.nle 1 (ltn len_V18_c20_va_oz_T9cls rfl)) (show (N 1 : Int) = n1 from en1)
  refine Ew_of (pcₚ := 1) (fun _ => x_iload_n rfl rfl) ?_
  refine w_stat24 rfl rfl (by rfl) (C24 (D := puc 0 D) (N := puc 0 N) (HW_subc H oz_T9cls_1 oz_T9cls_4) (show inr (a1) from h0) (fun z10 σ10 F10ₚ A10ₚ Hₚ Oₚ hS10 hA10 pz10_0 pz10_1 => ⟨rretB rfl pz10_0, ?_⟩))
  refine v_backc (c := c) (s := s) H oz_T9cls_1 oz_T9cls_4 Hₚ Oₚ (fun F10 A10 H Oₚ eF10 eA10 => ?_)
  have O := OUT_trans O Oₚ
  -- PackHouse.isRow
  have cF10 : SF oz_T9clsl_0 F F10 := SF_trans (SF_refl) (SF_gluc (ι := oz_T9clsl_1) oz_T9cls_4 hS10 eF10 (by decide +kernel)) (any_sub (lₚ := []) (by decide +kernel))
  have mF10 := SFm_of cF10 oz_T9cls_2
  have cA10 : SA oz_T9clsl_1 A A10 := SA_trans (SA_refl) (SA_gluc (ι := oz_T9clsl_1) oz_T9cls_4 hA10 eA10 (by decide +kernel)) (any_subA (lₚ := []) (by decide +kernel))
  have mA10 := SAm_of cA10 oz_T9cls_3
  refine w_ifeq (t := 35) rfl rfl (show inr (z10) from q_15 pz10_0) (fun b11 => ?_) (fun b11 => ?_)
  · refine Ew_of (pcₚ := 37) (fun _ => x_bipush (z := -50) rfl (by decide)) ?_
    exact w_ireturn rfl (k ((-50)) _ _ _ H O (cF10) (cA10) (show inr ((-50)) from q_2016))
  · refine Ew_of (pcₚ := 8) (fun _ => x_iload_n rfl rfl) ?_
    refine w_stat24 rfl rfl (by rfl) (C24 (D := puc 0 D) (N := puc 0 N) (HW_subc H oz_T9cls_1 oz_T9cls_4) (show inr (0) from h1) (fun z12 σ12 F12ₚ A12ₚ Hₚ Oₚ hS12 hA12 pz12_0 pz12_1 => ⟨rretB rfl pz12_0, ?_⟩))
    refine v_backc (c := c) (s := s) H oz_T9cls_1 oz_T9cls_4 Hₚ Oₚ (fun F12 A12 H Oₚ eF12 eA12 => ?_)
    have O := OUT_trans O Oₚ
    -- PackHouse.isRow
    have cF12 : SF oz_T9clsl_0 F F12 := SF_trans (cF10) (SF_gluc (ι := oz_T9clsl_1) oz_T9cls_4 hS12 eF12 (by decide +kernel)) (any_sub (lₚ := []) (by decide +kernel))
    have mF12 := SFm_of cF12 oz_T9cls_2
    have cA12 : SA oz_T9clsl_1 A A12 := SA_trans (cA10) (SA_gluc (ι := oz_T9clsl_1) oz_T9cls_4 hA12 eA12 (by decide +kernel)) (any_subA (lₚ := []) (by decide +kernel))
    have mA12 := SAm_of cA12 oz_T9cls_3
    refine w_ifeq (t := 35) rfl rfl (show inr (z12) from q_15 pz12_0) (fun b13 => ?_) (fun b13 => ?_)
    · refine Ew_of (pcₚ := 37) (fun _ => x_bipush (z := -50) rfl (by decide)) ?_
      exact w_ireturn rfl (k ((-50)) _ _ _ H O (cF12) (cA12) (show inr ((-50)) from q_2016))
    · refine Ew_of (pcₚ := 15) (fun _ => x_iload_n rfl rfl) ?_
      refine w_iflt (t := 35) rfl rfl (show inr (a3) from h2) (fun b14 => ?_) (fun b14 => ?_)
      · refine Ew_of (pcₚ := 37) (fun _ => x_bipush (z := -50) rfl (by decide)) ?_
        exact w_ireturn rfl (k ((-50)) _ _ _ H O (cF12) (cA12) (show inr ((-50)) from q_2016))
      · refine Ew_of (pcₚ := 19) (fun _ => x_iload_n rfl rfl) ?_
        refine Ew_of (pcₚ := 20) (fun _ => x_iconst rfl) ?_
        refine w_icmpgt (t := 35) rfl rfl (show inr (a3) from h2) (show inr (4) from q_2) (fun b15 => ?_) (fun b15 => ?_)
        · refine Ew_of (pcₚ := 37) (fun _ => x_bipush (z := -50) rfl (by decide)) ?_
          exact w_ireturn rfl (k ((-50)) _ _ _ H O (cF12) (cA12) (show inr ((-50)) from q_2016))
        · refine Ew_of (pcₚ := 25) (fun _ => x_iload rfl rfl) ?_
          refine w_iflt (t := 35) rfl rfl (show inr (a4) from h3) (fun b16 => ?_) (fun b16 => ?_)
          · refine Ew_of (pcₚ := 37) (fun _ => x_bipush (z := -50) rfl (by decide)) ?_
            exact w_ireturn rfl (k ((-50)) _ _ _ H O (cF12) (cA12) (show inr ((-50)) from q_2016))
          · refine Ew_of (pcₚ := 30) (fun _ => x_iload rfl rfl) ?_
            refine Ew_of (pcₚ := 32) (fun _ => x_ldc (z := 65536) rfl (by decide)) ?_
            refine w_icmple (t := 38) rfl rfl (show inr (a4) from h3) (show inr (65536) from q_35) (fun b17 => ?_) (fun b17 => ?_)
            · refine Ew_of (pcₚ := 39) (fun _ => x_aload_n rfl rfl) ?_
              refine Ew_of (pcₚ := 40) (fun _ => x_iload_n rfl rfl) ?_
              refine Ew_of (pcₚ := 41) (fun _ => x_aload_n rfl rfl) ?_
              refine Ew_of (pcₚ := 42) (fun _ => x_aload_n rfl rfl) ?_
              refine v_g H (o := 0) (v := .ref (D 1)) rfl rfl rfl rfl rfl (vrf ((mF12 0 0 rfl).trans (pf1))) ?_
              refine Ew_of (pcₚ := 46) (fun _ => x_iload_n rfl rfl) ?_
              refine v_lR H (o := 1) rfl rfl rfl rfl rfl (n := n1) (en1) (show 0 ≤ 0 ∧ 0 < n1 from q_4309 (HIDe r5) h4) (z := ((D 2 : Nat) : Int)) (v := .ref (D 2)) ((mA12 1 rfl 0).trans (pf2)) (vrf rfl) ?_
              refine Ew_of (pcₚ := 48) (fun _ => x_iload_n rfl rfl) ?_
              refine Ew_of (pcₚ := 50) (fun _ => x_iload rfl rfl) ?_
              refine Ew_of (pcₚ := 51) (fun _ => x_aload_n rfl rfl) ?_
              refine v_g H (o := 0) (v := .ref (D 10)) rfl rfl rfl rfl rfl (vrf ((mF12 0 14 rfl).trans (pf10))) ?_
              exact hc54 (a1) (a3) (a4) _ _ _ _   H O (SF_trans (SF_trans (SF_refl) (SF_gluc (ι := oz_T9clsl_1) oz_T9cls_4 hS10 eF10 (by decide +kernel)) (any_sub (lₚ := []) (by decide +kernel))) (SF_gluc (ι := oz_T9clsl_1) oz_T9cls_4 hS12 eF12 (by decide +kernel)) (any_sub (lₚ := []) (by decide +kernel))) (SA_trans (SA_trans (SA_refl) (SA_gluc (ι := oz_T9clsl_1) oz_T9cls_4 hA10 eA10 (by decide +kernel)) (any_subA (lₚ := []) (by decide +kernel))) (SA_gluc (ι := oz_T9clsl_1) oz_T9cls_4 hA12 eA12 (by decide +kernel)) (any_subA (lₚ := []) (by decide +kernel)))     (show inr (a1) from h0) (show inr (a3) from h2) (show inr (a4) from h3) (show 0 ≤ (a1) ∧ (a1) ≤ 3 by omega) (show 0 ≤ (a3) ∧ (a3) ≤ 4 from q_4338 b14 b15) (show 0 ≤ (a4) ∧ (a4) ≤ 65536 from q_4337 b16 b17)
            · refine Ew_of (pcₚ := 37) (fun _ => x_bipush (z := -50) rfl (by decide)) ?_
              exact w_ireturn rfl (k ((-50)) _ _ _ H O (cF12) (cA12) (show inr ((-50)) from q_2016))
abbrev V20_c20_va : vV := [(0, 0, [(4, 0), (4, 0), (4, 0), (4, 0), (4, 0), (4, 0), (4, 0), (4, 0), (4, 0), (4, 0), (4, 0), (4, 0), (4, 0), (4, 0), (4, 0), (4, 0), (4, 0), (0, 0), (0, 0)]), (1, 4, []), (0, 7, [(4, 0), (0, 0), (1, 0), (0, 0), (0, 0)]), (1, 0, []), (0, 7, [(4, 0), (0, 0), (1, 0), (0, 0), (0, 0)]), (1, 0, []), (0, 7, [(4, 0), (0, 0), (1, 0), (0, 0), (0, 0)]), (1, 0, []), (0, 7, [(4, 0), (0, 0), (1, 0), (0, 0), (0, 0)]), (1, 0, []), (1, 1, [])]
theorem len_V20_c20_va_oz_T9cls : (V20_c20_va).length = 11 := by decide +kernel
theorem oz_T9cls_6 : vsub V20_c20_va V24 [] = true := by decide +kernel
theorem oz_T9cls_7 : vsub V20_c20_va V33_Row [2, 3] = true := by decide +kernel
def oz_T9clsl_2 : List Nat := [2, 3]
theorem oz_T9cls_8 : okc oz_T9clsl_2 1538 = true := by decide +kernel
/-- PackHouse.open: this, this.rows, this.rows.0, this.rows.0.bytes, this.rows.1, this.rows.1.bytes, this.rows.2, this.rows.2.bytes, this.rows.3, this.rows.3.bytes, this.readCounts -/
theorem C20_c20_va {σE : rS} {D N : Nat → Nat} {F : hF} {A : hA} {d c s : Nat} {Q : wQ} (H : HW V20_c20_va σE D N F A) (HT : STC σE) {a1 a3 : Int} (pf1 : HID (F 0 0 = (D 1 : Int))) (pf2 : HID (A 1 0 = (D 2 : Int))) (pf3 : HID (F 2 0 = (D 3 : Int))) (pf4 : HID (A 1 1 = (D 4 : Int))) (pf5 : HID (F 4 0 = (D 5 : Int))) (pf6 : HID (A 1 2 = (D 6 : Int))) (pf7 : HID (F 6 0 = (D 7 : Int))) (pf8 : HID (A 1 3 = (D 8 : Int))) (pf9 : HID (F 8 0 = (D 9 : Int))) (pf10 : HID (F 0 14 = (D 10 : Int))) (n1 : Int) (en1 : HID ((N 1 : Int) = n1)) (n3 : Int) (en3 : HID ((N 3 : Int) = n3)) (n5 : Int) (en5 : HID ((N 5 : Int) = n5)) (n7 : Int) (en7 : HID ((N 7 : Int) = n7)) (n9 : Int) (en9 : HID ((N 9 : Int) = n9)) (n10 : Int) (en10 : HID ((N 10 : Int) = n10)) (u2_1 : Int) (eu2_1 : HID (F 2 1 = u2_1)) (u4_1 : Int) (eu4_1 : HID (F 4 1 = u4_1)) (u6_1 : Int) (eu6_1 : HID (F 6 1 = u6_1)) (u8_1 : Int) (eu8_1 : HID (F 8 1 = u8_1)) (h0 : inr (a1)) (h1 : inr (0)) (h2 : inr (a3)) (h3 : (n1) = 4) (h4 : 0 ≤ (u2_1) ∧ (u2_1) ≤ (n3) ∧ (n3) ≤ 65536) (h5 : 0 ≤ (u4_1) ∧ (u4_1) ≤ (n5) ∧ (n5) ≤ 65536) (h6 : 0 ≤ (u6_1) ∧ (u6_1) ≤ (n7) ∧ (n7) ≤ 65536) (h7 : 0 ≤ (u8_1) ∧ (u8_1) ≤ (n9) ∧ (n9) ≤ 65536) (hc68 : ∀ (tc68_1 : Int), ∀ (tc68_4 : Int), ∀ (tc68_5 : Int), ∀ (ls : rO) (σ : rS) (F_c68 : hF) (A_c68 : hA) , HW V20_c20_va σ D N F_c68 A_c68 → OUT (V20_c20_va).length D N σE c s D N σ c s → SF [] F F_c68 → SA [] A A_c68 → (inr (tc68_1)) → (inr (tc68_4)) → (inr (tc68_5)) → (0 ≤ (tc68_1) ∧ (tc68_1) ≤ 3) → ((tc68_4) = 1 ∨ (tc68_4) = 3 ∨ (tc68_4) = 4) → (0 ≤ (tc68_5) ∧ (tc68_5) ≤ 65536) → Ew 20 (d + 3) 68 ls [.ref (D 10), I (tc68_5), I (tc68_4), .ref (D 2), .ref (D 0), I (tc68_1), .ref (D 0)] σ c s Q) (k : ∀ (z : Int) (σ : rS) (Fₚ : hF) (Aₚ : hA), HW V20_c20_va σ D N Fₚ Aₚ → OUT (V20_c20_va).length D N σE c s D N σ c s → SF [] F Fₚ → SA [] A Aₚ → (inr (z)) → Q (some (I z)) σ c s) : Ew 20 (d + 3) 0 (rargs 0 [.ref (D 0), I a1, I 0, I a3]) [] σE c s Q := by
  have O := OUT_refl (n := (V20_c20_va).length) (D := D) (N := N) (σ := σE) (c := c) (s := s)
  have HE := H
  have r5 : HID ((0 : Int) ≤ n1 ∧ n1 ≤ 1000000) := nrng (H.nle 1 (ltn len_V20_c20_va_oz_T9cls rfl)) (show (N 1 : Int) = n1 from en1)
  refine Ew_of (pcₚ := 1) (fun _ => x_iload_n rfl rfl) ?_
  refine w_stat24 rfl rfl (by rfl) (C24 (D := puc 0 D) (N := puc 0 N) (HW_subc H oz_T9cls_6 oz_T9cls_4) (show inr (a1) from h0) (fun z10 σ10 F10ₚ A10ₚ Hₚ Oₚ hS10 hA10 pz10_0 pz10_1 => ⟨rretB rfl pz10_0, ?_⟩))
  refine v_backc (c := c) (s := s) H oz_T9cls_6 oz_T9cls_4 Hₚ Oₚ (fun F10 A10 H Oₚ eF10 eA10 => ?_)
  have O := OUT_trans O Oₚ
  -- PackHouse.isRow
  have cF10 : SF oz_T9clsl_0 F F10 := SF_trans (SF_refl) (SF_gluc (ι := oz_T9clsl_1) oz_T9cls_4 hS10 eF10 (by decide +kernel)) (any_sub (lₚ := []) (by decide +kernel))
  have mF10 := SFm_of cF10 oz_T9cls_2
  have cA10 : SA oz_T9clsl_1 A A10 := SA_trans (SA_refl) (SA_gluc (ι := oz_T9clsl_1) oz_T9cls_4 hA10 eA10 (by decide +kernel)) (any_subA (lₚ := []) (by decide +kernel))
  have mA10 := SAm_of cA10 oz_T9cls_3
  refine w_ifeq (t := 24) rfl rfl (show inr (z10) from q_15 pz10_0) (fun b11 => ?_) (fun b11 => ?_)
  · refine Ew_of (pcₚ := 26) (fun _ => x_bipush (z := -50) rfl (by decide)) ?_
    exact w_ireturn rfl (k ((-50)) _ _ _ H O (cF10) (cA10) (show inr ((-50)) from q_2016))
  · refine Ew_of (pcₚ := 8) (fun _ => x_iload_n rfl rfl) ?_
    refine w_stat24 rfl rfl (by rfl) (C24 (D := puc 0 D) (N := puc 0 N) (HW_subc H oz_T9cls_6 oz_T9cls_4) (show inr (0) from h1) (fun z12 σ12 F12ₚ A12ₚ Hₚ Oₚ hS12 hA12 pz12_0 pz12_1 => ⟨rretB rfl pz12_0, ?_⟩))
    refine v_backc (c := c) (s := s) H oz_T9cls_6 oz_T9cls_4 Hₚ Oₚ (fun F12 A12 H Oₚ eF12 eA12 => ?_)
    have O := OUT_trans O Oₚ
    -- PackHouse.isRow
    have cF12 : SF oz_T9clsl_0 F F12 := SF_trans (cF10) (SF_gluc (ι := oz_T9clsl_1) oz_T9cls_4 hS12 eF12 (by decide +kernel)) (any_sub (lₚ := []) (by decide +kernel))
    have mF12 := SFm_of cF12 oz_T9cls_2
    have cA12 : SA oz_T9clsl_1 A A12 := SA_trans (cA10) (SA_gluc (ι := oz_T9clsl_1) oz_T9cls_4 hA12 eA12 (by decide +kernel)) (any_subA (lₚ := []) (by decide +kernel))
    have mA12 := SAm_of cA12 oz_T9cls_3
    refine w_ifeq (t := 24) rfl rfl (show inr (z12) from q_15 pz12_0) (fun b13 => ?_) (fun b13 => ?_)
    · refine Ew_of (pcₚ := 26) (fun _ => x_bipush (z := -50) rfl (by decide)) ?_
      exact w_ireturn rfl (k ((-50)) _ _ _ H O (cF12) (cA12) (show inr ((-50)) from q_2016))
    · refine Ew_of (pcₚ := 15) (fun _ => x_iload_n rfl rfl) ?_
      refine w_iflt (t := 24) rfl rfl (show inr (a3) from h2) (fun b14 => ?_) (fun b14 => ?_)
      · refine Ew_of (pcₚ := 26) (fun _ => x_bipush (z := -50) rfl (by decide)) ?_
        exact w_ireturn rfl (k ((-50)) _ _ _ H O (cF12) (cA12) (show inr ((-50)) from q_2016))
      · refine Ew_of (pcₚ := 19) (fun _ => x_iload_n rfl rfl) ?_
        refine Ew_of (pcₚ := 21) (fun _ => x_ldc (z := 65536) rfl (by decide)) ?_
        refine w_icmple (t := 27) rfl rfl (show inr (a3) from h2) (show inr (65536) from q_35) (fun b15 => ?_) (fun b15 => ?_)
        · refine Ew_of (pcₚ := 28) (fun _ => x_aload_n rfl rfl) ?_
          refine v_g H (o := 0) (v := .ref (D 1)) rfl rfl rfl rfl rfl (vrf ((mF12 0 0 rfl).trans (pf1))) ?_
          refine Ew_of (pcₚ := 32) (fun _ => x_iload_n rfl rfl) ?_
          refine v_lR H (o := 1) rfl rfl rfl rfl rfl (n := n1) (en1) (show 0 ≤ 0 ∧ 0 < n1 from q_4309 (HIDe r5) h3) (z := ((D 2 : Nat) : Int)) (v := .ref (D 2)) ((mA12 1 rfl 0).trans (pf2)) (vrf rfl) ?_
          refine w_stat24 rfl rfl (by rfl) (C33_Row (D := puc 1538 D) (N := puc 1538 N) (HW_subc H oz_T9cls_7 oz_T9cls_8) (STC_out HT HE O) ((mF12 2 0 rfl).trans (pf3)) (n3) (en3) (u2_1) (((mF12 2 1 rfl).trans (eu2_1))) (show 0 ≤ (u2_1) ∧ (u2_1) ≤ (n3) ∧ (n3) ≤ 65536 from h4) (fun z16 σ16 F16ₚ A16ₚ Hₚ Oₚ hS16 hA16 pz16_0 pz16_1 => ⟨rfl, ?_⟩))
          refine v_backc (c := c) (s := s) H oz_T9cls_7 oz_T9cls_8 Hₚ Oₚ (fun F16 A16 H Oₚ eF16 eA16 => ?_)
          have O := OUT_trans O Oₚ
          -- PackHouse.formatOf
          have cF16 : SF oz_T9clsl_0 F F16 := SF_trans (cF12) (SF_gluc (ι := oz_T9clsl_2) oz_T9cls_8 hS16 eF16 (by decide +kernel)) (any_sub (lₚ := []) (by decide +kernel))
          have mF16 := SFm_of cF16 oz_T9cls_2
          have cA16 : SA oz_T9clsl_1 A A16 := SA_trans (cA12) (SA_gluc (ι := oz_T9clsl_2) oz_T9cls_8 hA16 eA16 (by decide +kernel)) (any_subA (lₚ := []) (by decide +kernel))
          have mA16 := SAm_of cA16 oz_T9cls_3
          refine Ew_of (pcₚ := 38) (fun _ => x_istore rfl) ?_
          refine Ew_of (pcₚ := 40) (fun _ => x_iload rfl rk_s) ?_
          refine w_ifeq (t := 49) rfl rfl (show inr (z16) from pz16_0) (fun b17 => ?_) (fun b17 => ?_)
          · refine Ew_of (pcₚ := 51) (fun _ => x_bipush (z := -51) rfl (by decide)) ?_
            exact w_ireturn rfl (k ((-51)) _ _ _ H O (cF16) (cA16) (show inr ((-51)) from q_2049))
          · refine Ew_of (pcₚ := 45) (fun _ => x_iload rfl rk_s) ?_
            refine Ew_of (pcₚ := 46) (fun _ => x_iconst rfl) ?_
            refine w_icmpne (t := 52) rfl rfl (show inr (z16) from pz16_0) (show inr (5) from q_509) (fun b18 => ?_) (fun b18 => ?_)
            · refine Ew_of (pcₚ := 53) (fun _ => x_aload_n rfl (rk_o (rfl) rfl rfl)) ?_
              refine Ew_of (pcₚ := 54) (fun _ => x_iload_n rfl (rk_o (rfl) rfl rfl)) ?_
              refine Ew_of (pcₚ := 55) (fun _ => x_aload_n rfl (rk_o (rfl) rfl rfl)) ?_
              refine Ew_of (pcₚ := 56) (fun _ => x_aload_n rfl (rk_o (rfl) rfl rfl)) ?_
              refine v_g H (o := 0) (v := .ref (D 1)) rfl rfl rfl rfl rfl (vrf ((mF16 0 0 rfl).trans (pf1))) ?_
              refine Ew_of (pcₚ := 60) (fun _ => x_iload_n rfl (rk_o (rfl) rfl rfl)) ?_
              refine v_lR H (o := 1) rfl rfl rfl rfl rfl (n := n1) (en1) (show 0 ≤ 0 ∧ 0 < n1 from q_4309 (HIDe r5) h3) (z := ((D 2 : Nat) : Int)) (v := .ref (D 2)) ((mA16 1 rfl 0).trans (pf2)) (vrf rfl) ?_
              refine Ew_of (pcₚ := 63) (fun _ => x_iload rfl rk_s) ?_
              refine Ew_of (pcₚ := 64) (fun _ => x_iload_n rfl (rk_o (rfl) rfl rfl)) ?_
              refine Ew_of (pcₚ := 65) (fun _ => x_aload_n rfl (rk_o (rfl) rfl rfl)) ?_
              refine v_g H (o := 0) (v := .ref (D 10)) rfl rfl rfl rfl rfl (vrf ((mF16 0 14 rfl).trans (pf10))) ?_
              exact hc68 (a1) (z16) (a3) _ _ _ _   H O (SF_trans (SF_trans (SF_trans (SF_refl) (SF_gluc (ι := oz_T9clsl_1) oz_T9cls_4 hS10 eF10 (by decide +kernel)) (any_sub (lₚ := []) (by decide +kernel))) (SF_gluc (ι := oz_T9clsl_1) oz_T9cls_4 hS12 eF12 (by decide +kernel)) (any_sub (lₚ := []) (by decide +kernel))) (SF_gluc (ι := oz_T9clsl_2) oz_T9cls_8 hS16 eF16 (by decide +kernel)) (any_sub (lₚ := []) (by decide +kernel))) (SA_trans (SA_trans (SA_trans (SA_refl) (SA_gluc (ι := oz_T9clsl_1) oz_T9cls_4 hA10 eA10 (by decide +kernel)) (any_subA (lₚ := []) (by decide +kernel))) (SA_gluc (ι := oz_T9clsl_1) oz_T9cls_4 hA12 eA12 (by decide +kernel)) (any_subA (lₚ := []) (by decide +kernel))) (SA_gluc (ι := oz_T9clsl_2) oz_T9cls_8 hA16 eA16 (by decide +kernel)) (any_subA (lₚ := []) (by decide +kernel)))     (show inr (a1) from h0) (show inr (z16) from pz16_0) (show inr (a3) from h2) (show 0 ≤ (a1) ∧ (a1) ≤ 3 by omega) (show (z16) = 1 ∨ (z16) = 3 ∨ (z16) = 4 by omega) (show 0 ≤ (a3) ∧ (a3) ≤ 65536 from q_4337 b14 b15)
            · refine Ew_of (pcₚ := 51) (fun _ => x_bipush (z := -51) rfl (by decide)) ?_
              exact w_ireturn rfl (k ((-51)) _ _ _ H O (cF16) (cA16) (show inr ((-51)) from q_2049))
        · refine Ew_of (pcₚ := 26) (fun _ => x_bipush (z := -50) rfl (by decide)) ?_
          exact w_ireturn rfl (k ((-50)) _ _ _ H O (cF12) (cA12) (show inr ((-50)) from q_2016))
abbrev V15_c10_va : vV := [(0, 0, [(4, 0), (4, 0), (4, 0), (4, 0), (4, 0), (4, 0), (4, 0), (4, 0), (4, 0), (4, 0), (4, 0), (4, 0), (4, 0), (4, 0), (4, 0), (4, 0), (4, 0), (0, 0), (0, 0)]), (1, 4, []), (0, 7, [(4, 0), (0, 0), (1, 0), (0, 0), (0, 0)]), (1, 0, []), (0, 7, [(4, 0), (0, 0), (1, 0), (0, 0), (0, 0)]), (1, 0, []), (0, 7, [(4, 0), (0, 0), (1, 0), (0, 0), (0, 0)]), (1, 0, []), (0, 7, [(4, 0), (0, 0), (1, 0), (0, 0), (0, 0)]), (1, 0, []), (0, 4, [(4, 0), (4, 0), (0, 0), (4, 0), (4, 0)])]
theorem len_V15_c10_va_oz_T9cls : (V15_c10_va).length = 11 := by decide +kernel
theorem oz_T9cls_10 : vsub V15_c10_va V24 [] = true := by decide +kernel
/-- PackHouse.learn: this, this.rows, this.rows.0, this.rows.0.bytes, this.rows.1, this.rows.1.bytes, this.rows.2, this.rows.2.bytes, this.rows.3, this.rows.3.bytes, this.otherDictionary -/
theorem C15_c10_va {σE : rS} {D N : Nat → Nat} {F : hF} {A : hA} {d c s : Nat} {Q : wQ} (H : HW V15_c10_va σE D N F A)  (pf1 : HID (F 0 0 = (D 1 : Int))) (pf2 : HID (A 1 0 = (D 2 : Int))) (pf3 : HID (F 2 0 = (D 3 : Int))) (pf4 : HID (A 1 1 = (D 4 : Int))) (pf5 : HID (F 4 0 = (D 5 : Int))) (pf6 : HID (A 1 2 = (D 6 : Int))) (pf7 : HID (F 6 0 = (D 7 : Int))) (pf8 : HID (A 1 3 = (D 8 : Int))) (pf9 : HID (F 8 0 = (D 9 : Int))) (pf10 : HID (F 0 4 = (D 10 : Int))) (n1 : Int) (en1 : HID ((N 1 : Int) = n1)) (n3 : Int) (en3 : HID ((N 3 : Int) = n3)) (n5 : Int) (en5 : HID ((N 5 : Int) = n5)) (n7 : Int) (en7 : HID ((N 7 : Int) = n7)) (n9 : Int) (en9 : HID ((N 9 : Int) = n9)) (u2_1 : Int) (eu2_1 : HID (F 2 1 = u2_1)) (u4_1 : Int) (eu4_1 : HID (F 4 1 = u4_1)) (u6_1 : Int) (eu6_1 : HID (F 6 1 = u6_1)) (u8_1 : Int) (eu8_1 : HID (F 8 1 = u8_1)) (h0 : inr (0)) (h1 : (n1) = 4) (h2 : 0 ≤ (u2_1) ∧ (u2_1) ≤ (n3) ∧ (n3) ≤ 65536) (h3 : 0 ≤ (u4_1) ∧ (u4_1) ≤ (n5) ∧ (n5) ≤ 65536) (h4 : 0 ≤ (u6_1) ∧ (u6_1) ≤ (n7) ∧ (n7) ≤ 65536) (h5 : 0 ≤ (u8_1) ∧ (u8_1) ≤ (n9) ∧ (n9) ≤ 65536) (hc20 : ∀ (ls : rO) (σ : rS) (F_c20 : hF) (A_c20 : hA) , rlook ls 0 = some (.ref (D 0)) → HW V15_c10_va σ D N F_c20 A_c20 → OUT (V15_c10_va).length D N σE c s D N σ c s → SF [] F F_c20 → SA [] A A_c20 → Ew 15 (d + 1) 20 ls [.ref (D 2), .ref (D 10)] σ c s Q) (k : ∀ (z : Int) (σ : rS) (Fₚ : hF) (Aₚ : hA), HW V15_c10_va σ D N Fₚ Aₚ → OUT (V15_c10_va).length D N σE c s D N σ c s → SF [] F Fₚ → SA [] A Aₚ → (inr (z)) → Q (some (I z)) σ c s) : Ew 15 (d + 1) 0 (rargs 0 [.ref (D 0), I 0]) [] σE c s Q := by
  have O := OUT_refl (n := (V15_c10_va).length) (D := D) (N := N) (σ := σE) (c := c) (s := s)
  have HE := H
  have r5 : HID ((0 : Int) ≤ n1 ∧ n1 ≤ 1000000) := nrng (H.nle 1 (ltn len_V15_c10_va_oz_T9cls rfl)) (show (N 1 : Int) = n1 from en1)
  refine Ew_of (pcₚ := 1) (fun _ => x_iload_n rfl rfl) ?_
  refine w_stat24 rfl rfl (by rfl) (C24 (D := puc 0 D) (N := puc 0 N) (HW_subc H oz_T9cls_10 oz_T9cls_4) (show inr (0) from h0) (fun z10 σ10 F10ₚ A10ₚ Hₚ Oₚ hS10 hA10 pz10_0 pz10_1 => ⟨rretB rfl pz10_0, ?_⟩))
  refine v_backc (c := c) (s := s) H oz_T9cls_10 oz_T9cls_4 Hₚ Oₚ (fun F10 A10 H Oₚ eF10 eA10 => ?_)
  have O := OUT_trans O Oₚ
  -- PackHouse.isRow
  have cF10 : SF oz_T9clsl_0 F F10 := SF_trans (SF_refl) (SF_gluc (ι := oz_T9clsl_1) oz_T9cls_4 hS10 eF10 (by decide +kernel)) (any_sub (lₚ := []) (by decide +kernel))
  have mF10 := SFm_of cF10 oz_T9cls_2
  have cA10 : SA oz_T9clsl_1 A A10 := SA_trans (SA_refl) (SA_gluc (ι := oz_T9clsl_1) oz_T9cls_4 hA10 eA10 (by decide +kernel)) (any_subA (lₚ := []) (by decide +kernel))
  have mA10 := SAm_of cA10 oz_T9cls_3
  refine w_ifne (t := 10) rfl rfl (show inr (z10) from q_15 pz10_0) (fun b11 => ?_) (fun b11 => ?_)
  · refine Ew_of (pcₚ := 11) (fun _ => x_aload_n rfl rfl) ?_
    refine v_g H (o := 0) (v := .ref (D 10)) rfl rfl rfl rfl rfl (vrf ((mF10 0 4 rfl).trans (pf10))) ?_
    refine Ew_of (pcₚ := 15) (fun _ => x_aload_n rfl rfl) ?_
    refine v_g H (o := 0) (v := .ref (D 1)) rfl rfl rfl rfl rfl (vrf ((mF10 0 0 rfl).trans (pf1))) ?_
    refine Ew_of (pcₚ := 19) (fun _ => x_iload_n rfl rfl) ?_
    refine v_lR H (o := 1) rfl rfl rfl rfl rfl (n := n1) (en1) (show 0 ≤ 0 ∧ 0 < n1 from q_4309 (HIDe r5) h1) (z := ((D 2 : Nat) : Int)) (v := .ref (D 2)) ((mA10 1 rfl 0).trans (pf2)) (vrf rfl) ?_
    exact hc20  _ _ _ _  (rfl) H O (SF_trans (SF_refl) (SF_gluc (ι := oz_T9clsl_1) oz_T9cls_4 hS10 eF10 (by decide +kernel)) (any_sub (lₚ := []) (by decide +kernel))) (SA_trans (SA_refl) (SA_gluc (ι := oz_T9clsl_1) oz_T9cls_4 hA10 eA10 (by decide +kernel)) (any_subA (lₚ := []) (by decide +kernel)))     
  · refine Ew_of (pcₚ := 9) (fun _ => x_bipush (z := -5) rfl (by decide)) ?_
    exact w_ireturn rfl (k ((-5)) _ _ _ H O (cF10) (cA10) (show inr ((-5)) from q_2007))
abbrev V18_c21_va : vV := [(0, 0, [(4, 0), (4, 0), (4, 0), (4, 0), (4, 0), (4, 0), (4, 0), (4, 0), (4, 0), (4, 0), (4, 0), (4, 0), (4, 0), (4, 0), (4, 0), (4, 0), (4, 0), (0, 0), (0, 0)]), (1, 4, []), (0, 7, [(4, 0), (0, 0), (1, 0), (0, 0), (0, 0)]), (1, 0, []), (0, 7, [(4, 0), (0, 0), (1, 0), (0, 0), (0, 0)]), (1, 0, []), (0, 7, [(4, 0), (0, 0), (1, 0), (0, 0), (0, 0)]), (1, 0, []), (0, 7, [(4, 0), (0, 0), (1, 0), (0, 0), (0, 0)]), (1, 0, []), (1, 1, [])]
theorem len_V18_c21_va_oz_T9cls : (V18_c21_va).length = 11 := by decide +kernel
theorem oz_T9cls_12 : vsub V18_c21_va V24 [] = true := by decide +kernel
/-- PackHouse.read: this, this.rows, this.rows.0, this.rows.0.bytes, this.rows.1, this.rows.1.bytes, this.rows.2, this.rows.2.bytes, this.rows.3, this.rows.3.bytes, this.readCounts -/
theorem C18_c21_va {σE : rS} {D N : Nat → Nat} {F : hF} {A : hA} {d c s : Nat} {Q : wQ} (H : HW V18_c21_va σE D N F A) {a1 a3 a4 : Int} (pf1 : HID (F 0 0 = (D 1 : Int))) (pf2 : HID (A 1 0 = (D 2 : Int))) (pf3 : HID (F 2 0 = (D 3 : Int))) (pf4 : HID (A 1 1 = (D 4 : Int))) (pf5 : HID (F 4 0 = (D 5 : Int))) (pf6 : HID (A 1 2 = (D 6 : Int))) (pf7 : HID (F 6 0 = (D 7 : Int))) (pf8 : HID (A 1 3 = (D 8 : Int))) (pf9 : HID (F 8 0 = (D 9 : Int))) (pf10 : HID (F 0 14 = (D 10 : Int))) (n1 : Int) (en1 : HID ((N 1 : Int) = n1)) (n3 : Int) (en3 : HID ((N 3 : Int) = n3)) (n5 : Int) (en5 : HID ((N 5 : Int) = n5)) (n7 : Int) (en7 : HID ((N 7 : Int) = n7)) (n9 : Int) (en9 : HID ((N 9 : Int) = n9)) (n10 : Int) (en10 : HID ((N 10 : Int) = n10)) (u2_1 : Int) (eu2_1 : HID (F 2 1 = u2_1)) (u4_1 : Int) (eu4_1 : HID (F 4 1 = u4_1)) (u6_1 : Int) (eu6_1 : HID (F 6 1 = u6_1)) (u8_1 : Int) (eu8_1 : HID (F 8 1 = u8_1)) (h0 : inr (a1)) (h1 : inr (1)) (h2 : inr (a3)) (h3 : inr (a4)) (h4 : (n1) = 4) (h5 : 0 ≤ (u2_1) ∧ (u2_1) ≤ (n3) ∧ (n3) ≤ 65536) (h6 : 0 ≤ (u4_1) ∧ (u4_1) ≤ (n5) ∧ (n5) ≤ 65536) (h7 : 0 ≤ (u6_1) ∧ (u6_1) ≤ (n7) ∧ (n7) ≤ 65536) (h8 : 0 ≤ (u8_1) ∧ (u8_1) ≤ (n9) ∧ (n9) ≤ 65536) (hc54 : ∀ (tc54_1 : Int), ∀ (tc54_4 : Int), ∀ (tc54_5 : Int), ∀ (ls : rO) (σ : rS) (F_c54 : hF) (A_c54 : hA) , HW V18_c21_va σ D N F_c54 A_c54 → OUT (V18_c21_va).length D N σE c s D N σ c s → SF [] F F_c54 → SA [] A A_c54 → (inr (tc54_1)) → (inr (tc54_4)) → (inr (tc54_5)) → (0 ≤ (tc54_1) ∧ (tc54_1) ≤ 3) → (0 ≤ (tc54_4) ∧ (tc54_4) ≤ 4) → (0 ≤ (tc54_5) ∧ (tc54_5) ≤ 65536) → Ew 18 (d + 1) 54 ls [.ref (D 10), I (tc54_5), I (tc54_4), .ref (D 4), .ref (D 0), I (tc54_1), .ref (D 0)] σ c s Q) (k : ∀ (z : Int) (σ : rS) (Fₚ : hF) (Aₚ : hA), HW V18_c21_va σ D N Fₚ Aₚ → OUT (V18_c21_va).length D N σE c s D N σ c s → SF [] F Fₚ → SA [] A Aₚ → (inr (z)) → Q (some (I z)) σ c s) : Ew 18 (d + 1) 0 (rargs 0 [.ref (D 0), I a1, I 1, I a3, I a4]) [] σE c s Q := by
  have O := OUT_refl (n := (V18_c21_va).length) (D := D) (N := N) (σ := σE) (c := c) (s := s)
  have HE := H
  have r5 : HID ((0 : Int) ≤ n1 ∧ n1 ≤ 1000000) := nrng (H.nle 1 (ltn len_V18_c21_va_oz_T9cls rfl)) (show (N 1 : Int) = n1 from en1)
  refine Ew_of (pcₚ := 1) (fun _ => x_iload_n rfl rfl) ?_
  refine w_stat24 rfl rfl (by rfl) (C24 (D := puc 0 D) (N := puc 0 N) (HW_subc H oz_T9cls_12 oz_T9cls_4) (show inr (a1) from h0) (fun z10 σ10 F10ₚ A10ₚ Hₚ Oₚ hS10 hA10 pz10_0 pz10_1 => ⟨rretB rfl pz10_0, ?_⟩))
  refine v_backc (c := c) (s := s) H oz_T9cls_12 oz_T9cls_4 Hₚ Oₚ (fun F10 A10 H Oₚ eF10 eA10 => ?_)
  have O := OUT_trans O Oₚ
  -- PackHouse.isRow
  have cF10 : SF oz_T9clsl_0 F F10 := SF_trans (SF_refl) (SF_gluc (ι := oz_T9clsl_1) oz_T9cls_4 hS10 eF10 (by decide +kernel)) (any_sub (lₚ := []) (by decide +kernel))
  have mF10 := SFm_of cF10 oz_T9cls_2
  have cA10 : SA oz_T9clsl_1 A A10 := SA_trans (SA_refl) (SA_gluc (ι := oz_T9clsl_1) oz_T9cls_4 hA10 eA10 (by decide +kernel)) (any_subA (lₚ := []) (by decide +kernel))
  have mA10 := SAm_of cA10 oz_T9cls_3
  refine w_ifeq (t := 35) rfl rfl (show inr (z10) from q_15 pz10_0) (fun b11 => ?_) (fun b11 => ?_)
  · refine Ew_of (pcₚ := 37) (fun _ => x_bipush (z := -50) rfl (by decide)) ?_
    exact w_ireturn rfl (k ((-50)) _ _ _ H O (cF10) (cA10) (show inr ((-50)) from q_2016))
  · refine Ew_of (pcₚ := 8) (fun _ => x_iload_n rfl rfl) ?_
    refine w_stat24 rfl rfl (by rfl) (C24 (D := puc 0 D) (N := puc 0 N) (HW_subc H oz_T9cls_12 oz_T9cls_4) (show inr (1) from h1) (fun z12 σ12 F12ₚ A12ₚ Hₚ Oₚ hS12 hA12 pz12_0 pz12_1 => ⟨rretB rfl pz12_0, ?_⟩))
    refine v_backc (c := c) (s := s) H oz_T9cls_12 oz_T9cls_4 Hₚ Oₚ (fun F12 A12 H Oₚ eF12 eA12 => ?_)
    have O := OUT_trans O Oₚ
    -- PackHouse.isRow
    have cF12 : SF oz_T9clsl_0 F F12 := SF_trans (cF10) (SF_gluc (ι := oz_T9clsl_1) oz_T9cls_4 hS12 eF12 (by decide +kernel)) (any_sub (lₚ := []) (by decide +kernel))
    have mF12 := SFm_of cF12 oz_T9cls_2
    have cA12 : SA oz_T9clsl_1 A A12 := SA_trans (cA10) (SA_gluc (ι := oz_T9clsl_1) oz_T9cls_4 hA12 eA12 (by decide +kernel)) (any_subA (lₚ := []) (by decide +kernel))
    have mA12 := SAm_of cA12 oz_T9cls_3
    refine w_ifeq (t := 35) rfl rfl (show inr (z12) from q_15 pz12_0) (fun b13 => ?_) (fun b13 => ?_)
    · refine Ew_of (pcₚ := 37) (fun _ => x_bipush (z := -50) rfl (by decide)) ?_
      exact w_ireturn rfl (k ((-50)) _ _ _ H O (cF12) (cA12) (show inr ((-50)) from q_2016))
    · refine Ew_of (pcₚ := 15) (fun _ => x_iload_n rfl rfl) ?_
      refine w_iflt (t := 35) rfl rfl (show inr (a3) from h2) (fun b14 => ?_) (fun b14 => ?_)
      · refine Ew_of (pcₚ := 37) (fun _ => x_bipush (z := -50) rfl (by decide)) ?_
        exact w_ireturn rfl (k ((-50)) _ _ _ H O (cF12) (cA12) (show inr ((-50)) from q_2016))
      · refine Ew_of (pcₚ := 19) (fun _ => x_iload_n rfl rfl) ?_
        refine Ew_of (pcₚ := 20) (fun _ => x_iconst rfl) ?_
        refine w_icmpgt (t := 35) rfl rfl (show inr (a3) from h2) (show inr (4) from q_2) (fun b15 => ?_) (fun b15 => ?_)
        · refine Ew_of (pcₚ := 37) (fun _ => x_bipush (z := -50) rfl (by decide)) ?_
          exact w_ireturn rfl (k ((-50)) _ _ _ H O (cF12) (cA12) (show inr ((-50)) from q_2016))
        · refine Ew_of (pcₚ := 25) (fun _ => x_iload rfl rfl) ?_
          refine w_iflt (t := 35) rfl rfl (show inr (a4) from h3) (fun b16 => ?_) (fun b16 => ?_)
          · refine Ew_of (pcₚ := 37) (fun _ => x_bipush (z := -50) rfl (by decide)) ?_
            exact w_ireturn rfl (k ((-50)) _ _ _ H O (cF12) (cA12) (show inr ((-50)) from q_2016))
          · refine Ew_of (pcₚ := 30) (fun _ => x_iload rfl rfl) ?_
            refine Ew_of (pcₚ := 32) (fun _ => x_ldc (z := 65536) rfl (by decide)) ?_
            refine w_icmple (t := 38) rfl rfl (show inr (a4) from h3) (show inr (65536) from q_35) (fun b17 => ?_) (fun b17 => ?_)
            · refine Ew_of (pcₚ := 39) (fun _ => x_aload_n rfl rfl) ?_
              refine Ew_of (pcₚ := 40) (fun _ => x_iload_n rfl rfl) ?_
              refine Ew_of (pcₚ := 41) (fun _ => x_aload_n rfl rfl) ?_
              refine Ew_of (pcₚ := 42) (fun _ => x_aload_n rfl rfl) ?_
              refine v_g H (o := 0) (v := .ref (D 1)) rfl rfl rfl rfl rfl (vrf ((mF12 0 0 rfl).trans (pf1))) ?_
              refine Ew_of (pcₚ := 46) (fun _ => x_iload_n rfl rfl) ?_
              refine v_lR H (o := 1) rfl rfl rfl rfl rfl (n := n1) (en1) (show 0 ≤ 1 ∧ 1 < n1 from q_4310 (HIDe r5) h4) (z := ((D 4 : Nat) : Int)) (v := .ref (D 4)) ((mA12 1 rfl 1).trans (pf4)) (vrf rfl) ?_
              refine Ew_of (pcₚ := 48) (fun _ => x_iload_n rfl rfl) ?_
              refine Ew_of (pcₚ := 50) (fun _ => x_iload rfl rfl) ?_
              refine Ew_of (pcₚ := 51) (fun _ => x_aload_n rfl rfl) ?_
              refine v_g H (o := 0) (v := .ref (D 10)) rfl rfl rfl rfl rfl (vrf ((mF12 0 14 rfl).trans (pf10))) ?_
              exact hc54 (a1) (a3) (a4) _ _ _ _   H O (SF_trans (SF_trans (SF_refl) (SF_gluc (ι := oz_T9clsl_1) oz_T9cls_4 hS10 eF10 (by decide +kernel)) (any_sub (lₚ := []) (by decide +kernel))) (SF_gluc (ι := oz_T9clsl_1) oz_T9cls_4 hS12 eF12 (by decide +kernel)) (any_sub (lₚ := []) (by decide +kernel))) (SA_trans (SA_trans (SA_refl) (SA_gluc (ι := oz_T9clsl_1) oz_T9cls_4 hA10 eA10 (by decide +kernel)) (any_subA (lₚ := []) (by decide +kernel))) (SA_gluc (ι := oz_T9clsl_1) oz_T9cls_4 hA12 eA12 (by decide +kernel)) (any_subA (lₚ := []) (by decide +kernel)))     (show inr (a1) from h0) (show inr (a3) from h2) (show inr (a4) from h3) (show 0 ≤ (a1) ∧ (a1) ≤ 3 by omega) (show 0 ≤ (a3) ∧ (a3) ≤ 4 from q_4338 b14 b15) (show 0 ≤ (a4) ∧ (a4) ≤ 65536 from q_4337 b16 b17)
            · refine Ew_of (pcₚ := 37) (fun _ => x_bipush (z := -50) rfl (by decide)) ?_
              exact w_ireturn rfl (k ((-50)) _ _ _ H O (cF12) (cA12) (show inr ((-50)) from q_2016))
abbrev V20_c21_va : vV := [(0, 0, [(4, 0), (4, 0), (4, 0), (4, 0), (4, 0), (4, 0), (4, 0), (4, 0), (4, 0), (4, 0), (4, 0), (4, 0), (4, 0), (4, 0), (4, 0), (4, 0), (4, 0), (0, 0), (0, 0)]), (1, 4, []), (0, 7, [(4, 0), (0, 0), (1, 0), (0, 0), (0, 0)]), (1, 0, []), (0, 7, [(4, 0), (0, 0), (1, 0), (0, 0), (0, 0)]), (1, 0, []), (0, 7, [(4, 0), (0, 0), (1, 0), (0, 0), (0, 0)]), (1, 0, []), (0, 7, [(4, 0), (0, 0), (1, 0), (0, 0), (0, 0)]), (1, 0, []), (1, 1, [])]
theorem len_V20_c21_va_oz_T9cls : (V20_c21_va).length = 11 := by decide +kernel
theorem oz_T9cls_14 : vsub V20_c21_va V24 [] = true := by decide +kernel
theorem oz_T9cls_15 : vsub V20_c21_va V33_Row [4, 5] = true := by decide +kernel
def oz_T9clsl_3 : List Nat := [4, 5]
theorem oz_T9cls_16 : okc oz_T9clsl_3 2564 = true := by decide +kernel
/-- PackHouse.open: this, this.rows, this.rows.0, this.rows.0.bytes, this.rows.1, this.rows.1.bytes, this.rows.2, this.rows.2.bytes, this.rows.3, this.rows.3.bytes, this.readCounts -/
theorem C20_c21_va {σE : rS} {D N : Nat → Nat} {F : hF} {A : hA} {d c s : Nat} {Q : wQ} (H : HW V20_c21_va σE D N F A) (HT : STC σE) {a1 a3 : Int} (pf1 : HID (F 0 0 = (D 1 : Int))) (pf2 : HID (A 1 0 = (D 2 : Int))) (pf3 : HID (F 2 0 = (D 3 : Int))) (pf4 : HID (A 1 1 = (D 4 : Int))) (pf5 : HID (F 4 0 = (D 5 : Int))) (pf6 : HID (A 1 2 = (D 6 : Int))) (pf7 : HID (F 6 0 = (D 7 : Int))) (pf8 : HID (A 1 3 = (D 8 : Int))) (pf9 : HID (F 8 0 = (D 9 : Int))) (pf10 : HID (F 0 14 = (D 10 : Int))) (n1 : Int) (en1 : HID ((N 1 : Int) = n1)) (n3 : Int) (en3 : HID ((N 3 : Int) = n3)) (n5 : Int) (en5 : HID ((N 5 : Int) = n5)) (n7 : Int) (en7 : HID ((N 7 : Int) = n7)) (n9 : Int) (en9 : HID ((N 9 : Int) = n9)) (n10 : Int) (en10 : HID ((N 10 : Int) = n10)) (u2_1 : Int) (eu2_1 : HID (F 2 1 = u2_1)) (u4_1 : Int) (eu4_1 : HID (F 4 1 = u4_1)) (u6_1 : Int) (eu6_1 : HID (F 6 1 = u6_1)) (u8_1 : Int) (eu8_1 : HID (F 8 1 = u8_1)) (h0 : inr (a1)) (h1 : inr (1)) (h2 : inr (a3)) (h3 : (n1) = 4) (h4 : 0 ≤ (u2_1) ∧ (u2_1) ≤ (n3) ∧ (n3) ≤ 65536) (h5 : 0 ≤ (u4_1) ∧ (u4_1) ≤ (n5) ∧ (n5) ≤ 65536) (h6 : 0 ≤ (u6_1) ∧ (u6_1) ≤ (n7) ∧ (n7) ≤ 65536) (h7 : 0 ≤ (u8_1) ∧ (u8_1) ≤ (n9) ∧ (n9) ≤ 65536) (hc68 : ∀ (tc68_1 : Int), ∀ (tc68_4 : Int), ∀ (tc68_5 : Int), ∀ (ls : rO) (σ : rS) (F_c68 : hF) (A_c68 : hA) , HW V20_c21_va σ D N F_c68 A_c68 → OUT (V20_c21_va).length D N σE c s D N σ c s → SF [] F F_c68 → SA [] A A_c68 → (inr (tc68_1)) → (inr (tc68_4)) → (inr (tc68_5)) → (0 ≤ (tc68_1) ∧ (tc68_1) ≤ 3) → ((tc68_4) = 1 ∨ (tc68_4) = 3 ∨ (tc68_4) = 4) → (0 ≤ (tc68_5) ∧ (tc68_5) ≤ 65536) → Ew 20 (d + 3) 68 ls [.ref (D 10), I (tc68_5), I (tc68_4), .ref (D 4), .ref (D 0), I (tc68_1), .ref (D 0)] σ c s Q) (k : ∀ (z : Int) (σ : rS) (Fₚ : hF) (Aₚ : hA), HW V20_c21_va σ D N Fₚ Aₚ → OUT (V20_c21_va).length D N σE c s D N σ c s → SF [] F Fₚ → SA [] A Aₚ → (inr (z)) → Q (some (I z)) σ c s) : Ew 20 (d + 3) 0 (rargs 0 [.ref (D 0), I a1, I 1, I a3]) [] σE c s Q := by
  have O := OUT_refl (n := (V20_c21_va).length) (D := D) (N := N) (σ := σE) (c := c) (s := s)
  have HE := H
  have r5 : HID ((0 : Int) ≤ n1 ∧ n1 ≤ 1000000) := nrng (H.nle 1 (ltn len_V20_c21_va_oz_T9cls rfl)) (show (N 1 : Int) = n1 from en1)
  refine Ew_of (pcₚ := 1) (fun _ => x_iload_n rfl rfl) ?_
  refine w_stat24 rfl rfl (by rfl) (C24 (D := puc 0 D) (N := puc 0 N) (HW_subc H oz_T9cls_14 oz_T9cls_4) (show inr (a1) from h0) (fun z10 σ10 F10ₚ A10ₚ Hₚ Oₚ hS10 hA10 pz10_0 pz10_1 => ⟨rretB rfl pz10_0, ?_⟩))
  refine v_backc (c := c) (s := s) H oz_T9cls_14 oz_T9cls_4 Hₚ Oₚ (fun F10 A10 H Oₚ eF10 eA10 => ?_)
  have O := OUT_trans O Oₚ
  -- PackHouse.isRow
  have cF10 : SF oz_T9clsl_0 F F10 := SF_trans (SF_refl) (SF_gluc (ι := oz_T9clsl_1) oz_T9cls_4 hS10 eF10 (by decide +kernel)) (any_sub (lₚ := []) (by decide +kernel))
  have mF10 := SFm_of cF10 oz_T9cls_2
  have cA10 : SA oz_T9clsl_1 A A10 := SA_trans (SA_refl) (SA_gluc (ι := oz_T9clsl_1) oz_T9cls_4 hA10 eA10 (by decide +kernel)) (any_subA (lₚ := []) (by decide +kernel))
  have mA10 := SAm_of cA10 oz_T9cls_3
  refine w_ifeq (t := 24) rfl rfl (show inr (z10) from q_15 pz10_0) (fun b11 => ?_) (fun b11 => ?_)
  · refine Ew_of (pcₚ := 26) (fun _ => x_bipush (z := -50) rfl (by decide)) ?_
    exact w_ireturn rfl (k ((-50)) _ _ _ H O (cF10) (cA10) (show inr ((-50)) from q_2016))
  · refine Ew_of (pcₚ := 8) (fun _ => x_iload_n rfl rfl) ?_
    refine w_stat24 rfl rfl (by rfl) (C24 (D := puc 0 D) (N := puc 0 N) (HW_subc H oz_T9cls_14 oz_T9cls_4) (show inr (1) from h1) (fun z12 σ12 F12ₚ A12ₚ Hₚ Oₚ hS12 hA12 pz12_0 pz12_1 => ⟨rretB rfl pz12_0, ?_⟩))
    refine v_backc (c := c) (s := s) H oz_T9cls_14 oz_T9cls_4 Hₚ Oₚ (fun F12 A12 H Oₚ eF12 eA12 => ?_)
    have O := OUT_trans O Oₚ
    -- PackHouse.isRow
    have cF12 : SF oz_T9clsl_0 F F12 := SF_trans (cF10) (SF_gluc (ι := oz_T9clsl_1) oz_T9cls_4 hS12 eF12 (by decide +kernel)) (any_sub (lₚ := []) (by decide +kernel))
    have mF12 := SFm_of cF12 oz_T9cls_2
    have cA12 : SA oz_T9clsl_1 A A12 := SA_trans (cA10) (SA_gluc (ι := oz_T9clsl_1) oz_T9cls_4 hA12 eA12 (by decide +kernel)) (any_subA (lₚ := []) (by decide +kernel))
    have mA12 := SAm_of cA12 oz_T9cls_3
    refine w_ifeq (t := 24) rfl rfl (show inr (z12) from q_15 pz12_0) (fun b13 => ?_) (fun b13 => ?_)
    · refine Ew_of (pcₚ := 26) (fun _ => x_bipush (z := -50) rfl (by decide)) ?_
      exact w_ireturn rfl (k ((-50)) _ _ _ H O (cF12) (cA12) (show inr ((-50)) from q_2016))
    · refine Ew_of (pcₚ := 15) (fun _ => x_iload_n rfl rfl) ?_
      refine w_iflt (t := 24) rfl rfl (show inr (a3) from h2) (fun b14 => ?_) (fun b14 => ?_)
      · refine Ew_of (pcₚ := 26) (fun _ => x_bipush (z := -50) rfl (by decide)) ?_
        exact w_ireturn rfl (k ((-50)) _ _ _ H O (cF12) (cA12) (show inr ((-50)) from q_2016))
      · refine Ew_of (pcₚ := 19) (fun _ => x_iload_n rfl rfl) ?_
        refine Ew_of (pcₚ := 21) (fun _ => x_ldc (z := 65536) rfl (by decide)) ?_
        refine w_icmple (t := 27) rfl rfl (show inr (a3) from h2) (show inr (65536) from q_35) (fun b15 => ?_) (fun b15 => ?_)
        · refine Ew_of (pcₚ := 28) (fun _ => x_aload_n rfl rfl) ?_
          refine v_g H (o := 0) (v := .ref (D 1)) rfl rfl rfl rfl rfl (vrf ((mF12 0 0 rfl).trans (pf1))) ?_
          refine Ew_of (pcₚ := 32) (fun _ => x_iload_n rfl rfl) ?_
          refine v_lR H (o := 1) rfl rfl rfl rfl rfl (n := n1) (en1) (show 0 ≤ 1 ∧ 1 < n1 from q_4310 (HIDe r5) h3) (z := ((D 4 : Nat) : Int)) (v := .ref (D 4)) ((mA12 1 rfl 1).trans (pf4)) (vrf rfl) ?_
          refine w_stat24 rfl rfl (by rfl) (C33_Row (D := puc 2564 D) (N := puc 2564 N) (HW_subc H oz_T9cls_15 oz_T9cls_16) (STC_out HT HE O) ((mF12 4 0 rfl).trans (pf5)) (n5) (en5) (u4_1) (((mF12 4 1 rfl).trans (eu4_1))) (show 0 ≤ (u4_1) ∧ (u4_1) ≤ (n5) ∧ (n5) ≤ 65536 from h5) (fun z16 σ16 F16ₚ A16ₚ Hₚ Oₚ hS16 hA16 pz16_0 pz16_1 => ⟨rfl, ?_⟩))
          refine v_backc (c := c) (s := s) H oz_T9cls_15 oz_T9cls_16 Hₚ Oₚ (fun F16 A16 H Oₚ eF16 eA16 => ?_)
          have O := OUT_trans O Oₚ
          -- PackHouse.formatOf
          have cF16 : SF oz_T9clsl_0 F F16 := SF_trans (cF12) (SF_gluc (ι := oz_T9clsl_3) oz_T9cls_16 hS16 eF16 (by decide +kernel)) (any_sub (lₚ := []) (by decide +kernel))
          have mF16 := SFm_of cF16 oz_T9cls_2
          have cA16 : SA oz_T9clsl_1 A A16 := SA_trans (cA12) (SA_gluc (ι := oz_T9clsl_3) oz_T9cls_16 hA16 eA16 (by decide +kernel)) (any_subA (lₚ := []) (by decide +kernel))
          have mA16 := SAm_of cA16 oz_T9cls_3
          refine Ew_of (pcₚ := 38) (fun _ => x_istore rfl) ?_
          refine Ew_of (pcₚ := 40) (fun _ => x_iload rfl rk_s) ?_
          refine w_ifeq (t := 49) rfl rfl (show inr (z16) from pz16_0) (fun b17 => ?_) (fun b17 => ?_)
          · refine Ew_of (pcₚ := 51) (fun _ => x_bipush (z := -51) rfl (by decide)) ?_
            exact w_ireturn rfl (k ((-51)) _ _ _ H O (cF16) (cA16) (show inr ((-51)) from q_2049))
          · refine Ew_of (pcₚ := 45) (fun _ => x_iload rfl rk_s) ?_
            refine Ew_of (pcₚ := 46) (fun _ => x_iconst rfl) ?_
            refine w_icmpne (t := 52) rfl rfl (show inr (z16) from pz16_0) (show inr (5) from q_509) (fun b18 => ?_) (fun b18 => ?_)
            · refine Ew_of (pcₚ := 53) (fun _ => x_aload_n rfl (rk_o (rfl) rfl rfl)) ?_
              refine Ew_of (pcₚ := 54) (fun _ => x_iload_n rfl (rk_o (rfl) rfl rfl)) ?_
              refine Ew_of (pcₚ := 55) (fun _ => x_aload_n rfl (rk_o (rfl) rfl rfl)) ?_
              refine Ew_of (pcₚ := 56) (fun _ => x_aload_n rfl (rk_o (rfl) rfl rfl)) ?_
              refine v_g H (o := 0) (v := .ref (D 1)) rfl rfl rfl rfl rfl (vrf ((mF16 0 0 rfl).trans (pf1))) ?_
              refine Ew_of (pcₚ := 60) (fun _ => x_iload_n rfl (rk_o (rfl) rfl rfl)) ?_
              refine v_lR H (o := 1) rfl rfl rfl rfl rfl (n := n1) (en1) (show 0 ≤ 1 ∧ 1 < n1 from q_4310 (HIDe r5) h3) (z := ((D 4 : Nat) : Int)) (v := .ref (D 4)) ((mA16 1 rfl 1).trans (pf4)) (vrf rfl) ?_
              refine Ew_of (pcₚ := 63) (fun _ => x_iload rfl rk_s) ?_
              refine Ew_of (pcₚ := 64) (fun _ => x_iload_n rfl (rk_o (rfl) rfl rfl)) ?_
              refine Ew_of (pcₚ := 65) (fun _ => x_aload_n rfl (rk_o (rfl) rfl rfl)) ?_
              refine v_g H (o := 0) (v := .ref (D 10)) rfl rfl rfl rfl rfl (vrf ((mF16 0 14 rfl).trans (pf10))) ?_
              exact hc68 (a1) (z16) (a3) _ _ _ _   H O (SF_trans (SF_trans (SF_trans (SF_refl) (SF_gluc (ι := oz_T9clsl_1) oz_T9cls_4 hS10 eF10 (by decide +kernel)) (any_sub (lₚ := []) (by decide +kernel))) (SF_gluc (ι := oz_T9clsl_1) oz_T9cls_4 hS12 eF12 (by decide +kernel)) (any_sub (lₚ := []) (by decide +kernel))) (SF_gluc (ι := oz_T9clsl_3) oz_T9cls_16 hS16 eF16 (by decide +kernel)) (any_sub (lₚ := []) (by decide +kernel))) (SA_trans (SA_trans (SA_trans (SA_refl) (SA_gluc (ι := oz_T9clsl_1) oz_T9cls_4 hA10 eA10 (by decide +kernel)) (any_subA (lₚ := []) (by decide +kernel))) (SA_gluc (ι := oz_T9clsl_1) oz_T9cls_4 hA12 eA12 (by decide +kernel)) (any_subA (lₚ := []) (by decide +kernel))) (SA_gluc (ι := oz_T9clsl_3) oz_T9cls_16 hA16 eA16 (by decide +kernel)) (any_subA (lₚ := []) (by decide +kernel)))     (show inr (a1) from h0) (show inr (z16) from pz16_0) (show inr (a3) from h2) (show 0 ≤ (a1) ∧ (a1) ≤ 3 by omega) (show (z16) = 1 ∨ (z16) = 3 ∨ (z16) = 4 by omega) (show 0 ≤ (a3) ∧ (a3) ≤ 65536 from q_4337 b14 b15)
            · refine Ew_of (pcₚ := 51) (fun _ => x_bipush (z := -51) rfl (by decide)) ?_
              exact w_ireturn rfl (k ((-51)) _ _ _ H O (cF16) (cA16) (show inr ((-51)) from q_2049))
        · refine Ew_of (pcₚ := 26) (fun _ => x_bipush (z := -50) rfl (by decide)) ?_
          exact w_ireturn rfl (k ((-50)) _ _ _ H O (cF12) (cA12) (show inr ((-50)) from q_2016))
abbrev V15_c11_va : vV := [(0, 0, [(4, 0), (4, 0), (4, 0), (4, 0), (4, 0), (4, 0), (4, 0), (4, 0), (4, 0), (4, 0), (4, 0), (4, 0), (4, 0), (4, 0), (4, 0), (4, 0), (4, 0), (0, 0), (0, 0)]), (1, 4, []), (0, 7, [(4, 0), (0, 0), (1, 0), (0, 0), (0, 0)]), (1, 0, []), (0, 7, [(4, 0), (0, 0), (1, 0), (0, 0), (0, 0)]), (1, 0, []), (0, 7, [(4, 0), (0, 0), (1, 0), (0, 0), (0, 0)]), (1, 0, []), (0, 7, [(4, 0), (0, 0), (1, 0), (0, 0), (0, 0)]), (1, 0, []), (0, 4, [(4, 0), (4, 0), (0, 0), (4, 0), (4, 0)])]
theorem len_V15_c11_va_oz_T9cls : (V15_c11_va).length = 11 := by decide +kernel
theorem oz_T9cls_18 : vsub V15_c11_va V24 [] = true := by decide +kernel
/-- PackHouse.learn: this, this.rows, this.rows.0, this.rows.0.bytes, this.rows.1, this.rows.1.bytes, this.rows.2, this.rows.2.bytes, this.rows.3, this.rows.3.bytes, this.otherDictionary -/
theorem C15_c11_va {σE : rS} {D N : Nat → Nat} {F : hF} {A : hA} {d c s : Nat} {Q : wQ} (H : HW V15_c11_va σE D N F A)  (pf1 : HID (F 0 0 = (D 1 : Int))) (pf2 : HID (A 1 0 = (D 2 : Int))) (pf3 : HID (F 2 0 = (D 3 : Int))) (pf4 : HID (A 1 1 = (D 4 : Int))) (pf5 : HID (F 4 0 = (D 5 : Int))) (pf6 : HID (A 1 2 = (D 6 : Int))) (pf7 : HID (F 6 0 = (D 7 : Int))) (pf8 : HID (A 1 3 = (D 8 : Int))) (pf9 : HID (F 8 0 = (D 9 : Int))) (pf10 : HID (F 0 4 = (D 10 : Int))) (n1 : Int) (en1 : HID ((N 1 : Int) = n1)) (n3 : Int) (en3 : HID ((N 3 : Int) = n3)) (n5 : Int) (en5 : HID ((N 5 : Int) = n5)) (n7 : Int) (en7 : HID ((N 7 : Int) = n7)) (n9 : Int) (en9 : HID ((N 9 : Int) = n9)) (u2_1 : Int) (eu2_1 : HID (F 2 1 = u2_1)) (u4_1 : Int) (eu4_1 : HID (F 4 1 = u4_1)) (u6_1 : Int) (eu6_1 : HID (F 6 1 = u6_1)) (u8_1 : Int) (eu8_1 : HID (F 8 1 = u8_1)) (h0 : inr (1)) (h1 : (n1) = 4) (h2 : 0 ≤ (u2_1) ∧ (u2_1) ≤ (n3) ∧ (n3) ≤ 65536) (h3 : 0 ≤ (u4_1) ∧ (u4_1) ≤ (n5) ∧ (n5) ≤ 65536) (h4 : 0 ≤ (u6_1) ∧ (u6_1) ≤ (n7) ∧ (n7) ≤ 65536) (h5 : 0 ≤ (u8_1) ∧ (u8_1) ≤ (n9) ∧ (n9) ≤ 65536) (hc20 : ∀ (ls : rO) (σ : rS) (F_c20 : hF) (A_c20 : hA) , rlook ls 0 = some (.ref (D 0)) → HW V15_c11_va σ D N F_c20 A_c20 → OUT (V15_c11_va).length D N σE c s D N σ c s → SF [] F F_c20 → SA [] A A_c20 → Ew 15 (d + 1) 20 ls [.ref (D 4), .ref (D 10)] σ c s Q) (k : ∀ (z : Int) (σ : rS) (Fₚ : hF) (Aₚ : hA), HW V15_c11_va σ D N Fₚ Aₚ → OUT (V15_c11_va).length D N σE c s D N σ c s → SF [] F Fₚ → SA [] A Aₚ → (inr (z)) → Q (some (I z)) σ c s) : Ew 15 (d + 1) 0 (rargs 0 [.ref (D 0), I 1]) [] σE c s Q := by
  have O := OUT_refl (n := (V15_c11_va).length) (D := D) (N := N) (σ := σE) (c := c) (s := s)
  have HE := H
  have r5 : HID ((0 : Int) ≤ n1 ∧ n1 ≤ 1000000) := nrng (H.nle 1 (ltn len_V15_c11_va_oz_T9cls rfl)) (show (N 1 : Int) = n1 from en1)
  refine Ew_of (pcₚ := 1) (fun _ => x_iload_n rfl rfl) ?_
  refine w_stat24 rfl rfl (by rfl) (C24 (D := puc 0 D) (N := puc 0 N) (HW_subc H oz_T9cls_18 oz_T9cls_4) (show inr (1) from h0) (fun z10 σ10 F10ₚ A10ₚ Hₚ Oₚ hS10 hA10 pz10_0 pz10_1 => ⟨rretB rfl pz10_0, ?_⟩))
  refine v_backc (c := c) (s := s) H oz_T9cls_18 oz_T9cls_4 Hₚ Oₚ (fun F10 A10 H Oₚ eF10 eA10 => ?_)
  have O := OUT_trans O Oₚ
  -- PackHouse.isRow
  have cF10 : SF oz_T9clsl_0 F F10 := SF_trans (SF_refl) (SF_gluc (ι := oz_T9clsl_1) oz_T9cls_4 hS10 eF10 (by decide +kernel)) (any_sub (lₚ := []) (by decide +kernel))
  have mF10 := SFm_of cF10 oz_T9cls_2
  have cA10 : SA oz_T9clsl_1 A A10 := SA_trans (SA_refl) (SA_gluc (ι := oz_T9clsl_1) oz_T9cls_4 hA10 eA10 (by decide +kernel)) (any_subA (lₚ := []) (by decide +kernel))
  have mA10 := SAm_of cA10 oz_T9cls_3
  refine w_ifne (t := 10) rfl rfl (show inr (z10) from q_15 pz10_0) (fun b11 => ?_) (fun b11 => ?_)
  · refine Ew_of (pcₚ := 11) (fun _ => x_aload_n rfl rfl) ?_
    refine v_g H (o := 0) (v := .ref (D 10)) rfl rfl rfl rfl rfl (vrf ((mF10 0 4 rfl).trans (pf10))) ?_
    refine Ew_of (pcₚ := 15) (fun _ => x_aload_n rfl rfl) ?_
    refine v_g H (o := 0) (v := .ref (D 1)) rfl rfl rfl rfl rfl (vrf ((mF10 0 0 rfl).trans (pf1))) ?_
    refine Ew_of (pcₚ := 19) (fun _ => x_iload_n rfl rfl) ?_
    refine v_lR H (o := 1) rfl rfl rfl rfl rfl (n := n1) (en1) (show 0 ≤ 1 ∧ 1 < n1 from q_4310 (HIDe r5) h1) (z := ((D 4 : Nat) : Int)) (v := .ref (D 4)) ((mA10 1 rfl 1).trans (pf4)) (vrf rfl) ?_
    exact hc20  _ _ _ _  (rfl) H O (SF_trans (SF_refl) (SF_gluc (ι := oz_T9clsl_1) oz_T9cls_4 hS10 eF10 (by decide +kernel)) (any_sub (lₚ := []) (by decide +kernel))) (SA_trans (SA_refl) (SA_gluc (ι := oz_T9clsl_1) oz_T9cls_4 hA10 eA10 (by decide +kernel)) (any_subA (lₚ := []) (by decide +kernel)))     
  · refine Ew_of (pcₚ := 9) (fun _ => x_bipush (z := -5) rfl (by decide)) ?_
    exact w_ireturn rfl (k ((-5)) _ _ _ H O (cF10) (cA10) (show inr ((-5)) from q_2007))
abbrev V18_c22_va : vV := [(0, 0, [(4, 0), (4, 0), (4, 0), (4, 0), (4, 0), (4, 0), (4, 0), (4, 0), (4, 0), (4, 0), (4, 0), (4, 0), (4, 0), (4, 0), (4, 0), (4, 0), (4, 0), (0, 0), (0, 0)]), (1, 4, []), (0, 7, [(4, 0), (0, 0), (1, 0), (0, 0), (0, 0)]), (1, 0, []), (0, 7, [(4, 0), (0, 0), (1, 0), (0, 0), (0, 0)]), (1, 0, []), (0, 7, [(4, 0), (0, 0), (1, 0), (0, 0), (0, 0)]), (1, 0, []), (0, 7, [(4, 0), (0, 0), (1, 0), (0, 0), (0, 0)]), (1, 0, []), (1, 1, [])]
theorem len_V18_c22_va_oz_T9cls : (V18_c22_va).length = 11 := by decide +kernel
theorem oz_T9cls_20 : vsub V18_c22_va V24 [] = true := by decide +kernel
/-- PackHouse.read: this, this.rows, this.rows.0, this.rows.0.bytes, this.rows.1, this.rows.1.bytes, this.rows.2, this.rows.2.bytes, this.rows.3, this.rows.3.bytes, this.readCounts -/
theorem C18_c22_va {σE : rS} {D N : Nat → Nat} {F : hF} {A : hA} {d c s : Nat} {Q : wQ} (H : HW V18_c22_va σE D N F A) {a1 a3 a4 : Int} (pf1 : HID (F 0 0 = (D 1 : Int))) (pf2 : HID (A 1 0 = (D 2 : Int))) (pf3 : HID (F 2 0 = (D 3 : Int))) (pf4 : HID (A 1 1 = (D 4 : Int))) (pf5 : HID (F 4 0 = (D 5 : Int))) (pf6 : HID (A 1 2 = (D 6 : Int))) (pf7 : HID (F 6 0 = (D 7 : Int))) (pf8 : HID (A 1 3 = (D 8 : Int))) (pf9 : HID (F 8 0 = (D 9 : Int))) (pf10 : HID (F 0 14 = (D 10 : Int))) (n1 : Int) (en1 : HID ((N 1 : Int) = n1)) (n3 : Int) (en3 : HID ((N 3 : Int) = n3)) (n5 : Int) (en5 : HID ((N 5 : Int) = n5)) (n7 : Int) (en7 : HID ((N 7 : Int) = n7)) (n9 : Int) (en9 : HID ((N 9 : Int) = n9)) (n10 : Int) (en10 : HID ((N 10 : Int) = n10)) (u2_1 : Int) (eu2_1 : HID (F 2 1 = u2_1)) (u4_1 : Int) (eu4_1 : HID (F 4 1 = u4_1)) (u6_1 : Int) (eu6_1 : HID (F 6 1 = u6_1)) (u8_1 : Int) (eu8_1 : HID (F 8 1 = u8_1)) (h0 : inr (a1)) (h1 : inr (2)) (h2 : inr (a3)) (h3 : inr (a4)) (h4 : (n1) = 4) (h5 : 0 ≤ (u2_1) ∧ (u2_1) ≤ (n3) ∧ (n3) ≤ 65536) (h6 : 0 ≤ (u4_1) ∧ (u4_1) ≤ (n5) ∧ (n5) ≤ 65536) (h7 : 0 ≤ (u6_1) ∧ (u6_1) ≤ (n7) ∧ (n7) ≤ 65536) (h8 : 0 ≤ (u8_1) ∧ (u8_1) ≤ (n9) ∧ (n9) ≤ 65536) (hc54 : ∀ (tc54_1 : Int), ∀ (tc54_4 : Int), ∀ (tc54_5 : Int), ∀ (ls : rO) (σ : rS) (F_c54 : hF) (A_c54 : hA) , HW V18_c22_va σ D N F_c54 A_c54 → OUT (V18_c22_va).length D N σE c s D N σ c s → SF [] F F_c54 → SA [] A A_c54 → (inr (tc54_1)) → (inr (tc54_4)) → (inr (tc54_5)) → (0 ≤ (tc54_1) ∧ (tc54_1) ≤ 3) → (0 ≤ (tc54_4) ∧ (tc54_4) ≤ 4) → (0 ≤ (tc54_5) ∧ (tc54_5) ≤ 65536) → Ew 18 (d + 1) 54 ls [.ref (D 10), I (tc54_5), I (tc54_4), .ref (D 6), .ref (D 0), I (tc54_1), .ref (D 0)] σ c s Q) (k : ∀ (z : Int) (σ : rS) (Fₚ : hF) (Aₚ : hA), HW V18_c22_va σ D N Fₚ Aₚ → OUT (V18_c22_va).length D N σE c s D N σ c s → SF [] F Fₚ → SA [] A Aₚ → (inr (z)) → Q (some (I z)) σ c s) : Ew 18 (d + 1) 0 (rargs 0 [.ref (D 0), I a1, I 2, I a3, I a4]) [] σE c s Q := by
  have O := OUT_refl (n := (V18_c22_va).length) (D := D) (N := N) (σ := σE) (c := c) (s := s)
  have HE := H
  have r5 : HID ((0 : Int) ≤ n1 ∧ n1 ≤ 1000000) := nrng (H.nle 1 (ltn len_V18_c22_va_oz_T9cls rfl)) (show (N 1 : Int) = n1 from en1)
  refine Ew_of (pcₚ := 1) (fun _ => x_iload_n rfl rfl) ?_
  refine w_stat24 rfl rfl (by rfl) (C24 (D := puc 0 D) (N := puc 0 N) (HW_subc H oz_T9cls_20 oz_T9cls_4) (show inr (a1) from h0) (fun z10 σ10 F10ₚ A10ₚ Hₚ Oₚ hS10 hA10 pz10_0 pz10_1 => ⟨rretB rfl pz10_0, ?_⟩))
  refine v_backc (c := c) (s := s) H oz_T9cls_20 oz_T9cls_4 Hₚ Oₚ (fun F10 A10 H Oₚ eF10 eA10 => ?_)
  have O := OUT_trans O Oₚ
  -- PackHouse.isRow
  have cF10 : SF oz_T9clsl_0 F F10 := SF_trans (SF_refl) (SF_gluc (ι := oz_T9clsl_1) oz_T9cls_4 hS10 eF10 (by decide +kernel)) (any_sub (lₚ := []) (by decide +kernel))
  have mF10 := SFm_of cF10 oz_T9cls_2
  have cA10 : SA oz_T9clsl_1 A A10 := SA_trans (SA_refl) (SA_gluc (ι := oz_T9clsl_1) oz_T9cls_4 hA10 eA10 (by decide +kernel)) (any_subA (lₚ := []) (by decide +kernel))
  have mA10 := SAm_of cA10 oz_T9cls_3
  refine w_ifeq (t := 35) rfl rfl (show inr (z10) from q_15 pz10_0) (fun b11 => ?_) (fun b11 => ?_)
  · refine Ew_of (pcₚ := 37) (fun _ => x_bipush (z := -50) rfl (by decide)) ?_
    exact w_ireturn rfl (k ((-50)) _ _ _ H O (cF10) (cA10) (show inr ((-50)) from q_2016))
  · refine Ew_of (pcₚ := 8) (fun _ => x_iload_n rfl rfl) ?_
    refine w_stat24 rfl rfl (by rfl) (C24 (D := puc 0 D) (N := puc 0 N) (HW_subc H oz_T9cls_20 oz_T9cls_4) (show inr (2) from h1) (fun z12 σ12 F12ₚ A12ₚ Hₚ Oₚ hS12 hA12 pz12_0 pz12_1 => ⟨rretB rfl pz12_0, ?_⟩))
    refine v_backc (c := c) (s := s) H oz_T9cls_20 oz_T9cls_4 Hₚ Oₚ (fun F12 A12 H Oₚ eF12 eA12 => ?_)
    have O := OUT_trans O Oₚ
    -- PackHouse.isRow
    have cF12 : SF oz_T9clsl_0 F F12 := SF_trans (cF10) (SF_gluc (ι := oz_T9clsl_1) oz_T9cls_4 hS12 eF12 (by decide +kernel)) (any_sub (lₚ := []) (by decide +kernel))
    have mF12 := SFm_of cF12 oz_T9cls_2
    have cA12 : SA oz_T9clsl_1 A A12 := SA_trans (cA10) (SA_gluc (ι := oz_T9clsl_1) oz_T9cls_4 hA12 eA12 (by decide +kernel)) (any_subA (lₚ := []) (by decide +kernel))
    have mA12 := SAm_of cA12 oz_T9cls_3
    refine w_ifeq (t := 35) rfl rfl (show inr (z12) from q_15 pz12_0) (fun b13 => ?_) (fun b13 => ?_)
    · refine Ew_of (pcₚ := 37) (fun _ => x_bipush (z := -50) rfl (by decide)) ?_
      exact w_ireturn rfl (k ((-50)) _ _ _ H O (cF12) (cA12) (show inr ((-50)) from q_2016))
    · refine Ew_of (pcₚ := 15) (fun _ => x_iload_n rfl rfl) ?_
      refine w_iflt (t := 35) rfl rfl (show inr (a3) from h2) (fun b14 => ?_) (fun b14 => ?_)
      · refine Ew_of (pcₚ := 37) (fun _ => x_bipush (z := -50) rfl (by decide)) ?_
        exact w_ireturn rfl (k ((-50)) _ _ _ H O (cF12) (cA12) (show inr ((-50)) from q_2016))
      · refine Ew_of (pcₚ := 19) (fun _ => x_iload_n rfl rfl) ?_
        refine Ew_of (pcₚ := 20) (fun _ => x_iconst rfl) ?_
        refine w_icmpgt (t := 35) rfl rfl (show inr (a3) from h2) (show inr (4) from q_2) (fun b15 => ?_) (fun b15 => ?_)
        · refine Ew_of (pcₚ := 37) (fun _ => x_bipush (z := -50) rfl (by decide)) ?_
          exact w_ireturn rfl (k ((-50)) _ _ _ H O (cF12) (cA12) (show inr ((-50)) from q_2016))
        · refine Ew_of (pcₚ := 25) (fun _ => x_iload rfl rfl) ?_
          refine w_iflt (t := 35) rfl rfl (show inr (a4) from h3) (fun b16 => ?_) (fun b16 => ?_)
          · refine Ew_of (pcₚ := 37) (fun _ => x_bipush (z := -50) rfl (by decide)) ?_
            exact w_ireturn rfl (k ((-50)) _ _ _ H O (cF12) (cA12) (show inr ((-50)) from q_2016))
          · refine Ew_of (pcₚ := 30) (fun _ => x_iload rfl rfl) ?_
            refine Ew_of (pcₚ := 32) (fun _ => x_ldc (z := 65536) rfl (by decide)) ?_
            refine w_icmple (t := 38) rfl rfl (show inr (a4) from h3) (show inr (65536) from q_35) (fun b17 => ?_) (fun b17 => ?_)
            · refine Ew_of (pcₚ := 39) (fun _ => x_aload_n rfl rfl) ?_
              refine Ew_of (pcₚ := 40) (fun _ => x_iload_n rfl rfl) ?_
              refine Ew_of (pcₚ := 41) (fun _ => x_aload_n rfl rfl) ?_
              refine Ew_of (pcₚ := 42) (fun _ => x_aload_n rfl rfl) ?_
              refine v_g H (o := 0) (v := .ref (D 1)) rfl rfl rfl rfl rfl (vrf ((mF12 0 0 rfl).trans (pf1))) ?_
              refine Ew_of (pcₚ := 46) (fun _ => x_iload_n rfl rfl) ?_
              refine v_lR H (o := 1) rfl rfl rfl rfl rfl (n := n1) (en1) (show 0 ≤ 2 ∧ 2 < n1 from q_4311 (HIDe r5) h4) (z := ((D 6 : Nat) : Int)) (v := .ref (D 6)) ((mA12 1 rfl 2).trans (pf6)) (vrf rfl) ?_
              refine Ew_of (pcₚ := 48) (fun _ => x_iload_n rfl rfl) ?_
              refine Ew_of (pcₚ := 50) (fun _ => x_iload rfl rfl) ?_
              refine Ew_of (pcₚ := 51) (fun _ => x_aload_n rfl rfl) ?_
              refine v_g H (o := 0) (v := .ref (D 10)) rfl rfl rfl rfl rfl (vrf ((mF12 0 14 rfl).trans (pf10))) ?_
              exact hc54 (a1) (a3) (a4) _ _ _ _   H O (SF_trans (SF_trans (SF_refl) (SF_gluc (ι := oz_T9clsl_1) oz_T9cls_4 hS10 eF10 (by decide +kernel)) (any_sub (lₚ := []) (by decide +kernel))) (SF_gluc (ι := oz_T9clsl_1) oz_T9cls_4 hS12 eF12 (by decide +kernel)) (any_sub (lₚ := []) (by decide +kernel))) (SA_trans (SA_trans (SA_refl) (SA_gluc (ι := oz_T9clsl_1) oz_T9cls_4 hA10 eA10 (by decide +kernel)) (any_subA (lₚ := []) (by decide +kernel))) (SA_gluc (ι := oz_T9clsl_1) oz_T9cls_4 hA12 eA12 (by decide +kernel)) (any_subA (lₚ := []) (by decide +kernel)))     (show inr (a1) from h0) (show inr (a3) from h2) (show inr (a4) from h3) (show 0 ≤ (a1) ∧ (a1) ≤ 3 by omega) (show 0 ≤ (a3) ∧ (a3) ≤ 4 from q_4338 b14 b15) (show 0 ≤ (a4) ∧ (a4) ≤ 65536 from q_4337 b16 b17)
            · refine Ew_of (pcₚ := 37) (fun _ => x_bipush (z := -50) rfl (by decide)) ?_
              exact w_ireturn rfl (k ((-50)) _ _ _ H O (cF12) (cA12) (show inr ((-50)) from q_2016))
abbrev V20_c22_va : vV := [(0, 0, [(4, 0), (4, 0), (4, 0), (4, 0), (4, 0), (4, 0), (4, 0), (4, 0), (4, 0), (4, 0), (4, 0), (4, 0), (4, 0), (4, 0), (4, 0), (4, 0), (4, 0), (0, 0), (0, 0)]), (1, 4, []), (0, 7, [(4, 0), (0, 0), (1, 0), (0, 0), (0, 0)]), (1, 0, []), (0, 7, [(4, 0), (0, 0), (1, 0), (0, 0), (0, 0)]), (1, 0, []), (0, 7, [(4, 0), (0, 0), (1, 0), (0, 0), (0, 0)]), (1, 0, []), (0, 7, [(4, 0), (0, 0), (1, 0), (0, 0), (0, 0)]), (1, 0, []), (1, 1, [])]
theorem len_V20_c22_va_oz_T9cls : (V20_c22_va).length = 11 := by decide +kernel
theorem oz_T9cls_22 : vsub V20_c22_va V24 [] = true := by decide +kernel
theorem oz_T9cls_23 : vsub V20_c22_va V33_Row [6, 7] = true := by decide +kernel
def oz_T9clsl_4 : List Nat := [6, 7]
theorem oz_T9cls_24 : okc oz_T9clsl_4 3590 = true := by decide +kernel
/-- PackHouse.open: this, this.rows, this.rows.0, this.rows.0.bytes, this.rows.1, this.rows.1.bytes, this.rows.2, this.rows.2.bytes, this.rows.3, this.rows.3.bytes, this.readCounts -/
theorem C20_c22_va {σE : rS} {D N : Nat → Nat} {F : hF} {A : hA} {d c s : Nat} {Q : wQ} (H : HW V20_c22_va σE D N F A) (HT : STC σE) {a1 a3 : Int} (pf1 : HID (F 0 0 = (D 1 : Int))) (pf2 : HID (A 1 0 = (D 2 : Int))) (pf3 : HID (F 2 0 = (D 3 : Int))) (pf4 : HID (A 1 1 = (D 4 : Int))) (pf5 : HID (F 4 0 = (D 5 : Int))) (pf6 : HID (A 1 2 = (D 6 : Int))) (pf7 : HID (F 6 0 = (D 7 : Int))) (pf8 : HID (A 1 3 = (D 8 : Int))) (pf9 : HID (F 8 0 = (D 9 : Int))) (pf10 : HID (F 0 14 = (D 10 : Int))) (n1 : Int) (en1 : HID ((N 1 : Int) = n1)) (n3 : Int) (en3 : HID ((N 3 : Int) = n3)) (n5 : Int) (en5 : HID ((N 5 : Int) = n5)) (n7 : Int) (en7 : HID ((N 7 : Int) = n7)) (n9 : Int) (en9 : HID ((N 9 : Int) = n9)) (n10 : Int) (en10 : HID ((N 10 : Int) = n10)) (u2_1 : Int) (eu2_1 : HID (F 2 1 = u2_1)) (u4_1 : Int) (eu4_1 : HID (F 4 1 = u4_1)) (u6_1 : Int) (eu6_1 : HID (F 6 1 = u6_1)) (u8_1 : Int) (eu8_1 : HID (F 8 1 = u8_1)) (h0 : inr (a1)) (h1 : inr (2)) (h2 : inr (a3)) (h3 : (n1) = 4) (h4 : 0 ≤ (u2_1) ∧ (u2_1) ≤ (n3) ∧ (n3) ≤ 65536) (h5 : 0 ≤ (u4_1) ∧ (u4_1) ≤ (n5) ∧ (n5) ≤ 65536) (h6 : 0 ≤ (u6_1) ∧ (u6_1) ≤ (n7) ∧ (n7) ≤ 65536) (h7 : 0 ≤ (u8_1) ∧ (u8_1) ≤ (n9) ∧ (n9) ≤ 65536) (hc68 : ∀ (tc68_1 : Int), ∀ (tc68_4 : Int), ∀ (tc68_5 : Int), ∀ (ls : rO) (σ : rS) (F_c68 : hF) (A_c68 : hA) , HW V20_c22_va σ D N F_c68 A_c68 → OUT (V20_c22_va).length D N σE c s D N σ c s → SF [] F F_c68 → SA [] A A_c68 → (inr (tc68_1)) → (inr (tc68_4)) → (inr (tc68_5)) → (0 ≤ (tc68_1) ∧ (tc68_1) ≤ 3) → ((tc68_4) = 1 ∨ (tc68_4) = 3 ∨ (tc68_4) = 4) → (0 ≤ (tc68_5) ∧ (tc68_5) ≤ 65536) → Ew 20 (d + 3) 68 ls [.ref (D 10), I (tc68_5), I (tc68_4), .ref (D 6), .ref (D 0), I (tc68_1), .ref (D 0)] σ c s Q) (k : ∀ (z : Int) (σ : rS) (Fₚ : hF) (Aₚ : hA), HW V20_c22_va σ D N Fₚ Aₚ → OUT (V20_c22_va).length D N σE c s D N σ c s → SF [] F Fₚ → SA [] A Aₚ → (inr (z)) → Q (some (I z)) σ c s) : Ew 20 (d + 3) 0 (rargs 0 [.ref (D 0), I a1, I 2, I a3]) [] σE c s Q := by
  have O := OUT_refl (n := (V20_c22_va).length) (D := D) (N := N) (σ := σE) (c := c) (s := s)
  have HE := H
  have r5 : HID ((0 : Int) ≤ n1 ∧ n1 ≤ 1000000) := nrng (H.nle 1 (ltn len_V20_c22_va_oz_T9cls rfl)) (show (N 1 : Int) = n1 from en1)
  refine Ew_of (pcₚ := 1) (fun _ => x_iload_n rfl rfl) ?_
  refine w_stat24 rfl rfl (by rfl) (C24 (D := puc 0 D) (N := puc 0 N) (HW_subc H oz_T9cls_22 oz_T9cls_4) (show inr (a1) from h0) (fun z10 σ10 F10ₚ A10ₚ Hₚ Oₚ hS10 hA10 pz10_0 pz10_1 => ⟨rretB rfl pz10_0, ?_⟩))
  refine v_backc (c := c) (s := s) H oz_T9cls_22 oz_T9cls_4 Hₚ Oₚ (fun F10 A10 H Oₚ eF10 eA10 => ?_)
  have O := OUT_trans O Oₚ
  -- PackHouse.isRow
  have cF10 : SF oz_T9clsl_0 F F10 := SF_trans (SF_refl) (SF_gluc (ι := oz_T9clsl_1) oz_T9cls_4 hS10 eF10 (by decide +kernel)) (any_sub (lₚ := []) (by decide +kernel))
  have mF10 := SFm_of cF10 oz_T9cls_2
  have cA10 : SA oz_T9clsl_1 A A10 := SA_trans (SA_refl) (SA_gluc (ι := oz_T9clsl_1) oz_T9cls_4 hA10 eA10 (by decide +kernel)) (any_subA (lₚ := []) (by decide +kernel))
  have mA10 := SAm_of cA10 oz_T9cls_3
  refine w_ifeq (t := 24) rfl rfl (show inr (z10) from q_15 pz10_0) (fun b11 => ?_) (fun b11 => ?_)
  · refine Ew_of (pcₚ := 26) (fun _ => x_bipush (z := -50) rfl (by decide)) ?_
    exact w_ireturn rfl (k ((-50)) _ _ _ H O (cF10) (cA10) (show inr ((-50)) from q_2016))
  · refine Ew_of (pcₚ := 8) (fun _ => x_iload_n rfl rfl) ?_
    refine w_stat24 rfl rfl (by rfl) (C24 (D := puc 0 D) (N := puc 0 N) (HW_subc H oz_T9cls_22 oz_T9cls_4) (show inr (2) from h1) (fun z12 σ12 F12ₚ A12ₚ Hₚ Oₚ hS12 hA12 pz12_0 pz12_1 => ⟨rretB rfl pz12_0, ?_⟩))
    refine v_backc (c := c) (s := s) H oz_T9cls_22 oz_T9cls_4 Hₚ Oₚ (fun F12 A12 H Oₚ eF12 eA12 => ?_)
    have O := OUT_trans O Oₚ
    -- PackHouse.isRow
    have cF12 : SF oz_T9clsl_0 F F12 := SF_trans (cF10) (SF_gluc (ι := oz_T9clsl_1) oz_T9cls_4 hS12 eF12 (by decide +kernel)) (any_sub (lₚ := []) (by decide +kernel))
    have mF12 := SFm_of cF12 oz_T9cls_2
    have cA12 : SA oz_T9clsl_1 A A12 := SA_trans (cA10) (SA_gluc (ι := oz_T9clsl_1) oz_T9cls_4 hA12 eA12 (by decide +kernel)) (any_subA (lₚ := []) (by decide +kernel))
    have mA12 := SAm_of cA12 oz_T9cls_3
    refine w_ifeq (t := 24) rfl rfl (show inr (z12) from q_15 pz12_0) (fun b13 => ?_) (fun b13 => ?_)
    · refine Ew_of (pcₚ := 26) (fun _ => x_bipush (z := -50) rfl (by decide)) ?_
      exact w_ireturn rfl (k ((-50)) _ _ _ H O (cF12) (cA12) (show inr ((-50)) from q_2016))
    · refine Ew_of (pcₚ := 15) (fun _ => x_iload_n rfl rfl) ?_
      refine w_iflt (t := 24) rfl rfl (show inr (a3) from h2) (fun b14 => ?_) (fun b14 => ?_)
      · refine Ew_of (pcₚ := 26) (fun _ => x_bipush (z := -50) rfl (by decide)) ?_
        exact w_ireturn rfl (k ((-50)) _ _ _ H O (cF12) (cA12) (show inr ((-50)) from q_2016))
      · refine Ew_of (pcₚ := 19) (fun _ => x_iload_n rfl rfl) ?_
        refine Ew_of (pcₚ := 21) (fun _ => x_ldc (z := 65536) rfl (by decide)) ?_
        refine w_icmple (t := 27) rfl rfl (show inr (a3) from h2) (show inr (65536) from q_35) (fun b15 => ?_) (fun b15 => ?_)
        · refine Ew_of (pcₚ := 28) (fun _ => x_aload_n rfl rfl) ?_
          refine v_g H (o := 0) (v := .ref (D 1)) rfl rfl rfl rfl rfl (vrf ((mF12 0 0 rfl).trans (pf1))) ?_
          refine Ew_of (pcₚ := 32) (fun _ => x_iload_n rfl rfl) ?_
          refine v_lR H (o := 1) rfl rfl rfl rfl rfl (n := n1) (en1) (show 0 ≤ 2 ∧ 2 < n1 from q_4311 (HIDe r5) h3) (z := ((D 6 : Nat) : Int)) (v := .ref (D 6)) ((mA12 1 rfl 2).trans (pf6)) (vrf rfl) ?_
          refine w_stat24 rfl rfl (by rfl) (C33_Row (D := puc 3590 D) (N := puc 3590 N) (HW_subc H oz_T9cls_23 oz_T9cls_24) (STC_out HT HE O) ((mF12 6 0 rfl).trans (pf7)) (n7) (en7) (u6_1) (((mF12 6 1 rfl).trans (eu6_1))) (show 0 ≤ (u6_1) ∧ (u6_1) ≤ (n7) ∧ (n7) ≤ 65536 from h6) (fun z16 σ16 F16ₚ A16ₚ Hₚ Oₚ hS16 hA16 pz16_0 pz16_1 => ⟨rfl, ?_⟩))
          refine v_backc (c := c) (s := s) H oz_T9cls_23 oz_T9cls_24 Hₚ Oₚ (fun F16 A16 H Oₚ eF16 eA16 => ?_)
          have O := OUT_trans O Oₚ
          -- PackHouse.formatOf
          have cF16 : SF oz_T9clsl_0 F F16 := SF_trans (cF12) (SF_gluc (ι := oz_T9clsl_4) oz_T9cls_24 hS16 eF16 (by decide +kernel)) (any_sub (lₚ := []) (by decide +kernel))
          have mF16 := SFm_of cF16 oz_T9cls_2
          have cA16 : SA oz_T9clsl_1 A A16 := SA_trans (cA12) (SA_gluc (ι := oz_T9clsl_4) oz_T9cls_24 hA16 eA16 (by decide +kernel)) (any_subA (lₚ := []) (by decide +kernel))
          have mA16 := SAm_of cA16 oz_T9cls_3
          refine Ew_of (pcₚ := 38) (fun _ => x_istore rfl) ?_
          refine Ew_of (pcₚ := 40) (fun _ => x_iload rfl rk_s) ?_
          refine w_ifeq (t := 49) rfl rfl (show inr (z16) from pz16_0) (fun b17 => ?_) (fun b17 => ?_)
          · refine Ew_of (pcₚ := 51) (fun _ => x_bipush (z := -51) rfl (by decide)) ?_
            exact w_ireturn rfl (k ((-51)) _ _ _ H O (cF16) (cA16) (show inr ((-51)) from q_2049))
          · refine Ew_of (pcₚ := 45) (fun _ => x_iload rfl rk_s) ?_
            refine Ew_of (pcₚ := 46) (fun _ => x_iconst rfl) ?_
            refine w_icmpne (t := 52) rfl rfl (show inr (z16) from pz16_0) (show inr (5) from q_509) (fun b18 => ?_) (fun b18 => ?_)
            · refine Ew_of (pcₚ := 53) (fun _ => x_aload_n rfl (rk_o (rfl) rfl rfl)) ?_
              refine Ew_of (pcₚ := 54) (fun _ => x_iload_n rfl (rk_o (rfl) rfl rfl)) ?_
              refine Ew_of (pcₚ := 55) (fun _ => x_aload_n rfl (rk_o (rfl) rfl rfl)) ?_
              refine Ew_of (pcₚ := 56) (fun _ => x_aload_n rfl (rk_o (rfl) rfl rfl)) ?_
              refine v_g H (o := 0) (v := .ref (D 1)) rfl rfl rfl rfl rfl (vrf ((mF16 0 0 rfl).trans (pf1))) ?_
              refine Ew_of (pcₚ := 60) (fun _ => x_iload_n rfl (rk_o (rfl) rfl rfl)) ?_
              refine v_lR H (o := 1) rfl rfl rfl rfl rfl (n := n1) (en1) (show 0 ≤ 2 ∧ 2 < n1 from q_4311 (HIDe r5) h3) (z := ((D 6 : Nat) : Int)) (v := .ref (D 6)) ((mA16 1 rfl 2).trans (pf6)) (vrf rfl) ?_
              refine Ew_of (pcₚ := 63) (fun _ => x_iload rfl rk_s) ?_
              refine Ew_of (pcₚ := 64) (fun _ => x_iload_n rfl (rk_o (rfl) rfl rfl)) ?_
              refine Ew_of (pcₚ := 65) (fun _ => x_aload_n rfl (rk_o (rfl) rfl rfl)) ?_
              refine v_g H (o := 0) (v := .ref (D 10)) rfl rfl rfl rfl rfl (vrf ((mF16 0 14 rfl).trans (pf10))) ?_
              exact hc68 (a1) (z16) (a3) _ _ _ _   H O (SF_trans (SF_trans (SF_trans (SF_refl) (SF_gluc (ι := oz_T9clsl_1) oz_T9cls_4 hS10 eF10 (by decide +kernel)) (any_sub (lₚ := []) (by decide +kernel))) (SF_gluc (ι := oz_T9clsl_1) oz_T9cls_4 hS12 eF12 (by decide +kernel)) (any_sub (lₚ := []) (by decide +kernel))) (SF_gluc (ι := oz_T9clsl_4) oz_T9cls_24 hS16 eF16 (by decide +kernel)) (any_sub (lₚ := []) (by decide +kernel))) (SA_trans (SA_trans (SA_trans (SA_refl) (SA_gluc (ι := oz_T9clsl_1) oz_T9cls_4 hA10 eA10 (by decide +kernel)) (any_subA (lₚ := []) (by decide +kernel))) (SA_gluc (ι := oz_T9clsl_1) oz_T9cls_4 hA12 eA12 (by decide +kernel)) (any_subA (lₚ := []) (by decide +kernel))) (SA_gluc (ι := oz_T9clsl_4) oz_T9cls_24 hA16 eA16 (by decide +kernel)) (any_subA (lₚ := []) (by decide +kernel)))     (show inr (a1) from h0) (show inr (z16) from pz16_0) (show inr (a3) from h2) (show 0 ≤ (a1) ∧ (a1) ≤ 3 by omega) (show (z16) = 1 ∨ (z16) = 3 ∨ (z16) = 4 by omega) (show 0 ≤ (a3) ∧ (a3) ≤ 65536 from q_4337 b14 b15)
            · refine Ew_of (pcₚ := 51) (fun _ => x_bipush (z := -51) rfl (by decide)) ?_
              exact w_ireturn rfl (k ((-51)) _ _ _ H O (cF16) (cA16) (show inr ((-51)) from q_2049))
        · refine Ew_of (pcₚ := 26) (fun _ => x_bipush (z := -50) rfl (by decide)) ?_
          exact w_ireturn rfl (k ((-50)) _ _ _ H O (cF12) (cA12) (show inr ((-50)) from q_2016))
abbrev V15_c12_va : vV := [(0, 0, [(4, 0), (4, 0), (4, 0), (4, 0), (4, 0), (4, 0), (4, 0), (4, 0), (4, 0), (4, 0), (4, 0), (4, 0), (4, 0), (4, 0), (4, 0), (4, 0), (4, 0), (0, 0), (0, 0)]), (1, 4, []), (0, 7, [(4, 0), (0, 0), (1, 0), (0, 0), (0, 0)]), (1, 0, []), (0, 7, [(4, 0), (0, 0), (1, 0), (0, 0), (0, 0)]), (1, 0, []), (0, 7, [(4, 0), (0, 0), (1, 0), (0, 0), (0, 0)]), (1, 0, []), (0, 7, [(4, 0), (0, 0), (1, 0), (0, 0), (0, 0)]), (1, 0, []), (0, 4, [(4, 0), (4, 0), (0, 0), (4, 0), (4, 0)])]
theorem len_V15_c12_va_oz_T9cls : (V15_c12_va).length = 11 := by decide +kernel
theorem oz_T9cls_26 : vsub V15_c12_va V24 [] = true := by decide +kernel
/-- PackHouse.learn: this, this.rows, this.rows.0, this.rows.0.bytes, this.rows.1, this.rows.1.bytes, this.rows.2, this.rows.2.bytes, this.rows.3, this.rows.3.bytes, this.otherDictionary -/
theorem C15_c12_va {σE : rS} {D N : Nat → Nat} {F : hF} {A : hA} {d c s : Nat} {Q : wQ} (H : HW V15_c12_va σE D N F A)  (pf1 : HID (F 0 0 = (D 1 : Int))) (pf2 : HID (A 1 0 = (D 2 : Int))) (pf3 : HID (F 2 0 = (D 3 : Int))) (pf4 : HID (A 1 1 = (D 4 : Int))) (pf5 : HID (F 4 0 = (D 5 : Int))) (pf6 : HID (A 1 2 = (D 6 : Int))) (pf7 : HID (F 6 0 = (D 7 : Int))) (pf8 : HID (A 1 3 = (D 8 : Int))) (pf9 : HID (F 8 0 = (D 9 : Int))) (pf10 : HID (F 0 4 = (D 10 : Int))) (n1 : Int) (en1 : HID ((N 1 : Int) = n1)) (n3 : Int) (en3 : HID ((N 3 : Int) = n3)) (n5 : Int) (en5 : HID ((N 5 : Int) = n5)) (n7 : Int) (en7 : HID ((N 7 : Int) = n7)) (n9 : Int) (en9 : HID ((N 9 : Int) = n9)) (u2_1 : Int) (eu2_1 : HID (F 2 1 = u2_1)) (u4_1 : Int) (eu4_1 : HID (F 4 1 = u4_1)) (u6_1 : Int) (eu6_1 : HID (F 6 1 = u6_1)) (u8_1 : Int) (eu8_1 : HID (F 8 1 = u8_1)) (h0 : inr (2)) (h1 : (n1) = 4) (h2 : 0 ≤ (u2_1) ∧ (u2_1) ≤ (n3) ∧ (n3) ≤ 65536) (h3 : 0 ≤ (u4_1) ∧ (u4_1) ≤ (n5) ∧ (n5) ≤ 65536) (h4 : 0 ≤ (u6_1) ∧ (u6_1) ≤ (n7) ∧ (n7) ≤ 65536) (h5 : 0 ≤ (u8_1) ∧ (u8_1) ≤ (n9) ∧ (n9) ≤ 65536) (hc20 : ∀ (ls : rO) (σ : rS) (F_c20 : hF) (A_c20 : hA) , rlook ls 0 = some (.ref (D 0)) → HW V15_c12_va σ D N F_c20 A_c20 → OUT (V15_c12_va).length D N σE c s D N σ c s → SF [] F F_c20 → SA [] A A_c20 → Ew 15 (d + 1) 20 ls [.ref (D 6), .ref (D 10)] σ c s Q) (k : ∀ (z : Int) (σ : rS) (Fₚ : hF) (Aₚ : hA), HW V15_c12_va σ D N Fₚ Aₚ → OUT (V15_c12_va).length D N σE c s D N σ c s → SF [] F Fₚ → SA [] A Aₚ → (inr (z)) → Q (some (I z)) σ c s) : Ew 15 (d + 1) 0 (rargs 0 [.ref (D 0), I 2]) [] σE c s Q := by
  have O := OUT_refl (n := (V15_c12_va).length) (D := D) (N := N) (σ := σE) (c := c) (s := s)
  have HE := H
  have r5 : HID ((0 : Int) ≤ n1 ∧ n1 ≤ 1000000) := nrng (H.nle 1 (ltn len_V15_c12_va_oz_T9cls rfl)) (show (N 1 : Int) = n1 from en1)
  refine Ew_of (pcₚ := 1) (fun _ => x_iload_n rfl rfl) ?_
  refine w_stat24 rfl rfl (by rfl) (C24 (D := puc 0 D) (N := puc 0 N) (HW_subc H oz_T9cls_26 oz_T9cls_4) (show inr (2) from h0) (fun z10 σ10 F10ₚ A10ₚ Hₚ Oₚ hS10 hA10 pz10_0 pz10_1 => ⟨rretB rfl pz10_0, ?_⟩))
  refine v_backc (c := c) (s := s) H oz_T9cls_26 oz_T9cls_4 Hₚ Oₚ (fun F10 A10 H Oₚ eF10 eA10 => ?_)
  have O := OUT_trans O Oₚ
  -- PackHouse.isRow
  have cF10 : SF oz_T9clsl_0 F F10 := SF_trans (SF_refl) (SF_gluc (ι := oz_T9clsl_1) oz_T9cls_4 hS10 eF10 (by decide +kernel)) (any_sub (lₚ := []) (by decide +kernel))
  have mF10 := SFm_of cF10 oz_T9cls_2
  have cA10 : SA oz_T9clsl_1 A A10 := SA_trans (SA_refl) (SA_gluc (ι := oz_T9clsl_1) oz_T9cls_4 hA10 eA10 (by decide +kernel)) (any_subA (lₚ := []) (by decide +kernel))
  have mA10 := SAm_of cA10 oz_T9cls_3
  refine w_ifne (t := 10) rfl rfl (show inr (z10) from q_15 pz10_0) (fun b11 => ?_) (fun b11 => ?_)
  · refine Ew_of (pcₚ := 11) (fun _ => x_aload_n rfl rfl) ?_
    refine v_g H (o := 0) (v := .ref (D 10)) rfl rfl rfl rfl rfl (vrf ((mF10 0 4 rfl).trans (pf10))) ?_
    refine Ew_of (pcₚ := 15) (fun _ => x_aload_n rfl rfl) ?_
    refine v_g H (o := 0) (v := .ref (D 1)) rfl rfl rfl rfl rfl (vrf ((mF10 0 0 rfl).trans (pf1))) ?_
    refine Ew_of (pcₚ := 19) (fun _ => x_iload_n rfl rfl) ?_
    refine v_lR H (o := 1) rfl rfl rfl rfl rfl (n := n1) (en1) (show 0 ≤ 2 ∧ 2 < n1 from q_4311 (HIDe r5) h1) (z := ((D 6 : Nat) : Int)) (v := .ref (D 6)) ((mA10 1 rfl 2).trans (pf6)) (vrf rfl) ?_
    exact hc20  _ _ _ _  (rfl) H O (SF_trans (SF_refl) (SF_gluc (ι := oz_T9clsl_1) oz_T9cls_4 hS10 eF10 (by decide +kernel)) (any_sub (lₚ := []) (by decide +kernel))) (SA_trans (SA_refl) (SA_gluc (ι := oz_T9clsl_1) oz_T9cls_4 hA10 eA10 (by decide +kernel)) (any_subA (lₚ := []) (by decide +kernel)))     
  · refine Ew_of (pcₚ := 9) (fun _ => x_bipush (z := -5) rfl (by decide)) ?_
    exact w_ireturn rfl (k ((-5)) _ _ _ H O (cF10) (cA10) (show inr ((-5)) from q_2007))
abbrev V18_c23_va : vV := [(0, 0, [(4, 0), (4, 0), (4, 0), (4, 0), (4, 0), (4, 0), (4, 0), (4, 0), (4, 0), (4, 0), (4, 0), (4, 0), (4, 0), (4, 0), (4, 0), (4, 0), (4, 0), (0, 0), (0, 0)]), (1, 4, []), (0, 7, [(4, 0), (0, 0), (1, 0), (0, 0), (0, 0)]), (1, 0, []), (0, 7, [(4, 0), (0, 0), (1, 0), (0, 0), (0, 0)]), (1, 0, []), (0, 7, [(4, 0), (0, 0), (1, 0), (0, 0), (0, 0)]), (1, 0, []), (0, 7, [(4, 0), (0, 0), (1, 0), (0, 0), (0, 0)]), (1, 0, []), (1, 1, [])]
theorem len_V18_c23_va_oz_T9cls : (V18_c23_va).length = 11 := by decide +kernel
theorem oz_T9cls_28 : vsub V18_c23_va V24 [] = true := by decide +kernel
/-- PackHouse.read: this, this.rows, this.rows.0, this.rows.0.bytes, this.rows.1, this.rows.1.bytes, this.rows.2, this.rows.2.bytes, this.rows.3, this.rows.3.bytes, this.readCounts -/
theorem C18_c23_va {σE : rS} {D N : Nat → Nat} {F : hF} {A : hA} {d c s : Nat} {Q : wQ} (H : HW V18_c23_va σE D N F A) {a1 a3 a4 : Int} (pf1 : HID (F 0 0 = (D 1 : Int))) (pf2 : HID (A 1 0 = (D 2 : Int))) (pf3 : HID (F 2 0 = (D 3 : Int))) (pf4 : HID (A 1 1 = (D 4 : Int))) (pf5 : HID (F 4 0 = (D 5 : Int))) (pf6 : HID (A 1 2 = (D 6 : Int))) (pf7 : HID (F 6 0 = (D 7 : Int))) (pf8 : HID (A 1 3 = (D 8 : Int))) (pf9 : HID (F 8 0 = (D 9 : Int))) (pf10 : HID (F 0 14 = (D 10 : Int))) (n1 : Int) (en1 : HID ((N 1 : Int) = n1)) (n3 : Int) (en3 : HID ((N 3 : Int) = n3)) (n5 : Int) (en5 : HID ((N 5 : Int) = n5)) (n7 : Int) (en7 : HID ((N 7 : Int) = n7)) (n9 : Int) (en9 : HID ((N 9 : Int) = n9)) (n10 : Int) (en10 : HID ((N 10 : Int) = n10)) (u2_1 : Int) (eu2_1 : HID (F 2 1 = u2_1)) (u4_1 : Int) (eu4_1 : HID (F 4 1 = u4_1)) (u6_1 : Int) (eu6_1 : HID (F 6 1 = u6_1)) (u8_1 : Int) (eu8_1 : HID (F 8 1 = u8_1)) (h0 : inr (a1)) (h1 : inr (3)) (h2 : inr (a3)) (h3 : inr (a4)) (h4 : (n1) = 4) (h5 : 0 ≤ (u2_1) ∧ (u2_1) ≤ (n3) ∧ (n3) ≤ 65536) (h6 : 0 ≤ (u4_1) ∧ (u4_1) ≤ (n5) ∧ (n5) ≤ 65536) (h7 : 0 ≤ (u6_1) ∧ (u6_1) ≤ (n7) ∧ (n7) ≤ 65536) (h8 : 0 ≤ (u8_1) ∧ (u8_1) ≤ (n9) ∧ (n9) ≤ 65536) (hc54 : ∀ (tc54_1 : Int), ∀ (tc54_4 : Int), ∀ (tc54_5 : Int), ∀ (ls : rO) (σ : rS) (F_c54 : hF) (A_c54 : hA) , HW V18_c23_va σ D N F_c54 A_c54 → OUT (V18_c23_va).length D N σE c s D N σ c s → SF [] F F_c54 → SA [] A A_c54 → (inr (tc54_1)) → (inr (tc54_4)) → (inr (tc54_5)) → (0 ≤ (tc54_1) ∧ (tc54_1) ≤ 3) → (0 ≤ (tc54_4) ∧ (tc54_4) ≤ 4) → (0 ≤ (tc54_5) ∧ (tc54_5) ≤ 65536) → Ew 18 (d + 1) 54 ls [.ref (D 10), I (tc54_5), I (tc54_4), .ref (D 8), .ref (D 0), I (tc54_1), .ref (D 0)] σ c s Q) (k : ∀ (z : Int) (σ : rS) (Fₚ : hF) (Aₚ : hA), HW V18_c23_va σ D N Fₚ Aₚ → OUT (V18_c23_va).length D N σE c s D N σ c s → SF [] F Fₚ → SA [] A Aₚ → (inr (z)) → Q (some (I z)) σ c s) : Ew 18 (d + 1) 0 (rargs 0 [.ref (D 0), I a1, I 3, I a3, I a4]) [] σE c s Q := by
  have O := OUT_refl (n := (V18_c23_va).length) (D := D) (N := N) (σ := σE) (c := c) (s := s)
  have HE := H
  refine Ew_of (pcₚ := 1) (fun _ => x_iload_n rfl rfl) ?_
  refine w_stat24 rfl rfl (by rfl) (C24 (D := puc 0 D) (N := puc 0 N) (HW_subc H oz_T9cls_28 oz_T9cls_4) (show inr (a1) from h0) (fun z10 σ10 F10ₚ A10ₚ Hₚ Oₚ hS10 hA10 pz10_0 pz10_1 => ⟨rretB rfl pz10_0, ?_⟩))
  refine v_backc (c := c) (s := s) H oz_T9cls_28 oz_T9cls_4 Hₚ Oₚ (fun F10 A10 H Oₚ eF10 eA10 => ?_)
  have O := OUT_trans O Oₚ
  -- PackHouse.isRow
  have cF10 : SF oz_T9clsl_0 F F10 := SF_trans (SF_refl) (SF_gluc (ι := oz_T9clsl_1) oz_T9cls_4 hS10 eF10 (by decide +kernel)) (any_sub (lₚ := []) (by decide +kernel))
  have mF10 := SFm_of cF10 oz_T9cls_2
  have cA10 : SA oz_T9clsl_1 A A10 := SA_trans (SA_refl) (SA_gluc (ι := oz_T9clsl_1) oz_T9cls_4 hA10 eA10 (by decide +kernel)) (any_subA (lₚ := []) (by decide +kernel))
  have mA10 := SAm_of cA10 oz_T9cls_3
  refine w_ifeq (t := 35) rfl rfl (show inr (z10) from q_15 pz10_0) (fun b11 => ?_) (fun b11 => ?_)
  · refine Ew_of (pcₚ := 37) (fun _ => x_bipush (z := -50) rfl (by decide)) ?_
    exact w_ireturn rfl (k ((-50)) _ _ _ H O (cF10) (cA10) (show inr ((-50)) from q_2016))
  · refine Ew_of (pcₚ := 8) (fun _ => x_iload_n rfl rfl) ?_
    refine w_stat24 rfl rfl (by rfl) (C24 (D := puc 0 D) (N := puc 0 N) (HW_subc H oz_T9cls_28 oz_T9cls_4) (show inr (3) from h1) (fun z12 σ12 F12ₚ A12ₚ Hₚ Oₚ hS12 hA12 pz12_0 pz12_1 => ⟨rretB rfl pz12_0, ?_⟩))
    refine v_backc (c := c) (s := s) H oz_T9cls_28 oz_T9cls_4 Hₚ Oₚ (fun F12 A12 H Oₚ eF12 eA12 => ?_)
    have O := OUT_trans O Oₚ
    -- PackHouse.isRow
    have cF12 : SF oz_T9clsl_0 F F12 := SF_trans (cF10) (SF_gluc (ι := oz_T9clsl_1) oz_T9cls_4 hS12 eF12 (by decide +kernel)) (any_sub (lₚ := []) (by decide +kernel))
    have mF12 := SFm_of cF12 oz_T9cls_2
    have cA12 : SA oz_T9clsl_1 A A12 := SA_trans (cA10) (SA_gluc (ι := oz_T9clsl_1) oz_T9cls_4 hA12 eA12 (by decide +kernel)) (any_subA (lₚ := []) (by decide +kernel))
    have mA12 := SAm_of cA12 oz_T9cls_3
    refine w_ifeq (t := 35) rfl rfl (show inr (z12) from q_15 pz12_0) (fun b13 => ?_) (fun b13 => ?_)
    · refine Ew_of (pcₚ := 37) (fun _ => x_bipush (z := -50) rfl (by decide)) ?_
      exact w_ireturn rfl (k ((-50)) _ _ _ H O (cF12) (cA12) (show inr ((-50)) from q_2016))
    · refine Ew_of (pcₚ := 15) (fun _ => x_iload_n rfl rfl) ?_
      refine w_iflt (t := 35) rfl rfl (show inr (a3) from h2) (fun b14 => ?_) (fun b14 => ?_)
      · refine Ew_of (pcₚ := 37) (fun _ => x_bipush (z := -50) rfl (by decide)) ?_
        exact w_ireturn rfl (k ((-50)) _ _ _ H O (cF12) (cA12) (show inr ((-50)) from q_2016))
      · refine Ew_of (pcₚ := 19) (fun _ => x_iload_n rfl rfl) ?_
        refine Ew_of (pcₚ := 20) (fun _ => x_iconst rfl) ?_
        refine w_icmpgt (t := 35) rfl rfl (show inr (a3) from h2) (show inr (4) from q_2) (fun b15 => ?_) (fun b15 => ?_)
        · refine Ew_of (pcₚ := 37) (fun _ => x_bipush (z := -50) rfl (by decide)) ?_
          exact w_ireturn rfl (k ((-50)) _ _ _ H O (cF12) (cA12) (show inr ((-50)) from q_2016))
        · refine Ew_of (pcₚ := 25) (fun _ => x_iload rfl rfl) ?_
          refine w_iflt (t := 35) rfl rfl (show inr (a4) from h3) (fun b16 => ?_) (fun b16 => ?_)
          · refine Ew_of (pcₚ := 37) (fun _ => x_bipush (z := -50) rfl (by decide)) ?_
            exact w_ireturn rfl (k ((-50)) _ _ _ H O (cF12) (cA12) (show inr ((-50)) from q_2016))
          · refine Ew_of (pcₚ := 30) (fun _ => x_iload rfl rfl) ?_
            refine Ew_of (pcₚ := 32) (fun _ => x_ldc (z := 65536) rfl (by decide)) ?_
            refine w_icmple (t := 38) rfl rfl (show inr (a4) from h3) (show inr (65536) from q_35) (fun b17 => ?_) (fun b17 => ?_)
            · refine Ew_of (pcₚ := 39) (fun _ => x_aload_n rfl rfl) ?_
              refine Ew_of (pcₚ := 40) (fun _ => x_iload_n rfl rfl) ?_
              refine Ew_of (pcₚ := 41) (fun _ => x_aload_n rfl rfl) ?_
              refine Ew_of (pcₚ := 42) (fun _ => x_aload_n rfl rfl) ?_
              refine v_g H (o := 0) (v := .ref (D 1)) rfl rfl rfl rfl rfl (vrf ((mF12 0 0 rfl).trans (pf1))) ?_
              refine Ew_of (pcₚ := 46) (fun _ => x_iload_n rfl rfl) ?_
              refine v_lR H (o := 1) rfl rfl rfl rfl rfl (n := n1) (en1) (show 0 ≤ 3 ∧ 3 < n1 from q_4312 h4) (z := ((D 8 : Nat) : Int)) (v := .ref (D 8)) ((mA12 1 rfl 3).trans (pf8)) (vrf rfl) ?_
              refine Ew_of (pcₚ := 48) (fun _ => x_iload_n rfl rfl) ?_
              refine Ew_of (pcₚ := 50) (fun _ => x_iload rfl rfl) ?_
              refine Ew_of (pcₚ := 51) (fun _ => x_aload_n rfl rfl) ?_
              refine v_g H (o := 0) (v := .ref (D 10)) rfl rfl rfl rfl rfl (vrf ((mF12 0 14 rfl).trans (pf10))) ?_
              exact hc54 (a1) (a3) (a4) _ _ _ _   H O (SF_trans (SF_trans (SF_refl) (SF_gluc (ι := oz_T9clsl_1) oz_T9cls_4 hS10 eF10 (by decide +kernel)) (any_sub (lₚ := []) (by decide +kernel))) (SF_gluc (ι := oz_T9clsl_1) oz_T9cls_4 hS12 eF12 (by decide +kernel)) (any_sub (lₚ := []) (by decide +kernel))) (SA_trans (SA_trans (SA_refl) (SA_gluc (ι := oz_T9clsl_1) oz_T9cls_4 hA10 eA10 (by decide +kernel)) (any_subA (lₚ := []) (by decide +kernel))) (SA_gluc (ι := oz_T9clsl_1) oz_T9cls_4 hA12 eA12 (by decide +kernel)) (any_subA (lₚ := []) (by decide +kernel)))     (show inr (a1) from h0) (show inr (a3) from h2) (show inr (a4) from h3) (show 0 ≤ (a1) ∧ (a1) ≤ 3 by omega) (show 0 ≤ (a3) ∧ (a3) ≤ 4 from q_4338 b14 b15) (show 0 ≤ (a4) ∧ (a4) ≤ 65536 from q_4337 b16 b17)
            · refine Ew_of (pcₚ := 37) (fun _ => x_bipush (z := -50) rfl (by decide)) ?_
              exact w_ireturn rfl (k ((-50)) _ _ _ H O (cF12) (cA12) (show inr ((-50)) from q_2016))
abbrev V20_c23_va : vV := [(0, 0, [(4, 0), (4, 0), (4, 0), (4, 0), (4, 0), (4, 0), (4, 0), (4, 0), (4, 0), (4, 0), (4, 0), (4, 0), (4, 0), (4, 0), (4, 0), (4, 0), (4, 0), (0, 0), (0, 0)]), (1, 4, []), (0, 7, [(4, 0), (0, 0), (1, 0), (0, 0), (0, 0)]), (1, 0, []), (0, 7, [(4, 0), (0, 0), (1, 0), (0, 0), (0, 0)]), (1, 0, []), (0, 7, [(4, 0), (0, 0), (1, 0), (0, 0), (0, 0)]), (1, 0, []), (0, 7, [(4, 0), (0, 0), (1, 0), (0, 0), (0, 0)]), (1, 0, []), (1, 1, [])]
theorem len_V20_c23_va_oz_T9cls : (V20_c23_va).length = 11 := by decide +kernel
theorem oz_T9cls_30 : vsub V20_c23_va V24 [] = true := by decide +kernel
theorem oz_T9cls_31 : vsub V20_c23_va V33_Row [8, 9] = true := by decide +kernel
def oz_T9clsl_5 : List Nat := [8, 9]
theorem oz_T9cls_32 : okc oz_T9clsl_5 4616 = true := by decide +kernel
/-- PackHouse.open: this, this.rows, this.rows.0, this.rows.0.bytes, this.rows.1, this.rows.1.bytes, this.rows.2, this.rows.2.bytes, this.rows.3, this.rows.3.bytes, this.readCounts -/
theorem C20_c23_va {σE : rS} {D N : Nat → Nat} {F : hF} {A : hA} {d c s : Nat} {Q : wQ} (H : HW V20_c23_va σE D N F A) (HT : STC σE) {a1 a3 : Int} (pf1 : HID (F 0 0 = (D 1 : Int))) (pf2 : HID (A 1 0 = (D 2 : Int))) (pf3 : HID (F 2 0 = (D 3 : Int))) (pf4 : HID (A 1 1 = (D 4 : Int))) (pf5 : HID (F 4 0 = (D 5 : Int))) (pf6 : HID (A 1 2 = (D 6 : Int))) (pf7 : HID (F 6 0 = (D 7 : Int))) (pf8 : HID (A 1 3 = (D 8 : Int))) (pf9 : HID (F 8 0 = (D 9 : Int))) (pf10 : HID (F 0 14 = (D 10 : Int))) (n1 : Int) (en1 : HID ((N 1 : Int) = n1)) (n3 : Int) (en3 : HID ((N 3 : Int) = n3)) (n5 : Int) (en5 : HID ((N 5 : Int) = n5)) (n7 : Int) (en7 : HID ((N 7 : Int) = n7)) (n9 : Int) (en9 : HID ((N 9 : Int) = n9)) (n10 : Int) (en10 : HID ((N 10 : Int) = n10)) (u2_1 : Int) (eu2_1 : HID (F 2 1 = u2_1)) (u4_1 : Int) (eu4_1 : HID (F 4 1 = u4_1)) (u6_1 : Int) (eu6_1 : HID (F 6 1 = u6_1)) (u8_1 : Int) (eu8_1 : HID (F 8 1 = u8_1)) (h0 : inr (a1)) (h1 : inr (3)) (h2 : inr (a3)) (h3 : (n1) = 4) (h4 : 0 ≤ (u2_1) ∧ (u2_1) ≤ (n3) ∧ (n3) ≤ 65536) (h5 : 0 ≤ (u4_1) ∧ (u4_1) ≤ (n5) ∧ (n5) ≤ 65536) (h6 : 0 ≤ (u6_1) ∧ (u6_1) ≤ (n7) ∧ (n7) ≤ 65536) (h7 : 0 ≤ (u8_1) ∧ (u8_1) ≤ (n9) ∧ (n9) ≤ 65536) (hc68 : ∀ (tc68_1 : Int), ∀ (tc68_4 : Int), ∀ (tc68_5 : Int), ∀ (ls : rO) (σ : rS) (F_c68 : hF) (A_c68 : hA) , HW V20_c23_va σ D N F_c68 A_c68 → OUT (V20_c23_va).length D N σE c s D N σ c s → SF [] F F_c68 → SA [] A A_c68 → (inr (tc68_1)) → (inr (tc68_4)) → (inr (tc68_5)) → (0 ≤ (tc68_1) ∧ (tc68_1) ≤ 3) → ((tc68_4) = 1 ∨ (tc68_4) = 3 ∨ (tc68_4) = 4) → (0 ≤ (tc68_5) ∧ (tc68_5) ≤ 65536) → Ew 20 (d + 3) 68 ls [.ref (D 10), I (tc68_5), I (tc68_4), .ref (D 8), .ref (D 0), I (tc68_1), .ref (D 0)] σ c s Q) (k : ∀ (z : Int) (σ : rS) (Fₚ : hF) (Aₚ : hA), HW V20_c23_va σ D N Fₚ Aₚ → OUT (V20_c23_va).length D N σE c s D N σ c s → SF [] F Fₚ → SA [] A Aₚ → (inr (z)) → Q (some (I z)) σ c s) : Ew 20 (d + 3) 0 (rargs 0 [.ref (D 0), I a1, I 3, I a3]) [] σE c s Q := by
  have O := OUT_refl (n := (V20_c23_va).length) (D := D) (N := N) (σ := σE) (c := c) (s := s)
  have HE := H
  refine Ew_of (pcₚ := 1) (fun _ => x_iload_n rfl rfl) ?_
  refine w_stat24 rfl rfl (by rfl) (C24 (D := puc 0 D) (N := puc 0 N) (HW_subc H oz_T9cls_30 oz_T9cls_4) (show inr (a1) from h0) (fun z10 σ10 F10ₚ A10ₚ Hₚ Oₚ hS10 hA10 pz10_0 pz10_1 => ⟨rretB rfl pz10_0, ?_⟩))
  refine v_backc (c := c) (s := s) H oz_T9cls_30 oz_T9cls_4 Hₚ Oₚ (fun F10 A10 H Oₚ eF10 eA10 => ?_)
  have O := OUT_trans O Oₚ
  -- PackHouse.isRow
  have cF10 : SF oz_T9clsl_0 F F10 := SF_trans (SF_refl) (SF_gluc (ι := oz_T9clsl_1) oz_T9cls_4 hS10 eF10 (by decide +kernel)) (any_sub (lₚ := []) (by decide +kernel))
  have mF10 := SFm_of cF10 oz_T9cls_2
  have cA10 : SA oz_T9clsl_1 A A10 := SA_trans (SA_refl) (SA_gluc (ι := oz_T9clsl_1) oz_T9cls_4 hA10 eA10 (by decide +kernel)) (any_subA (lₚ := []) (by decide +kernel))
  have mA10 := SAm_of cA10 oz_T9cls_3
  refine w_ifeq (t := 24) rfl rfl (show inr (z10) from q_15 pz10_0) (fun b11 => ?_) (fun b11 => ?_)
  · refine Ew_of (pcₚ := 26) (fun _ => x_bipush (z := -50) rfl (by decide)) ?_
    exact w_ireturn rfl (k ((-50)) _ _ _ H O (cF10) (cA10) (show inr ((-50)) from q_2016))
  · refine Ew_of (pcₚ := 8) (fun _ => x_iload_n rfl rfl) ?_
    refine w_stat24 rfl rfl (by rfl) (C24 (D := puc 0 D) (N := puc 0 N) (HW_subc H oz_T9cls_30 oz_T9cls_4) (show inr (3) from h1) (fun z12 σ12 F12ₚ A12ₚ Hₚ Oₚ hS12 hA12 pz12_0 pz12_1 => ⟨rretB rfl pz12_0, ?_⟩))
    refine v_backc (c := c) (s := s) H oz_T9cls_30 oz_T9cls_4 Hₚ Oₚ (fun F12 A12 H Oₚ eF12 eA12 => ?_)
    have O := OUT_trans O Oₚ
    -- PackHouse.isRow
    have cF12 : SF oz_T9clsl_0 F F12 := SF_trans (cF10) (SF_gluc (ι := oz_T9clsl_1) oz_T9cls_4 hS12 eF12 (by decide +kernel)) (any_sub (lₚ := []) (by decide +kernel))
    have mF12 := SFm_of cF12 oz_T9cls_2
    have cA12 : SA oz_T9clsl_1 A A12 := SA_trans (cA10) (SA_gluc (ι := oz_T9clsl_1) oz_T9cls_4 hA12 eA12 (by decide +kernel)) (any_subA (lₚ := []) (by decide +kernel))
    have mA12 := SAm_of cA12 oz_T9cls_3
    refine w_ifeq (t := 24) rfl rfl (show inr (z12) from q_15 pz12_0) (fun b13 => ?_) (fun b13 => ?_)
    · refine Ew_of (pcₚ := 26) (fun _ => x_bipush (z := -50) rfl (by decide)) ?_
      exact w_ireturn rfl (k ((-50)) _ _ _ H O (cF12) (cA12) (show inr ((-50)) from q_2016))
    · refine Ew_of (pcₚ := 15) (fun _ => x_iload_n rfl rfl) ?_
      refine w_iflt (t := 24) rfl rfl (show inr (a3) from h2) (fun b14 => ?_) (fun b14 => ?_)
      · refine Ew_of (pcₚ := 26) (fun _ => x_bipush (z := -50) rfl (by decide)) ?_
        exact w_ireturn rfl (k ((-50)) _ _ _ H O (cF12) (cA12) (show inr ((-50)) from q_2016))
      · refine Ew_of (pcₚ := 19) (fun _ => x_iload_n rfl rfl) ?_
        refine Ew_of (pcₚ := 21) (fun _ => x_ldc (z := 65536) rfl (by decide)) ?_
        refine w_icmple (t := 27) rfl rfl (show inr (a3) from h2) (show inr (65536) from q_35) (fun b15 => ?_) (fun b15 => ?_)
        · refine Ew_of (pcₚ := 28) (fun _ => x_aload_n rfl rfl) ?_
          refine v_g H (o := 0) (v := .ref (D 1)) rfl rfl rfl rfl rfl (vrf ((mF12 0 0 rfl).trans (pf1))) ?_
          refine Ew_of (pcₚ := 32) (fun _ => x_iload_n rfl rfl) ?_
          refine v_lR H (o := 1) rfl rfl rfl rfl rfl (n := n1) (en1) (show 0 ≤ 3 ∧ 3 < n1 from q_4312 h3) (z := ((D 8 : Nat) : Int)) (v := .ref (D 8)) ((mA12 1 rfl 3).trans (pf8)) (vrf rfl) ?_
          refine w_stat24 rfl rfl (by rfl) (C33_Row (D := puc 4616 D) (N := puc 4616 N) (HW_subc H oz_T9cls_31 oz_T9cls_32) (STC_out HT HE O) ((mF12 8 0 rfl).trans (pf9)) (n9) (en9) (u8_1) (((mF12 8 1 rfl).trans (eu8_1))) (show 0 ≤ (u8_1) ∧ (u8_1) ≤ (n9) ∧ (n9) ≤ 65536 from h7) (fun z16 σ16 F16ₚ A16ₚ Hₚ Oₚ hS16 hA16 pz16_0 pz16_1 => ⟨rfl, ?_⟩))
          refine v_backc (c := c) (s := s) H oz_T9cls_31 oz_T9cls_32 Hₚ Oₚ (fun F16 A16 H Oₚ eF16 eA16 => ?_)
          have O := OUT_trans O Oₚ
          -- PackHouse.formatOf
          have cF16 : SF oz_T9clsl_0 F F16 := SF_trans (cF12) (SF_gluc (ι := oz_T9clsl_5) oz_T9cls_32 hS16 eF16 (by decide +kernel)) (any_sub (lₚ := []) (by decide +kernel))
          have mF16 := SFm_of cF16 oz_T9cls_2
          have cA16 : SA oz_T9clsl_1 A A16 := SA_trans (cA12) (SA_gluc (ι := oz_T9clsl_5) oz_T9cls_32 hA16 eA16 (by decide +kernel)) (any_subA (lₚ := []) (by decide +kernel))
          have mA16 := SAm_of cA16 oz_T9cls_3
          refine Ew_of (pcₚ := 38) (fun _ => x_istore rfl) ?_
          refine Ew_of (pcₚ := 40) (fun _ => x_iload rfl rk_s) ?_
          refine w_ifeq (t := 49) rfl rfl (show inr (z16) from pz16_0) (fun b17 => ?_) (fun b17 => ?_)
          · refine Ew_of (pcₚ := 51) (fun _ => x_bipush (z := -51) rfl (by decide)) ?_
            exact w_ireturn rfl (k ((-51)) _ _ _ H O (cF16) (cA16) (show inr ((-51)) from q_2049))
          · refine Ew_of (pcₚ := 45) (fun _ => x_iload rfl rk_s) ?_
            refine Ew_of (pcₚ := 46) (fun _ => x_iconst rfl) ?_
            refine w_icmpne (t := 52) rfl rfl (show inr (z16) from pz16_0) (show inr (5) from q_509) (fun b18 => ?_) (fun b18 => ?_)
            · refine Ew_of (pcₚ := 53) (fun _ => x_aload_n rfl (rk_o (rfl) rfl rfl)) ?_
              refine Ew_of (pcₚ := 54) (fun _ => x_iload_n rfl (rk_o (rfl) rfl rfl)) ?_
              refine Ew_of (pcₚ := 55) (fun _ => x_aload_n rfl (rk_o (rfl) rfl rfl)) ?_
              refine Ew_of (pcₚ := 56) (fun _ => x_aload_n rfl (rk_o (rfl) rfl rfl)) ?_
              refine v_g H (o := 0) (v := .ref (D 1)) rfl rfl rfl rfl rfl (vrf ((mF16 0 0 rfl).trans (pf1))) ?_
              refine Ew_of (pcₚ := 60) (fun _ => x_iload_n rfl (rk_o (rfl) rfl rfl)) ?_
              refine v_lR H (o := 1) rfl rfl rfl rfl rfl (n := n1) (en1) (show 0 ≤ 3 ∧ 3 < n1 from q_4312 h3) (z := ((D 8 : Nat) : Int)) (v := .ref (D 8)) ((mA16 1 rfl 3).trans (pf8)) (vrf rfl) ?_
              refine Ew_of (pcₚ := 63) (fun _ => x_iload rfl rk_s) ?_
              refine Ew_of (pcₚ := 64) (fun _ => x_iload_n rfl (rk_o (rfl) rfl rfl)) ?_
              refine Ew_of (pcₚ := 65) (fun _ => x_aload_n rfl (rk_o (rfl) rfl rfl)) ?_
              refine v_g H (o := 0) (v := .ref (D 10)) rfl rfl rfl rfl rfl (vrf ((mF16 0 14 rfl).trans (pf10))) ?_
              exact hc68 (a1) (z16) (a3) _ _ _ _   H O (SF_trans (SF_trans (SF_trans (SF_refl) (SF_gluc (ι := oz_T9clsl_1) oz_T9cls_4 hS10 eF10 (by decide +kernel)) (any_sub (lₚ := []) (by decide +kernel))) (SF_gluc (ι := oz_T9clsl_1) oz_T9cls_4 hS12 eF12 (by decide +kernel)) (any_sub (lₚ := []) (by decide +kernel))) (SF_gluc (ι := oz_T9clsl_5) oz_T9cls_32 hS16 eF16 (by decide +kernel)) (any_sub (lₚ := []) (by decide +kernel))) (SA_trans (SA_trans (SA_trans (SA_refl) (SA_gluc (ι := oz_T9clsl_1) oz_T9cls_4 hA10 eA10 (by decide +kernel)) (any_subA (lₚ := []) (by decide +kernel))) (SA_gluc (ι := oz_T9clsl_1) oz_T9cls_4 hA12 eA12 (by decide +kernel)) (any_subA (lₚ := []) (by decide +kernel))) (SA_gluc (ι := oz_T9clsl_5) oz_T9cls_32 hA16 eA16 (by decide +kernel)) (any_subA (lₚ := []) (by decide +kernel)))     (show inr (a1) from h0) (show inr (z16) from pz16_0) (show inr (a3) from h2) (show 0 ≤ (a1) ∧ (a1) ≤ 3 by omega) (show (z16) = 1 ∨ (z16) = 3 ∨ (z16) = 4 by omega) (show 0 ≤ (a3) ∧ (a3) ≤ 65536 from q_4337 b14 b15)
            · refine Ew_of (pcₚ := 51) (fun _ => x_bipush (z := -51) rfl (by decide)) ?_
              exact w_ireturn rfl (k ((-51)) _ _ _ H O (cF16) (cA16) (show inr ((-51)) from q_2049))
        · refine Ew_of (pcₚ := 26) (fun _ => x_bipush (z := -50) rfl (by decide)) ?_
          exact w_ireturn rfl (k ((-50)) _ _ _ H O (cF12) (cA12) (show inr ((-50)) from q_2016))
abbrev V15_c13_va : vV := [(0, 0, [(4, 0), (4, 0), (4, 0), (4, 0), (4, 0), (4, 0), (4, 0), (4, 0), (4, 0), (4, 0), (4, 0), (4, 0), (4, 0), (4, 0), (4, 0), (4, 0), (4, 0), (0, 0), (0, 0)]), (1, 4, []), (0, 7, [(4, 0), (0, 0), (1, 0), (0, 0), (0, 0)]), (1, 0, []), (0, 7, [(4, 0), (0, 0), (1, 0), (0, 0), (0, 0)]), (1, 0, []), (0, 7, [(4, 0), (0, 0), (1, 0), (0, 0), (0, 0)]), (1, 0, []), (0, 7, [(4, 0), (0, 0), (1, 0), (0, 0), (0, 0)]), (1, 0, []), (0, 4, [(4, 0), (4, 0), (0, 0), (4, 0), (4, 0)])]
theorem len_V15_c13_va_oz_T9cls : (V15_c13_va).length = 11 := by decide +kernel
theorem oz_T9cls_34 : vsub V15_c13_va V24 [] = true := by decide +kernel
/-- PackHouse.learn: this, this.rows, this.rows.0, this.rows.0.bytes, this.rows.1, this.rows.1.bytes, this.rows.2, this.rows.2.bytes, this.rows.3, this.rows.3.bytes, this.otherDictionary -/
theorem C15_c13_va {σE : rS} {D N : Nat → Nat} {F : hF} {A : hA} {d c s : Nat} {Q : wQ} (H : HW V15_c13_va σE D N F A)  (pf1 : HID (F 0 0 = (D 1 : Int))) (pf2 : HID (A 1 0 = (D 2 : Int))) (pf3 : HID (F 2 0 = (D 3 : Int))) (pf4 : HID (A 1 1 = (D 4 : Int))) (pf5 : HID (F 4 0 = (D 5 : Int))) (pf6 : HID (A 1 2 = (D 6 : Int))) (pf7 : HID (F 6 0 = (D 7 : Int))) (pf8 : HID (A 1 3 = (D 8 : Int))) (pf9 : HID (F 8 0 = (D 9 : Int))) (pf10 : HID (F 0 4 = (D 10 : Int))) (n1 : Int) (en1 : HID ((N 1 : Int) = n1)) (n3 : Int) (en3 : HID ((N 3 : Int) = n3)) (n5 : Int) (en5 : HID ((N 5 : Int) = n5)) (n7 : Int) (en7 : HID ((N 7 : Int) = n7)) (n9 : Int) (en9 : HID ((N 9 : Int) = n9)) (u2_1 : Int) (eu2_1 : HID (F 2 1 = u2_1)) (u4_1 : Int) (eu4_1 : HID (F 4 1 = u4_1)) (u6_1 : Int) (eu6_1 : HID (F 6 1 = u6_1)) (u8_1 : Int) (eu8_1 : HID (F 8 1 = u8_1)) (h0 : inr (3)) (h1 : (n1) = 4) (h2 : 0 ≤ (u2_1) ∧ (u2_1) ≤ (n3) ∧ (n3) ≤ 65536) (h3 : 0 ≤ (u4_1) ∧ (u4_1) ≤ (n5) ∧ (n5) ≤ 65536) (h4 : 0 ≤ (u6_1) ∧ (u6_1) ≤ (n7) ∧ (n7) ≤ 65536) (h5 : 0 ≤ (u8_1) ∧ (u8_1) ≤ (n9) ∧ (n9) ≤ 65536) (hc20 : ∀ (ls : rO) (σ : rS) (F_c20 : hF) (A_c20 : hA) , rlook ls 0 = some (.ref (D 0)) → HW V15_c13_va σ D N F_c20 A_c20 → OUT (V15_c13_va).length D N σE c s D N σ c s → SF [] F F_c20 → SA [] A A_c20 → Ew 15 (d + 1) 20 ls [.ref (D 8), .ref (D 10)] σ c s Q) (k : ∀ (z : Int) (σ : rS) (Fₚ : hF) (Aₚ : hA), HW V15_c13_va σ D N Fₚ Aₚ → OUT (V15_c13_va).length D N σE c s D N σ c s → SF [] F Fₚ → SA [] A Aₚ → (inr (z)) → Q (some (I z)) σ c s) : Ew 15 (d + 1) 0 (rargs 0 [.ref (D 0), I 3]) [] σE c s Q := by
  have O := OUT_refl (n := (V15_c13_va).length) (D := D) (N := N) (σ := σE) (c := c) (s := s)
  have HE := H
  refine Ew_of (pcₚ := 1) (fun _ => x_iload_n rfl rfl) ?_
  refine w_stat24 rfl rfl (by rfl) (C24 (D := puc 0 D) (N := puc 0 N) (HW_subc H oz_T9cls_34 oz_T9cls_4) (show inr (3) from h0) (fun z10 σ10 F10ₚ A10ₚ Hₚ Oₚ hS10 hA10 pz10_0 pz10_1 => ⟨rretB rfl pz10_0, ?_⟩))
  refine v_backc (c := c) (s := s) H oz_T9cls_34 oz_T9cls_4 Hₚ Oₚ (fun F10 A10 H Oₚ eF10 eA10 => ?_)
  have O := OUT_trans O Oₚ
  -- PackHouse.isRow
  have cF10 : SF oz_T9clsl_0 F F10 := SF_trans (SF_refl) (SF_gluc (ι := oz_T9clsl_1) oz_T9cls_4 hS10 eF10 (by decide +kernel)) (any_sub (lₚ := []) (by decide +kernel))
  have mF10 := SFm_of cF10 oz_T9cls_2
  have cA10 : SA oz_T9clsl_1 A A10 := SA_trans (SA_refl) (SA_gluc (ι := oz_T9clsl_1) oz_T9cls_4 hA10 eA10 (by decide +kernel)) (any_subA (lₚ := []) (by decide +kernel))
  have mA10 := SAm_of cA10 oz_T9cls_3
  refine w_ifne (t := 10) rfl rfl (show inr (z10) from q_15 pz10_0) (fun b11 => ?_) (fun b11 => ?_)
  · refine Ew_of (pcₚ := 11) (fun _ => x_aload_n rfl rfl) ?_
    refine v_g H (o := 0) (v := .ref (D 10)) rfl rfl rfl rfl rfl (vrf ((mF10 0 4 rfl).trans (pf10))) ?_
    refine Ew_of (pcₚ := 15) (fun _ => x_aload_n rfl rfl) ?_
    refine v_g H (o := 0) (v := .ref (D 1)) rfl rfl rfl rfl rfl (vrf ((mF10 0 0 rfl).trans (pf1))) ?_
    refine Ew_of (pcₚ := 19) (fun _ => x_iload_n rfl rfl) ?_
    refine v_lR H (o := 1) rfl rfl rfl rfl rfl (n := n1) (en1) (show 0 ≤ 3 ∧ 3 < n1 from q_4312 h1) (z := ((D 8 : Nat) : Int)) (v := .ref (D 8)) ((mA10 1 rfl 3).trans (pf8)) (vrf rfl) ?_
    exact hc20  _ _ _ _  (rfl) H O (SF_trans (SF_refl) (SF_gluc (ι := oz_T9clsl_1) oz_T9cls_4 hS10 eF10 (by decide +kernel)) (any_sub (lₚ := []) (by decide +kernel))) (SA_trans (SA_refl) (SA_gluc (ι := oz_T9clsl_1) oz_T9cls_4 hA10 eA10 (by decide +kernel)) (any_subA (lₚ := []) (by decide +kernel)))     
  · refine Ew_of (pcₚ := 9) (fun _ => x_bipush (z := -5) rfl (by decide)) ?_
    exact w_ireturn rfl (k ((-5)) _ _ _ H O (cF10) (cA10) (show inr ((-5)) from q_2007))
abbrev V18_vb : vV := [(0, 0, [(4, 0), (4, 0), (4, 0), (4, 0), (4, 0), (4, 0), (4, 0), (4, 0), (4, 0), (4, 0), (4, 0), (4, 0), (4, 0), (4, 0), (4, 0), (4, 0), (4, 0), (0, 0), (0, 0)]), (1, 4, []), (0, 7, [(4, 0), (0, 0), (1, 0), (0, 0), (0, 0)]), (1, 0, []), (0, 7, [(4, 0), (0, 0), (1, 0), (0, 0), (0, 0)]), (1, 0, []), (0, 7, [(4, 0), (0, 0), (1, 0), (0, 0), (0, 0)]), (1, 0, []), (0, 7, [(4, 0), (0, 0), (1, 0), (0, 0), (0, 0)]), (1, 0, []), (0, 7, [(4, 0), (0, 0), (1, 0), (0, 0), (0, 0)]), (1, 0, [])]
theorem len_V18_vb_oz_T9cls : (V18_vb).length = 12 := by decide +kernel
theorem oz_T9cls_36 : vsub V18_vb V31 [0, 1, 2, 3, 4, 5, 6, 7, 8, 9, 10, 11] = true := by decide +kernel
theorem oz_T9cls_37 : vmov V18_vb [0, 1, 2, 3, 4, 5, 6, 7, 8, 9, 10, 11] [3, 5, 7, 9] = true := by decide +kernel
def oz_T9clsl_6 : List (Nat × Nat) := [(0, 18), (2, 0), (2, 1), (2, 2), (2, 3), (2, 4), (4, 0), (4, 1), (4, 2), (4, 3), (4, 4), (6, 0), (6, 1), (6, 2), (6, 3), (6, 4), (8, 0), (8, 1), (8, 2), (8, 3), (8, 4)]
theorem oz_T9cls_38 : (oz_T9clsl_6).all (fun p => !tbz 3589554766356802058325290689066312247140827750128844236490294584920361899655168 (Nat.add (Nat.mul 32 p.1) p.2)) = true := by decide +kernel
def oz_T9clsl_7 : List Nat := [3, 5, 7, 9]
theorem oz_T9cls_39 : (oz_T9clsl_7).all (fun p => !tbz 680 p) = true := by decide +kernel
def oz_T9clsl_8 : List Nat := [0, 1, 2, 3, 4, 5, 6, 7, 8, 9, 10, 11]
theorem oz_T9cls_40 : okc oz_T9clsl_8 6984479500156472304109347144192 = true := by decide +kernel
/-- PackHouse.read: this, this.rows, this.rows.0, this.rows.0.bytes, this.rows.1, this.rows.1.bytes, this.rows.2, this.rows.2.bytes, this.rows.3, this.rows.3.bytes, this.content, this.content.bytes -/
theorem C18_vb {σE : rS} {D N : Nat → Nat} {F : hF} {A : hA} {d c s : Nat} {Q : wQ} (H : HW V18_vb σE D N F A) {y1 y2 : Int} (pf1 : HID (F 0 0 = (D 1 : Int))) (pf2 : HID (A 1 0 = (D 2 : Int))) (pf3 : HID (F 2 0 = (D 3 : Int))) (pf4 : HID (A 1 1 = (D 4 : Int))) (pf5 : HID (F 4 0 = (D 5 : Int))) (pf6 : HID (A 1 2 = (D 6 : Int))) (pf7 : HID (F 6 0 = (D 7 : Int))) (pf8 : HID (A 1 3 = (D 8 : Int))) (pf9 : HID (F 8 0 = (D 9 : Int))) (pf10 : HID (F 0 6 = (D 10 : Int))) (pf11 : HID (F 10 0 = (D 11 : Int))) (n1 : Int) (en1 : HID ((N 1 : Int) = n1)) (n3 : Int) (en3 : HID ((N 3 : Int) = n3)) (n5 : Int) (en5 : HID ((N 5 : Int) = n5)) (n7 : Int) (en7 : HID ((N 7 : Int) = n7)) (n9 : Int) (en9 : HID ((N 9 : Int) = n9)) (n11 : Int) (en11 : HID ((N 11 : Int) = n11)) (u2_1 : Int) (eu2_1 : HID (F 2 1 = u2_1)) (u4_1 : Int) (eu4_1 : HID (F 4 1 = u4_1)) (u6_1 : Int) (eu6_1 : HID (F 6 1 = u6_1)) (u8_1 : Int) (eu8_1 : HID (F 8 1 = u8_1)) (u10_1 : Int) (eu10_1 : HID (F 10 1 = u10_1)) {ls : rO}  (h0 : inr y1) (h1 : inr y2) (h2 : (n1) = 4) (h3 : 0 ≤ (u2_1) ∧ (u2_1) ≤ (n3) ∧ (n3) ≤ 65536) (h4 : 0 ≤ (u4_1) ∧ (u4_1) ≤ (n5) ∧ (n5) ≤ 65536) (h5 : 0 ≤ (u6_1) ∧ (u6_1) ≤ (n7) ∧ (n7) ≤ 65536) (h6 : 0 ≤ (u8_1) ∧ (u8_1) ≤ (n9) ∧ (n9) ≤ 65536) (h7 : 0 ≤ (u10_1) ∧ (u10_1) ≤ (n11) ∧ (n11) ≤ 65536) (h8 : 0 ≤ y1 ∧ y1 ≤ 3) (k : ∀ (z : Int) (σ : rS) (Dₚ Nₚ : Nat → Nat) (Fₚ : hF) (Aₚ : hA) (cₚ sₚ : Nat), HW V18_vb σ Dₚ Nₚ Fₚ Aₚ → OUT (V18_vb).length D N σE c s Dₚ Nₚ σ cₚ sₚ → SD [3, 5, 7, 9] D Dₚ → SD [3, 5, 7, 9] N Nₚ → SF [(0, 18), (2, 0), (2, 1), (2, 2), (2, 3), (2, 4), (4, 0), (4, 1), (4, 2), (4, 3), (4, 4), (6, 0), (6, 1), (6, 2), (6, 3), (6, 4), (8, 0), (8, 1), (8, 2), (8, 3), (8, 4)] F Fₚ → SA [3, 5, 7, 9] A Aₚ → Fₚ 2 0 = (Dₚ 3 : Int) → Fₚ 4 0 = (Dₚ 5 : Int) → Fₚ 6 0 = (Dₚ 7 : Int) → Fₚ 8 0 = (Dₚ 9 : Int) → ∀ m3 : Int, (Nₚ 3 : Int) = m3 → ∀ m5 : Int, (Nₚ 5 : Int) = m5 → ∀ m7 : Int, (Nₚ 7 : Int) = m7 → ∀ m9 : Int, (Nₚ 9 : Int) = m9 → ∀ y2_1 : Int, Fₚ 2 1 = y2_1 → ∀ y4_1 : Int, Fₚ 4 1 = y4_1 → ∀ y6_1 : Int, Fₚ 6 1 = y6_1 → ∀ y8_1 : Int, Fₚ 8 1 = y8_1 → (inr (z)) → (0 ≤ (y2_1) ∧ (y2_1) ≤ (m3) ∧ (m3) ≤ 65536) → (0 ≤ (y4_1) ∧ (y4_1) ≤ (m5) ∧ (m5) ≤ 65536) → (0 ≤ (y6_1) ∧ (y6_1) ≤ (m7) ∧ (m7) ≤ 65536) → (0 ≤ (y8_1) ∧ (y8_1) ≤ (m9) ∧ (m9) ≤ 65536) → (0 ≤ (u10_1) ∧ (u10_1) ≤ (n11) ∧ (n11) ≤ 65536) → Q (some (I z)) σ cₚ sₚ) : Ew 18 (d + 5) 57 ls [I (y2), I (y1), .ref (D 0)] σE c s Q := by
  have O := OUT_refl (n := (V18_vb).length) (D := D) (N := N) (σ := σE) (c := c) (s := s)
  have HE := H
  refine v_inv H (o := 0) rfl rfl rfl rfl rfl rfl (by rfl) (C31 (D := puc 6984479500156472304109347144192 D) (N := puc 6984479500156472304109347144192 N) (HW_subc H oz_T9cls_36 oz_T9cls_40) (pf1) (pf2) (pf3) (pf4) (pf5) (pf6) (pf7) (pf8) (pf9) (pf10) (pf11) (n1) (en1) (n3) (en3) (n5) (en5) (n7) (en7) (n9) (en9) (n11) (en11) (u2_1) ((eu2_1)) (u4_1) ((eu4_1)) (u6_1) ((eu6_1)) (u8_1) ((eu8_1)) (u10_1) ((eu10_1)) (show inr (y1) from h0) (show inr (y2) from h1) (show (n1) = 4 from h2) (show 0 ≤ (u2_1) ∧ (u2_1) ≤ (n3) ∧ (n3) ≤ 65536 from h3) (show 0 ≤ (u4_1) ∧ (u4_1) ≤ (n5) ∧ (n5) ≤ 65536 from h4) (show 0 ≤ (u6_1) ∧ (u6_1) ≤ (n7) ∧ (n7) ≤ 65536 from h5) (show 0 ≤ (u8_1) ∧ (u8_1) ≤ (n9) ∧ (n9) ≤ 65536 from h6) (show 0 ≤ (u10_1) ∧ (u10_1) ≤ (n11) ∧ (n11) ≤ 65536 from h7) (show 0 ≤ (y1) ∧ (y1) ≤ 3 from h8) (fun z12 σ12 D12ₚ N12ₚ F12ₚ A12ₚ c12 s12 Hₚ Oₚ hD12 hN12 hS12 hA12 (pm12_3 : HID _) (pm12_5 : HID _) (pm12_7 : HID _) (pm12_9 : HID _) m12_3 (em12_3 : HID _) m12_5 (em12_5 : HID _) m12_7 (em12_7 : HID _) m12_9 (em12_9 : HID _) y12_2_1 (ey12_2_1 : HID _) y12_4_1 (ey12_4_1 : HID _) y12_6_1 (ey12_6_1 : HID _) y12_8_1 (ey12_8_1 : HID _) pz12_0 pz12_1 pz12_2 pz12_3 pz12_4 pz12_5 => ⟨rfl, ?_⟩))
  refine v_backMc (c := c) (s := s) H oz_T9cls_36 oz_T9cls_40 Hₚ Oₚ hD12 oz_T9cls_37 (fun D12 N12 F12 A12 H Oₚ eD12 eN12 eF12 eA12 => ?_)
  have O := OUT_trans O Oₚ
  -- PackHouse.settle
  have cF12 : SF oz_T9clsl_6 F F12 := SF_trans (SF_refl) (SF_gluc (ι := oz_T9clsl_8) oz_T9cls_40 hS12 eF12 (by decide +kernel)) (any_sub (lₚ := [(0, 18), (2, 0), (2, 1), (2, 2), (2, 3), (2, 4), (4, 0), (4, 1), (4, 2), (4, 3), (4, 4), (6, 0), (6, 1), (6, 2), (6, 3), (6, 4), (8, 0), (8, 1), (8, 2), (8, 3), (8, 4)]) (by decide +kernel))
  have mF12 := SFm_of cF12 oz_T9cls_38
  have cA12 : SA oz_T9clsl_7 A A12 := SA_trans (SA_refl) (SA_gluc (ι := oz_T9clsl_8) oz_T9cls_40 hA12 eA12 (by decide +kernel)) (any_subA (lₚ := [3, 5, 7, 9]) (by decide +kernel))
  have mA12 := SAm_of cA12 oz_T9cls_39
  have cD12 : SD oz_T9clsl_7 D D12 := SD_trans (SD_refl) (SD_gluc (ι := oz_T9clsl_8) oz_T9cls_40 hD12 eD12 (by decide +kernel)) (any_subA (lₚ := [3, 5, 7, 9]) (by decide +kernel))
  have mD12 := SDm_of cD12 oz_T9cls_39
  have cN12 : SD oz_T9clsl_7 N N12 := SD_trans (SD_refl) (SD_gluc (ι := oz_T9clsl_8) oz_T9cls_40 hN12 eN12 (by decide +kernel)) (any_subA (lₚ := [3, 5, 7, 9]) (by decide +kernel))
  have mN12 := SDm_of cN12 oz_T9cls_39
  have pf12_2_0 : HID (F12 2 0 = (D12 3 : Int)) := (eF12 2 0).trans (pm12_3.trans (congrArg (fun q : Nat => (q : Int)) (eD12 3).symm))
  have pf12_4_0 : HID (F12 4 0 = (D12 5 : Int)) := (eF12 4 0).trans (pm12_5.trans (congrArg (fun q : Nat => (q : Int)) (eD12 5).symm))
  have pf12_6_0 : HID (F12 6 0 = (D12 7 : Int)) := (eF12 6 0).trans (pm12_7.trans (congrArg (fun q : Nat => (q : Int)) (eD12 7).symm))
  have pf12_8_0 : HID (F12 8 0 = (D12 9 : Int)) := (eF12 8 0).trans (pm12_9.trans (congrArg (fun q : Nat => (q : Int)) (eD12 9).symm))
  exact w_ireturn rfl (k (z12) _ _ _ _ _ _ _ H O (cD12) (cN12) (cF12) (cA12) (pf12_2_0) (pf12_4_0) (pf12_6_0) (pf12_8_0) (m12_3) ((congrArg (fun q : Nat => (q : Int)) (eN12 3)).trans em12_3) (m12_5) ((congrArg (fun q : Nat => (q : Int)) (eN12 5)).trans em12_5) (m12_7) ((congrArg (fun q : Nat => (q : Int)) (eN12 7)).trans em12_7) (m12_9) ((congrArg (fun q : Nat => (q : Int)) (eN12 9)).trans em12_9) (y12_2_1) (((eF12 2 1).trans ey12_2_1)) (y12_4_1) (((eF12 4 1).trans ey12_4_1)) (y12_6_1) (((eF12 6 1).trans ey12_6_1)) (y12_8_1) (((eF12 8 1).trans ey12_8_1)) (show inr (z12) from pz12_0) (show 0 ≤ (y12_2_1) ∧ (y12_2_1) ≤ (m12_3) ∧ (m12_3) ≤ 65536 from pz12_1) (show 0 ≤ (y12_4_1) ∧ (y12_4_1) ≤ (m12_5) ∧ (m12_5) ≤ 65536 from pz12_2) (show 0 ≤ (y12_6_1) ∧ (y12_6_1) ≤ (m12_7) ∧ (m12_7) ≤ 65536 from pz12_3) (show 0 ≤ (y12_8_1) ∧ (y12_8_1) ≤ (m12_9) ∧ (m12_9) ≤ 65536 from pz12_4) (show 0 ≤ (u10_1) ∧ (u10_1) ≤ (n11) ∧ (n11) ≤ 65536 from pz12_5))
abbrev V20_vb : vV := [(0, 0, [(4, 0), (4, 0), (4, 0), (4, 0), (4, 0), (4, 0), (4, 0), (4, 0), (4, 0), (4, 0), (4, 0), (4, 0), (4, 0), (4, 0), (4, 0), (4, 0), (4, 0), (0, 0), (0, 0)]), (1, 4, []), (0, 7, [(4, 0), (0, 0), (1, 0), (0, 0), (0, 0)]), (1, 0, []), (0, 7, [(4, 0), (0, 0), (1, 0), (0, 0), (0, 0)]), (1, 0, []), (0, 7, [(4, 0), (0, 0), (1, 0), (0, 0), (0, 0)]), (1, 0, []), (0, 7, [(4, 0), (0, 0), (1, 0), (0, 0), (0, 0)]), (1, 0, []), (0, 7, [(4, 0), (0, 0), (1, 0), (0, 0), (0, 0)]), (1, 0, [])]
theorem len_V20_vb_oz_T9cls : (V20_vb).length = 12 := by decide +kernel
theorem oz_T9cls_42 : vsub V20_vb V31 [0, 1, 2, 3, 4, 5, 6, 7, 8, 9, 10, 11] = true := by decide +kernel
theorem oz_T9cls_43 : vmov V20_vb [0, 1, 2, 3, 4, 5, 6, 7, 8, 9, 10, 11] [3, 5, 7, 9] = true := by decide +kernel
/-- PackHouse.open: this, this.rows, this.rows.0, this.rows.0.bytes, this.rows.1, this.rows.1.bytes, this.rows.2, this.rows.2.bytes, this.rows.3, this.rows.3.bytes, this.content, this.content.bytes -/
theorem C20_vb {σE : rS} {D N : Nat → Nat} {F : hF} {A : hA} {d c s : Nat} {Q : wQ} (H : HW V20_vb σE D N F A) {y1 y2 : Int} (pf1 : HID (F 0 0 = (D 1 : Int))) (pf2 : HID (A 1 0 = (D 2 : Int))) (pf3 : HID (F 2 0 = (D 3 : Int))) (pf4 : HID (A 1 1 = (D 4 : Int))) (pf5 : HID (F 4 0 = (D 5 : Int))) (pf6 : HID (A 1 2 = (D 6 : Int))) (pf7 : HID (F 6 0 = (D 7 : Int))) (pf8 : HID (A 1 3 = (D 8 : Int))) (pf9 : HID (F 8 0 = (D 9 : Int))) (pf10 : HID (F 0 6 = (D 10 : Int))) (pf11 : HID (F 10 0 = (D 11 : Int))) (n1 : Int) (en1 : HID ((N 1 : Int) = n1)) (n3 : Int) (en3 : HID ((N 3 : Int) = n3)) (n5 : Int) (en5 : HID ((N 5 : Int) = n5)) (n7 : Int) (en7 : HID ((N 7 : Int) = n7)) (n9 : Int) (en9 : HID ((N 9 : Int) = n9)) (n11 : Int) (en11 : HID ((N 11 : Int) = n11)) (u2_1 : Int) (eu2_1 : HID (F 2 1 = u2_1)) (u4_1 : Int) (eu4_1 : HID (F 4 1 = u4_1)) (u6_1 : Int) (eu6_1 : HID (F 6 1 = u6_1)) (u8_1 : Int) (eu8_1 : HID (F 8 1 = u8_1)) (u10_1 : Int) (eu10_1 : HID (F 10 1 = u10_1)) {ls : rO}  (h0 : inr y1) (h1 : inr y2) (h2 : (n1) = 4) (h3 : 0 ≤ (u2_1) ∧ (u2_1) ≤ (n3) ∧ (n3) ≤ 65536) (h4 : 0 ≤ (u4_1) ∧ (u4_1) ≤ (n5) ∧ (n5) ≤ 65536) (h5 : 0 ≤ (u6_1) ∧ (u6_1) ≤ (n7) ∧ (n7) ≤ 65536) (h6 : 0 ≤ (u8_1) ∧ (u8_1) ≤ (n9) ∧ (n9) ≤ 65536) (h7 : 0 ≤ (u10_1) ∧ (u10_1) ≤ (n11) ∧ (n11) ≤ 65536) (h8 : 0 ≤ y1 ∧ y1 ≤ 3) (k : ∀ (z : Int) (σ : rS) (Dₚ Nₚ : Nat → Nat) (Fₚ : hF) (Aₚ : hA) (cₚ sₚ : Nat), HW V20_vb σ Dₚ Nₚ Fₚ Aₚ → OUT (V20_vb).length D N σE c s Dₚ Nₚ σ cₚ sₚ → SD [3, 5, 7, 9] D Dₚ → SD [3, 5, 7, 9] N Nₚ → SF [(0, 18), (2, 0), (2, 1), (2, 2), (2, 3), (2, 4), (4, 0), (4, 1), (4, 2), (4, 3), (4, 4), (6, 0), (6, 1), (6, 2), (6, 3), (6, 4), (8, 0), (8, 1), (8, 2), (8, 3), (8, 4)] F Fₚ → SA [3, 5, 7, 9] A Aₚ → Fₚ 2 0 = (Dₚ 3 : Int) → Fₚ 4 0 = (Dₚ 5 : Int) → Fₚ 6 0 = (Dₚ 7 : Int) → Fₚ 8 0 = (Dₚ 9 : Int) → ∀ m3 : Int, (Nₚ 3 : Int) = m3 → ∀ m5 : Int, (Nₚ 5 : Int) = m5 → ∀ m7 : Int, (Nₚ 7 : Int) = m7 → ∀ m9 : Int, (Nₚ 9 : Int) = m9 → ∀ y2_1 : Int, Fₚ 2 1 = y2_1 → ∀ y4_1 : Int, Fₚ 4 1 = y4_1 → ∀ y6_1 : Int, Fₚ 6 1 = y6_1 → ∀ y8_1 : Int, Fₚ 8 1 = y8_1 → (inr (z)) → (0 ≤ (y2_1) ∧ (y2_1) ≤ (m3) ∧ (m3) ≤ 65536) → (0 ≤ (y4_1) ∧ (y4_1) ≤ (m5) ∧ (m5) ≤ 65536) → (0 ≤ (y6_1) ∧ (y6_1) ≤ (m7) ∧ (m7) ≤ 65536) → (0 ≤ (y8_1) ∧ (y8_1) ≤ (m9) ∧ (m9) ≤ 65536) → (0 ≤ (u10_1) ∧ (u10_1) ≤ (n11) ∧ (n11) ≤ 65536) → Q (some (I z)) σ cₚ sₚ) : Ew 20 (d + 5) 71 ls [I (y2), I (y1), .ref (D 0)] σE c s Q := by
  have O := OUT_refl (n := (V20_vb).length) (D := D) (N := N) (σ := σE) (c := c) (s := s)
  have HE := H
  refine v_inv H (o := 0) rfl rfl rfl rfl rfl rfl (by rfl) (C31 (D := puc 6984479500156472304109347144192 D) (N := puc 6984479500156472304109347144192 N) (HW_subc H oz_T9cls_42 oz_T9cls_40) (pf1) (pf2) (pf3) (pf4) (pf5) (pf6) (pf7) (pf8) (pf9) (pf10) (pf11) (n1) (en1) (n3) (en3) (n5) (en5) (n7) (en7) (n9) (en9) (n11) (en11) (u2_1) ((eu2_1)) (u4_1) ((eu4_1)) (u6_1) ((eu6_1)) (u8_1) ((eu8_1)) (u10_1) ((eu10_1)) (show inr (y1) from h0) (show inr (y2) from h1) (show (n1) = 4 from h2) (show 0 ≤ (u2_1) ∧ (u2_1) ≤ (n3) ∧ (n3) ≤ 65536 from h3) (show 0 ≤ (u4_1) ∧ (u4_1) ≤ (n5) ∧ (n5) ≤ 65536 from h4) (show 0 ≤ (u6_1) ∧ (u6_1) ≤ (n7) ∧ (n7) ≤ 65536 from h5) (show 0 ≤ (u8_1) ∧ (u8_1) ≤ (n9) ∧ (n9) ≤ 65536 from h6) (show 0 ≤ (u10_1) ∧ (u10_1) ≤ (n11) ∧ (n11) ≤ 65536 from h7) (show 0 ≤ (y1) ∧ (y1) ≤ 3 from h8) (fun z12 σ12 D12ₚ N12ₚ F12ₚ A12ₚ c12 s12 Hₚ Oₚ hD12 hN12 hS12 hA12 (pm12_3 : HID _) (pm12_5 : HID _) (pm12_7 : HID _) (pm12_9 : HID _) m12_3 (em12_3 : HID _) m12_5 (em12_5 : HID _) m12_7 (em12_7 : HID _) m12_9 (em12_9 : HID _) y12_2_1 (ey12_2_1 : HID _) y12_4_1 (ey12_4_1 : HID _) y12_6_1 (ey12_6_1 : HID _) y12_8_1 (ey12_8_1 : HID _) pz12_0 pz12_1 pz12_2 pz12_3 pz12_4 pz12_5 => ⟨rfl, ?_⟩))
  refine v_backMc (c := c) (s := s) H oz_T9cls_42 oz_T9cls_40 Hₚ Oₚ hD12 oz_T9cls_43 (fun D12 N12 F12 A12 H Oₚ eD12 eN12 eF12 eA12 => ?_)
  have O := OUT_trans O Oₚ
  -- PackHouse.settle
  have cF12 : SF oz_T9clsl_6 F F12 := SF_trans (SF_refl) (SF_gluc (ι := oz_T9clsl_8) oz_T9cls_40 hS12 eF12 (by decide +kernel)) (any_sub (lₚ := [(0, 18), (2, 0), (2, 1), (2, 2), (2, 3), (2, 4), (4, 0), (4, 1), (4, 2), (4, 3), (4, 4), (6, 0), (6, 1), (6, 2), (6, 3), (6, 4), (8, 0), (8, 1), (8, 2), (8, 3), (8, 4)]) (by decide +kernel))
  have mF12 := SFm_of cF12 oz_T9cls_38
  have cA12 : SA oz_T9clsl_7 A A12 := SA_trans (SA_refl) (SA_gluc (ι := oz_T9clsl_8) oz_T9cls_40 hA12 eA12 (by decide +kernel)) (any_subA (lₚ := [3, 5, 7, 9]) (by decide +kernel))
  have mA12 := SAm_of cA12 oz_T9cls_39
  have cD12 : SD oz_T9clsl_7 D D12 := SD_trans (SD_refl) (SD_gluc (ι := oz_T9clsl_8) oz_T9cls_40 hD12 eD12 (by decide +kernel)) (any_subA (lₚ := [3, 5, 7, 9]) (by decide +kernel))
  have mD12 := SDm_of cD12 oz_T9cls_39
  have cN12 : SD oz_T9clsl_7 N N12 := SD_trans (SD_refl) (SD_gluc (ι := oz_T9clsl_8) oz_T9cls_40 hN12 eN12 (by decide +kernel)) (any_subA (lₚ := [3, 5, 7, 9]) (by decide +kernel))
  have mN12 := SDm_of cN12 oz_T9cls_39
  have pf12_2_0 : HID (F12 2 0 = (D12 3 : Int)) := (eF12 2 0).trans (pm12_3.trans (congrArg (fun q : Nat => (q : Int)) (eD12 3).symm))
  have pf12_4_0 : HID (F12 4 0 = (D12 5 : Int)) := (eF12 4 0).trans (pm12_5.trans (congrArg (fun q : Nat => (q : Int)) (eD12 5).symm))
  have pf12_6_0 : HID (F12 6 0 = (D12 7 : Int)) := (eF12 6 0).trans (pm12_7.trans (congrArg (fun q : Nat => (q : Int)) (eD12 7).symm))
  have pf12_8_0 : HID (F12 8 0 = (D12 9 : Int)) := (eF12 8 0).trans (pm12_9.trans (congrArg (fun q : Nat => (q : Int)) (eD12 9).symm))
  exact w_ireturn rfl (k (z12) _ _ _ _ _ _ _ H O (cD12) (cN12) (cF12) (cA12) (pf12_2_0) (pf12_4_0) (pf12_6_0) (pf12_8_0) (m12_3) ((congrArg (fun q : Nat => (q : Int)) (eN12 3)).trans em12_3) (m12_5) ((congrArg (fun q : Nat => (q : Int)) (eN12 5)).trans em12_5) (m12_7) ((congrArg (fun q : Nat => (q : Int)) (eN12 7)).trans em12_7) (m12_9) ((congrArg (fun q : Nat => (q : Int)) (eN12 9)).trans em12_9) (y12_2_1) (((eF12 2 1).trans ey12_2_1)) (y12_4_1) (((eF12 4 1).trans ey12_4_1)) (y12_6_1) (((eF12 6 1).trans ey12_6_1)) (y12_8_1) (((eF12 8 1).trans ey12_8_1)) (show inr (z12) from pz12_0) (show 0 ≤ (y12_2_1) ∧ (y12_2_1) ≤ (m12_3) ∧ (m12_3) ≤ 65536 from pz12_1) (show 0 ≤ (y12_4_1) ∧ (y12_4_1) ≤ (m12_5) ∧ (m12_5) ≤ 65536 from pz12_2) (show 0 ≤ (y12_6_1) ∧ (y12_6_1) ≤ (m12_7) ∧ (m12_7) ≤ 65536 from pz12_3) (show 0 ≤ (y12_8_1) ∧ (y12_8_1) ≤ (m12_9) ∧ (m12_9) ≤ 65536 from pz12_4) (show 0 ≤ (u10_1) ∧ (u10_1) ≤ (n11) ∧ (n11) ≤ 65536 from pz12_5))
abbrev V15_vb : vV := [(0, 0, [(4, 0), (4, 0), (4, 0), (4, 0), (4, 0), (4, 0), (4, 0), (4, 0), (4, 0), (4, 0), (4, 0), (4, 0), (4, 0), (4, 0), (4, 0), (4, 0), (4, 0), (0, 0), (0, 0)]), (0, 4, [(4, 0), (4, 0), (0, 0), (4, 0), (4, 0)]), (0, 4, [(4, 0), (4, 0), (0, 0), (4, 0), (4, 0)])]
theorem len_V15_vb_oz_T9cls : (V15_vb).length = 3 := by decide +kernel
def oz_T9clsl_9 : List (Nat × Nat) := [(0, 3), (0, 4)]
theorem oz_T9cls_45 : (oz_T9clsl_9).all (fun p => !tbz 24 (Nat.add (Nat.mul 32 p.1) p.2)) = true := by decide +kernel
/-- PackHouse.learn: this, this.otherDictionary, this.dictionary -/
theorem C15_vb {σE : rS} {D N : Nat → Nat} {F : hF} {A : hA} {d c s : Nat} {Q : wQ} (H : HW V15_vb σE D N F A) {y0 : Int} (pf1 : HID (F 0 4 = (D 1 : Int))) (pf2 : HID (F 0 3 = (D 2 : Int))) (u0_3 : Int) (eu0_3 : HID (F 0 3 = u0_3)) (u0_4 : Int) (eu0_4 : HID (F 0 4 = u0_4)) {ls : rO} (hl0 : rlook ls 0 = some (.ref (D 0))) (h0 : inr y0) (k : ∀ (z : Int) (σ : rS) (Fₚ : hF) (Aₚ : hA), HW V15_vb σ D N Fₚ Aₚ → OUT (V15_vb).length D N σE c s D N σ c s → SF [(0, 3), (0, 4)] F Fₚ → SA [] A Aₚ → ∀ y0_3 : Int, Fₚ 0 3 = y0_3 → ∀ y0_4 : Int, Fₚ 0 4 = y0_4 → (inr (z)) → ((z) = y0 ∧ (y0 < 0 ∧ (y0_3) = (u0_3) ∧ (y0_4) = (u0_4) ∨ 0 ≤ y0 ∧ (y0_3) = (((D 1 : Nat) : Int)) ∧ (y0_4) = (((D 2 : Nat) : Int)))) → Q (some (I z)) σ c s) : Ew 15 (d + 0) 23 ls [I (y0)] σE c s Q := by
  have O := OUT_refl (n := (V15_vb).length) (D := D) (N := N) (σ := σE) (c := c) (s := s)
  have HE := H
  refine Ew_of (pcₚ := 24) (fun _ => x_istore_n rfl) ?_
  refine Ew_of (pcₚ := 25) (fun _ => x_iload_n rfl rk_s) ?_
  refine w_iflt (t := 46) rfl rfl (show inr (y0) from h0) (fun b1 => ?_) (fun b1 => ?_)
  · refine Ew_of (pcₚ := 47) (fun _ => x_iload_n rfl rk_s) ?_
    exact w_ireturn rfl (k (y0) _ _ _ H O (SF_refl) (SA_refl) (u0_3) ((eu0_3)) (u0_4) ((eu0_4)) (show inr (y0) from h0) (show (y0) = y0 ∧ (y0 < 0 ∧ (u0_3) = (u0_3) ∧ (u0_4) = (u0_4) ∨ 0 ≤ y0 ∧ (u0_3) = (((D 1 : Nat) : Int)) ∧ (u0_4) = (((D 2 : Nat) : Int))) from q_4339 b1))
  · refine Ew_of (pcₚ := 29) (fun _ => x_aload_n rfl (rk_o (hl0) rfl rfl)) ?_
    refine v_g H (o := 0) (v := .ref (D 2)) rfl rfl rfl rfl rfl (vrf (pf2)) ?_
    refine Ew_of (pcₚ := 33) (fun _ => x_astore_n rfl) ?_
    refine Ew_of (pcₚ := 34) (fun _ => x_aload_n rfl (rk_o (rk_o (hl0) rfl rfl) rfl rfl)) ?_
    refine Ew_of (pcₚ := 35) (fun _ => x_aload_n rfl (rk_o (rk_o (hl0) rfl rfl) rfl rfl)) ?_
    refine v_g H (o := 0) (v := .ref (D 1)) rfl rfl rfl rfl rfl (vrf (pf1)) ?_
    refine v_p H (o := 0) (z := ((D 1 : Nat) : Int)) (v := .ref (D 1)) rfl rfl rfl rfl rfl rfl (vrf rfl) rfl (show (-1 : Int) ≤ ((D 1 : Nat) : Int) by omega) (fun σ H Oₚ => ?_)
    have O := OUT_trans O Oₚ
    have cFu2 : SF oz_T9clsl_9 F (updF F 0 3 ((D 1 : Nat) : Int)) := SF_upd (SF_refl) rfl
    have mFu2 := SFm_of cFu2 oz_T9cls_45
    refine Ew_of (pcₚ := 42) (fun _ => x_aload_n rfl (rk_o (rk_o (hl0) rfl rfl) rfl rfl)) ?_
    refine Ew_of (pcₚ := 43) (fun _ => x_aload_n rfl rk_s) ?_
    refine v_p H (o := 0) (z := ((D 2 : Nat) : Int)) (v := .ref (D 2)) rfl rfl rfl rfl rfl rfl (vrf rfl) rfl (show (-1 : Int) ≤ ((D 2 : Nat) : Int) by omega) (fun σ H Oₚ => ?_)
    have O := OUT_trans O Oₚ
    have cFu3 : SF oz_T9clsl_9 F (updF (updF F 0 3 ((D 1 : Nat) : Int)) 0 4 ((D 2 : Nat) : Int)) := SF_upd (cFu2) rfl
    have mFu3 := SFm_of cFu3 oz_T9cls_45
    refine Ew_of (pcₚ := 47) (fun _ => x_iload_n rfl (rk_o (rk_s) rfl rfl)) ?_
    exact w_ireturn rfl (k (y0) _ _ _ H O (cFu3) (SA_refl) (((D 1 : Nat) : Int)) (rfl) (((D 2 : Nat) : Int)) (rfl) (show inr (y0) from h0) (show (y0) = y0 ∧ (y0 < 0 ∧ (((D 1 : Nat) : Int)) = (u0_3) ∧ (((D 2 : Nat) : Int)) = (u0_4) ∨ 0 ≤ y0 ∧ (((D 1 : Nat) : Int)) = (((D 1 : Nat) : Int)) ∧ (((D 2 : Nat) : Int)) = (((D 2 : Nat) : Int))) from q_4340 b1))
