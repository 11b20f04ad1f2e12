abbrev V17_va : vV := [(0, 0, [(4, 0), (4, 0), (4, 0), (4, 0), (4, 0), (4, 0), (4, 0), (4, 0), (4, 0), (4, 0), (4, 0), (4, 0), (4, 0), (4, 0), (4, 0), (4, 0), (4, 0), (0, 0), (0, 0)]), (1, 4, []), (0, 7, [(4, 0), (0, 0), (1, 0), (0, 0), (0, 0)]), (1, 0, []), (0, 7, [(4, 0), (0, 0), (1, 0), (0, 0), (0, 0)]), (1, 0, []), (0, 7, [(4, 0), (0, 0), (1, 0), (0, 0), (0, 0)]), (1, 0, []), (0, 7, [(4, 0), (0, 0), (1, 0), (0, 0), (0, 0)]), (1, 0, []), (0, 7, [(4, 0), (0, 0), (1, 0), (0, 0), (0, 0)]), (0, 4, [(4, 0), (4, 0), (0, 0), (4, 0), (4, 0)]), (0, 7, [(4, 0), (0, 0), (1, 0), (0, 0), (0, 0)])]
theorem len_V17_va_oz_R7cls : (V17_va).length = 13 := by decide +kernel
theorem oz_R7cls_1 : vsub V17_va V24 [] = true := by decide +kernel
theorem oz_R7cls_2 : vsub V17_va V30 [0, 10, 11, 12] = true := by decide +kernel
def oz_R7clsl_0 : List (Nat × Nat) := []
theorem oz_R7cls_3 : (oz_R7clsl_0).all (fun p => !tbz 0 (Nat.add (Nat.mul 32 p.1) p.2)) = true := by decide +kernel
def oz_R7clsl_1 : List Nat := []
theorem oz_R7cls_4 : (oz_R7clsl_1).all (fun p => !tbz 0 p) = true := by decide +kernel
theorem oz_R7cls_5 : okc oz_R7clsl_1 0 = true := by decide +kernel
def oz_R7clsl_2 : List Nat := [0, 10, 11, 12]
theorem oz_R7cls_6 : okc oz_R7clsl_2 1613501440 = true := by decide +kernel
/-- PackHouse.write: this, this.rows, this.rows.0, this.rows.0.bytes, this.rows.1, this.rows.1.bytes, this.rows.2, this.rows.2.bytes, this.rows.3, this.rows.3.bytes, this.past, this.dictionary, this.dictionary.content -/
theorem C17_va {σE : rS} {D N : Nat → Nat} {F : hF} {A : hA} {d c s : Nat} {Q : wQ} (H : HW V17_va σE D N F A) {a1 a2 a3 : Int} (pf1 : HID (F 0 0 = (D 1 : Int))) (pf2 : HID (A 1 0 = (D 2 : Int))) (pf3 : HID (F 2 0 = (D 3 : Int))) (pf4 : HID (A 1 1 = (D 4 : Int))) (pf5 : HID (F 4 0 = (D 5 : Int))) (pf6 : HID (A 1 2 = (D 6 : Int))) (pf7 : HID (F 6 0 = (D 7 : Int))) (pf8 : HID (A 1 3 = (D 8 : Int))) (pf9 : HID (F 8 0 = (D 9 : Int))) (pf10 : HID (F 0 2 = (D 10 : Int))) (pf11 : HID (F 0 3 = (D 11 : Int))) (pf12 : HID (F 11 0 = (D 12 : Int))) (n1 : Int) (en1 : HID ((N 1 : Int) = n1)) (n3 : Int) (en3 : HID ((N 3 : Int) = n3)) (n5 : Int) (en5 : HID ((N 5 : Int) = n5)) (n7 : Int) (en7 : HID ((N 7 : Int) = n7)) (n9 : Int) (en9 : HID ((N 9 : Int) = n9)) (u2_1 : Int) (eu2_1 : HID (F 2 1 = u2_1)) (u4_1 : Int) (eu4_1 : HID (F 4 1 = u4_1)) (u6_1 : Int) (eu6_1 : HID (F 6 1 = u6_1)) (u8_1 : Int) (eu8_1 : HID (F 8 1 = u8_1)) (u10_1 : Int) (eu10_1 : HID (F 10 1 = u10_1)) (u12_1 : Int) (eu12_1 : HID (F 12 1 = u12_1)) (h0 : inr (a1)) (h1 : inr (a2)) (h2 : inr (a3)) (h3 : (n1) = 4) (h4 : 0 ≤ (u2_1) ∧ (u2_1) ≤ (n3) ∧ (n3) ≤ 65536) (h5 : 0 ≤ (u4_1) ∧ (u4_1) ≤ (n5) ∧ (n5) ≤ 65536) (h6 : 0 ≤ (u6_1) ∧ (u6_1) ≤ (n7) ∧ (n7) ≤ 65536) (h7 : 0 ≤ (u8_1) ∧ (u8_1) ≤ (n9) ∧ (n9) ≤ 65536) (h8 : 0 ≤ (u10_1) ∧ (u10_1) ≤ 65536) (h9 : 0 ≤ (u12_1) ∧ (u12_1) ≤ 65536) (hc46 : ∀ (ls : rO) (σ : rS) (F_c46 : hF) (A_c46 : hA) , rlook ls 0 = some (.ref (D 0)) → rlook ls 1 = some (I (a1)) → rlook ls 2 = some (I (a2)) → rlook ls 3 = some (I (a3)) → HW V17_va σ D N F_c46 A_c46 → OUT (V17_va).length D N σE c s D N σ c s → SF [] F F_c46 → SA [] A A_c46 → (0 ≤ (a1) ∧ (a1) ≤ 3) → (0 ≤ (a2) ∧ (a2) ≤ 3) → (0 ≤ (a3) ∧ (a3) ≤ 5) → (0 ≠ (a2) ∨ (u2_1) + (0) ≤ 16384) → (1 ≠ (a2) ∨ (u4_1) + (0) ≤ 16384) → (2 ≠ (a2) ∨ (u6_1) + (0) ≤ 16384) → (3 ≠ (a2) ∨ (u8_1) + (0) ≤ 16384) → (0 ≠ (a2) ∨ 2 ≤ (a3) ∨ (u2_1) + (u10_1) ≤ 16384) → (1 ≠ (a2) ∨ 2 ≤ (a3) ∨ (u4_1) + (u10_1) ≤ 16384) → (2 ≠ (a2) ∨ 2 ≤ (a3) ∨ (u6_1) + (u10_1) ≤ 16384) → (3 ≠ (a2) ∨ 2 ≤ (a3) ∨ (u8_1) + (u10_1) ≤ 16384) → (0 ≠ (a2) ∨ (a3) ≠ 4 ∨ (u2_1) + (u12_1) ≤ 16384) → (1 ≠ (a2) ∨ (a3) ≠ 4 ∨ (u4_1) + (u12_1) ≤ 16384) → (2 ≠ (a2) ∨ (a3) ≠ 4 ∨ (u6_1) + (u12_1) ≤ 16384) → (3 ≠ (a2) ∨ (a3) ≠ 4 ∨ (u8_1) + (u12_1) ≤ 16384) → Ew 17 (d + 1) 46 ls [] σ c s Q) (k : ∀ (z : Int) (σ : rS) (Fₚ : hF) (Aₚ : hA), HW V17_va σ D N Fₚ Aₚ → OUT (V17_va).length D N σE c s D N σ c s → SF [] F Fₚ → SA [] A Aₚ → (inr (z)) → Q (some (I z)) σ c s) : Ew 17 (d + 1) 0 (rargs 0 [.ref (D 0), I a1, I a2, I a3]) [] σE c s Q := by
  have O := OUT_refl (n := (V17_va).length) (D := D) (N := N) (σ := σE) (c := c) (s := s)
  have HE := H
  have r1 : HID ((-2147483648 : Int) ≤ u2_1 ∧ u2_1 ≤ 2147483647) := krg_e (show (-2147483648 : Int) ≤ F 2 1 ∧ F 2 1 ≤ 2147483647 from H.krg 2 1 (ltn len_V17_va_oz_R7cls rfl)) (show F 2 1 = u2_1 from (eu2_1))
  have r2 : HID ((-2147483648 : Int) ≤ u4_1 ∧ u4_1 ≤ 2147483647) := krg_e (show (-2147483648 : Int) ≤ F 4 1 ∧ F 4 1 ≤ 2147483647 from H.krg 4 1 (ltn len_V17_va_oz_R7cls rfl)) (show F 4 1 = u4_1 from (eu4_1))
  have r3 : HID ((-2147483648 : Int) ≤ u6_1 ∧ u6_1 ≤ 2147483647) := krg_e (show (-2147483648 : Int) ≤ F 6 1 ∧ F 6 1 ≤ 2147483647 from H.krg 6 1 (ltn len_V17_va_oz_R7cls rfl)) (show F 6 1 = u6_1 from (eu6_1))
  have r4 : HID ((-2147483648 : Int) ≤ u8_1 ∧ u8_1 ≤ 2147483647) := krg_e (show (-2147483648 : Int) ≤ F 8 1 ∧ F 8 1 ≤ 2147483647 from H.krg 8 1 (ltn len_V17_va_oz_R7cls rfl)) (show F 8 1 = u8_1 from (eu8_1))
  have r5 : HID ((-2147483648 : Int) ≤ u10_1 ∧ u10_1 ≤ 2147483647) := krg_e (show (-2147483648 : Int) ≤ F 10 1 ∧ F 10 1 ≤ 2147483647 from H.krg 10 1 (ltn len_V17_va_oz_R7cls rfl)) (show F 10 1 = u10_1 from (eu10_1))
  have r6 : HID ((-2147483648 : Int) ≤ u12_1 ∧ u12_1 ≤ 2147483647) := krg_e (show (-2147483648 : Int) ≤ F 12 1 ∧ F 12 1 ≤ 2147483647 from H.krg 12 1 (ltn len_V17_va_oz_R7cls rfl)) (show F 12 1 = u12_1 from (eu12_1))
  have r7 : HID ((0 : Int) ≤ n1 ∧ n1 ≤ 1000000) := nrng (H.nle 1 (ltn len_V17_va_oz_R7cls rfl)) (show (N 1 : Int) = n1 from en1)
  refine Ew_of (pcₚ := 1) (fun _ => x_iload_n rfl rfl) ?_
  refine w_stat24 rfl rfl (by rfl) (C24 (D := puc 0 D) (N := puc 0 N) (HW_subc H oz_R7cls_1 oz_R7cls_5) (show inr (a1) from h0) (fun z12 σ12 F12ₚ A12ₚ Hₚ Oₚ hS12 hA12 pz12_0 pz12_1 => ⟨rretB rfl pz12_0, ?_⟩))
  refine v_backc (c := c) (s := s) H oz_R7cls_1 oz_R7cls_5 Hₚ Oₚ (fun F12 A12 H Oₚ eF12 eA12 => ?_)
  have O := OUT_trans O Oₚ
  -- PackHouse.isRow
  have cF12 : SF oz_R7clsl_0 F F12 := SF_trans (SF_refl) (SF_gluc (ι := oz_R7clsl_1) oz_R7cls_5 hS12 eF12 (by decide +kernel)) (any_sub (lₚ := []) (by decide +kernel))
  have mF12 := SFm_of cF12 oz_R7cls_3
  have cA12 : SA oz_R7clsl_1 A A12 := SA_trans (SA_refl) (SA_gluc (ι := oz_R7clsl_1) oz_R7cls_5 hA12 eA12 (by decide +kernel)) (any_subA (lₚ := []) (by decide +kernel))
  have mA12 := SAm_of cA12 oz_R7cls_4
  refine w_ifeq (t := 44) rfl rfl (show inr (z12) from q_15 pz12_0) (fun b13 => ?_) (fun b13 => ?_)
  · refine Ew_of (pcₚ := 45) (fun _ => x_iconst rfl) ?_
    exact w_ireturn rfl (k ((-1)) _ _ _ H O (cF12) (cA12) (show inr ((-1)) from q_16))
  · refine Ew_of (pcₚ := 8) (fun _ => x_iload_n rfl rfl) ?_
    refine w_stat24 rfl rfl (by rfl) (C24 (D := puc 0 D) (N := puc 0 N) (HW_subc H oz_R7cls_1 oz_R7cls_5) (show inr (a2) from h1) (fun z14 σ14 F14ₚ A14ₚ Hₚ Oₚ hS14 hA14 pz14_0 pz14_1 => ⟨rretB rfl pz14_0, ?_⟩))
    refine v_backc (c := c) (s := s) H oz_R7cls_1 oz_R7cls_5 Hₚ Oₚ (fun F14 A14 H Oₚ eF14 eA14 => ?_)
    have O := OUT_trans O Oₚ
    -- PackHouse.isRow
    have cF14 : SF oz_R7clsl_0 F F14 := SF_trans (cF12) (SF_gluc (ι := oz_R7clsl_1) oz_R7cls_5 hS14 eF14 (by decide +kernel)) (any_sub (lₚ := []) (by decide +kernel))
    have mF14 := SFm_of cF14 oz_R7cls_3
    have cA14 : SA oz_R7clsl_1 A A14 := SA_trans (cA12) (SA_gluc (ι := oz_R7clsl_1) oz_R7cls_5 hA14 eA14 (by decide +kernel)) (any_subA (lₚ := []) (by decide +kernel))
    have mA14 := SAm_of cA14 oz_R7cls_4
    refine w_ifeq (t := 44) rfl rfl (show inr (z14) from q_15 pz14_0) (fun b15 => ?_) (fun b15 => ?_)
    · refine Ew_of (pcₚ := 45) (fun _ => x_iconst rfl) ?_
      exact w_ireturn rfl (k ((-1)) _ _ _ H O (cF14) (cA14) (show inr ((-1)) from q_16))
    · refine Ew_of (pcₚ := 15) (fun _ => x_iload_n rfl rfl) ?_
      refine w_iflt (t := 44) rfl rfl (show inr (a3) from h2) (fun b16 => ?_) (fun b16 => ?_)
      · refine Ew_of (pcₚ := 45) (fun _ => x_iconst rfl) ?_
        exact w_ireturn rfl (k ((-1)) _ _ _ H O (cF14) (cA14) (show inr ((-1)) from q_16))
      · refine Ew_of (pcₚ := 19) (fun _ => x_iload_n rfl rfl) ?_
        refine Ew_of (pcₚ := 20) (fun _ => x_iconst rfl) ?_
        refine w_icmpgt (t := 44) rfl rfl (show inr (a3) from h2) (show inr (5) from q_509) (fun b17 => ?_) (fun b17 => ?_)
        · refine Ew_of (pcₚ := 45) (fun _ => x_iconst rfl) ?_
          exact w_ireturn rfl (k ((-1)) _ _ _ H O (cF14) (cA14) (show inr ((-1)) from q_16))
        · refine Ew_of (pcₚ := 24) (fun _ => x_aload_n rfl rfl) ?_
          refine v_g H (o := 0) (v := .ref (D 1)) rfl rfl rfl rfl rfl (vrf ((mF14 0 0 rfl).trans (pf1))) ?_
          refine Ew_of (pcₚ := 28) (fun _ => x_iload_n rfl rfl) ?_
          rcases (show a2 = 0 ∨ a2 = 1 ∨ a2 = 2 ∨ a2 = 3 by omega) with b18 | b18 | b18 | b18
          · refine v_lR H (o := 1) rfl rfl rfl rfl rfl (n := n1) (en1) (show 0 ≤ a2 ∧ a2 < n1 from q_4225 (HIDe r7) b18 h3) (z := ((D 2 : Nat) : Int)) (v := .ref (D 2)) ((congrArg (A14 1) b18).trans ((mA14 1 rfl 0).trans (pf2))) (vrf rfl) ?_
            refine v_g H (o := 2) (v := I (u2_1)) rfl rfl rfl rfl rfl (congrArg (fun z : Int => I z) (((mF14 2 1 rfl).trans (eu2_1)) : F14 2 1 = u2_1)) ?_
            refine Ew_of (pcₚ := 33) (fun _ => x_aload_n rfl rfl) ?_
            refine Ew_of (pcₚ := 34) (fun _ => x_iload_n rfl rfl) ?_
            refine v_inv H (o := 0) rfl rfl rfl rfl rfl rfl (by rfl) (C30 (D := puc 1613501440 D) (N := puc 1613501440 N) (HW_subc H oz_R7cls_2 oz_R7cls_6) ((mF14 0 2 rfl).trans (pf10)) ((mF14 0 3 rfl).trans (pf11)) ((mF14 11 0 rfl).trans (pf12)) (u10_1) (((mF14 10 1 rfl).trans (eu10_1))) (u12_1) (((mF14 12 1 rfl).trans (eu12_1))) (show inr (a3) from h2) (fun z19 σ19 F19ₚ A19ₚ Hₚ Oₚ hS19 hA19 pz19_0 pz19_1 => ⟨rfl, ?_⟩))
            refine v_backc (c := c) (s := s) H oz_R7cls_2 oz_R7cls_6 Hₚ Oₚ (fun F19 A19 H Oₚ eF19 eA19 => ?_)
            have O := OUT_trans O Oₚ
            -- PackHouse.bytesAhead
            have cF19 : SF oz_R7clsl_0 F F19 := SF_trans (cF14) (SF_gluc (ι := oz_R7clsl_2) oz_R7cls_6 hS19 eF19 (by decide +kernel)) (any_sub (lₚ := []) (by decide +kernel))
            have mF19 := SFm_of cF19 oz_R7cls_3
            have cA19 : SA oz_R7clsl_1 A A19 := SA_trans (cA14) (SA_gluc (ι := oz_R7clsl_2) oz_R7cls_6 hA19 eA19 (by decide +kernel)) (any_subA (lₚ := []) (by decide +kernel))
            have mA19 := SAm_of cA19 oz_R7cls_4
            refine w_iadd rfl ?_
            refine Ew_of (pcₚ := 41) (fun _ => x_sipush (z := 16384) rfl (by decide)) ?_
            refine w_icmple (t := 46) rfl rfl (show inr ((u2_1 + z19)) from q_4271 h4 h8 h9 pz19_0 pz19_1) (show inr (16384) from q_2050) (fun b20 => ?_) (fun b20 => ?_)
            · exact hc46  _ _ _ _  (rfl) (rfl) (rfl) (rfl) H O (SF_trans (SF_trans (SF_trans (SF_refl) (SF_gluc (ι := oz_R7clsl_1) oz_R7cls_5 hS12 eF12 (by decide +kernel)) (any_sub (lₚ := []) (by decide +kernel))) (SF_gluc (ι := oz_R7clsl_1) oz_R7cls_5 hS14 eF14 (by decide +kernel)) (any_sub (lₚ := []) (by decide +kernel))) (SF_gluc (ι := oz_R7clsl_2) oz_R7cls_6 hS19 eF19 (by decide +kernel)) (any_sub (lₚ := []) (by decide +kernel))) (SA_trans (SA_trans (SA_trans (SA_refl) (SA_gluc (ι := oz_R7clsl_1) oz_R7cls_5 hA12 eA12 (by decide +kernel)) (any_subA (lₚ := []) (by decide +kernel))) (SA_gluc (ι := oz_R7clsl_1) oz_R7cls_5 hA14 eA14 (by decide +kernel)) (any_subA (lₚ := []) (by decide +kernel))) (SA_gluc (ι := oz_R7clsl_2) oz_R7cls_6 hA19 eA19 (by decide +kernel)) (any_subA (lₚ := []) (by decide +kernel)))     (show 0 ≤ (a1) ∧ (a1) ≤ 3 by omega) (show 0 ≤ (a2) ∧ (a2) ≤ 3 from q_2886 b18) (show 0 ≤ (a3) ∧ (a3) ≤ 5 from q_4281 b16 b17) (show 0 ≠ (a2) ∨ (u2_1) + (0) ≤ 16384 by have qh0 := HIDe r1; omega) (show 1 ≠ (a2) ∨ (u4_1) + (0) ≤ 16384 from q_4280 b18) (show 2 ≠ (a2) ∨ (u6_1) + (0) ≤ 16384 from q_4279 b18) (show 3 ≠ (a2) ∨ (u8_1) + (0) ≤ 16384 from q_4278 b18) (show 0 ≠ (a2) ∨ 2 ≤ (a3) ∨ (u2_1) + (u10_1) ≤ 16384 by have qh0 := HIDe r1; have qh1 := HIDe r5; omega) (show 1 ≠ (a2) ∨ 2 ≤ (a3) ∨ (u4_1) + (u10_1) ≤ 16384 from q_4277 b18) (show 2 ≠ (a2) ∨ 2 ≤ (a3) ∨ (u6_1) + (u10_1) ≤ 16384 from q_4276 b18) (show 3 ≠ (a2) ∨ 2 ≤ (a3) ∨ (u8_1) + (u10_1) ≤ 16384 from q_4275 b18) (show 0 ≠ (a2) ∨ (a3) ≠ 4 ∨ (u2_1) + (u12_1) ≤ 16384 by have qh0 := HIDe r1; have qh1 := HIDe r6; omega) (show 1 ≠ (a2) ∨ (a3) ≠ 4 ∨ (u4_1) + (u12_1) ≤ 16384 from q_4274 b18) (show 2 ≠ (a2) ∨ (a3) ≠ 4 ∨ (u6_1) + (u12_1) ≤ 16384 from q_4273 b18) (show 3 ≠ (a2) ∨ (a3) ≠ 4 ∨ (u8_1) + (u12_1) ≤ 16384 from q_4272 b18)
            · refine Ew_of (pcₚ := 45) (fun _ => x_iconst rfl) ?_
              exact w_ireturn rfl (k ((-1)) _ _ _ H O (cF19) (cA19) (show inr ((-1)) from q_16))
          · refine v_lR H (o := 1) rfl rfl rfl rfl rfl (n := n1) (en1) (show 0 ≤ a2 ∧ a2 < n1 from q_4226 (HIDe r7) b18 h3) (z := ((D 4 : Nat) : Int)) (v := .ref (D 4)) ((congrArg (A14 1) b18).trans ((mA14 1 rfl 1).trans (pf4))) (vrf rfl) ?_
            refine v_g H (o := 4) (v := I (u4_1)) rfl rfl rfl rfl rfl (congrArg (fun z : Int => I z) (((mF14 4 1 rfl).trans (eu4_1)) : F14 4 1 = u4_1)) ?_
            refine Ew_of (pcₚ := 33) (fun _ => x_aload_n rfl rfl) ?_
            refine Ew_of (pcₚ := 34) (fun _ => x_iload_n rfl rfl) ?_
            refine v_inv H (o := 0) rfl rfl rfl rfl rfl rfl (by rfl) (C30 (D := puc 1613501440 D) (N := puc 1613501440 N) (HW_subc H oz_R7cls_2 oz_R7cls_6) ((mF14 0 2 rfl).trans (pf10)) ((mF14 0 3 rfl).trans (pf11)) ((mF14 11 0 rfl).trans (pf12)) (u10_1) (((mF14 10 1 rfl).trans (eu10_1))) (u12_1) (((mF14 12 1 rfl).trans (eu12_1))) (show inr (a3) from h2) (fun z21 σ21 F21ₚ A21ₚ Hₚ Oₚ hS21 hA21 pz21_0 pz21_1 => ⟨rfl, ?_⟩))
            refine v_backc (c := c) (s := s) H oz_R7cls_2 oz_R7cls_6 Hₚ Oₚ (fun F21 A21 H Oₚ eF21 eA21 => ?_)
            have O := OUT_trans O Oₚ
            -- PackHouse.bytesAhead
            have cF21 : SF oz_R7clsl_0 F F21 := SF_trans (cF14) (SF_gluc (ι := oz_R7clsl_2) oz_R7cls_6 hS21 eF21 (by decide +kernel)) (any_sub (lₚ := []) (by decide +kernel))
            have mF21 := SFm_of cF21 oz_R7cls_3
            have cA21 : SA oz_R7clsl_1 A A21 := SA_trans (cA14) (SA_gluc (ι := oz_R7clsl_2) oz_R7cls_6 hA21 eA21 (by decide +kernel)) (any_subA (lₚ := []) (by decide +kernel))
            have mA21 := SAm_of cA21 oz_R7cls_4
            refine w_iadd rfl ?_
            refine Ew_of (pcₚ := 41) (fun _ => x_sipush (z := 16384) rfl (by decide)) ?_
            refine w_icmple (t := 46) rfl rfl (show inr ((u4_1 + z21)) from q_4271 h5 h8 h9 pz21_0 pz21_1) (show inr (16384) from q_2050) (fun b22 => ?_) (fun b22 => ?_)
            · exact hc46  _ _ _ _  (rfl) (rfl) (rfl) (rfl) H O (SF_trans (SF_trans (SF_trans (SF_refl) (SF_gluc (ι := oz_R7clsl_1) oz_R7cls_5 hS12 eF12 (by decide +kernel)) (any_sub (lₚ := []) (by decide +kernel))) (SF_gluc (ι := oz_R7clsl_1) oz_R7cls_5 hS14 eF14 (by decide +kernel)) (any_sub (lₚ := []) (by decide +kernel))) (SF_gluc (ι := oz_R7clsl_2) oz_R7cls_6 hS21 eF21 (by decide +kernel)) (any_sub (lₚ := []) (by decide +kernel))) (SA_trans (SA_trans (SA_trans (SA_refl) (SA_gluc (ι := oz_R7clsl_1) oz_R7cls_5 hA12 eA12 (by decide +kernel)) (any_subA (lₚ := []) (by decide +kernel))) (SA_gluc (ι := oz_R7clsl_1) oz_R7cls_5 hA14 eA14 (by decide +kernel)) (any_subA (lₚ := []) (by decide +kernel))) (SA_gluc (ι := oz_R7clsl_2) oz_R7cls_6 hA21 eA21 (by decide +kernel)) (any_subA (lₚ := []) (by decide +kernel)))     (show 0 ≤ (a1) ∧ (a1) ≤ 3 by omega) (show 0 ≤ (a2) ∧ (a2) ≤ 3 from q_2799 b18) (show 0 ≤ (a3) ∧ (a3) ≤ 5 from q_4281 b16 b17) (show 0 ≠ (a2) ∨ (u2_1) + (0) ≤ 16384 from q_4290 b18) (show 1 ≠ (a2) ∨ (u4_1) + (0) ≤ 16384 by have qh0 := HIDe r2; omega) (show 2 ≠ (a2) ∨ (u6_1) + (0) ≤ 16384 from q_4289 b18) (show 3 ≠ (a2) ∨ (u8_1) + (0) ≤ 16384 from q_4288 b18) (show 0 ≠ (a2) ∨ 2 ≤ (a3) ∨ (u2_1) + (u10_1) ≤ 16384 from q_4287 b18) (show 1 ≠ (a2) ∨ 2 ≤ (a3) ∨ (u4_1) + (u10_1) ≤ 16384 by have qh0 := HIDe r2; have qh1 := HIDe r5; omega) (show 2 ≠ (a2) ∨ 2 ≤ (a3) ∨ (u6_1) + (u10_1) ≤ 16384 from q_4286 b18) (show 3 ≠ (a2) ∨ 2 ≤ (a3) ∨ (u8_1) + (u10_1) ≤ 16384 from q_4285 b18) (show 0 ≠ (a2) ∨ (a3) ≠ 4 ∨ (u2_1) + (u12_1) ≤ 16384 from q_4284 b18) (show 1 ≠ (a2) ∨ (a3) ≠ 4 ∨ (u4_1) + (u12_1) ≤ 16384 by have qh0 := HIDe r2; have qh1 := HIDe r6; omega) (show 2 ≠ (a2) ∨ (a3) ≠ 4 ∨ (u6_1) + (u12_1) ≤ 16384 from q_4283 b18) (show 3 ≠ (a2) ∨ (a3) ≠ 4 ∨ (u8_1) + (u12_1) ≤ 16384 from q_4282 b18)
            · refine Ew_of (pcₚ := 45) (fun _ => x_iconst rfl) ?_
              exact w_ireturn rfl (k ((-1)) _ _ _ H O (cF21) (cA21) (show inr ((-1)) from q_16))
          · refine v_lR H (o := 1) rfl rfl rfl rfl rfl (n := n1) (en1) (show 0 ≤ a2 ∧ a2 < n1 from q_4227 (HIDe r7) b18 h3) (z := ((D 6 : Nat) : Int)) (v := .ref (D 6)) ((congrArg (A14 1) b18).trans ((mA14 1 rfl 2).trans (pf6))) (vrf rfl) ?_
            refine v_g H (o := 6) (v := I (u6_1)) rfl rfl rfl rfl rfl (congrArg (fun z : Int => I z) (((mF14 6 1 rfl).trans (eu6_1)) : F14 6 1 = u6_1)) ?_
            refine Ew_of (pcₚ := 33) (fun _ => x_aload_n rfl rfl) ?_
            refine Ew_of (pcₚ := 34) (fun _ => x_iload_n rfl rfl) ?_
            refine v_inv H (o := 0) rfl rfl rfl rfl rfl rfl (by rfl) (C30 (D := puc 1613501440 D) (N := puc 1613501440 N) (HW_subc H oz_R7cls_2 oz_R7cls_6) ((mF14 0 2 rfl).trans (pf10)) ((mF14 0 3 rfl).trans (pf11)) ((mF14 11 0 rfl).trans (pf12)) (u10_1) (((mF14 10 1 rfl).trans (eu10_1))) (u12_1) (((mF14 12 1 rfl).trans (eu12_1))) (show inr (a3) from h2) (fun z23 σ23 F23ₚ A23ₚ Hₚ Oₚ hS23 hA23 pz23_0 pz23_1 => ⟨rfl, ?_⟩))
            refine v_backc (c := c) (s := s) H oz_R7cls_2 oz_R7cls_6 Hₚ Oₚ (fun F23 A23 H Oₚ eF23 eA23 => ?_)
            have O := OUT_trans O Oₚ
            -- PackHouse.bytesAhead
            have cF23 : SF oz_R7clsl_0 F F23 := SF_trans (cF14) (SF_gluc (ι := oz_R7clsl_2) oz_R7cls_6 hS23 eF23 (by decide +kernel)) (any_sub (lₚ := []) (by decide +kernel))
            have mF23 := SFm_of cF23 oz_R7cls_3
            have cA23 : SA oz_R7clsl_1 A A23 := SA_trans (cA14) (SA_gluc (ι := oz_R7clsl_2) oz_R7cls_6 hA23 eA23 (by decide +kernel)) (any_subA (lₚ := []) (by decide +kernel))
            have mA23 := SAm_of cA23 oz_R7cls_4
            refine w_iadd rfl ?_
            refine Ew_of (pcₚ := 41) (fun _ => x_sipush (z := 16384) rfl (by decide)) ?_
            refine w_icmple (t := 46) rfl rfl (show inr ((u6_1 + z23)) from q_4271 h6 h8 h9 pz23_0 pz23_1) (show inr (16384) from q_2050) (fun b24 => ?_) (fun b24 => ?_)
            · exact hc46  _ _ _ _  (rfl) (rfl) (rfl) (rfl) H O (SF_trans (SF_trans (SF_trans (SF_refl) (SF_gluc (ι := oz_R7clsl_1) oz_R7cls_5 hS12 eF12 (by decide +kernel)) (any_sub (lₚ := []) (by decide +kernel))) (SF_gluc (ι := oz_R7clsl_1) oz_R7cls_5 hS14 eF14 (by decide +kernel)) (any_sub (lₚ := []) (by decide +kernel))) (SF_gluc (ι := oz_R7clsl_2) oz_R7cls_6 hS23 eF23 (by decide +kernel)) (any_sub (lₚ := []) (by decide +kernel))) (SA_trans (SA_trans (SA_trans (SA_refl) (SA_gluc (ι := oz_R7clsl_1) oz_R7cls_5 hA12 eA12 (by decide +kernel)) (any_subA (lₚ := []) (by decide +kernel))) (SA_gluc (ι := oz_R7clsl_1) oz_R7cls_5 hA14 eA14 (by decide +kernel)) (any_subA (lₚ := []) (by decide +kernel))) (SA_gluc (ι := oz_R7clsl_2) oz_R7cls_6 hA23 eA23 (by decide +kernel)) (any_subA (lₚ := []) (by decide +kernel)))     (show 0 ≤ (a1) ∧ (a1) ≤ 3 by omega) (show 0 ≤ (a2) ∧ (a2) ≤ 3 from q_2281 b18) (show 0 ≤ (a3) ∧ (a3) ≤ 5 from q_4281 b16 b17) (show 0 ≠ (a2) ∨ (u2_1) + (0) ≤ 16384 from q_4299 b18) (show 1 ≠ (a2) ∨ (u4_1) + (0) ≤ 16384 from q_4298 b18) (show 2 ≠ (a2) ∨ (u6_1) + (0) ≤ 16384 by have qh0 := HIDe r3; omega) (show 3 ≠ (a2) ∨ (u8_1) + (0) ≤ 16384 from q_4297 b18) (show 0 ≠ (a2) ∨ 2 ≤ (a3) ∨ (u2_1) + (u10_1) ≤ 16384 from q_4296 b18) (show 1 ≠ (a2) ∨ 2 ≤ (a3) ∨ (u4_1) + (u10_1) ≤ 16384 from q_4295 b18) (show 2 ≠ (a2) ∨ 2 ≤ (a3) ∨ (u6_1) + (u10_1) ≤ 16384 by have qh0 := HIDe r3; have qh1 := HIDe r5; omega) (show 3 ≠ (a2) ∨ 2 ≤ (a3) ∨ (u8_1) + (u10_1) ≤ 16384 from q_4294 b18) (show 0 ≠ (a2) ∨ (a3) ≠ 4 ∨ (u2_1) + (u12_1) ≤ 16384 from q_4293 b18) (show 1 ≠ (a2) ∨ (a3) ≠ 4 ∨ (u4_1) + (u12_1) ≤ 16384 from q_4292 b18) (show 2 ≠ (a2) ∨ (a3) ≠ 4 ∨ (u6_1) + (u12_1) ≤ 16384 by have qh0 := HIDe r3; have qh1 := HIDe r6; omega) (show 3 ≠ (a2) ∨ (a3) ≠ 4 ∨ (u8_1) + (u12_1) ≤ 16384 from q_4291 b18)
            · refine Ew_of (pcₚ := 45) (fun _ => x_iconst rfl) ?_
              exact w_ireturn rfl (k ((-1)) _ _ _ H O (cF23) (cA23) (show inr ((-1)) from q_16))
          · refine v_lR H (o := 1) rfl rfl rfl rfl rfl (n := n1) (en1) (show 0 ≤ a2 ∧ a2 < n1 from q_4228 b18 h3) (z := ((D 8 : Nat) : Int)) (v := .ref (D 8)) ((congrArg (A14 1) b18).trans ((mA14 1 rfl 3).trans (pf8))) (vrf rfl) ?_
            refine v_g H (o := 8) (v := I (u8_1)) rfl rfl rfl rfl rfl (congrArg (fun z : Int => I z) (((mF14 8 1 rfl).trans (eu8_1)) : F14 8 1 = u8_1)) ?_
            refine Ew_of (pcₚ := 33) (fun _ => x_aload_n rfl rfl) ?_
            refine Ew_of (pcₚ := 34) (fun _ => x_iload_n rfl rfl) ?_
            refine v_inv H (o := 0) rfl rfl rfl rfl rfl rfl (by rfl) (C30 (D := puc 1613501440 D) (N := puc 1613501440 N) (HW_subc H oz_R7cls_2 oz_R7cls_6) ((mF14 0 2 rfl).trans (pf10)) ((mF14 0 3 rfl).trans (pf11)) ((mF14 11 0 rfl).trans (pf12)) (u10_1) (((mF14 10 1 rfl).trans (eu10_1))) (u12_1) (((mF14 12 1 rfl).trans (eu12_1))) (show inr (a3) from h2) (fun z25 σ25 F25ₚ A25ₚ Hₚ Oₚ hS25 hA25 pz25_0 pz25_1 => ⟨rfl, ?_⟩))
            refine v_backc (c := c) (s := s) H oz_R7cls_2 oz_R7cls_6 Hₚ Oₚ (fun F25 A25 H Oₚ eF25 eA25 => ?_)
            have O := OUT_trans O Oₚ
            -- PackHouse.bytesAhead
            have cF25 : SF oz_R7clsl_0 F F25 := SF_trans (cF14) (SF_gluc (ι := oz_R7clsl_2) oz_R7cls_6 hS25 eF25 (by decide +kernel)) (any_sub (lₚ := []) (by decide +kernel))
            have mF25 := SFm_of cF25 oz_R7cls_3
            have cA25 : SA oz_R7clsl_1 A A25 := SA_trans (cA14) (SA_gluc (ι := oz_R7clsl_2) oz_R7cls_6 hA25 eA25 (by decide +kernel)) (any_subA (lₚ := []) (by decide +kernel))
            have mA25 := SAm_of cA25 oz_R7cls_4
            refine w_iadd rfl ?_
            refine Ew_of (pcₚ := 41) (fun _ => x_sipush (z := 16384) rfl (by decide)) ?_
            refine w_icmple (t := 46) rfl rfl (show inr ((u8_1 + z25)) from q_4271 h7 h8 h9 pz25_0 pz25_1) (show inr (16384) from q_2050) (fun b26 => ?_) (fun b26 => ?_)
            · exact hc46  _ _ _ _  (rfl) (rfl) (rfl) (rfl) H O (SF_trans (SF_trans (SF_trans (SF_refl) (SF_gluc (ι := oz_R7clsl_1) oz_R7cls_5 hS12 eF12 (by decide +kernel)) (any_sub (lₚ := []) (by decide +kernel))) (SF_gluc (ι := oz_R7clsl_1) oz_R7cls_5 hS14 eF14 (by decide +kernel)) (any_sub (lₚ := []) (by decide +kernel))) (SF_gluc (ι := oz_R7clsl_2) oz_R7cls_6 hS25 eF25 (by decide +kernel)) (any_sub (lₚ := []) (by decide +kernel))) (SA_trans (SA_trans (SA_trans (SA_refl) (SA_gluc (ι := oz_R7clsl_1) oz_R7cls_5 hA12 eA12 (by decide +kernel)) (any_subA (lₚ := []) (by decide +kernel))) (SA_gluc (ι := oz_R7clsl_1) oz_R7cls_5 hA14 eA14 (by decide +kernel)) (any_subA (lₚ := []) (by decide +kernel))) (SA_gluc (ι := oz_R7clsl_2) oz_R7cls_6 hA25 eA25 (by decide +kernel)) (any_subA (lₚ := []) (by decide +kernel)))     (show 0 ≤ (a1) ∧ (a1) ≤ 3 by omega) (show 0 ≤ (a2) ∧ (a2) ≤ 3 from q_2809 b18) (show 0 ≤ (a3) ∧ (a3) ≤ 5 from q_4281 b16 b17) (show 0 ≠ (a2) ∨ (u2_1) + (0) ≤ 16384 from q_4308 b18) (show 1 ≠ (a2) ∨ (u4_1) + (0) ≤ 16384 from q_4307 b18) (show 2 ≠ (a2) ∨ (u6_1) + (0) ≤ 16384 from q_4306 b18) (show 3 ≠ (a2) ∨ (u8_1) + (0) ≤ 16384 by have qh0 := HIDe r4; omega) (show 0 ≠ (a2) ∨ 2 ≤ (a3) ∨ (u2_1) + (u10_1) ≤ 16384 from q_4305 b18) (show 1 ≠ (a2) ∨ 2 ≤ (a3) ∨ (u4_1) + (u10_1) ≤ 16384 from q_4304 b18) (show 2 ≠ (a2) ∨ 2 ≤ (a3) ∨ (u6_1) + (u10_1) ≤ 16384 from q_4303 b18) (show 3 ≠ (a2) ∨ 2 ≤ (a3) ∨ (u8_1) + (u10_1) ≤ 16384 by have qh0 := HIDe r4; have qh1 := HIDe r5; omega) (show 0 ≠ (a2) ∨ (a3) ≠ 4 ∨ (u2_1) + (u12_1) ≤ 16384 from q_4302 b18) (show 1 ≠ (a2) ∨ (a3) ≠ 4 ∨ (u4_1) + (u12_1) ≤ 16384 from q_4301 b18) (show 2 ≠ (a2) ∨ (a3) ≠ 4 ∨ (u6_1) + (u12_1) ≤ 16384 from q_4300 b18) (show 3 ≠ (a2) ∨ (a3) ≠ 4 ∨ (u8_1) + (u12_1) ≤ 16384 by have qh0 := HIDe r4; have qh1 := HIDe r6; omega)
            · refine Ew_of (pcₚ := 45) (fun _ => x_iconst rfl) ?_
              exact w_ireturn rfl (k ((-1)) _ _ _ H O (cF25) (cA25) (show inr ((-1)) from q_16))
abbrev V17_vb0 : vV := [(0, 0, [(4, 0), (4, 0), (4, 0), (4, 0), (4, 0), (4, 0), (4, 0), (4, 0), (4, 0), (4, 0), (4, 0), (4, 0), (4, 0), (4, 0), (4, 0), (4, 0), (4, 0), (0, 0), (0, 0)]), (1, 4, []), (0, 7, [(4, 0), (0, 0), (1, 0), (0, 0), (0, 0)]), (1, 0, []), (0, 7, [(4, 0), (0, 0), (1, 0), (0, 0), (0, 0)]), (1, 0, []), (0, 7, [(4, 0), (0, 0), (1, 0), (0, 0), (0, 0)]), (1, 0, []), (0, 7, [(4, 0), (0, 0), (1, 0), (0, 0), (0, 0)]), (1, 0, [])]
theorem len_V17_vb0_oz_R7cls : (V17_vb0).length = 10 := by decide +kernel
/-- PackHouse.write: this, this.rows, this.rows.0, this.rows.0.bytes, this.rows.1, this.rows.1.bytes, this.rows.2, this.rows.2.bytes, this.rows.3, this.rows.3.bytes -/
theorem C17_vb0 {σE : rS} {D N : Nat → Nat} {F : hF} {A : hA} {d c s : Nat} {Q : wQ} (H : HW V17_vb0 σE D N F A) {x1 x3 : Int} (pf1 : HID (F 0 0 = (D 1 : Int))) (pf2 : HID (A 1 0 = (D 2 : Int))) (pf3 : HID (F 2 0 = (D 3 : Int))) (pf4 : HID (A 1 1 = (D 4 : Int))) (pf5 : HID (F 4 0 = (D 5 : Int))) (pf6 : HID (A 1 2 = (D 6 : Int))) (pf7 : HID (F 6 0 = (D 7 : Int))) (pf8 : HID (A 1 3 = (D 8 : Int))) (pf9 : HID (F 8 0 = (D 9 : Int))) (n1 : Int) (en1 : HID ((N 1 : Int) = n1)) (n3 : Int) (en3 : HID ((N 3 : Int) = n3)) (n5 : Int) (en5 : HID ((N 5 : Int) = n5)) (n7 : Int) (en7 : HID ((N 7 : Int) = n7)) (n9 : Int) (en9 : HID ((N 9 : Int) = n9)) (u2_1 : Int) (eu2_1 : HID (F 2 1 = u2_1)) (u4_1 : Int) (eu4_1 : HID (F 4 1 = u4_1)) (u6_1 : Int) (eu6_1 : HID (F 6 1 = u6_1)) (u8_1 : Int) (eu8_1 : HID (F 8 1 = u8_1)) {ls : rO} (hl0 : rlook ls 0 = some (.ref (D 0))) (hl1 : rlook ls 1 = some (I (x1))) (hl2 : rlook ls 2 = some (I (0))) (hl3 : rlook ls 3 = some (I (x3))) (h0 : inr (x1)) (h1 : inr (x3)) (h2 : (n1) = 4) (h3 : 0 ≤ (u2_1) ∧ (u2_1) ≤ (n3) ∧ (n3) ≤ 65536) (h4 : 0 ≤ (u4_1) ∧ (u4_1) ≤ (n5) ∧ (n5) ≤ 65536) (h5 : 0 ≤ (u6_1) ∧ (u6_1) ≤ (n7) ∧ (n7) ≤ 65536) (h6 : 0 ≤ (u8_1) ∧ (u8_1) ≤ (n9) ∧ (n9) ≤ 65536) (hc54 : ∀ (ls : rO) (σ : rS) (F_c54 : hF) (A_c54 : hA) , rlook ls 0 = some (.ref (D 0)) → rlook ls 1 = some (I (x1)) → rlook ls 3 = some (I (x3)) → rlook ls 4 = some (.ref (D 2)) → HW V17_vb0 σ D N F_c54 A_c54 → OUT (V17_vb0).length D N σE c s D N σ c s → SF [] F F_c54 → SA [] A A_c54 → Ew 17 (d + 0) 54 ls [] σ c s Q) (k : ∀ (z : Int) (σ : rS) (Fₚ : hF) (Aₚ : hA), HW V17_vb0 σ D N Fₚ Aₚ → OUT (V17_vb0).length D N σE c s D N σ c s → SF [] F Fₚ → SA [] A Aₚ → (inr (z)) → Q (some (I z)) σ c s) : Ew 17 (d + 0) 46 ls [] σE c s Q := by
  have O := OUT_refl (n := (V17_vb0).length) (D := D) (N := N) (σ := σE) (c := c) (s := s)
  have HE := H
  have r5 : HID ((0 : Int) ≤ n1 ∧ n1 ≤ 1000000) := nrng (H.nle 1 (ltn len_V17_vb0_oz_R7cls rfl)) (show (N 1 : Int) = n1 from en1)
  refine Ew_of (pcₚ := 47) (fun _ => x_aload_n rfl hl0) ?_
  refine v_g H (o := 0) (v := .ref (D 1)) rfl rfl rfl rfl rfl (vrf (pf1)) ?_
  refine Ew_of (pcₚ := 51) (fun _ => x_iload_n rfl hl2) ?_
  refine v_lR H (o := 1) rfl rfl rfl rfl rfl (n := n1) (en1) (show 0 ≤ 0 ∧ 0 < n1 from q_4309 (HIDe r5) h2) (z := ((D 2 : Nat) : Int)) (v := .ref (D 2)) (pf2) (vrf rfl) ?_
  refine Ew_of (pcₚ := 54) (fun _ => x_astore rfl) ?_
  exact hc54  _ _ _ _  (rk_o (hl0) rfl rfl) (rk_o (hl1) rfl rfl) (rk_o (hl3) rfl rfl) (rk_s) H O (SF_refl) (SA_refl)     
abbrev V17_vb1 : vV := [(0, 0, [(4, 0), (4, 0), (4, 0), (4, 0), (4, 0), (4, 0), (4, 0), (4, 0), (4, 0), (4, 0), (4, 0), (4, 0), (4, 0), (4, 0), (4, 0), (4, 0), (4, 0), (0, 0), (0, 0)]), (1, 4, []), (0, 7, [(4, 0), (0, 0), (1, 0), (0, 0), (0, 0)]), (1, 0, []), (0, 7, [(4, 0), (0, 0), (1, 0), (0, 0), (0, 0)]), (1, 0, []), (0, 7, [(4, 0), (0, 0), (1, 0), (0, 0), (0, 0)]), (1, 0, []), (0, 7, [(4, 0), (0, 0), (1, 0), (0, 0), (0, 0)]), (1, 0, [])]
theorem len_V17_vb1_oz_R7cls : (V17_vb1).length = 10 := by decide +kernel
/-- PackHouse.write: this, this.rows, this.rows.0, this.rows.0.bytes, this.rows.1, this.rows.1.bytes, this.rows.2, this.rows.2.bytes, this.rows.3, this.rows.3.bytes -/
theorem C17_vb1 {σE : rS} {D N : Nat → Nat} {F : hF} {A : hA} {d c s : Nat} {Q : wQ} (H : HW V17_vb1 σE D N F A) {x1 x3 : Int} (pf1 : HID (F 0 0 = (D 1 : Int))) (pf2 : HID (A 1 0 = (D 2 : Int))) (pf3 : HID (F 2 0 = (D 3 : Int))) (pf4 : HID (A 1 1 = (D 4 : Int))) (pf5 : HID (F 4 0 = (D 5 : Int))) (pf6 : HID (A 1 2 = (D 6 : Int))) (pf7 : HID (F 6 0 = (D 7 : Int))) (pf8 : HID (A 1 3 = (D 8 : Int))) (pf9 : HID (F 8 0 = (D 9 : Int))) (n1 : Int) (en1 : HID ((N 1 : Int) = n1)) (n3 : Int) (en3 : HID ((N 3 : Int) = n3)) (n5 : Int) (en5 : HID ((N 5 : Int) = n5)) (n7 : Int) (en7 : HID ((N 7 : Int) = n7)) (n9 : Int) (en9 : HID ((N 9 : Int) = n9)) (u2_1 : Int) (eu2_1 : HID (F 2 1 = u2_1)) (u4_1 : Int) (eu4_1 : HID (F 4 1 = u4_1)) (u6_1 : Int) (eu6_1 : HID (F 6 1 = u6_1)) (u8_1 : Int) (eu8_1 : HID (F 8 1 = u8_1)) {ls : rO} (hl0 : rlook ls 0 = some (.ref (D 0))) (hl1 : rlook ls 1 = some (I (x1))) (hl2 : rlook ls 2 = some (I (1))) (hl3 : rlook ls 3 = some (I (x3))) (h0 : inr (x1)) (h1 : inr (x3)) (h2 : (n1) = 4) (h3 : 0 ≤ (u2_1) ∧ (u2_1) ≤ (n3) ∧ (n3) ≤ 65536) (h4 : 0 ≤ (u4_1) ∧ (u4_1) ≤ (n5) ∧ (n5) ≤ 65536) (h5 : 0 ≤ (u6_1) ∧ (u6_1) ≤ (n7) ∧ (n7) ≤ 65536) (h6 : 0 ≤ (u8_1) ∧ (u8_1) ≤ (n9) ∧ (n9) ≤ 65536) (hc54 : ∀ (ls : rO) (σ : rS) (F_c54 : hF) (A_c54 : hA) , rlook ls 0 = some (.ref (D 0)) → rlook ls 1 = some (I (x1)) → rlook ls 3 = some (I (x3)) → rlook ls 4 = some (.ref (D 4)) → HW V17_vb1 σ D N F_c54 A_c54 → OUT (V17_vb1).length D N σE c s D N σ c s → SF [] F F_c54 → SA [] A A_c54 → Ew 17 (d + 0) 54 ls [] σ c s Q) (k : ∀ (z : Int) (σ : rS) (Fₚ : hF) (Aₚ : hA), HW V17_vb1 σ D N Fₚ Aₚ → OUT (V17_vb1).length D N σE c s D N σ c s → SF [] F Fₚ → SA [] A Aₚ → (inr (z)) → Q (some (I z)) σ c s) : Ew 17 (d + 0) 46 ls [] σE c s Q := by
  have O := OUT_refl (n := (V17_vb1).length) (D := D) (N := N) (σ := σE) (c := c) (s := s)
  have HE := H
  have r5 : HID ((0 : Int) ≤ n1 ∧ n1 ≤ 1000000) := nrng (H.nle 1 (ltn len_V17_vb1_oz_R7cls rfl)) (show (N 1 : Int) = n1 from en1)
  refine Ew_of (pcₚ := 47) (fun _ => x_aload_n rfl hl0) ?_
  refine v_g H (o := 0) (v := .ref (D 1)) rfl rfl rfl rfl rfl (vrf (pf1)) ?_
  refine Ew_of (pcₚ := 51) (fun _ => x_iload_n rfl hl2) ?_
  refine v_lR H (o := 1) rfl rfl rfl rfl rfl (n := n1) (en1) (show 0 ≤ 1 ∧ 1 < n1 from q_4310 (HIDe r5) h2) (z := ((D 4 : Nat) : Int)) (v := .ref (D 4)) (pf4) (vrf rfl) ?_
  refine Ew_of (pcₚ := 54) (fun _ => x_astore rfl) ?_
  exact hc54  _ _ _ _  (rk_o (hl0) rfl rfl) (rk_o (hl1) rfl rfl) (rk_o (hl3) rfl rfl) (rk_s) H O (SF_refl) (SA_refl)     
abbrev V17_vb2 : vV := [(0, 0, [(4, 0), (4, 0), (4, 0), (4, 0), (4, 0), (4, 0), (4, 0), (4, 0), (4, 0), (4, 0), (4, 0), (4, 0), (4, 0), (4, 0), (4, 0), (4, 0), (4, 0), (0, 0), (0, 0)]), (1, 4, []), (0, 7, [(4, 0), (0, 0), (1, 0), (0, 0), (0, 0)]), (1, 0, []), (0, 7, [(4, 0), (0, 0), (1, 0), (0, 0), (0, 0)]), (1, 0, []), (0, 7, [(4, 0), (0, 0), (1, 0), (0, 0), (0, 0)]), (1, 0, []), (0, 7, [(4, 0), (0, 0), (1, 0), (0, 0), (0, 0)]), (1, 0, [])]
theorem len_V17_vb2_oz_R7cls : (V17_vb2).length = 10 := by decide +kernel
/-- PackHouse.write: this, this.rows, this.rows.0, this.rows.0.bytes, this.rows.1, this.rows.1.bytes, this.rows.2, this.rows.2.bytes, this.rows.3, this.rows.3.bytes -/
theorem C17_vb2 {σE : rS} {D N : Nat → Nat} {F : hF} {A : hA} {d c s : Nat} {Q : wQ} (H : HW V17_vb2 σE D N F A) {x1 x3 : Int} (pf1 : HID (F 0 0 = (D 1 : Int))) (pf2 : HID (A 1 0 = (D 2 : Int))) (pf3 : HID (F 2 0 = (D 3 : Int))) (pf4 : HID (A 1 1 = (D 4 : Int))) (pf5 : HID (F 4 0 = (D 5 : Int))) (pf6 : HID (A 1 2 = (D 6 : Int))) (pf7 : HID (F 6 0 = (D 7 : Int))) (pf8 : HID (A 1 3 = (D 8 : Int))) (pf9 : HID (F 8 0 = (D 9 : Int))) (n1 : Int) (en1 : HID ((N 1 : Int) = n1)) (n3 : Int) (en3 : HID ((N 3 : Int) = n3)) (n5 : Int) (en5 : HID ((N 5 : Int) = n5)) (n7 : Int) (en7 : HID ((N 7 : Int) = n7)) (n9 : Int) (en9 : HID ((N 9 : Int) = n9)) (u2_1 : Int) (eu2_1 : HID (F 2 1 = u2_1)) (u4_1 : Int) (eu4_1 : HID (F 4 1 = u4_1)) (u6_1 : Int) (eu6_1 : HID (F 6 1 = u6_1)) (u8_1 : Int) (eu8_1 : HID (F 8 1 = u8_1)) {ls : rO} (hl0 : rlook ls 0 = some (.ref (D 0))) (hl1 : rlook ls 1 = some (I (x1))) (hl2 : rlook ls 2 = some (I (2))) (hl3 : rlook ls 3 = some (I (x3))) (h0 : inr (x1)) (h1 : inr (x3)) (h2 : (n1) = 4) (h3 : 0 ≤ (u2_1) ∧ (u2_1) ≤ (n3) ∧ (n3) ≤ 65536) (h4 : 0 ≤ (u4_1) ∧ (u4_1) ≤ (n5) ∧ (n5) ≤ 65536) (h5 : 0 ≤ (u6_1) ∧ (u6_1) ≤ (n7) ∧ (n7) ≤ 65536) (h6 : 0 ≤ (u8_1) ∧ (u8_1) ≤ (n9) ∧ (n9) ≤ 65536) (hc54 : ∀ (ls : rO) (σ : rS) (F_c54 : hF) (A_c54 : hA) , rlook ls 0 = some (.ref (D 0)) → rlook ls 1 = some (I (x1)) → rlook ls 3 = some (I (x3)) → rlook ls 4 = some (.ref (D 6)) → HW V17_vb2 σ D N F_c54 A_c54 → OUT (V17_vb2).length D N σE c s D N σ c s → SF [] F F_c54 → SA [] A A_c54 → Ew 17 (d + 0) 54 ls [] σ c s Q) (k : ∀ (z : Int) (σ : rS) (Fₚ : hF) (Aₚ : hA), HW V17_vb2 σ D N Fₚ Aₚ → OUT (V17_vb2).length D N σE c s D N σ c s → SF [] F Fₚ → SA [] A Aₚ → (inr (z)) → Q (some (I z)) σ c s) : Ew 17 (d + 0) 46 ls [] σE c s Q := by
  have O := OUT_refl (n := (V17_vb2).length) (D := D) (N := N) (σ := σE) (c := c) (s := s)
  have HE := H
  have r5 : HID ((0 : Int) ≤ n1 ∧ n1 ≤ 1000000) := nrng (H.nle 1 (ltn len_V17_vb2_oz_R7cls rfl)) (show (N 1 : Int) = n1 from en1)
  refine Ew_of (pcₚ := 47) (fun _ => x_aload_n rfl hl0) ?_
  refine v_g H (o := 0) (v := .ref (D 1)) rfl rfl rfl rfl rfl (vrf (pf1)) ?_
  refine Ew_of (pcₚ := 51) (fun _ => x_iload_n rfl hl2) ?_
  refine v_lR H (o := 1) rfl rfl rfl rfl rfl (n := n1) (en1) (show 0 ≤ 2 ∧ 2 < n1 from q_4311 (HIDe r5) h2) (z := ((D 6 : Nat) : Int)) (v := .ref (D 6)) (pf6) (vrf rfl) ?_
  refine Ew_of (pcₚ := 54) (fun _ => x_astore rfl) ?_
  exact hc54  _ _ _ _  (rk_o (hl0) rfl rfl) (rk_o (hl1) rfl rfl) (rk_o (hl3) rfl rfl) (rk_s) H O (SF_refl) (SA_refl)     
abbrev V17_vb3 : vV := [(0, 0, [(4, 0), (4, 0), (4, 0), (4, 0), (4, 0), (4, 0), (4, 0), (4, 0), (4, 0), (4, 0), (4, 0), (4, 0), (4, 0), (4, 0), (4, 0), (4, 0), (4, 0), (0, 0), (0, 0)]), (1, 4, []), (0, 7, [(4, 0), (0, 0), (1, 0), (0, 0), (0, 0)]), (1, 0, []), (0, 7, [(4, 0), (0, 0), (1, 0), (0, 0), (0, 0)]), (1, 0, []), (0, 7, [(4, 0), (0, 0), (1, 0), (0, 0), (0, 0)]), (1, 0, []), (0, 7, [(4, 0), (0, 0), (1, 0), (0, 0), (0, 0)]), (1, 0, [])]
theorem len_V17_vb3_oz_R7cls : (V17_vb3).length = 10 := by decide +kernel
/-- PackHouse.write: this, this.rows, this.rows.0, this.rows.0.bytes, this.rows.1, this.rows.1.bytes, this.rows.2, this.rows.2.bytes, this.rows.3, this.rows.3.bytes -/
theorem C17_vb3 {σE : rS} {D N : Nat → Nat} {F : hF} {A : hA} {d c s : Nat} {Q : wQ} (H : HW V17_vb3 σE D N F A) {x1 x3 : Int} (pf1 : HID (F 0 0 = (D 1 : Int))) (pf2 : HID (A 1 0 = (D 2 : Int))) (pf3 : HID (F 2 0 = (D 3 : Int))) (pf4 : HID (A 1 1 = (D 4 : Int))) (pf5 : HID (F 4 0 = (D 5 : Int))) (pf6 : HID (A 1 2 = (D 6 : Int))) (pf7 : HID (F 6 0 = (D 7 : Int))) (pf8 : HID (A 1 3 = (D 8 : Int))) (pf9 : HID (F 8 0 = (D 9 : Int))) (n1 : Int) (en1 : HID ((N 1 : Int) = n1)) (n3 : Int) (en3 : HID ((N 3 : Int) = n3)) (n5 : Int) (en5 : HID ((N 5 : Int) = n5)) (n7 : Int) (en7 : HID ((N 7 : Int) = n7)) (n9 : Int) (en9 : HID ((N 9 : Int) = n9)) (u2_1 : Int) (eu2_1 : HID (F 2 1 = u2_1)) (u4_1 : Int) (eu4_1 : HID (F 4 1 = u4_1)) (u6_1 : Int) (eu6_1 : HID (F 6 1 = u6_1)) (u8_1 : Int) (eu8_1 : HID (F 8 1 = u8_1)) {ls : rO} (hl0 : rlook ls 0 = some (.ref (D 0))) (hl1 : rlook ls 1 = some (I (x1))) (hl2 : rlook ls 2 = some (I (3))) (hl3 : rlook ls 3 = some (I (x3))) (h0 : inr (x1)) (h1 : inr (x3)) (h2 : (n1) = 4) (h3 : 0 ≤ (u2_1) ∧ (u2_1) ≤ (n3) ∧ (n3) ≤ 65536) (h4 : 0 ≤ (u4_1) ∧ (u4_1) ≤ (n5) ∧ (n5) ≤ 65536) (h5 : 0 ≤ (u6_1) ∧ (u6_1) ≤ (n7) ∧ (n7) ≤ 65536) (h6 : 0 ≤ (u8_1) ∧ (u8_1) ≤ (n9) ∧ (n9) ≤ 65536) (hc54 : ∀ (ls : rO) (σ : rS) (F_c54 : hF) (A_c54 : hA) , rlook ls 0 = some (.ref (D 0)) → rlook ls 1 = some (I (x1)) → rlook ls 3 = some (I (x3)) → rlook ls 4 = some (.ref (D 8)) → HW V17_vb3 σ D N F_c54 A_c54 → OUT (V17_vb3).length D N σE c s D N σ c s → SF [] F F_c54 → SA [] A A_c54 → Ew 17 (d + 0) 54 ls [] σ c s Q) (k : ∀ (z : Int) (σ : rS) (Fₚ : hF) (Aₚ : hA), HW V17_vb3 σ D N Fₚ Aₚ → OUT (V17_vb3).length D N σE c s D N σ c s → SF [] F Fₚ → SA [] A Aₚ → (inr (z)) → Q (some (I z)) σ c s) : Ew 17 (d + 0) 46 ls [] σE c s Q := by
  have O := OUT_refl (n := (V17_vb3).length) (D := D) (N := N) (σ := σE) (c := c) (s := s)
  have HE := H
  refine Ew_of (pcₚ := 47) (fun _ => x_aload_n rfl hl0) ?_
  refine v_g H (o := 0) (v := .ref (D 1)) rfl rfl rfl rfl rfl (vrf (pf1)) ?_
  refine Ew_of (pcₚ := 51) (fun _ => x_iload_n rfl hl2) ?_
  refine v_lR H (o := 1) rfl rfl rfl rfl rfl (n := n1) (en1) (show 0 ≤ 3 ∧ 3 < n1 from q_4312 h2) (z := ((D 8 : Nat) : Int)) (v := .ref (D 8)) (pf8) (vrf rfl) ?_
  refine Ew_of (pcₚ := 54) (fun _ => x_astore rfl) ?_
  exact hc54  _ _ _ _  (rk_o (hl0) rfl rfl) (rk_o (hl1) rfl rfl) (rk_o (hl3) rfl rfl) (rk_s) H O (SF_refl) (SA_refl)     
abbrev V17_vc0 : vV := [(0, 0, [(4, 0), (4, 0), (4, 0), (4, 0), (4, 0), (4, 0), (4, 0), (4, 0), (4, 0), (4, 0), (4, 0), (4, 0), (4, 0), (4, 0), (4, 0), (4, 0), (4, 0), (0, 0), (0, 0)]), (0, 7, [(4, 0), (0, 0), (1, 0), (0, 0), (0, 0)]), (0, 7, [(4, 0), (0, 0), (1, 0), (0, 0), (0, 0)]), (1, 0, [])]
theorem len_V17_vc0_oz_R7cls : (V17_vc0).length = 4 := by decide +kernel
theorem oz_R7cls_12 : vsub V17_vc0 V156 [2] = true := by decide +kernel
def oz_R7clsl_3 : List (Nat × Nat) := [(2, 1), (2, 2), (2, 3), (2, 4)]
theorem oz_R7cls_13 : (oz_R7clsl_3).all (fun p => !tbz 553402322211286548480 (Nat.add (Nat.mul 32 p.1) p.2)) = true := by decide +kernel
def oz_R7clsl_4 : List Nat := [2]
theorem oz_R7cls_14 : okc oz_R7clsl_4 2 = true := by decide +kernel
/-- PackHouse.write: this, @F, this.written, this.written.bytes -/
theorem C17_vc0 {σE : rS} {D N : Nat → Nat} {F : hF} {A : hA} {d c s : Nat} {Q : wQ} (H : HW V17_vc0 σE D N F A) {x1 : Int} (pf2 : HID (F 0 5 = (D 2 : Int))) (pf3 : HID (F 2 0 = (D 3 : Int))) (n3 : Int) (en3 : HID ((N 3 : Int) = n3)) (u2_1 : Int) (eu2_1 : HID (F 2 1 = u2_1)) {ls : rO} (hl0 : rlook ls 0 = some (.ref (D 0))) (hl1 : rlook ls 1 = some (I (x1))) (hl3 : rlook ls 3 = some (I (0))) (hl4 : rlook ls 4 = some (.ref (D 1))) (h0 : inr (x1)) (h1 : 0 ≤ (u2_1) ∧ (u2_1) ≤ (n3) ∧ (n3) ≤ 65536) (hc101 : ∀ (ls : rO) (σ : rS) (F_c101 : hF) (A_c101 : hA) (xc101_5 : Int), rlook ls 0 = some (.ref (D 0)) → rlook ls 1 = some (I (x1)) → rlook ls 3 = some (I (0)) → rlook ls 4 = some (.ref (D 1)) → rlook ls 5 = some (I (xc101_5)) → HW V17_vc0 σ D N F_c101 A_c101 → OUT (V17_vc0).length D N σE c s D N σ c s → SF [(2, 1), (2, 2), (2, 3), (2, 4)] F F_c101 → SA [] A A_c101 → ∀ yc101_2_1 : Int, F_c101 2 1 = yc101_2_1 → (inr (xc101_5)) → (0 ≤ (yc101_2_1) ∧ (yc101_2_1) ≤ (n3) ∧ (n3) ≤ 65536) → ((yc101_2_1) = 0) → ((xc101_5) = 1) → Ew 17 (d + 1) 101 ls [.ref (D 0)] σ c s Q) (k : ∀ (z : Int) (σ : rS) (Fₚ : hF) (Aₚ : hA), HW V17_vc0 σ D N Fₚ Aₚ → OUT (V17_vc0).length D N σE c s D N σ c s → SF [(2, 1), (2, 2), (2, 3), (2, 4)] F Fₚ → SA [] A Aₚ → (inr (z)) → ((0 : Int) = 1) → Q (some (I z)) σ c s) : Ew 17 (d + 1) 54 ls [] σE c s Q := by
  have O := OUT_refl (n := (V17_vc0).length) (D := D) (N := N) (σ := σE) (c := c) (s := s)
  have HE := H
  have r2 : HID ((0 : Int) ≤ n3 ∧ n3 ≤ 1000000) := nrng (H.nle 3 (ltn len_V17_vc0_oz_R7cls rfl)) (show (N 3 : Int) = n3 from en3)
  refine Ew_of (pcₚ := 55) (fun _ => x_iconst rfl) ?_
  refine Ew_of (pcₚ := 57) (fun _ => x_istore rfl) ?_
  refine Ew_of (pcₚ := 58) (fun _ => x_aload_n rfl (rk_o (hl0) rfl rfl)) ?_
  refine v_g H (o := 0) (v := .ref (D 2)) rfl rfl rfl rfl rfl (vrf (pf2)) ?_
  refine v_inv H (o := 2) rfl rfl rfl rfl rfl rfl (by rfl) (C156h (D := puc 2 D) (N := puc 2 N) (HW_subc H oz_R7cls_12 oz_R7cls_14) (u2_1) ((eu2_1)) (F 2 2) (rfl) (F 2 4) (rfl)  (fun σ5 F5ₚ A5ₚ Hₚ Oₚ hS5 hA5 y5_0_1 (ey5_0_1 : HID _) y5_0_2 (ey5_0_2 : HID _) y5_0_4 (ey5_0_4 : HID _) pz5_0 => ⟨rfl, ?_⟩))
  refine v_backc (c := c) (s := s) H oz_R7cls_12 oz_R7cls_14 Hₚ Oₚ (fun F5 A5 H Oₚ eF5 eA5 => ?_)
  have O := OUT_trans O Oₚ
  -- Row.clear
  have cF5 : SF oz_R7clsl_3 F F5 := SF_trans (SF_refl) (SF_gluc (ι := oz_R7clsl_4) oz_R7cls_14 hS5 eF5 (by decide +kernel)) (any_sub (lₚ := [(2, 1), (2, 2), (2, 3), (2, 4)]) (by decide +kernel))
  have mF5 := SFm_of cF5 oz_R7cls_13
  have cA5 : SA oz_R7clsl_1 A A5 := SA_trans (SA_refl) (SA_gluc (ι := oz_R7clsl_4) oz_R7cls_14 hA5 eA5 (by decide +kernel)) (any_subA (lₚ := []) (by decide +kernel))
  have mA5 := SAm_of cA5 oz_R7cls_4
  refine Ew_of (pcₚ := 65) (fun _ => x_iload_n rfl (rk_o (hl3) rfl rfl)) ?_
  refine w_tsk 0 100 rfl (show inr (0) from q_20) (by omega) (by decide) rfl rfl ?_
  refine Ew_of (pcₚ := 101) (fun _ => x_aload_n rfl (rk_o (hl0) rfl rfl)) ?_
  exact hc101  _ _ _ _ (1) (rk_o (hl0) rfl rfl) (rk_o (hl1) rfl rfl) (rk_o (hl3) rfl rfl) (rk_o (hl4) rfl rfl) (rk_s) H O (SF_trans (SF_refl) (SF_gluc (ι := oz_R7clsl_4) oz_R7cls_14 hS5 eF5 (by decide +kernel)) (any_sub (lₚ := [(2, 1), (2, 2), (2, 3), (2, 4)]) (by decide +kernel))) (SA_trans (SA_refl) (SA_gluc (ι := oz_R7clsl_4) oz_R7cls_14 hA5 eA5 (by decide +kernel)) (any_subA (lₚ := []) (by decide +kernel)))   (y5_0_1) (((eF5 2 1).trans ey5_0_1))  (show inr (1) from q_23) (show 0 ≤ (y5_0_1) ∧ (y5_0_1) ≤ (n3) ∧ (n3) ≤ 65536 from q_3960 (HIDe r2) h1 pz5_0) (show (y5_0_1) = 0 from q_3478 pz5_0) (show (1) = 1 from q_4313)
abbrev V17_vc1 : vV := [(0, 0, [(4, 0), (4, 0), (4, 0), (4, 0), (4, 0), (4, 0), (4, 0), (4, 0), (4, 0), (4, 0), (4, 0), (4, 0), (4, 0), (4, 0), (4, 0), (4, 0), (4, 0), (0, 0), (0, 0)]), (0, 7, [(4, 0), (0, 0), (1, 0), (0, 0), (0, 0)]), (0, 7, [(4, 0), (0, 0), (1, 0), (0, 0), (0, 0)]), (1, 0, [])]
theorem len_V17_vc1_oz_R7cls : (V17_vc1).length = 4 := by decide +kernel
theorem oz_R7cls_16 : vsub V17_vc1 V156 [2] = true := by decide +kernel
/-- PackHouse.write: this, @F, this.written, this.written.bytes -/
theorem C17_vc1 {σE : rS} {D N : Nat → Nat} {F : hF} {A : hA} {d c s : Nat} {Q : wQ} (H : HW V17_vc1 σE D N F A) {x1 : Int} (pf2 : HID (F 0 5 = (D 2 : Int))) (pf3 : HID (F 2 0 = (D 3 : Int))) (n3 : Int) (en3 : HID ((N 3 : Int) = n3)) (u2_1 : Int) (eu2_1 : HID (F 2 1 = u2_1)) {ls : rO} (hl0 : rlook ls 0 = some (.ref (D 0))) (hl1 : rlook ls 1 = some (I (x1))) (hl3 : rlook ls 3 = some (I (1))) (hl4 : rlook ls 4 = some (.ref (D 1))) (h0 : inr (x1)) (h1 : 0 ≤ (u2_1) ∧ (u2_1) ≤ (n3) ∧ (n3) ≤ 65536) (hc117 : ∀ (ls : rO) (σ : rS) (F_c117 : hF) (A_c117 : hA) (xc117_5 : Int), rlook ls 0 = some (.ref (D 0)) → rlook ls 1 = some (I (x1)) → rlook ls 3 = some (I (1)) → rlook ls 4 = some (.ref (D 1)) → rlook ls 5 = some (I (xc117_5)) → HW V17_vc1 σ D N F_c117 A_c117 → OUT (V17_vc1).length D N σE c s D N σ c s → SF [(2, 1), (2, 2), (2, 3), (2, 4)] F F_c117 → SA [] A A_c117 → ∀ yc117_2_1 : Int, F_c117 2 1 = yc117_2_1 → (inr (xc117_5)) → (0 ≤ (yc117_2_1) ∧ (yc117_2_1) ≤ (n3) ∧ (n3) ≤ 65536) → ((yc117_2_1) = 0) → ((xc117_5) = 1) → Ew 17 (d + 1) 117 ls [.ref (D 0)] σ c s Q) (k : ∀ (z : Int) (σ : rS) (Fₚ : hF) (Aₚ : hA), HW V17_vc1 σ D N Fₚ Aₚ → OUT (V17_vc1).length D N σE c s D N σ c s → SF [(2, 1), (2, 2), (2, 3), (2, 4)] F Fₚ → SA [] A Aₚ → (inr (z)) → ((0 : Int) = 1) → Q (some (I z)) σ c s) : Ew 17 (d + 1) 54 ls [] σE c s Q := by
  have O := OUT_refl (n := (V17_vc1).length) (D := D) (N := N) (σ := σE) (c := c) (s := s)
  have HE := H
  have r2 : HID ((0 : Int) ≤ n3 ∧ n3 ≤ 1000000) := nrng (H.nle 3 (ltn len_V17_vc1_oz_R7cls rfl)) (show (N 3 : Int) = n3 from en3)
  refine Ew_of (pcₚ := 55) (fun _ => x_iconst rfl) ?_
  refine Ew_of (pcₚ := 57) (fun _ => x_istore rfl) ?_
  refine Ew_of (pcₚ := 58) (fun _ => x_aload_n rfl (rk_o (hl0) rfl rfl)) ?_
  refine v_g H (o := 0) (v := .ref (D 2)) rfl rfl rfl rfl rfl (vrf (pf2)) ?_
  refine v_inv H (o := 2) rfl rfl rfl rfl rfl rfl (by rfl) (C156h (D := puc 2 D) (N := puc 2 N) (HW_subc H oz_R7cls_16 oz_R7cls_14) (u2_1) ((eu2_1)) (F 2 2) (rfl) (F 2 4) (rfl)  (fun σ5 F5ₚ A5ₚ Hₚ Oₚ hS5 hA5 y5_0_1 (ey5_0_1 : HID _) y5_0_2 (ey5_0_2 : HID _) y5_0_4 (ey5_0_4 : HID _) pz5_0 => ⟨rfl, ?_⟩))
  refine v_backc (c := c) (s := s) H oz_R7cls_16 oz_R7cls_14 Hₚ Oₚ (fun F5 A5 H Oₚ eF5 eA5 => ?_)
  have O := OUT_trans O Oₚ
  -- Row.clear
  have cF5 : SF oz_R7clsl_3 F F5 := SF_trans (SF_refl) (SF_gluc (ι := oz_R7clsl_4) oz_R7cls_14 hS5 eF5 (by decide +kernel)) (any_sub (lₚ := [(2, 1), (2, 2), (2, 3), (2, 4)]) (by decide +kernel))
  have mF5 := SFm_of cF5 oz_R7cls_13
  have cA5 : SA oz_R7clsl_1 A A5 := SA_trans (SA_refl) (SA_gluc (ι := oz_R7clsl_4) oz_R7cls_14 hA5 eA5 (by decide +kernel)) (any_subA (lₚ := []) (by decide +kernel))
  have mA5 := SAm_of cA5 oz_R7cls_4
  refine Ew_of (pcₚ := 65) (fun _ => x_iload_n rfl (rk_o (hl3) rfl rfl)) ?_
  refine w_tsk 1 116 rfl (show inr (1) from q_23) (by omega) (by decide) rfl rfl ?_
  refine Ew_of (pcₚ := 117) (fun _ => x_aload_n rfl (rk_o (hl0) rfl rfl)) ?_
  exact hc117  _ _ _ _ (1) (rk_o (hl0) rfl rfl) (rk_o (hl1) rfl rfl) (rk_o (hl3) rfl rfl) (rk_o (hl4) rfl rfl) (rk_s) H O (SF_trans (SF_refl) (SF_gluc (ι := oz_R7clsl_4) oz_R7cls_14 hS5 eF5 (by decide +kernel)) (any_sub (lₚ := [(2, 1), (2, 2), (2, 3), (2, 4)]) (by decide +kernel))) (SA_trans (SA_refl) (SA_gluc (ι := oz_R7clsl_4) oz_R7cls_14 hA5 eA5 (by decide +kernel)) (any_subA (lₚ := []) (by decide +kernel)))   (y5_0_1) (((eF5 2 1).trans ey5_0_1))  (show inr (1) from q_23) (show 0 ≤ (y5_0_1) ∧ (y5_0_1) ≤ (n3) ∧ (n3) ≤ 65536 from q_3960 (HIDe r2) h1 pz5_0) (show (y5_0_1) = 0 from q_3478 pz5_0) (show (1) = 1 from q_4313)
abbrev V17_vc2 : vV := [(0, 0, [(4, 0), (4, 0), (4, 0), (4, 0), (4, 0), (4, 0), (4, 0), (4, 0), (4, 0), (4, 0), (4, 0), (4, 0), (4, 0), (4, 0), (4, 0), (4, 0), (4, 0), (0, 0), (0, 0)]), (0, 7, [(4, 0), (0, 0), (1, 0), (0, 0), (0, 0)]), (0, 7, [(4, 0), (0, 0), (1, 0), (0, 0), (0, 0)]), (1, 0, [])]
theorem len_V17_vc2_oz_R7cls : (V17_vc2).length = 4 := by decide +kernel
theorem oz_R7cls_18 : vsub V17_vc2 V156 [2] = true := by decide +kernel
/-- PackHouse.write: this, @F, this.written, this.written.bytes -/
theorem C17_vc2 {σE : rS} {D N : Nat → Nat} {F : hF} {A : hA} {d c s : Nat} {Q : wQ} (H : HW V17_vc2 σE D N F A) {x1 : Int} (pf2 : HID (F 0 5 = (D 2 : Int))) (pf3 : HID (F 2 0 = (D 3 : Int))) (n3 : Int) (en3 : HID ((N 3 : Int) = n3)) (u2_1 : Int) (eu2_1 : HID (F 2 1 = u2_1)) {ls : rO} (hl0 : rlook ls 0 = some (.ref (D 0))) (hl1 : rlook ls 1 = some (I (x1))) (hl3 : rlook ls 3 = some (I (2))) (hl4 : rlook ls 4 = some (.ref (D 1))) (h0 : inr (x1)) (h1 : 0 ≤ (u2_1) ∧ (u2_1) ≤ (n3) ∧ (n3) ≤ 65536) (hc133 : ∀ (ls : rO) (σ : rS) (F_c133 : hF) (A_c133 : hA) (xc133_5 : Int), rlook ls 0 = some (.ref (D 0)) → rlook ls 1 = some (I (x1)) → rlook ls 3 = some (I (2)) → rlook ls 4 = some (.ref (D 1)) → rlook ls 5 = some (I (xc133_5)) → HW V17_vc2 σ D N F_c133 A_c133 → OUT (V17_vc2).length D N σE c s D N σ c s → SF [(2, 1), (2, 2), (2, 3), (2, 4)] F F_c133 → SA [] A A_c133 → ∀ yc133_2_1 : Int, F_c133 2 1 = yc133_2_1 → (inr (xc133_5)) → (0 ≤ (yc133_2_1) ∧ (yc133_2_1) ≤ (n3) ∧ (n3) ≤ 65536) → ((yc133_2_1) = 0) → ((xc133_5) = 1) → Ew 17 (d + 1) 133 ls [.ref (D 0)] σ c s Q) (k : ∀ (z : Int) (σ : rS) (Fₚ : hF) (Aₚ : hA), HW V17_vc2 σ D N Fₚ Aₚ → OUT (V17_vc2).length D N σE c s D N σ c s → SF [(2, 1), (2, 2), (2, 3), (2, 4)] F Fₚ → SA [] A Aₚ → (inr (z)) → ((0 : Int) = 1) → Q (some (I z)) σ c s) : Ew 17 (d + 1) 54 ls [] σE c s Q := by
  have O := OUT_refl (n := (V17_vc2).length) (D := D) (N := N) (σ := σE) (c := c) (s := s)
  have HE := H
  have r2 : HID ((0 : Int) ≤ n3 ∧ n3 ≤ 1000000) := nrng (H.nle 3 (ltn len_V17_vc2_oz_R7cls rfl)) (show (N 3 : Int) = n3 from en3)
  refine Ew_of (pcₚ := 55) (fun _ => x_iconst rfl) ?_
  refine Ew_of (pcₚ := 57) (fun _ => x_istore rfl) ?_
  refine Ew_of (pcₚ := 58) (fun _ => x_aload_n rfl (rk_o (hl0) rfl rfl)) ?_
  refine v_g H (o := 0) (v := .ref (D 2)) rfl rfl rfl rfl rfl (vrf (pf2)) ?_
  refine v_inv H (o := 2) rfl rfl rfl rfl rfl rfl (by rfl) (C156h (D := puc 2 D) (N := puc 2 N) (HW_subc H oz_R7cls_18 oz_R7cls_14) (u2_1) ((eu2_1)) (F 2 2) (rfl) (F 2 4) (rfl)  (fun σ5 F5ₚ A5ₚ Hₚ Oₚ hS5 hA5 y5_0_1 (ey5_0_1 : HID _) y5_0_2 (ey5_0_2 : HID _) y5_0_4 (ey5_0_4 : HID _) pz5_0 => ⟨rfl, ?_⟩))
  refine v_backc (c := c) (s := s) H oz_R7cls_18 oz_R7cls_14 Hₚ Oₚ (fun F5 A5 H Oₚ eF5 eA5 => ?_)
  have O := OUT_trans O Oₚ
  -- Row.clear
  have cF5 : SF oz_R7clsl_3 F F5 := SF_trans (SF_refl) (SF_gluc (ι := oz_R7clsl_4) oz_R7cls_14 hS5 eF5 (by decide +kernel)) (any_sub (lₚ := [(2, 1), (2, 2), (2, 3), (2, 4)]) (by decide +kernel))
  have mF5 := SFm_of cF5 oz_R7cls_13
  have cA5 : SA oz_R7clsl_1 A A5 := SA_trans (SA_refl) (SA_gluc (ι := oz_R7clsl_4) oz_R7cls_14 hA5 eA5 (by decide +kernel)) (any_subA (lₚ := []) (by decide +kernel))
  have mA5 := SAm_of cA5 oz_R7cls_4
  refine Ew_of (pcₚ := 65) (fun _ => x_iload_n rfl (rk_o (hl3) rfl rfl)) ?_
  refine w_tsk 2 132 rfl (show inr (2) from q_55) (by omega) (by decide) rfl rfl ?_
  refine Ew_of (pcₚ := 133) (fun _ => x_aload_n rfl (rk_o (hl0) rfl rfl)) ?_
  exact hc133  _ _ _ _ (1) (rk_o (hl0) rfl rfl) (rk_o (hl1) rfl rfl) (rk_o (hl3) rfl rfl) (rk_o (hl4) rfl rfl) (rk_s) H O (SF_trans (SF_refl) (SF_gluc (ι := oz_R7clsl_4) oz_R7cls_14 hS5 eF5 (by decide +kernel)) (any_sub (lₚ := [(2, 1), (2, 2), (2, 3), (2, 4)]) (by decide +kernel))) (SA_trans (SA_refl) (SA_gluc (ι := oz_R7clsl_4) oz_R7cls_14 hA5 eA5 (by decide +kernel)) (any_subA (lₚ := []) (by decide +kernel)))   (y5_0_1) (((eF5 2 1).trans ey5_0_1))  (show inr (1) from q_23) (show 0 ≤ (y5_0_1) ∧ (y5_0_1) ≤ (n3) ∧ (n3) ≤ 65536 from q_3960 (HIDe r2) h1 pz5_0) (show (y5_0_1) = 0 from q_3478 pz5_0) (show (1) = 1 from q_4313)
abbrev V17_vc3 : vV := [(0, 0, [(4, 0), (4, 0), (4, 0), (4, 0), (4, 0), (4, 0), (4, 0), (4, 0), (4, 0), (4, 0), (4, 0), (4, 0), (4, 0), (4, 0), (4, 0), (4, 0), (4, 0), (0, 0), (0, 0)]), (0, 7, [(4, 0), (0, 0), (1, 0), (0, 0), (0, 0)]), (0, 7, [(4, 0), (0, 0), (1, 0), (0, 0), (0, 0)]), (1, 0, [])]
theorem len_V17_vc3_oz_R7cls : (V17_vc3).length = 4 := by decide +kernel
theorem oz_R7cls_20 : vsub V17_vc3 V156 [2] = true := by decide +kernel
/-- PackHouse.write: this, @F, this.written, this.written.bytes -/
theorem C17_vc3 {σE : rS} {D N : Nat → Nat} {F : hF} {A : hA} {d c s : Nat} {Q : wQ} (H : HW V17_vc3 σE D N F A) {x1 : Int} (pf2 : HID (F 0 5 = (D 2 : Int))) (pf3 : HID (F 2 0 = (D 3 : Int))) (n3 : Int) (en3 : HID ((N 3 : Int) = n3)) (u2_1 : Int) (eu2_1 : HID (F 2 1 = u2_1)) {ls : rO} (hl0 : rlook ls 0 = some (.ref (D 0))) (hl1 : rlook ls 1 = some (I (x1))) (hl3 : rlook ls 3 = some (I (3))) (hl4 : rlook ls 4 = some (.ref (D 1))) (h0 : inr (x1)) (h1 : 0 ≤ (u2_1) ∧ (u2_1) ≤ (n3) ∧ (n3) ≤ 65536) (hc149 : ∀ (ls : rO) (σ : rS) (F_c149 : hF) (A_c149 : hA) (xc149_5 : Int), rlook ls 0 = some (.ref (D 0)) → rlook ls 1 = some (I (x1)) → rlook ls 3 = some (I (3)) → rlook ls 4 = some (.ref (D 1)) → rlook ls 5 = some (I (xc149_5)) → HW V17_vc3 σ D N F_c149 A_c149 → OUT (V17_vc3).length D N σE c s D N σ c s → SF [(2, 1), (2, 2), (2, 3), (2, 4)] F F_c149 → SA [] A A_c149 → ∀ yc149_2_1 : Int, F_c149 2 1 = yc149_2_1 → (inr (xc149_5)) → (0 ≤ (yc149_2_1) ∧ (yc149_2_1) ≤ (n3) ∧ (n3) ≤ 65536) → ((yc149_2_1) = 0) → ((xc149_5) = 1) → Ew 17 (d + 1) 149 ls [.ref (D 0)] σ c s Q) (k : ∀ (z : Int) (σ : rS) (Fₚ : hF) (Aₚ : hA), HW V17_vc3 σ D N Fₚ Aₚ → OUT (V17_vc3).length D N σE c s D N σ c s → SF [(2, 1), (2, 2), (2, 3), (2, 4)] F Fₚ → SA [] A Aₚ → (inr (z)) → ((0 : Int) = 1) → Q (some (I z)) σ c s) : Ew 17 (d + 1) 54 ls [] σE c s Q := by
  have O := OUT_refl (n := (V17_vc3).length) (D := D) (N := N) (σ := σE) (c := c) (s := s)
  have HE := H
  have r2 : HID ((0 : Int) ≤ n3 ∧ n3 ≤ 1000000) := nrng (H.nle 3 (ltn len_V17_vc3_oz_R7cls rfl)) (show (N 3 : Int) = n3 from en3)
  refine Ew_of (pcₚ := 55) (fun _ => x_iconst rfl) ?_
  refine Ew_of (pcₚ := 57) (fun _ => x_istore rfl) ?_
  refine Ew_of (pcₚ := 58) (fun _ => x_aload_n rfl (rk_o (hl0) rfl rfl)) ?_
  refine v_g H (o := 0) (v := .ref (D 2)) rfl rfl rfl rfl rfl (vrf (pf2)) ?_
  refine v_inv H (o := 2) rfl rfl rfl rfl rfl rfl (by rfl) (C156h (D := puc 2 D) (N := puc 2 N) (HW_subc H oz_R7cls_20 oz_R7cls_14) (u2_1) ((eu2_1)) (F 2 2) (rfl) (F 2 4) (rfl)  (fun σ5 F5ₚ A5ₚ Hₚ Oₚ hS5 hA5 y5_0_1 (ey5_0_1 : HID _) y5_0_2 (ey5_0_2 : HID _) y5_0_4 (ey5_0_4 : HID _) pz5_0 => ⟨rfl, ?_⟩))
  refine v_backc (c := c) (s := s) H oz_R7cls_20 oz_R7cls_14 Hₚ Oₚ (fun F5 A5 H Oₚ eF5 eA5 => ?_)
  have O := OUT_trans O Oₚ
  -- Row.clear
  have cF5 : SF oz_R7clsl_3 F F5 := SF_trans (SF_refl) (SF_gluc (ι := oz_R7clsl_4) oz_R7cls_14 hS5 eF5 (by decide +kernel)) (any_sub (lₚ := [(2, 1), (2, 2), (2, 3), (2, 4)]) (by decide +kernel))
  have mF5 := SFm_of cF5 oz_R7cls_13
  have cA5 : SA oz_R7clsl_1 A A5 := SA_trans (SA_refl) (SA_gluc (ι := oz_R7clsl_4) oz_R7cls_14 hA5 eA5 (by decide +kernel)) (any_subA (lₚ := []) (by decide +kernel))
  have mA5 := SAm_of cA5 oz_R7cls_4
  refine Ew_of (pcₚ := 65) (fun _ => x_iload_n rfl (rk_o (hl3) rfl rfl)) ?_
  refine w_tsk 3 148 rfl (show inr (3) from q_66) (by omega) (by decide) rfl rfl ?_
  refine Ew_of (pcₚ := 149) (fun _ => x_aload_n rfl (rk_o (hl0) rfl rfl)) ?_
  exact hc149  _ _ _ _ (1) (rk_o (hl0) rfl rfl) (rk_o (hl1) rfl rfl) (rk_o (hl3) rfl rfl) (rk_o (hl4) rfl rfl) (rk_s) H O (SF_trans (SF_refl) (SF_gluc (ι := oz_R7clsl_4) oz_R7cls_14 hS5 eF5 (by decide +kernel)) (any_sub (lₚ := [(2, 1), (2, 2), (2, 3), (2, 4)]) (by decide +kernel))) (SA_trans (SA_refl) (SA_gluc (ι := oz_R7clsl_4) oz_R7cls_14 hA5 eA5 (by decide +kernel)) (any_subA (lₚ := []) (by decide +kernel)))   (y5_0_1) (((eF5 2 1).trans ey5_0_1))  (show inr (1) from q_23) (show 0 ≤ (y5_0_1) ∧ (y5_0_1) ≤ (n3) ∧ (n3) ≤ 65536 from q_3960 (HIDe r2) h1 pz5_0) (show (y5_0_1) = 0 from q_3478 pz5_0) (show (1) = 1 from q_4313)
abbrev V17_vc4 : vV := [(0, 0, [(4, 0), (4, 0), (4, 0), (4, 0), (4, 0), (4, 0), (4, 0), (4, 0), (4, 0), (4, 0), (4, 0), (4, 0), (4, 0), (4, 0), (4, 0), (4, 0), (4, 0), (0, 0), (0, 0)]), (0, 7, [(4, 0), (0, 0), (1, 0), (0, 0), (0, 0)]), (0, 7, [(4, 0), (0, 0), (1, 0), (0, 0), (0, 0)]), (1, 0, [])]
theorem len_V17_vc4_oz_R7cls : (V17_vc4).length = 4 := by decide +kernel
theorem oz_R7cls_22 : vsub V17_vc4 V156 [2] = true := by decide +kernel
/-- PackHouse.write: this, @F, this.written, this.written.bytes -/
theorem C17_vc4 {σE : rS} {D N : Nat → Nat} {F : hF} {A : hA} {d c s : Nat} {Q : wQ} (H : HW V17_vc4 σE D N F A) {x1 : Int} (pf2 : HID (F 0 5 = (D 2 : Int))) (pf3 : HID (F 2 0 = (D 3 : Int))) (n3 : Int) (en3 : HID ((N 3 : Int) = n3)) (u2_1 : Int) (eu2_1 : HID (F 2 1 = u2_1)) {ls : rO} (hl0 : rlook ls 0 = some (.ref (D 0))) (hl1 : rlook ls 1 = some (I (x1))) (hl3 : rlook ls 3 = some (I (4))) (hl4 : rlook ls 4 = some (.ref (D 1))) (h0 : inr (x1)) (h1 : 0 ≤ (u2_1) ∧ (u2_1) ≤ (n3) ∧ (n3) ≤ 65536) (hc165 : ∀ (ls : rO) (σ : rS) (F_c165 : hF) (A_c165 : hA) (xc165_5 : Int), rlook ls 0 = some (.ref (D 0)) → rlook ls 1 = some (I (x1)) → rlook ls 3 = some (I (4)) → rlook ls 4 = some (.ref (D 1)) → rlook ls 5 = some (I (xc165_5)) → HW V17_vc4 σ D N F_c165 A_c165 → OUT (V17_vc4).length D N σE c s D N σ c s → SF [(2, 1), (2, 2), (2, 3), (2, 4)] F F_c165 → SA [] A A_c165 → ∀ yc165_2_1 : Int, F_c165 2 1 = yc165_2_1 → (inr (xc165_5)) → (0 ≤ (yc165_2_1) ∧ (yc165_2_1) ≤ (n3) ∧ (n3) ≤ 65536) → ((yc165_2_1) = 0) → ((xc165_5) = 1) → Ew 17 (d + 1) 165 ls [.ref (D 0)] σ c s Q) (k : ∀ (z : Int) (σ : rS) (Fₚ : hF) (Aₚ : hA), HW V17_vc4 σ D N Fₚ Aₚ → OUT (V17_vc4).length D N σE c s D N σ c s → SF [(2, 1), (2, 2), (2, 3), (2, 4)] F Fₚ → SA [] A Aₚ → (inr (z)) → ((0 : Int) = 1) → Q (some (I z)) σ c s) : Ew 17 (d + 1) 54 ls [] σE c s Q := by
  have O := OUT_refl (n := (V17_vc4).length) (D := D) (N := N) (σ := σE) (c := c) (s := s)
  have HE := H
  have r2 : HID ((0 : Int) ≤ n3 ∧ n3 ≤ 1000000) := nrng (H.nle 3 (ltn len_V17_vc4_oz_R7cls rfl)) (show (N 3 : Int) = n3 from en3)
  refine Ew_of (pcₚ := 55) (fun _ => x_iconst rfl) ?_
  refine Ew_of (pcₚ := 57) (fun _ => x_istore rfl) ?_
  refine Ew_of (pcₚ := 58) (fun _ => x_aload_n rfl (rk_o (hl0) rfl rfl)) ?_
  refine v_g H (o := 0) (v := .ref (D 2)) rfl rfl rfl rfl rfl (vrf (pf2)) ?_
  refine v_inv H (o := 2) rfl rfl rfl rfl rfl rfl (by rfl) (C156h (D := puc 2 D) (N := puc 2 N) (HW_subc H oz_R7cls_22 oz_R7cls_14) (u2_1) ((eu2_1)) (F 2 2) (rfl) (F 2 4) (rfl)  (fun σ5 F5ₚ A5ₚ Hₚ Oₚ hS5 hA5 y5_0_1 (ey5_0_1 : HID _) y5_0_2 (ey5_0_2 : HID _) y5_0_4 (ey5_0_4 : HID _) pz5_0 => ⟨rfl, ?_⟩))
  refine v_backc (c := c) (s := s) H oz_R7cls_22 oz_R7cls_14 Hₚ Oₚ (fun F5 A5 H Oₚ eF5 eA5 => ?_)
  have O := OUT_trans O Oₚ
  -- Row.clear
  have cF5 : SF oz_R7clsl_3 F F5 := SF_trans (SF_refl) (SF_gluc (ι := oz_R7clsl_4) oz_R7cls_14 hS5 eF5 (by decide +kernel)) (any_sub (lₚ := [(2, 1), (2, 2), (2, 3), (2, 4)]) (by decide +kernel))
  have mF5 := SFm_of cF5 oz_R7cls_13
  have cA5 : SA oz_R7clsl_1 A A5 := SA_trans (SA_refl) (SA_gluc (ι := oz_R7clsl_4) oz_R7cls_14 hA5 eA5 (by decide +kernel)) (any_subA (lₚ := []) (by decide +kernel))
  have mA5 := SAm_of cA5 oz_R7cls_4
  refine Ew_of (pcₚ := 65) (fun _ => x_iload_n rfl (rk_o (hl3) rfl rfl)) ?_
  refine w_tsk 4 164 rfl (show inr (4) from q_2) (by omega) (by decide) rfl rfl ?_
  refine Ew_of (pcₚ := 165) (fun _ => x_aload_n rfl (rk_o (hl0) rfl rfl)) ?_
  exact hc165  _ _ _ _ (1) (rk_o (hl0) rfl rfl) (rk_o (hl1) rfl rfl) (rk_o (hl3) rfl rfl) (rk_o (hl4) rfl rfl) (rk_s) H O (SF_trans (SF_refl) (SF_gluc (ι := oz_R7clsl_4) oz_R7cls_14 hS5 eF5 (by decide +kernel)) (any_sub (lₚ := [(2, 1), (2, 2), (2, 3), (2, 4)]) (by decide +kernel))) (SA_trans (SA_refl) (SA_gluc (ι := oz_R7clsl_4) oz_R7cls_14 hA5 eA5 (by decide +kernel)) (any_subA (lₚ := []) (by decide +kernel)))   (y5_0_1) (((eF5 2 1).trans ey5_0_1))  (show inr (1) from q_23) (show 0 ≤ (y5_0_1) ∧ (y5_0_1) ≤ (n3) ∧ (n3) ≤ 65536 from q_3960 (HIDe r2) h1 pz5_0) (show (y5_0_1) = 0 from q_3478 pz5_0) (show (1) = 1 from q_4313)
abbrev V17_vc5 : vV := [(0, 0, [(4, 0), (4, 0), (4, 0), (4, 0), (4, 0), (4, 0), (4, 0), (4, 0), (4, 0), (4, 0), (4, 0), (4, 0), (4, 0), (4, 0), (4, 0), (4, 0), (4, 0), (0, 0), (0, 0)]), (0, 7, [(4, 0), (0, 0), (1, 0), (0, 0), (0, 0)]), (0, 7, [(4, 0), (0, 0), (1, 0), (0, 0), (0, 0)]), (1, 0, [])]
theorem len_V17_vc5_oz_R7cls : (V17_vc5).length = 4 := by decide +kernel
theorem oz_R7cls_24 : vsub V17_vc5 V156 [2] = true := by decide +kernel
/-- PackHouse.write: this, @F, this.written, this.written.bytes -/
theorem C17_vc5 {σE : rS} {D N : Nat → Nat} {F : hF} {A : hA} {d c s : Nat} {Q : wQ} (H : HW V17_vc5 σE D N F A) {x1 : Int} (pf2 : HID (F 0 5 = (D 2 : Int))) (pf3 : HID (F 2 0 = (D 3 : Int))) (n3 : Int) (en3 : HID ((N 3 : Int) = n3)) (u2_1 : Int) (eu2_1 : HID (F 2 1 = u2_1)) {ls : rO} (hl0 : rlook ls 0 = some (.ref (D 0))) (hl1 : rlook ls 1 = some (I (x1))) (hl3 : rlook ls 3 = some (I (5))) (hl4 : rlook ls 4 = some (.ref (D 1))) (h0 : inr (x1)) (h1 : 0 ≤ (u2_1) ∧ (u2_1) ≤ (n3) ∧ (n3) ≤ 65536) (hc185 : ∀ (ls : rO) (σ : rS) (F_c185 : hF) (A_c185 : hA) , rlook ls 0 = some (.ref (D 0)) → rlook ls 1 = some (I (x1)) → rlook ls 3 = some (I (5)) → rlook ls 4 = some (.ref (D 1)) → HW V17_vc5 σ D N F_c185 A_c185 → OUT (V17_vc5).length D N σE c s D N σ c s → SF [(2, 1), (2, 2), (2, 3), (2, 4)] F F_c185 → SA [] A A_c185 → ∀ yc185_2_1 : Int, F_c185 2 1 = yc185_2_1 → ∀ yc185_2_4 : Int, F_c185 2 4 = yc185_2_4 → (0 ≤ (yc185_2_1) ∧ (yc185_2_1) ≤ (n3) ∧ (n3) ≤ 65536) → ((yc185_2_1) = 0) → ((yc185_2_4) = 0) → Ew 17 (d + 1) 185 ls [.ref (D 0)] σ c s Q) (k : ∀ (z : Int) (σ : rS) (Fₚ : hF) (Aₚ : hA), HW V17_vc5 σ D N Fₚ Aₚ → OUT (V17_vc5).length D N σE c s D N σ c s → SF [(2, 1), (2, 2), (2, 3), (2, 4)] F Fₚ → SA [] A Aₚ → (inr (z)) → ((0 : Int) = 1) → Q (some (I z)) σ c s) : Ew 17 (d + 1) 54 ls [] σE c s Q := by
  have O := OUT_refl (n := (V17_vc5).length) (D := D) (N := N) (σ := σE) (c := c) (s := s)
  have HE := H
  have r2 : HID ((0 : Int) ≤ n3 ∧ n3 ≤ 1000000) := nrng (H.nle 3 (ltn len_V17_vc5_oz_R7cls rfl)) (show (N 3 : Int) = n3 from en3)
  refine Ew_of (pcₚ := 55) (fun _ => x_iconst rfl) ?_
  refine Ew_of (pcₚ := 57) (fun _ => x_istore rfl) ?_
  refine Ew_of (pcₚ := 58) (fun _ => x_aload_n rfl (rk_o (hl0) rfl rfl)) ?_
  refine v_g H (o := 0) (v := .ref (D 2)) rfl rfl rfl rfl rfl (vrf (pf2)) ?_
  refine v_inv H (o := 2) rfl rfl rfl rfl rfl rfl (by rfl) (C156h (D := puc 2 D) (N := puc 2 N) (HW_subc H oz_R7cls_24 oz_R7cls_14) (u2_1) ((eu2_1)) (F 2 2) (rfl) (F 2 4) (rfl)  (fun σ5 F5ₚ A5ₚ Hₚ Oₚ hS5 hA5 y5_0_1 (ey5_0_1 : HID _) y5_0_2 (ey5_0_2 : HID _) y5_0_4 (ey5_0_4 : HID _) pz5_0 => ⟨rfl, ?_⟩))
  refine v_backc (c := c) (s := s) H oz_R7cls_24 oz_R7cls_14 Hₚ Oₚ (fun F5 A5 H Oₚ eF5 eA5 => ?_)
  have O := OUT_trans O Oₚ
  -- Row.clear
  have cF5 : SF oz_R7clsl_3 F F5 := SF_trans (SF_refl) (SF_gluc (ι := oz_R7clsl_4) oz_R7cls_14 hS5 eF5 (by decide +kernel)) (any_sub (lₚ := [(2, 1), (2, 2), (2, 3), (2, 4)]) (by decide +kernel))
  have mF5 := SFm_of cF5 oz_R7cls_13
  have cA5 : SA oz_R7clsl_1 A A5 := SA_trans (SA_refl) (SA_gluc (ι := oz_R7clsl_4) oz_R7cls_14 hA5 eA5 (by decide +kernel)) (any_subA (lₚ := []) (by decide +kernel))
  have mA5 := SAm_of cA5 oz_R7cls_4
  refine Ew_of (pcₚ := 65) (fun _ => x_iload_n rfl (rk_o (hl3) rfl rfl)) ?_
  refine w_tsd 184 rfl (show inr (5) from q_509) (by omega) rfl ?_
  refine Ew_of (pcₚ := 185) (fun _ => x_aload_n rfl (rk_o (hl0) rfl rfl)) ?_
  exact hc185  _ _ _ _  (rk_o (hl0) rfl rfl) (rk_o (hl1) rfl rfl) (rk_o (hl3) rfl rfl) (rk_o (hl4) rfl rfl) H O (SF_trans (SF_refl) (SF_gluc (ι := oz_R7clsl_4) oz_R7cls_14 hS5 eF5 (by decide +kernel)) (any_sub (lₚ := [(2, 1), (2, 2), (2, 3), (2, 4)]) (by decide +kernel))) (SA_trans (SA_refl) (SA_gluc (ι := oz_R7clsl_4) oz_R7cls_14 hA5 eA5 (by decide +kernel)) (any_subA (lₚ := []) (by decide +kernel)))   (y5_0_1) (((eF5 2 1).trans ey5_0_1)) (y5_0_4) (((eF5 2 4).trans ey5_0_4))  (show 0 ≤ (y5_0_1) ∧ (y5_0_1) ≤ (n3) ∧ (n3) ≤ 65536 from q_3960 (HIDe r2) h1 pz5_0) (show (y5_0_1) = 0 from q_3478 pz5_0) (show (y5_0_4) = 0 from q_4314 pz5_0)
