abbrev V151_c10 : vV := [(0, 6, [(4, 0), (4, 0), (4, 0), (4, 0), (4, 0), (4, 0), (4, 0), (4, 0), (4, 0), (4, 0), (4, 0), (4, 0), (4, 0), (4, 0), (4, 0), (0, 0), (0, 0), (4, 0), (4, 0)]), (0, 9, [(4, 0), (4, 0), (4, 0)]), (1, 5, []), (0, 8, [(0, 0), (0, 0), (4, 0), (4, 0), (4, 0), (4, 0), (4, 0), (4, 0), (4, 0), (4, 0), (4, 0), (0, 0), (0, 0)]), (1, 1, []), (1, 1, []), (1, 1, []), (1, 1, []), (1, 1, []), (1, 1, []), (1, 1, []), (1, 1, []), (1, 7, []), (1, 1, []), (0, 7, [(4, 0), (0, 0), (1, 0), (0, 0), (0, 0)]), (1, 0, [])]
theorem len_V151_c10_oz_L4cls : (V151_c10).length = 16 := by decide +kernel
theorem oz_L4cls_1 : vsub V151_c10 V175 [3, 4, 5, 6, 7, 8, 9, 10, 11] = true := by decide +kernel
theorem oz_L4cls_2 : vsub V151_c10 V164 [14, 15] = true := by decide +kernel
theorem oz_L4cls_3 : vsub V151_c10 V176 [3, 4, 5, 6, 7, 8, 9, 10, 11] = true := by decide +kernel
def oz_L4clsl_0 : List (Nat × Nat) := [(14, 1), (14, 2), (14, 3), (14, 4)]
theorem oz_L4cls_4 : (oz_L4clsl_0).all (fun p => !tbz 21805161728868206716479714236640136030609240820619541808444705975419178643401937699785731521412906966822875648187985338006038048858439680 (Nat.add (Nat.mul 32 p.1) p.2)) = true := by decide +kernel
def oz_L4clsl_1 : List Nat := [15]
theorem oz_L4cls_5 : (oz_L4clsl_1).all (fun p => !tbz 32768 p) = true := by decide +kernel
def oz_L4clsl_2 : List Nat := [3, 4, 5, 6, 7, 8, 9, 10, 11]
theorem oz_L4cls_6 : okc oz_L4clsl_2 52038427443478050113539 = true := by decide +kernel
def oz_L4clsl_3 : List Nat := [14, 15]
theorem oz_L4cls_7 : okc oz_L4clsl_3 7694 = true := by decide +kernel
/-- Packer.packState: this, this.next, this.next.tables, this.next.tables.0, this.next.tables.0.points, this.next.tables.0.masses, this.next.tables.0.mostBits, this.next.tables.0.starts, this.next.tables.0.symbolAt, this.next.tables.0.numberAt, this.next.tables.0.placeOf, this.next.tables.0.used, this.symbols, this.symbols.0, this.packed, this.packed.bytes -/
theorem C151_c10 {σE : rS} {D N : Nat → Nat} {F : hF} {A : hA} {d c s : Nat} {Q : wQ} (H : HW V151_c10 σE D N F A) {a2 a3 : Int} (pf1 : HID (F 0 7 = (D 1 : Int))) (pf2 : HID (F 1 1 = (D 2 : Int))) (pf3 : HID (A 2 0 = (D 3 : Int))) (pf4 : HID (F 3 2 = (D 4 : Int))) (pf5 : HID (F 3 3 = (D 5 : Int))) (pf6 : HID (F 3 4 = (D 6 : Int))) (pf7 : HID (F 3 5 = (D 7 : Int))) (pf8 : HID (F 3 7 = (D 8 : Int))) (pf9 : HID (F 3 8 = (D 9 : Int))) (pf10 : HID (F 3 9 = (D 10 : Int))) (pf11 : HID (F 3 6 = (D 11 : Int))) (pf12 : HID (F 0 13 = (D 12 : Int))) (pf13 : HID (A 12 0 = (D 13 : Int))) (pf14 : HID (F 0 8 = (D 14 : Int))) (pf15 : HID (F 14 0 = (D 15 : Int))) (n2 : Int) (en2 : HID ((N 2 : Int) = n2)) (n4 : Int) (en4 : HID ((N 4 : Int) = n4)) (n5 : Int) (en5 : HID ((N 5 : Int) = n5)) (n6 : Int) (en6 : HID ((N 6 : Int) = n6)) (n7 : Int) (en7 : HID ((N 7 : Int) = n7)) (n8 : Int) (en8 : HID ((N 8 : Int) = n8)) (n9 : Int) (en9 : HID ((N 9 : Int) = n9)) (n10 : Int) (en10 : HID ((N 10 : Int) = n10)) (n11 : Int) (en11 : HID ((N 11 : Int) = n11)) (n12 : Int) (en12 : HID ((N 12 : Int) = n12)) (n13 : Int) (en13 : HID ((N 13 : Int) = n13)) (n15 : Int) (en15 : HID ((N 15 : Int) = n15)) (u3_0 : Int) (eu3_0 : HID (F 3 0 = u3_0)) (u3_1 : Int) (eu3_1 : HID (F 3 1 = u3_1)) (u14_1 : Int) (eu14_1 : HID (F 14 1 = u14_1)) (u14_4 : Int) (eu14_4 : HID (F 14 4 = u14_4)) (w4 : Int → Int) (ew4 : A 4 = w4) (w5 : Int → Int) (ew5 : A 5 = w5) (w6 : Int → Int) (ew6 : A 6 = w6) (w7 : Int → Int) (ew7 : A 7 = w7) (w8 : Int → Int) (ew8 : A 8 = w8) (w9 : Int → Int) (ew9 : A 9 = w9) (w10 : Int → Int) (ew10 : A 10 = w10) (w13 : Int → Int) (ew13 : A 13 = w13) (h0 : inr (0)) (h1 : inr (a2)) (h2 : inr (a3)) (h3 : SL ((w4)) ((u3_1)) ((u3_0)) ((w5)) ((w6)) ((w7)) ((w8)) ((w9)) ((w10))) (h4 : SZD ((n4)) ((n5)) ((n6)) ((n7)) ((n11)) ((n8)) ((n9)) ((n10)) ((u3_1)) ((u3_0))) (h5 : 0 ≤ (a2) ∧ (a2) < p2 ((u3_0))) (h6 : 0 ≤ (a3) ∧ (a3) < (n13)) (h7 : 0 ≤ ((w13)) (a3) ∧ ((w13)) (a3) < (u3_1) ∧ ((w4)) (((w13)) (a3)) ≠ 0) (h8 : (n12) = 3 ∧ (n2) = 3) (h9 : 0 ≤ (u14_1) ∧ (u14_1) ≤ (n15) ∧ (n15) ≤ 65536) (h10 : 0 ≤ (u14_4) ∧ (u14_4) ≤ 7) (k : ∀ (z : Int) (σ : rS) (Fₚ : hF) (Aₚ : hA), HW V151_c10 σ D N Fₚ Aₚ → OUT (V151_c10).length D N σE c s D N σ c s → SF [(14, 1), (14, 2), (14, 3), (14, 4)] F Fₚ → SA [15] A Aₚ → ∀ y14_1 : Int, Fₚ 14 1 = y14_1 → ∀ y14_4 : Int, Fₚ 14 4 = y14_4 → (inr (z)) → (0 ≤ (z) ∧ (z) < p2 ((u3_0))) → (0 ≤ (y14_1) ∧ (y14_1) ≤ (n15) ∧ (n15) ≤ 65536) → (0 ≤ (y14_4) ∧ (y14_4) ≤ 7) → Q (some (I z)) σ c s) : Ew 151 (d + 1) 0 (rargs 0 [.ref (D 0), I 0, I a2, I a3]) [] σE c s Q := by
  have O := OUT_refl (n := (V151_c10).length) (D := D) (N := N) (σ := σE) (c := c) (s := s)
  have HE := H
  have r2 : HID ((-2147483648 : Int) ≤ u3_1 ∧ u3_1 ≤ 2147483647) := krg_e (show (-2147483648 : Int) ≤ F 3 1 ∧ F 3 1 ≤ 2147483647 from H.krg 3 1 (ltn len_V151_c10_oz_L4cls rfl)) (show F 3 1 = u3_1 from (eu3_1))
  have r5 : HID ((0 : Int) ≤ n2 ∧ n2 ≤ 1000000) := nrng (H.nle 2 (ltn len_V151_c10_oz_L4cls rfl)) (show (N 2 : Int) = n2 from en2)
  have r14 : HID ((0 : Int) ≤ n12 ∧ n12 ≤ 1000000) := nrng (H.nle 12 (ltn len_V151_c10_oz_L4cls rfl)) (show (N 12 : Int) = n12 from en12)
  have hsl : SL ((w4)) ((u3_1)) ((u3_0)) ((w5)) ((w6)) ((w7)) ((w8)) ((w9)) ((w10)) := h3
  have hsf := SHD_f hsl.1
  have hrw : 0 ≤ ((w13)) (a3) ∧ ((w13)) (a3) < (u3_1) ∧ ((w4)) (((w13)) (a3)) ≠ 0 := h7
  refine Ew_of (pcₚ := 1) (fun _ => x_aload_n rfl rfl) ?_
  refine v_g H (o := 0) (v := .ref (D 1)) rfl rfl rfl rfl rfl (vrf (pf1)) ?_
  refine v_g H (o := 1) (v := .ref (D 2)) rfl rfl rfl rfl rfl (vrf (pf2)) ?_
  refine Ew_of (pcₚ := 8) (fun _ => x_iload_n rfl rfl) ?_
  refine v_lR H (o := 2) rfl rfl rfl rfl rfl (n := n2) (en2) (show 0 ≤ 0 ∧ 0 < n2 from q_4022 (HIDe r5) h8) (z := ((D 3 : Nat) : Int)) (v := .ref (D 3)) (pf3) (vrf rfl) ?_
  refine Ew_of (pcₚ := 11) (fun _ => x_astore rfl) ?_
  refine Ew_of (pcₚ := 12) (fun _ => x_aload_n rfl (rk_o (rfl) rfl rfl)) ?_
  refine v_g H (o := 0) (v := .ref (D 12)) rfl rfl rfl rfl rfl (vrf (pf12)) ?_
  refine Ew_of (pcₚ := 16) (fun _ => x_iload_n rfl (rk_o (rfl) rfl rfl)) ?_
  refine v_lR H (o := 12) rfl rfl rfl rfl rfl (n := n12) (en12) (show 0 ≤ 0 ∧ 0 < n12 from q_4023 (HIDe r14) h8) (z := ((D 13 : Nat) : Int)) (v := .ref (D 13)) (pf13) (vrf rfl) ?_
  refine Ew_of (pcₚ := 18) (fun _ => x_iload_n rfl (rk_o (rfl) rfl rfl)) ?_
  refine v_lI H (o := 13) rfl rfl rfl rfl (n := n13) (en13) (show 0 ≤ a3 ∧ a3 < n13 from h6) (fun v17 ev17 (qv17 : HID _) => ?_)
  have ev17 : (w13) (a3) = v17 := (congrFun (ew13) (a3)).symm.trans ev17
  rw [ev17] at hrw
  refine Ew_of (pcₚ := 21) (fun _ => x_istore rfl) ?_
  refine Ew_of (pcₚ := 23) (fun _ => x_aload rfl (rk_o (rk_s) rfl rfl)) ?_
  refine Ew_of (pcₚ := 24) (fun _ => x_iload_n rfl (rk_o (rk_o (rfl) rfl rfl) rfl rfl)) ?_
  refine Ew_of (pcₚ := 26) (fun _ => x_iload rfl rk_s) ?_
  refine v_inv H (o := 3) rfl rfl rfl rfl rfl rfl (by rfl) (C175o (D := puc 52038427443478050113539 D) (N := puc 52038427443478050113539 N) (HW_subc H oz_L4cls_1 oz_L4cls_6) (pf4) (pf5) (pf6) (pf7) (pf8) (pf9) (pf10) (pf11) (n4) (en4) (n5) (en5) (n6) (en6) (n7) (en7) (n8) (en8) (n9) (en9) (n10) (en10) (n11) (en11) (u3_0) ((eu3_0)) (u3_1) ((eu3_1)) (w4) (ew4) (w5) (ew5) (w6) (ew6) (w7) (ew7) (w8) (ew8) (w9) (ew9) (w10) (ew10) (show inr (a2) from h1) (show inr (v17) from (HIDe qv17)) (show SL ((w4)) ((u3_1)) ((u3_0)) ((w5)) ((w6)) ((w7)) ((w8)) ((w9)) ((w10)) from hsl) (show SZD ((n4)) ((n5)) ((n6)) ((n7)) ((n11)) ((n8)) ((n9)) ((n10)) ((u3_1)) ((u3_0)) from h4) (show 0 ≤ (a2) ∧ (a2) < p2 ((u3_0)) from h5) (show 0 ≤ (v17) ∧ (v17) < ((u3_1)) ∧ ((w4)) (v17) ≠ 0 by have qh0 := HIDe qv17; have qh1 := HIDe r2; omega) (fun z18 σ18 F18ₚ A18ₚ Hₚ Oₚ hS18 hA18 pz18_0 pz18_1 pz18_2 => ⟨rfl, ?_⟩))
  refine v_backc (c := c) (s := s) H oz_L4cls_1 oz_L4cls_6 Hₚ Oₚ (fun F18 A18 H Oₚ eF18 eA18 => ?_)
  have O := OUT_trans O Oₚ
  -- Share.bitsAhead
  have cF18 : SF oz_L4clsl_0 F F18 := SF_trans (SF_refl) (SF_gluc (ι := oz_L4clsl_2) oz_L4cls_6 hS18 eF18 (by decide +kernel)) (any_sub (lₚ := []) (by decide +kernel))
  have mF18 := SFm_of cF18 oz_L4cls_4
  have cA18 : SA oz_L4clsl_1 A A18 := SA_trans (SA_refl) (SA_gluc (ι := oz_L4clsl_2) oz_L4cls_6 hA18 eA18 (by decide +kernel)) (any_subA (lₚ := []) (by decide +kernel))
  have mA18 := SAm_of cA18 oz_L4cls_5
  refine Ew_of (pcₚ := 31) (fun _ => x_istore rfl) ?_
  refine Ew_of (pcₚ := 32) (fun _ => x_aload_n rfl (rk_o (rk_o (rk_o (rfl) rfl rfl) rfl rfl) rfl rfl)) ?_
  refine v_g H (o := 0) (v := .ref (D 14)) rfl rfl rfl rfl rfl (vrf ((mF18 0 8 rfl).trans (pf14))) ?_
  refine Ew_of (pcₚ := 36) (fun _ => x_iload_n rfl (rk_o (rk_o (rk_o (rfl) rfl rfl) rfl rfl) rfl rfl)) ?_
  refine Ew_of (pcₚ := 38) (fun _ => x_iload rfl rk_s) ?_
  refine v_inv H (o := 14) rfl rfl rfl rfl rfl rfl (by rfl) (C164 (D := puc 7694 D) (N := puc 7694 N) (HW_subc H oz_L4cls_2 oz_L4cls_7) ((mF18 14 0 rfl).trans (pf15)) (n15) (en15) (u14_1) ((((show F18 14 1 = F 14 1 from (eF18 14 1))).trans (eu14_1))) (u14_4) ((((show F18 14 4 = F 14 4 from (eF18 14 4))).trans (eu14_4))) (show inr (a2) from h1) (show inr (z18) from pz18_0) (show 0 ≤ (u14_1) ∧ (u14_1) ≤ (n15) ∧ (n15) ≤ 65536 from h9) (show 0 ≤ (z18) ∧ (z18) ≤ 31 by omega) (show 0 ≤ (u14_4) ∧ (u14_4) ≤ 7 from h10) (fun σ19 F19ₚ A19ₚ Hₚ Oₚ hS19 hA19 y19_0_1 (ey19_0_1 : HID _) y19_0_4 (ey19_0_4 : HID _) pz19_0 pz19_1 pz19_2 => ⟨rfl, ?_⟩))
  refine v_backc (c := c) (s := s) H oz_L4cls_2 oz_L4cls_7 Hₚ Oₚ (fun F19 A19 H Oₚ eF19 eA19 => ?_)
  have O := OUT_trans O Oₚ
  -- Row.addBits
  have cF19 : SF oz_L4clsl_0 F F19 := SF_trans (cF18) (SF_gluc (ι := oz_L4clsl_3) oz_L4cls_7 hS19 eF19 (by decide +kernel)) (any_sub (lₚ := [(14, 1), (14, 2), (14, 3), (14, 4)]) (by decide +kernel))
  have mF19 := SFm_of cF19 oz_L4cls_4
  have cA19 : SA oz_L4clsl_1 A A19 := SA_trans (cA18) (SA_gluc (ι := oz_L4clsl_3) oz_L4cls_7 hA19 eA19 (by decide +kernel)) (any_subA (lₚ := [15]) (by decide +kernel))
  have mA19 := SAm_of cA19 oz_L4cls_5
  refine Ew_of (pcₚ := 43) (fun _ => x_aload rfl (rk_o (rk_o (rk_s) rfl rfl) rfl rfl)) ?_
  refine Ew_of (pcₚ := 44) (fun _ => x_iload_n rfl (rk_o (rk_o (rk_o (rfl) rfl rfl) rfl rfl) rfl rfl)) ?_
  refine Ew_of (pcₚ := 46) (fun _ => x_iload rfl (rk_o (rk_s) rfl rfl)) ?_
  refine Ew_of (pcₚ := 48) (fun _ => x_iload rfl rk_s) ?_
  refine v_inv H (o := 3) rfl rfl rfl rfl rfl rfl (by rfl) (C176o (D := puc 52038427443478050113539 D) (N := puc 52038427443478050113539 N) (HW_subc H oz_L4cls_3 oz_L4cls_6) ((mF19 3 2 rfl).trans (pf4)) ((mF19 3 3 rfl).trans (pf5)) ((mF19 3 4 rfl).trans (pf6)) ((mF19 3 5 rfl).trans (pf7)) ((mF19 3 7 rfl).trans (pf8)) ((mF19 3 8 rfl).trans (pf9)) ((mF19 3 9 rfl).trans (pf10)) ((mF19 3 6 rfl).trans (pf11)) (n4) (en4) (n5) (en5) (n6) (en6) (n7) (en7) (n8) (en8) (n9) (en9) (n10) (en10) (n11) (en11) (u3_0) (((mF19 3 0 rfl).trans (eu3_0))) (u3_1) (((mF19 3 1 rfl).trans (eu3_1))) (w4) ((funext (mA19 4 rfl)).trans (ew4)) (w5) ((funext (mA19 5 rfl)).trans (ew5)) (w6) ((funext (mA19 6 rfl)).trans (ew6)) (w7) ((funext (mA19 7 rfl)).trans (ew7)) (w8) ((funext (mA19 8 rfl)).trans (ew8)) (w9) ((funext (mA19 9 rfl)).trans (ew9)) (w10) ((funext (mA19 10 rfl)).trans (ew10)) (show inr (a2) from h1) (show inr (v17) from (HIDe qv17)) (show inr (z18) from pz18_0) (show SL ((w4)) ((u3_1)) ((u3_0)) ((w5)) ((w6)) ((w7)) ((w8)) ((w9)) ((w10)) from hsl) (show SZD ((n4)) ((n5)) ((n6)) ((n7)) ((n11)) ((n8)) ((n9)) ((n10)) ((u3_1)) ((u3_0)) from h4) (show 0 ≤ (a2) ∧ (a2) < p2 ((u3_0)) from h5) (show 0 ≤ (v17) ∧ (v17) < ((u3_1)) ∧ ((w4)) (v17) ≠ 0 by have qh0 := HIDe qv17; have qh1 := HIDe r2; omega) (show BA (mass (((w4)) (v17))) ((u3_0)) (a2) (z18) from pz18_1) (fun z22 σ22 F22ₚ A22ₚ Hₚ Oₚ hS22 hA22 pz22_0 pz22_1 pz22_2 => ⟨rfl, ?_⟩))
  refine v_backc (c := c) (s := s) H oz_L4cls_3 oz_L4cls_6 Hₚ Oₚ (fun F22 A22 H Oₚ eF22 eA22 => ?_)
  have O := OUT_trans O Oₚ
  -- Share.placeAhead
  have cF22 : SF oz_L4clsl_0 F F22 := SF_trans (cF19) (SF_gluc (ι := oz_L4clsl_2) oz_L4cls_6 hS22 eF22 (by decide +kernel)) (any_sub (lₚ := []) (by decide +kernel))
  have mF22 := SFm_of cF22 oz_L4cls_4
  have cA22 : SA oz_L4clsl_1 A A22 := SA_trans (cA19) (SA_gluc (ι := oz_L4clsl_2) oz_L4cls_6 hA22 eA22 (by decide +kernel)) (any_subA (lₚ := []) (by decide +kernel))
  have mA22 := SAm_of cA22 oz_L4cls_5
  exact w_ireturn rfl (k (z22) _ _ _ H O (cF22) (cA22) (y19_0_1) ((((show F22 14 1 = F19 14 1 from (eF22 14 1))).trans ((eF19 14 1).trans ey19_0_1))) (y19_0_4) ((((show F22 14 4 = F19 14 4 from (eF22 14 4))).trans ((eF19 14 4).trans ey19_0_4))) (show inr (z22) from pz22_0) (show 0 ≤ (z22) ∧ (z22) < p2 ((u3_0)) from pz22_1) (show 0 ≤ (y19_0_1) ∧ (y19_0_1) ≤ (n15) ∧ (n15) ≤ 65536 from pz19_0) (show 0 ≤ (y19_0_4) ∧ (y19_0_4) ≤ 7 from pz19_2))
abbrev V151_c11 : vV := [(0, 6, [(4, 0), (4, 0), (4, 0), (4, 0), (4, 0), (4, 0), (4, 0), (4, 0), (4, 0), (4, 0), (4, 0), (4, 0), (4, 0), (4, 0), (4, 0), (0, 0), (0, 0), (4, 0), (4, 0)]), (0, 9, [(4, 0), (4, 0), (4, 0)]), (1, 5, []), (0, 8, [(0, 0), (0, 0), (4, 0), (4, 0), (4, 0), (4, 0), (4, 0), (4, 0), (4, 0), (4, 0), (4, 0), (0, 0), (0, 0)]), (1, 1, []), (1, 1, []), (1, 1, []), (1, 1, []), (1, 1, []), (1, 1, []), (1, 1, []), (1, 1, []), (1, 7, []), (1, 1, []), (0, 7, [(4, 0), (0, 0), (1, 0), (0, 0), (0, 0)]), (1, 0, [])]
theorem len_V151_c11_oz_L4cls : (V151_c11).length = 16 := by decide +kernel
theorem oz_L4cls_9 : vsub V151_c11 V175 [3, 4, 5, 6, 7, 8, 9, 10, 11] = true := by decide +kernel
theorem oz_L4cls_10 : vsub V151_c11 V164 [14, 15] = true := by decide +kernel
theorem oz_L4cls_11 : vsub V151_c11 V176 [3, 4, 5, 6, 7, 8, 9, 10, 11] = true := by decide +kernel
/-- Packer.packState: this, this.next, this.next.tables, this.next.tables.1, this.next.tables.1.points, this.next.tables.1.masses, this.next.tables.1.mostBits, this.next.tables.1.starts, this.next.tables.1.symbolAt, this.next.tables.1.numberAt, this.next.tables.1.placeOf, this.next.tables.1.used, this.symbols, this.symbols.1, this.packed, this.packed.bytes -/
theorem C151_c11 {σE : rS} {D N : Nat → Nat} {F : hF} {A : hA} {d c s : Nat} {Q : wQ} (H : HW V151_c11 σE D N F A) {a2 a3 : Int} (pf1 : HID (F 0 7 = (D 1 : Int))) (pf2 : HID (F 1 1 = (D 2 : Int))) (pf3 : HID (A 2 1 = (D 3 : Int))) (pf4 : HID (F 3 2 = (D 4 : Int))) (pf5 : HID (F 3 3 = (D 5 : Int))) (pf6 : HID (F 3 4 = (D 6 : Int))) (pf7 : HID (F 3 5 = (D 7 : Int))) (pf8 : HID (F 3 7 = (D 8 : Int))) (pf9 : HID (F 3 8 = (D 9 : Int))) (pf10 : HID (F 3 9 = (D 10 : Int))) (pf11 : HID (F 3 6 = (D 11 : Int))) (pf12 : HID (F 0 13 = (D 12 : Int))) (pf13 : HID (A 12 1 = (D 13 : Int))) (pf14 : HID (F 0 8 = (D 14 : Int))) (pf15 : HID (F 14 0 = (D 15 : Int))) (n2 : Int) (en2 : HID ((N 2 : Int) = n2)) (n4 : Int) (en4 : HID ((N 4 : Int) = n4)) (n5 : Int) (en5 : HID ((N 5 : Int) = n5)) (n6 : Int) (en6 : HID ((N 6 : Int) = n6)) (n7 : Int) (en7 : HID ((N 7 : Int) = n7)) (n8 : Int) (en8 : HID ((N 8 : Int) = n8)) (n9 : Int) (en9 : HID ((N 9 : Int) = n9)) (n10 : Int) (en10 : HID ((N 10 : Int) = n10)) (n11 : Int) (en11 : HID ((N 11 : Int) = n11)) (n12 : Int) (en12 : HID ((N 12 : Int) = n12)) (n13 : Int) (en13 : HID ((N 13 : Int) = n13)) (n15 : Int) (en15 : HID ((N 15 : Int) = n15)) (u3_0 : Int) (eu3_0 : HID (F 3 0 = u3_0)) (u3_1 : Int) (eu3_1 : HID (F 3 1 = u3_1)) (u14_1 : Int) (eu14_1 : HID (F 14 1 = u14_1)) (u14_4 : Int) (eu14_4 : HID (F 14 4 = u14_4)) (w4 : Int → Int) (ew4 : A 4 = w4) (w5 : Int → Int) (ew5 : A 5 = w5) (w6 : Int → Int) (ew6 : A 6 = w6) (w7 : Int → Int) (ew7 : A 7 = w7) (w8 : Int → Int) (ew8 : A 8 = w8) (w9 : Int → Int) (ew9 : A 9 = w9) (w10 : Int → Int) (ew10 : A 10 = w10) (w13 : Int → Int) (ew13 : A 13 = w13) (h0 : inr (1)) (h1 : inr (a2)) (h2 : inr (a3)) (h3 : SL ((w4)) ((u3_1)) ((u3_0)) ((w5)) ((w6)) ((w7)) ((w8)) ((w9)) ((w10))) (h4 : SZD ((n4)) ((n5)) ((n6)) ((n7)) ((n11)) ((n8)) ((n9)) ((n10)) ((u3_1)) ((u3_0))) (h5 : 0 ≤ (a2) ∧ (a2) < p2 ((u3_0))) (h6 : 0 ≤ (a3) ∧ (a3) < (n13)) (h7 : 0 ≤ ((w13)) (a3) ∧ ((w13)) (a3) < (u3_1) ∧ ((w4)) (((w13)) (a3)) ≠ 0) (h8 : (n12) = 3 ∧ (n2) = 3) (h9 : 0 ≤ (u14_1) ∧ (u14_1) ≤ (n15) ∧ (n15) ≤ 65536) (h10 : 0 ≤ (u14_4) ∧ (u14_4) ≤ 7) (k : ∀ (z : Int) (σ : rS) (Fₚ : hF) (Aₚ : hA), HW V151_c11 σ D N Fₚ Aₚ → OUT (V151_c11).length D N σE c s D N σ c s → SF [(14, 1), (14, 2), (14, 3), (14, 4)] F Fₚ → SA [15] A Aₚ → ∀ y14_1 : Int, Fₚ 14 1 = y14_1 → ∀ y14_4 : Int, Fₚ 14 4 = y14_4 → (inr (z)) → (0 ≤ (z) ∧ (z) < p2 ((u3_0))) → (0 ≤ (y14_1) ∧ (y14_1) ≤ (n15) ∧ (n15) ≤ 65536) → (0 ≤ (y14_4) ∧ (y14_4) ≤ 7) → Q (some (I z)) σ c s) : Ew 151 (d + 1) 0 (rargs 0 [.ref (D 0), I 1, I a2, I a3]) [] σE c s Q := by
  have O := OUT_refl (n := (V151_c11).length) (D := D) (N := N) (σ := σE) (c := c) (s := s)
  have HE := H
  have r2 : HID ((-2147483648 : Int) ≤ u3_1 ∧ u3_1 ≤ 2147483647) := krg_e (show (-2147483648 : Int) ≤ F 3 1 ∧ F 3 1 ≤ 2147483647 from H.krg 3 1 (ltn len_V151_c11_oz_L4cls rfl)) (show F 3 1 = u3_1 from (eu3_1))
  have r5 : HID ((0 : Int) ≤ n2 ∧ n2 ≤ 1000000) := nrng (H.nle 2 (ltn len_V151_c11_oz_L4cls rfl)) (show (N 2 : Int) = n2 from en2)
  have r14 : HID ((0 : Int) ≤ n12 ∧ n12 ≤ 1000000) := nrng (H.nle 12 (ltn len_V151_c11_oz_L4cls rfl)) (show (N 12 : Int) = n12 from en12)
  have hsl : SL ((w4)) ((u3_1)) ((u3_0)) ((w5)) ((w6)) ((w7)) ((w8)) ((w9)) ((w10)) := h3
  have hsf := SHD_f hsl.1
  have hrw : 0 ≤ ((w13)) (a3) ∧ ((w13)) (a3) < (u3_1) ∧ ((w4)) (((w13)) (a3)) ≠ 0 := h7
  refine Ew_of (pcₚ := 1) (fun _ => x_aload_n rfl rfl) ?_
  refine v_g H (o := 0) (v := .ref (D 1)) rfl rfl rfl rfl rfl (vrf (pf1)) ?_
  refine v_g H (o := 1) (v := .ref (D 2)) rfl rfl rfl rfl rfl (vrf (pf2)) ?_
  refine Ew_of (pcₚ := 8) (fun _ => x_iload_n rfl rfl) ?_
  refine v_lR H (o := 2) rfl rfl rfl rfl rfl (n := n2) (en2) (show 0 ≤ 1 ∧ 1 < n2 from q_4024 (HIDe r5) h8) (z := ((D 3 : Nat) : Int)) (v := .ref (D 3)) (pf3) (vrf rfl) ?_
  refine Ew_of (pcₚ := 11) (fun _ => x_astore rfl) ?_
  refine Ew_of (pcₚ := 12) (fun _ => x_aload_n rfl (rk_o (rfl) rfl rfl)) ?_
  refine v_g H (o := 0) (v := .ref (D 12)) rfl rfl rfl rfl rfl (vrf (pf12)) ?_
  refine Ew_of (pcₚ := 16) (fun _ => x_iload_n rfl (rk_o (rfl) rfl rfl)) ?_
  refine v_lR H (o := 12) rfl rfl rfl rfl rfl (n := n12) (en12) (show 0 ≤ 1 ∧ 1 < n12 from q_4025 (HIDe r14) h8) (z := ((D 13 : Nat) : Int)) (v := .ref (D 13)) (pf13) (vrf rfl) ?_
  refine Ew_of (pcₚ := 18) (fun _ => x_iload_n rfl (rk_o (rfl) rfl rfl)) ?_
  refine v_lI H (o := 13) rfl rfl rfl rfl (n := n13) (en13) (show 0 ≤ a3 ∧ a3 < n13 from h6) (fun v17 ev17 (qv17 : HID _) => ?_)
  have ev17 : (w13) (a3) = v17 := (congrFun (ew13) (a3)).symm.trans ev17
  rw [ev17] at hrw
  refine Ew_of (pcₚ := 21) (fun _ => x_istore rfl) ?_
  refine Ew_of (pcₚ := 23) (fun _ => x_aload rfl (rk_o (rk_s) rfl rfl)) ?_
  refine Ew_of (pcₚ := 24) (fun _ => x_iload_n rfl (rk_o (rk_o (rfl) rfl rfl) rfl rfl)) ?_
  refine Ew_of (pcₚ := 26) (fun _ => x_iload rfl rk_s) ?_
  refine v_inv H (o := 3) rfl rfl rfl rfl rfl rfl (by rfl) (C175o (D := puc 52038427443478050113539 D) (N := puc 52038427443478050113539 N) (HW_subc H oz_L4cls_9 oz_L4cls_6) (pf4) (pf5) (pf6) (pf7) (pf8) (pf9) (pf10) (pf11) (n4) (en4) (n5) (en5) (n6) (en6) (n7) (en7) (n8) (en8) (n9) (en9) (n10) (en10) (n11) (en11) (u3_0) ((eu3_0)) (u3_1) ((eu3_1)) (w4) (ew4) (w5) (ew5) (w6) (ew6) (w7) (ew7) (w8) (ew8) (w9) (ew9) (w10) (ew10) (show inr (a2) from h1) (show inr (v17) from (HIDe qv17)) (show SL ((w4)) ((u3_1)) ((u3_0)) ((w5)) ((w6)) ((w7)) ((w8)) ((w9)) ((w10)) from hsl) (show SZD ((n4)) ((n5)) ((n6)) ((n7)) ((n11)) ((n8)) ((n9)) ((n10)) ((u3_1)) ((u3_0)) from h4) (show 0 ≤ (a2) ∧ (a2) < p2 ((u3_0)) from h5) (show 0 ≤ (v17) ∧ (v17) < ((u3_1)) ∧ ((w4)) (v17) ≠ 0 by have qh0 := HIDe qv17; have qh1 := HIDe r2; omega) (fun z18 σ18 F18ₚ A18ₚ Hₚ Oₚ hS18 hA18 pz18_0 pz18_1 pz18_2 => ⟨rfl, ?_⟩))
  refine v_backc (c := c) (s := s) H oz_L4cls_9 oz_L4cls_6 Hₚ Oₚ (fun F18 A18 H Oₚ eF18 eA18 => ?_)
  have O := OUT_trans O Oₚ
  -- Share.bitsAhead
  have cF18 : SF oz_L4clsl_0 F F18 := SF_trans (SF_refl) (SF_gluc (ι := oz_L4clsl_2) oz_L4cls_6 hS18 eF18 (by decide +kernel)) (any_sub (lₚ := []) (by decide +kernel))
  have mF18 := SFm_of cF18 oz_L4cls_4
  have cA18 : SA oz_L4clsl_1 A A18 := SA_trans (SA_refl) (SA_gluc (ι := oz_L4clsl_2) oz_L4cls_6 hA18 eA18 (by decide +kernel)) (any_subA (lₚ := []) (by decide +kernel))
  have mA18 := SAm_of cA18 oz_L4cls_5
  refine Ew_of (pcₚ := 31) (fun _ => x_istore rfl) ?_
  refine Ew_of (pcₚ := 32) (fun _ => x_aload_n rfl (rk_o (rk_o (rk_o (rfl) rfl rfl) rfl rfl) rfl rfl)) ?_
  refine v_g H (o := 0) (v := .ref (D 14)) rfl rfl rfl rfl rfl (vrf ((mF18 0 8 rfl).trans (pf14))) ?_
  refine Ew_of (pcₚ := 36) (fun _ => x_iload_n rfl (rk_o (rk_o (rk_o (rfl) rfl rfl) rfl rfl) rfl rfl)) ?_
  refine Ew_of (pcₚ := 38) (fun _ => x_iload rfl rk_s) ?_
  refine v_inv H (o := 14) rfl rfl rfl rfl rfl rfl (by rfl) (C164 (D := puc 7694 D) (N := puc 7694 N) (HW_subc H oz_L4cls_10 oz_L4cls_7) ((mF18 14 0 rfl).trans (pf15)) (n15) (en15) (u14_1) ((((show F18 14 1 = F 14 1 from (eF18 14 1))).trans (eu14_1))) (u14_4) ((((show F18 14 4 = F 14 4 from (eF18 14 4))).trans (eu14_4))) (show inr (a2) from h1) (show inr (z18) from pz18_0) (show 0 ≤ (u14_1) ∧ (u14_1) ≤ (n15) ∧ (n15) ≤ 65536 from h9) (show 0 ≤ (z18) ∧ (z18) ≤ 31 by omega) (show 0 ≤ (u14_4) ∧ (u14_4) ≤ 7 from h10) (fun σ19 F19ₚ A19ₚ Hₚ Oₚ hS19 hA19 y19_0_1 (ey19_0_1 : HID _) y19_0_4 (ey19_0_4 : HID _) pz19_0 pz19_1 pz19_2 => ⟨rfl, ?_⟩))
  refine v_backc (c := c) (s := s) H oz_L4cls_10 oz_L4cls_7 Hₚ Oₚ (fun F19 A19 H Oₚ eF19 eA19 => ?_)
  have O := OUT_trans O Oₚ
  -- Row.addBits
  have cF19 : SF oz_L4clsl_0 F F19 := SF_trans (cF18) (SF_gluc (ι := oz_L4clsl_3) oz_L4cls_7 hS19 eF19 (by decide +kernel)) (any_sub (lₚ := [(14, 1), (14, 2), (14, 3), (14, 4)]) (by decide +kernel))
  have mF19 := SFm_of cF19 oz_L4cls_4
  have cA19 : SA oz_L4clsl_1 A A19 := SA_trans (cA18) (SA_gluc (ι := oz_L4clsl_3) oz_L4cls_7 hA19 eA19 (by decide +kernel)) (any_subA (lₚ := [15]) (by decide +kernel))
  have mA19 := SAm_of cA19 oz_L4cls_5
  refine Ew_of (pcₚ := 43) (fun _ => x_aload rfl (rk_o (rk_o (rk_s) rfl rfl) rfl rfl)) ?_
  refine Ew_of (pcₚ := 44) (fun _ => x_iload_n rfl (rk_o (rk_o (rk_o (rfl) rfl rfl) rfl rfl) rfl rfl)) ?_
  refine Ew_of (pcₚ := 46) (fun _ => x_iload rfl (rk_o (rk_s) rfl rfl)) ?_
  refine Ew_of (pcₚ := 48) (fun _ => x_iload rfl rk_s) ?_
  refine v_inv H (o := 3) rfl rfl rfl rfl rfl rfl (by rfl) (C176o (D := puc 52038427443478050113539 D) (N := puc 52038427443478050113539 N) (HW_subc H oz_L4cls_11 oz_L4cls_6) ((mF19 3 2 rfl).trans (pf4)) ((mF19 3 3 rfl).trans (pf5)) ((mF19 3 4 rfl).trans (pf6)) ((mF19 3 5 rfl).trans (pf7)) ((mF19 3 7 rfl).trans (pf8)) ((mF19 3 8 rfl).trans (pf9)) ((mF19 3 9 rfl).trans (pf10)) ((mF19 3 6 rfl).trans (pf11)) (n4) (en4) (n5) (en5) (n6) (en6) (n7) (en7) (n8) (en8) (n9) (en9) (n10) (en10) (n11) (en11) (u3_0) (((mF19 3 0 rfl).trans (eu3_0))) (u3_1) (((mF19 3 1 rfl).trans (eu3_1))) (w4) ((funext (mA19 4 rfl)).trans (ew4)) (w5) ((funext (mA19 5 rfl)).trans (ew5)) (w6) ((funext (mA19 6 rfl)).trans (ew6)) (w7) ((funext (mA19 7 rfl)).trans (ew7)) (w8) ((funext (mA19 8 rfl)).trans (ew8)) (w9) ((funext (mA19 9 rfl)).trans (ew9)) (w10) ((funext (mA19 10 rfl)).trans (ew10)) (show inr (a2) from h1) (show inr (v17) from (HIDe qv17)) (show inr (z18) from pz18_0) (show SL ((w4)) ((u3_1)) ((u3_0)) ((w5)) ((w6)) ((w7)) ((w8)) ((w9)) ((w10)) from hsl) (show SZD ((n4)) ((n5)) ((n6)) ((n7)) ((n11)) ((n8)) ((n9)) ((n10)) ((u3_1)) ((u3_0)) from h4) (show 0 ≤ (a2) ∧ (a2) < p2 ((u3_0)) from h5) (show 0 ≤ (v17) ∧ (v17) < ((u3_1)) ∧ ((w4)) (v17) ≠ 0 by have qh0 := HIDe qv17; have qh1 := HIDe r2; omega) (show BA (mass (((w4)) (v17))) ((u3_0)) (a2) (z18) from pz18_1) (fun z22 σ22 F22ₚ A22ₚ Hₚ Oₚ hS22 hA22 pz22_0 pz22_1 pz22_2 => ⟨rfl, ?_⟩))
  refine v_backc (c := c) (s := s) H oz_L4cls_11 oz_L4cls_6 Hₚ Oₚ (fun F22 A22 H Oₚ eF22 eA22 => ?_)
  have O := OUT_trans O Oₚ
  -- Share.placeAhead
  have cF22 : SF oz_L4clsl_0 F F22 := SF_trans (cF19) (SF_gluc (ι := oz_L4clsl_2) oz_L4cls_6 hS22 eF22 (by decide +kernel)) (any_sub (lₚ := []) (by decide +kernel))
  have mF22 := SFm_of cF22 oz_L4cls_4
  have cA22 : SA oz_L4clsl_1 A A22 := SA_trans (cA19) (SA_gluc (ι := oz_L4clsl_2) oz_L4cls_6 hA22 eA22 (by decide +kernel)) (any_subA (lₚ := []) (by decide +kernel))
  have mA22 := SAm_of cA22 oz_L4cls_5
  exact w_ireturn rfl (k (z22) _ _ _ H O (cF22) (cA22) (y19_0_1) ((((show F22 14 1 = F19 14 1 from (eF22 14 1))).trans ((eF19 14 1).trans ey19_0_1))) (y19_0_4) ((((show F22 14 4 = F19 14 4 from (eF22 14 4))).trans ((eF19 14 4).trans ey19_0_4))) (show inr (z22) from pz22_0) (show 0 ≤ (z22) ∧ (z22) < p2 ((u3_0)) from pz22_1) (show 0 ≤ (y19_0_1) ∧ (y19_0_1) ≤ (n15) ∧ (n15) ≤ 65536 from pz19_0) (show 0 ≤ (y19_0_4) ∧ (y19_0_4) ≤ 7 from pz19_2))
abbrev V151_c12 : vV := [(0, 6, [(4, 0), (4, 0), (4, 0), (4, 0), (4, 0), (4, 0), (4, 0), (4, 0), (4, 0), (4, 0), (4, 0), (4, 0), (4, 0), (4, 0), (4, 0), (0, 0), (0, 0), (4, 0), (4, 0)]), (0, 9, [(4, 0), (4, 0), (4, 0)]), (1, 5, []), (0, 8, [(0, 0), (0, 0), (4, 0), (4, 0), (4, 0), (4, 0), (4, 0), (4, 0), (4, 0), (4, 0), (4, 0), (0, 0), (0, 0)]), (1, 1, []), (1, 1, []), (1, 1, []), (1, 1, []), (1, 1, []), (1, 1, []), (1, 1, []), (1, 1, []), (1, 7, []), (1, 1, []), (0, 7, [(4, 0), (0, 0), (1, 0), (0, 0), (0, 0)]), (1, 0, [])]
theorem len_V151_c12_oz_L4cls : (V151_c12).length = 16 := by decide +kernel
theorem oz_L4cls_13 : vsub V151_c12 V175 [3, 4, 5, 6, 7, 8, 9, 10, 11] = true := by decide +kernel
theorem oz_L4cls_14 : vsub V151_c12 V164 [14, 15] = true := by decide +kernel
theorem oz_L4cls_15 : vsub V151_c12 V176 [3, 4, 5, 6, 7, 8, 9, 10, 11] = true := by decide +kernel
/-- Packer.packState: this, this.next, this.next.tables, this.next.tables.2, this.next.tables.2.points, this.next.tables.2.masses, this.next.tables.2.mostBits, this.next.tables.2.starts, this.next.tables.2.symbolAt, this.next.tables.2.numberAt, this.next.tables.2.placeOf, this.next.tables.2.used, this.symbols, this.symbols.2, this.packed, this.packed.bytes -/
theorem C151_c12 {σE : rS} {D N : Nat → Nat} {F : hF} {A : hA} {d c s : Nat} {Q : wQ} (H : HW V151_c12 σE D N F A) {a2 a3 : Int} (pf1 : HID (F 0 7 = (D 1 : Int))) (pf2 : HID (F 1 1 = (D 2 : Int))) (pf3 : HID (A 2 2 = (D 3 : Int))) (pf4 : HID (F 3 2 = (D 4 : Int))) (pf5 : HID (F 3 3 = (D 5 : Int))) (pf6 : HID (F 3 4 = (D 6 : Int))) (pf7 : HID (F 3 5 = (D 7 : Int))) (pf8 : HID (F 3 7 = (D 8 : Int))) (pf9 : HID (F 3 8 = (D 9 : Int))) (pf10 : HID (F 3 9 = (D 10 : Int))) (pf11 : HID (F 3 6 = (D 11 : Int))) (pf12 : HID (F 0 13 = (D 12 : Int))) (pf13 : HID (A 12 2 = (D 13 : Int))) (pf14 : HID (F 0 8 = (D 14 : Int))) (pf15 : HID (F 14 0 = (D 15 : Int))) (n2 : Int) (en2 : HID ((N 2 : Int) = n2)) (n4 : Int) (en4 : HID ((N 4 : Int) = n4)) (n5 : Int) (en5 : HID ((N 5 : Int) = n5)) (n6 : Int) (en6 : HID ((N 6 : Int) = n6)) (n7 : Int) (en7 : HID ((N 7 : Int) = n7)) (n8 : Int) (en8 : HID ((N 8 : Int) = n8)) (n9 : Int) (en9 : HID ((N 9 : Int) = n9)) (n10 : Int) (en10 : HID ((N 10 : Int) = n10)) (n11 : Int) (en11 : HID ((N 11 : Int) = n11)) (n12 : Int) (en12 : HID ((N 12 : Int) = n12)) (n13 : Int) (en13 : HID ((N 13 : Int) = n13)) (n15 : Int) (en15 : HID ((N 15 : Int) = n15)) (u3_0 : Int) (eu3_0 : HID (F 3 0 = u3_0)) (u3_1 : Int) (eu3_1 : HID (F 3 1 = u3_1)) (u14_1 : Int) (eu14_1 : HID (F 14 1 = u14_1)) (u14_4 : Int) (eu14_4 : HID (F 14 4 = u14_4)) (w4 : Int → Int) (ew4 : A 4 = w4) (w5 : Int → Int) (ew5 : A 5 = w5) (w6 : Int → Int) (ew6 : A 6 = w6) (w7 : Int → Int) (ew7 : A 7 = w7) (w8 : Int → Int) (ew8 : A 8 = w8) (w9 : Int → Int) (ew9 : A 9 = w9) (w10 : Int → Int) (ew10 : A 10 = w10) (w13 : Int → Int) (ew13 : A 13 = w13) (h0 : inr (2)) (h1 : inr (a2)) (h2 : inr (a3)) (h3 : SL ((w4)) ((u3_1)) ((u3_0)) ((w5)) ((w6)) ((w7)) ((w8)) ((w9)) ((w10))) (h4 : SZD ((n4)) ((n5)) ((n6)) ((n7)) ((n11)) ((n8)) ((n9)) ((n10)) ((u3_1)) ((u3_0))) (h5 : 0 ≤ (a2) ∧ (a2) < p2 ((u3_0))) (h6 : 0 ≤ (a3) ∧ (a3) < (n13)) (h7 : 0 ≤ ((w13)) (a3) ∧ ((w13)) (a3) < (u3_1) ∧ ((w4)) (((w13)) (a3)) ≠ 0) (h8 : (n12) = 3 ∧ (n2) = 3) (h9 : 0 ≤ (u14_1) ∧ (u14_1) ≤ (n15) ∧ (n15) ≤ 65536) (h10 : 0 ≤ (u14_4) ∧ (u14_4) ≤ 7) (k : ∀ (z : Int) (σ : rS) (Fₚ : hF) (Aₚ : hA), HW V151_c12 σ D N Fₚ Aₚ → OUT (V151_c12).length D N σE c s D N σ c s → SF [(14, 1), (14, 2), (14, 3), (14, 4)] F Fₚ → SA [15] A Aₚ → ∀ y14_1 : Int, Fₚ 14 1 = y14_1 → ∀ y14_4 : Int, Fₚ 14 4 = y14_4 → (inr (z)) → (0 ≤ (z) ∧ (z) < p2 ((u3_0))) → (0 ≤ (y14_1) ∧ (y14_1) ≤ (n15) ∧ (n15) ≤ 65536) → (0 ≤ (y14_4) ∧ (y14_4) ≤ 7) → Q (some (I z)) σ c s) : Ew 151 (d + 1) 0 (rargs 0 [.ref (D 0), I 2, I a2, I a3]) [] σE c s Q := by
  have O := OUT_refl (n := (V151_c12).length) (D := D) (N := N) (σ := σE) (c := c) (s := s)
  have HE := H
  have r2 : HID ((-2147483648 : Int) ≤ u3_1 ∧ u3_1 ≤ 2147483647) := krg_e (show (-2147483648 : Int) ≤ F 3 1 ∧ F 3 1 ≤ 2147483647 from H.krg 3 1 (ltn len_V151_c12_oz_L4cls rfl)) (show F 3 1 = u3_1 from (eu3_1))
  have hsl : SL ((w4)) ((u3_1)) ((u3_0)) ((w5)) ((w6)) ((w7)) ((w8)) ((w9)) ((w10)) := h3
  have hsf := SHD_f hsl.1
  have hrw : 0 ≤ ((w13)) (a3) ∧ ((w13)) (a3) < (u3_1) ∧ ((w4)) (((w13)) (a3)) ≠ 0 := h7
  refine Ew_of (pcₚ := 1) (fun _ => x_aload_n rfl rfl) ?_
  refine v_g H (o := 0) (v := .ref (D 1)) rfl rfl rfl rfl rfl (vrf (pf1)) ?_
  refine v_g H (o := 1) (v := .ref (D 2)) rfl rfl rfl rfl rfl (vrf (pf2)) ?_
  refine Ew_of (pcₚ := 8) (fun _ => x_iload_n rfl rfl) ?_
  refine v_lR H (o := 2) rfl rfl rfl rfl rfl (n := n2) (en2) (show 0 ≤ 2 ∧ 2 < n2 from q_3505 h8) (z := ((D 3 : Nat) : Int)) (v := .ref (D 3)) (pf3) (vrf rfl) ?_
  refine Ew_of (pcₚ := 11) (fun _ => x_astore rfl) ?_
  refine Ew_of (pcₚ := 12) (fun _ => x_aload_n rfl (rk_o (rfl) rfl rfl)) ?_
  refine v_g H (o := 0) (v := .ref (D 12)) rfl rfl rfl rfl rfl (vrf (pf12)) ?_
  refine Ew_of (pcₚ := 16) (fun _ => x_iload_n rfl (rk_o (rfl) rfl rfl)) ?_
  refine v_lR H (o := 12) rfl rfl rfl rfl rfl (n := n12) (en12) (show 0 ≤ 2 ∧ 2 < n12 from q_3506 h8) (z := ((D 13 : Nat) : Int)) (v := .ref (D 13)) (pf13) (vrf rfl) ?_
  refine Ew_of (pcₚ := 18) (fun _ => x_iload_n rfl (rk_o (rfl) rfl rfl)) ?_
  refine v_lI H (o := 13) rfl rfl rfl rfl (n := n13) (en13) (show 0 ≤ a3 ∧ a3 < n13 from h6) (fun v17 ev17 (qv17 : HID _) => ?_)
  have ev17 : (w13) (a3) = v17 := (congrFun (ew13) (a3)).symm.trans ev17
  rw [ev17] at hrw
  refine Ew_of (pcₚ := 21) (fun _ => x_istore rfl) ?_
  refine Ew_of (pcₚ := 23) (fun _ => x_aload rfl (rk_o (rk_s) rfl rfl)) ?_
  refine Ew_of (pcₚ := 24) (fun _ => x_iload_n rfl (rk_o (rk_o (rfl) rfl rfl) rfl rfl)) ?_
  refine Ew_of (pcₚ := 26) (fun _ => x_iload rfl rk_s) ?_
  refine v_inv H (o := 3) rfl rfl rfl rfl rfl rfl (by rfl) (C175o (D := puc 52038427443478050113539 D) (N := puc 52038427443478050113539 N) (HW_subc H oz_L4cls_13 oz_L4cls_6) (pf4) (pf5) (pf6) (pf7) (pf8) (pf9) (pf10) (pf11) (n4) (en4) (n5) (en5) (n6) (en6) (n7) (en7) (n8) (en8) (n9) (en9) (n10) (en10) (n11) (en11) (u3_0) ((eu3_0)) (u3_1) ((eu3_1)) (w4) (ew4) (w5) (ew5) (w6) (ew6) (w7) (ew7) (w8) (ew8) (w9) (ew9) (w10) (ew10) (show inr (a2) from h1) (show inr (v17) from (HIDe qv17)) (show SL ((w4)) ((u3_1)) ((u3_0)) ((w5)) ((w6)) ((w7)) ((w8)) ((w9)) ((w10)) from hsl) (show SZD ((n4)) ((n5)) ((n6)) ((n7)) ((n11)) ((n8)) ((n9)) ((n10)) ((u3_1)) ((u3_0)) from h4) (show 0 ≤ (a2) ∧ (a2) < p2 ((u3_0)) from h5) (show 0 ≤ (v17) ∧ (v17) < ((u3_1)) ∧ ((w4)) (v17) ≠ 0 by have qh0 := HIDe qv17; have qh1 := HIDe r2; omega) (fun z18 σ18 F18ₚ A18ₚ Hₚ Oₚ hS18 hA18 pz18_0 pz18_1 pz18_2 => ⟨rfl, ?_⟩))
  refine v_backc (c := c) (s := s) H oz_L4cls_13 oz_L4cls_6 Hₚ Oₚ (fun F18 A18 H Oₚ eF18 eA18 => ?_)
  have O := OUT_trans O Oₚ
  -- Share.bitsAhead
  have cF18 : SF oz_L4clsl_0 F F18 := SF_trans (SF_refl) (SF_gluc (ι := oz_L4clsl_2) oz_L4cls_6 hS18 eF18 (by decide +kernel)) (any_sub (lₚ := []) (by decide +kernel))
  have mF18 := SFm_of cF18 oz_L4cls_4
  have cA18 : SA oz_L4clsl_1 A A18 := SA_trans (SA_refl) (SA_gluc (ι := oz_L4clsl_2) oz_L4cls_6 hA18 eA18 (by decide +kernel)) (any_subA (lₚ := []) (by decide +kernel))
  have mA18 := SAm_of cA18 oz_L4cls_5
  refine Ew_of (pcₚ := 31) (fun _ => x_istore rfl) ?_
  refine Ew_of (pcₚ := 32) (fun _ => x_aload_n rfl (rk_o (rk_o (rk_o (rfl) rfl rfl) rfl rfl) rfl rfl)) ?_
  refine v_g H (o := 0) (v := .ref (D 14)) rfl rfl rfl rfl rfl (vrf ((mF18 0 8 rfl).trans (pf14))) ?_
  refine Ew_of (pcₚ := 36) (fun _ => x_iload_n rfl (rk_o (rk_o (rk_o (rfl) rfl rfl) rfl rfl) rfl rfl)) ?_
  refine Ew_of (pcₚ := 38) (fun _ => x_iload rfl rk_s) ?_
  refine v_inv H (o := 14) rfl rfl rfl rfl rfl rfl (by rfl) (C164 (D := puc 7694 D) (N := puc 7694 N) (HW_subc H oz_L4cls_14 oz_L4cls_7) ((mF18 14 0 rfl).trans (pf15)) (n15) (en15) (u14_1) ((((show F18 14 1 = F 14 1 from (eF18 14 1))).trans (eu14_1))) (u14_4) ((((show F18 14 4 = F 14 4 from (eF18 14 4))).trans (eu14_4))) (show inr (a2) from h1) (show inr (z18) from pz18_0) (show 0 ≤ (u14_1) ∧ (u14_1) ≤ (n15) ∧ (n15) ≤ 65536 from h9) (show 0 ≤ (z18) ∧ (z18) ≤ 31 by omega) (show 0 ≤ (u14_4) ∧ (u14_4) ≤ 7 from h10) (fun σ19 F19ₚ A19ₚ Hₚ Oₚ hS19 hA19 y19_0_1 (ey19_0_1 : HID _) y19_0_4 (ey19_0_4 : HID _) pz19_0 pz19_1 pz19_2 => ⟨rfl, ?_⟩))
  refine v_backc (c := c) (s := s) H oz_L4cls_14 oz_L4cls_7 Hₚ Oₚ (fun F19 A19 H Oₚ eF19 eA19 => ?_)
  have O := OUT_trans O Oₚ
  -- Row.addBits
  have cF19 : SF oz_L4clsl_0 F F19 := SF_trans (cF18) (SF_gluc (ι := oz_L4clsl_3) oz_L4cls_7 hS19 eF19 (by decide +kernel)) (any_sub (lₚ := [(14, 1), (14, 2), (14, 3), (14, 4)]) (by decide +kernel))
  have mF19 := SFm_of cF19 oz_L4cls_4
  have cA19 : SA oz_L4clsl_1 A A19 := SA_trans (cA18) (SA_gluc (ι := oz_L4clsl_3) oz_L4cls_7 hA19 eA19 (by decide +kernel)) (any_subA (lₚ := [15]) (by decide +kernel))
  have mA19 := SAm_of cA19 oz_L4cls_5
  refine Ew_of (pcₚ := 43) (fun _ => x_aload rfl (rk_o (rk_o (rk_s) rfl rfl) rfl rfl)) ?_
  refine Ew_of (pcₚ := 44) (fun _ => x_iload_n rfl (rk_o (rk_o (rk_o (rfl) rfl rfl) rfl rfl) rfl rfl)) ?_
  refine Ew_of (pcₚ := 46) (fun _ => x_iload rfl (rk_o (rk_s) rfl rfl)) ?_
  refine Ew_of (pcₚ := 48) (fun _ => x_iload rfl rk_s) ?_
  refine v_inv H (o := 3) rfl rfl rfl rfl rfl rfl (by rfl) (C176o (D := puc 52038427443478050113539 D) (N := puc 52038427443478050113539 N) (HW_subc H oz_L4cls_15 oz_L4cls_6) ((mF19 3 2 rfl).trans (pf4)) ((mF19 3 3 rfl).trans (pf5)) ((mF19 3 4 rfl).trans (pf6)) ((mF19 3 5 rfl).trans (pf7)) ((mF19 3 7 rfl).trans (pf8)) ((mF19 3 8 rfl).trans (pf9)) ((mF19 3 9 rfl).trans (pf10)) ((mF19 3 6 rfl).trans (pf11)) (n4) (en4) (n5) (en5) (n6) (en6) (n7) (en7) (n8) (en8) (n9) (en9) (n10) (en10) (n11) (en11) (u3_0) (((mF19 3 0 rfl).trans (eu3_0))) (u3_1) (((mF19 3 1 rfl).trans (eu3_1))) (w4) ((funext (mA19 4 rfl)).trans (ew4)) (w5) ((funext (mA19 5 rfl)).trans (ew5)) (w6) ((funext (mA19 6 rfl)).trans (ew6)) (w7) ((funext (mA19 7 rfl)).trans (ew7)) (w8) ((funext (mA19 8 rfl)).trans (ew8)) (w9) ((funext (mA19 9 rfl)).trans (ew9)) (w10) ((funext (mA19 10 rfl)).trans (ew10)) (show inr (a2) from h1) (show inr (v17) from (HIDe qv17)) (show inr (z18) from pz18_0) (show SL ((w4)) ((u3_1)) ((u3_0)) ((w5)) ((w6)) ((w7)) ((w8)) ((w9)) ((w10)) from hsl) (show SZD ((n4)) ((n5)) ((n6)) ((n7)) ((n11)) ((n8)) ((n9)) ((n10)) ((u3_1)) ((u3_0)) from h4) (show 0 ≤ (a2) ∧ (a2) < p2 ((u3_0)) from h5) (show 0 ≤ (v17) ∧ (v17) < ((u3_1)) ∧ ((w4)) (v17) ≠ 0 by have qh0 := HIDe qv17; have qh1 := HIDe r2; omega) (show BA (mass (((w4)) (v17))) ((u3_0)) (a2) (z18) from pz18_1) (fun z22 σ22 F22ₚ A22ₚ Hₚ Oₚ hS22 hA22 pz22_0 pz22_1 pz22_2 => ⟨rfl, ?_⟩))
  refine v_backc (c := c) (s := s) H oz_L4cls_15 oz_L4cls_6 Hₚ Oₚ (fun F22 A22 H Oₚ eF22 eA22 => ?_)
  have O := OUT_trans O Oₚ
  -- Share.placeAhead
  have cF22 : SF oz_L4clsl_0 F F22 := SF_trans (cF19) (SF_gluc (ι := oz_L4clsl_2) oz_L4cls_6 hS22 eF22 (by decide +kernel)) (any_sub (lₚ := []) (by decide +kernel))
  have mF22 := SFm_of cF22 oz_L4cls_4
  have cA22 : SA oz_L4clsl_1 A A22 := SA_trans (cA19) (SA_gluc (ι := oz_L4clsl_2) oz_L4cls_6 hA22 eA22 (by decide +kernel)) (any_subA (lₚ := []) (by decide +kernel))
  have mA22 := SAm_of cA22 oz_L4cls_5
  exact w_ireturn rfl (k (z22) _ _ _ H O (cF22) (cA22) (y19_0_1) ((((show F22 14 1 = F19 14 1 from (eF22 14 1))).trans ((eF19 14 1).trans ey19_0_1))) (y19_0_4) ((((show F22 14 4 = F19 14 4 from (eF22 14 4))).trans ((eF19 14 4).trans ey19_0_4))) (show inr (z22) from pz22_0) (show 0 ≤ (z22) ∧ (z22) < p2 ((u3_0)) from pz22_1) (show 0 ≤ (y19_0_1) ∧ (y19_0_1) ≤ (n15) ∧ (n15) ≤ 65536 from pz19_0) (show 0 ≤ (y19_0_4) ∧ (y19_0_4) ≤ 7 from pz19_2))
