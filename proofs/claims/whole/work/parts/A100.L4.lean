section
/-! L4.cls -/
abbrev V151_c10 : vV := [(0, 6, [(4, 0), (4, 0), (4, 0), (4, 0), (4, 0), (4, 0), (4, 0), (4, 0), (4, 0), (4, 0), (4, 0), (4, 0), (4, 0), (4, 0), (4, 0), (0, 0), (0, 0), (4, 0), (4, 0)]), (0, 9, [(4, 0), (4, 0), (4, 0)]), (1, 5, []), (0, 8, [(0, 0), (0, 0), (4, 0), (4, 0), (4, 0), (4, 0), (4, 0), (4, 0), (4, 0), (4, 0), (4, 0), (0, 0), (0, 0)]), (1, 1, []), (1, 1, []), (1, 1, []), (1, 1, []), (1, 1, []), (1, 1, []), (1, 1, []), (1, 1, []), (1, 7, []), (1, 1, []), (0, 7, [(4, 0), (0, 0), (1, 0), (0, 0), (0, 0)]), (1, 0, [])]
theorem len_V151_c10_oz_L4cls : (V151_c10).length = 16 := by decide +kernel
theorem oz_L4cls_1 : vsub V151_c10 V175 [3, 4, 5, 6, 7, 8, 9, 10, 11] = true := by decide +kernel
theorem oz_L4cls_2 : vsub V151_c10 V164 [14, 15] = true := by decide +kernel
theorem oz_L4cls_3 : vsub V151_c10 V176 [3, 4, 5, 6, 7, 8, 9, 10, 11] = true := by decide +kernel
def oz_L4clsl_0 : List (Nat × Nat) := [(14, 1), (14, 2), (14, 3), (14, 4)]
theorem oz_L4cls_4 : (oz_L4clsl_0).all (fun p => !tbz 21805161728868206716479714236640136030609240820619541808444705975419178643401937699785731521412906966822875648187985338006038048858439680 (Nat.add (Nat.mul 32 p.1) p.2)) = true := by decide +kernel
def oz_L4clsl_1 : List Nat := [15]
theorem oz_L4cls_5 : (oz_L4clsl_1).all (fun p => !tbz 32768 p) = true := by decide +kernel
def oz_L4clsl_2 : List Nat := [3, 4, 5, 6, 7, 8, 9, 10, 11]
theorem oz_L4cls_6 : okc oz_L4clsl_2 52038427443478050113539 = true := by decide +kernel
def oz_L4clsl_3 : List Nat := [14, 15]
theorem oz_L4cls_7 : okc oz_L4clsl_3 7694 = true := by decide +kernel

theorem C151_c10 {σE : rS} {D N : Nat → Nat} {F : hF} {A : hA} {d c s : Nat} {Q : wQ} (H : HW V151_c10 σE D N F A) {a2 a3 : Int} (pf1 : HID (F 0 7 = (D 1 : Int))) (pf2 : HID (F 1 1 = (D 2 : Int))) (pf3 : HID (A 2 0 = (D 3 : Int))) (pf4 : HID (F 3 2 = (D 4 : Int))) (pf5 : HID (F 3 3 = (D 5 : Int))) (pf6 : HID (F 3 4 = (D 6 : Int))) (pf7 : HID (F 3 5 = (D 7 : Int))) (pf8 : HID (F 3 7 = (D 8 : Int))) (pf9 : HID (F 3 8 = (D 9 : Int))) (pf10 : HID (F 3 9 = (D 10 : Int))) (pf11 : HID (F 3 6 = (D 11 : Int))) (pf12 : HID (F 0 13 = (D 12 : Int))) (pf13 : HID (A 12 0 = (D 13 : Int))) (pf14 : HID (F 0 8 = (D 14 : Int))) (pf15 : HID (F 14 0 = (D 15 : Int))) (n2 : Int) (en2 : HID ((N 2 : Int) = n2)) (n4 : Int) (en4 : HID ((N 4 : Int) = n4)) (n5 : Int) (en5 : HID ((N 5 : Int) = n5)) (n6 : Int) (en6 : HID ((N 6 : Int) = n6)) (n7 : Int) (en7 : HID ((N 7 : Int) = n7)) (n8 : Int) (en8 : HID ((N 8 : Int) = n8)) (n9 : Int) (en9 : HID ((N 9 : Int) = n9)) (n10 : Int) (en10 : HID ((N 10 : Int) = n10)) (n11 : Int) (en11 : HID ((N 11 : Int) = n11)) (n12 : Int) (en12 : HID ((N 12 : Int) = n12)) (n13 : Int) (en13 : HID ((N 13 : Int) = n13)) (n15 : Int) (en15 : HID ((N 15 : Int) = n15)) (u3_0 : Int) (eu3_0 : HID (F 3 0 = u3_0)) (u3_1 : Int) (eu3_1 : HID (F 3 1 = u3_1)) (u14_1 : Int) (eu14_1 : HID (F 14 1 = u14_1)) (u14_2 : Int) (eu14_2 : HID (F 14 2 = u14_2)) (u14_3 : Int) (eu14_3 : HID (F 14 3 = u14_3)) (u14_4 : Int) (eu14_4 : HID (F 14 4 = u14_4)) (w4 : Int → Int) (ew4 : A 4 = w4) (w5 : Int → Int) (ew5 : A 5 = w5) (w6 : Int → Int) (ew6 : A 6 = w6) (w7 : Int → Int) (ew7 : A 7 = w7) (w8 : Int → Int) (ew8 : A 8 = w8) (w9 : Int → Int) (ew9 : A 9 = w9) (w10 : Int → Int) (ew10 : A 10 = w10) (w13 : Int → Int) (ew13 : A 13 = w13) (w15 : Int → Int) (ew15 : A 15 = w15) (h0 : inr (0)) (h1 : inr (a2)) (h2 : inr (a3)) (h3 : SL ((w4)) ((u3_1)) ((u3_0)) ((w5)) ((w6)) ((w7)) ((w8)) ((w9)) ((w10))) (h4 : SZD ((n4)) ((n5)) ((n6)) ((n7)) ((n11)) ((n8)) ((n9)) ((n10)) ((u3_1)) ((u3_0))) (h5 : 0 ≤ (a2) ∧ (a2) < p2 ((u3_0))) (h6 : 0 ≤ (a3) ∧ (a3) < (n13)) (h7 : 0 ≤ ((w13)) (a3) ∧ ((w13)) (a3) < (u3_1) ∧ ((w4)) (((w13)) (a3)) ≠ 0) (h8 : (n12) = 3 ∧ (n2) = 3) (h9 : 0 ≤ (u14_1) ∧ (u14_1) ≤ (n15) ∧ (n15) ≤ 65536) (h10 : 0 ≤ (u14_4) ∧ (u14_4) ≤ 7) (k : ∀ (z : Int) (σ : rS) (Fₚ : hF) (Aₚ : hA), HW V151_c10 σ D N Fₚ Aₚ → OUT (V151_c10).length D N σE c s D N σ c s → SF [(14, 1), (14, 2), (14, 3), (14, 4)] F Fₚ → SA [15] A Aₚ → ∀ y14_1 : Int, Fₚ 14 1 = y14_1 → ∀ y14_2 : Int, Fₚ 14 2 = y14_2 → ∀ y14_3 : Int, Fₚ 14 3 = y14_3 → ∀ y14_4 : Int, Fₚ 14 4 = y14_4 → ∀ v15 : Int → Int, Aₚ 15 = v15 → (inr (z)) → (0 ≤ (z) ∧ (z) < p2 ((u3_0))) → (0 ≤ (y14_1) ∧ (y14_1) ≤ (n15) ∧ (n15) ≤ 65536) → (0 ≤ (y14_4) ∧ (y14_4) ≤ 7) → ((z) = (nxS (((u3_0), cutP ((u3_1)) ((w4))) : TSt) (((w13)) (a3)) ((a2))).1) → (IMP ((0 ≤ (u14_3) ∧ (u14_3) < p2 ((u14_4))) ∧ (u14_1) + 2 ≤ (n15)) (RBA ((u14_2)) ((w15)) ((u14_1)) ((u14_3)) ((u14_4)) ((y14_2)) ((v15)) ((y14_1)) ((y14_3)) ((y14_4)) ((nxS (((u3_0), cutP ((u3_1)) ((w4))) : TSt) (((w13)) (a3)) ((a2))).2) ∧ (0 ≤ (y14_3) ∧ (y14_3) < p2 ((y14_4))) ∧ 8 * (y14_1) + (y14_4) ≤ 8 * (u14_1) + (u14_4) + 9)) → Q (some (I z)) σ c s) : Ew 151 (d + 1) 0 (rargs 0 [.ref (D 0), I 0, I a2, I a3]) [] σE c s Q := by
  have O := OUT_refl (n := (V151_c10).length) (D := D) (N := N) (σ := σE) (c := c) (s := s)
  have HE := H
  have r1 : HID ((-2147483648 : Int) ≤ u3_0 ∧ u3_0 ≤ 2147483647) := krg_e (show (-2147483648 : Int) ≤ F 3 0 ∧ F 3 0 ≤ 2147483647 from H.krg 3 0 (ltn len_V151_c10_oz_L4cls rfl)) (show F 3 0 = u3_0 from (eu3_0))
  have r2 : HID ((-2147483648 : Int) ≤ u3_1 ∧ u3_1 ≤ 2147483647) := krg_e (show (-2147483648 : Int) ≤ F 3 1 ∧ F 3 1 ≤ 2147483647 from H.krg 3 1 (ltn len_V151_c10_oz_L4cls rfl)) (show F 3 1 = u3_1 from (eu3_1))
  have r3 : HID ((-2147483648 : Int) ≤ u14_1 ∧ u14_1 ≤ 2147483647) := krg_e (show (-2147483648 : Int) ≤ F 14 1 ∧ F 14 1 ≤ 2147483647 from H.krg 14 1 (ltn len_V151_c10_oz_L4cls rfl)) (show F 14 1 = u14_1 from (eu14_1))
  have r4 : HID ((0 : Int) ≤ u14_2 ∧ u14_2 ≤ 1) := krg_e (show (0 : Int) ≤ F 14 2 ∧ F 14 2 ≤ 1 from H.krg 14 2 (ltn len_V151_c10_oz_L4cls rfl)) (show F 14 2 = u14_2 from (eu14_2))
  have r5 : HID ((-2147483648 : Int) ≤ u14_3 ∧ u14_3 ≤ 2147483647) := krg_e (show (-2147483648 : Int) ≤ F 14 3 ∧ F 14 3 ≤ 2147483647 from H.krg 14 3 (ltn len_V151_c10_oz_L4cls rfl)) (show F 14 3 = u14_3 from (eu14_3))
  have r6 : HID ((-2147483648 : Int) ≤ u14_4 ∧ u14_4 ≤ 2147483647) := krg_e (show (-2147483648 : Int) ≤ F 14 4 ∧ F 14 4 ≤ 2147483647 from H.krg 14 4 (ltn len_V151_c10_oz_L4cls rfl)) (show F 14 4 = u14_4 from (eu14_4))
  have r7 : HID ((0 : Int) ≤ n2 ∧ n2 ≤ 1000000) := nrng (H.nle 2 (ltn len_V151_c10_oz_L4cls rfl)) (show (N 2 : Int) = n2 from en2)
  have r16 : HID ((0 : Int) ≤ n12 ∧ n12 ≤ 1000000) := nrng (H.nle 12 (ltn len_V151_c10_oz_L4cls rfl)) (show (N 12 : Int) = n12 from en12)
  have r18 : HID ((0 : Int) ≤ n15 ∧ n15 ≤ 1000000) := nrng (H.nle 15 (ltn len_V151_c10_oz_L4cls rfl)) (show (N 15 : Int) = n15 from en15)
  have hsl : SL ((w4)) ((u3_1)) ((u3_0)) ((w5)) ((w6)) ((w7)) ((w8)) ((w9)) ((w10)) := h3
  have hsf := SHD_f hsl.1
  have hrw : 0 ≤ ((w13)) (a3) ∧ ((w13)) (a3) < (u3_1) ∧ ((w4)) (((w13)) (a3)) ≠ 0 := h7
  refine Ew_of (pcₚ := 1) (fun _ => x_aload_n rfl rfl) ?_
  refine v_g H (o := 0) (v := .ref (D 1)) rfl rfl rfl rfl rfl (vrf (pf1)) ?_
  refine v_g H (o := 1) (v := .ref (D 2)) rfl rfl rfl rfl rfl (vrf (pf2)) ?_
  refine Ew_of (pcₚ := 8) (fun _ => x_iload_n rfl rfl) ?_
  refine v_lR H (o := 2) rfl rfl rfl rfl rfl (n := n2) (en2) (show 0 ≤ 0 ∧ 0 < n2 from q_4420 (HIDe r7) h8) (z := ((D 3 : Nat) : Int)) (v := .ref (D 3)) (pf3) (vrf rfl) ?_
  refine Ew_of (pcₚ := 11) (fun _ => x_astore rfl) ?_
  refine Ew_of (pcₚ := 12) (fun _ => x_aload_n rfl (rk_o (rfl) rfl rfl)) ?_
  refine v_g H (o := 0) (v := .ref (D 12)) rfl rfl rfl rfl rfl (vrf (pf12)) ?_
  refine Ew_of (pcₚ := 16) (fun _ => x_iload_n rfl (rk_o (rfl) rfl rfl)) ?_
  refine v_lR H (o := 12) rfl rfl rfl rfl rfl (n := n12) (en12) (show 0 ≤ 0 ∧ 0 < n12 from q_4421 (HIDe r16) h8) (z := ((D 13 : Nat) : Int)) (v := .ref (D 13)) (pf13) (vrf rfl) ?_
  refine Ew_of (pcₚ := 18) (fun _ => x_iload_n rfl (rk_o (rfl) rfl rfl)) ?_
  refine v_lI H (o := 13) rfl rfl rfl rfl (n := n13) (en13) (show 0 ≤ a3 ∧ a3 < n13 from h6) (fun v19 ev19 (qv19 : HID _) => ?_)
  have ev19 : (w13) (a3) = v19 := (congrFun (ew13) (a3)).symm.trans ev19
  have hsy19 := ev19
  rw [ev19] at hrw
  refine Ew_of (pcₚ := 21) (fun _ => x_istore rfl) ?_
  refine Ew_of (pcₚ := 23) (fun _ => x_aload rfl (rk_o (rk_s) rfl rfl)) ?_
  refine Ew_of (pcₚ := 24) (fun _ => x_iload_n rfl (rk_o (rk_o (rfl) rfl rfl) rfl rfl)) ?_
  refine Ew_of (pcₚ := 26) (fun _ => x_iload rfl rk_s) ?_
  refine v_inv H (o := 3) rfl rfl rfl rfl rfl rfl (by rfl) (C175o (D := puc 52038427443478050113539 D) (N := puc 52038427443478050113539 N) (HW_subc H oz_L4cls_1 oz_L4cls_6) (pf4) (pf5) (pf6) (pf7) (pf8) (pf9) (pf10) (pf11) (n4) (en4) (n5) (en5) (n6) (en6) (n7) (en7) (n8) (en8) (n9) (en9) (n10) (en10) (n11) (en11) (u3_0) ((eu3_0)) (u3_1) ((eu3_1)) (w4) (ew4) (w5) (ew5) (w6) (ew6) (w7) (ew7) (w8) (ew8) (w9) (ew9) (w10) (ew10) (show inr (a2) from h1) (show inr (v19) from (HIDe qv19)) (hsl) (h4) (show 0 ≤ (a2) ∧ (a2) < p2 ((u3_0)) from h5) (show 0 ≤ (v19) ∧ (v19) < ((u3_1)) ∧ ((w4)) (v19) ≠ 0 by have qh0 := HIDe qv19; have qh1 := HIDe r2; omega) (fun z20 σ20 F20ₚ A20ₚ Hₚ Oₚ hS20 hA20 pz20_0 pz20_1 pz20_2 => ⟨rfl, ?_⟩))
  refine v_backc (c := c) (s := s) H oz_L4cls_1 oz_L4cls_6 Hₚ Oₚ (fun F20 A20 H Oₚ eF20 eA20 => ?_)
  have O := OUT_trans O Oₚ
  -- Share.bitsAhead
  have cF20 : SF oz_L4clsl_0 F F20 := SF_trans (SF_refl) (SF_gluc (ι := oz_L4clsl_2) oz_L4cls_6 hS20 eF20 (by decide +kernel)) (any_sub (lₚ := []) (by decide +kernel))
  have mF20 := SFm_of cF20 oz_L4cls_4
  have cA20 : SA oz_L4clsl_1 A A20 := SA_trans (SA_refl) (SA_gluc (ι := oz_L4clsl_2) oz_L4cls_6 hA20 eA20 (by decide +kernel)) (any_subA (lₚ := []) (by decide +kernel))
  have mA20 := SAm_of cA20 oz_L4cls_5
  refine Ew_of (pcₚ := 31) (fun _ => x_istore rfl) ?_
  refine Ew_of (pcₚ := 32) (fun _ => x_aload_n rfl (rk_o (rk_o (rk_o (rfl) rfl rfl) rfl rfl) rfl rfl)) ?_
  refine v_g H (o := 0) (v := .ref (D 14)) rfl rfl rfl rfl rfl (vrf ((mF20 0 8 rfl).trans (pf14))) ?_
  refine Ew_of (pcₚ := 36) (fun _ => x_iload_n rfl (rk_o (rk_o (rk_o (rfl) rfl rfl) rfl rfl) rfl rfl)) ?_
  refine Ew_of (pcₚ := 38) (fun _ => x_iload rfl rk_s) ?_
  refine v_inv H (o := 14) rfl rfl rfl rfl rfl rfl (by rfl) (C164 (D := puc 7694 D) (N := puc 7694 N) (HW_subc H oz_L4cls_2 oz_L4cls_7) ((mF20 14 0 rfl).trans (pf15)) (n15) (en15) (u14_1) ((((show F20 14 1 = F 14 1 from (eF20 14 1))).trans (eu14_1))) (u14_2) ((((show F20 14 2 = F 14 2 from (eF20 14 2))).trans (eu14_2))) (u14_3) ((((show F20 14 3 = F 14 3 from (eF20 14 3))).trans (eu14_3))) (u14_4) ((((show F20 14 4 = F 14 4 from (eF20 14 4))).trans (eu14_4))) (w15) (((show A20 15 = A 15 from (eA20 15))).trans (ew15)) (show inr (a2) from h1) (show inr (z20) from pz20_0) (show 0 ≤ (u14_1) ∧ (u14_1) ≤ (n15) ∧ (n15) ≤ 65536 from h9) (show 0 ≤ (z20) ∧ (z20) ≤ 31 by omega) (show 0 ≤ (u14_4) ∧ (u14_4) ≤ 7 from h10) (fun σ21 F21ₚ A21ₚ Hₚ Oₚ hS21 hA21 y21_0_1 (ey21_0_1 : HID _) y21_0_2 (ey21_0_2 : HID _) y21_0_3 (ey21_0_3 : HID _) y21_0_4 (ey21_0_4 : HID _) w21_1 ew21_1 pz21_0 pz21_1 pz21_2 pz21_3 => ⟨rfl, ?_⟩))
  refine v_backc (c := c) (s := s) H oz_L4cls_2 oz_L4cls_7 Hₚ Oₚ (fun F21 A21 H Oₚ eF21 eA21 => ?_)
  have O := OUT_trans O Oₚ
  -- Row.addBits
  have cF21 : SF oz_L4clsl_0 F F21 := SF_trans (cF20) (SF_gluc (ι := oz_L4clsl_3) oz_L4cls_7 hS21 eF21 (by decide +kernel)) (any_sub (lₚ := [(14, 1), (14, 2), (14, 3), (14, 4)]) (by decide +kernel))
  have mF21 := SFm_of cF21 oz_L4cls_4
  have cA21 : SA oz_L4clsl_1 A A21 := SA_trans (cA20) (SA_gluc (ι := oz_L4clsl_3) oz_L4cls_7 hA21 eA21 (by decide +kernel)) (any_subA (lₚ := [15]) (by decide +kernel))
  have mA21 := SAm_of cA21 oz_L4cls_5
  have r22 : HID ((-2147483648 : Int) ≤ y21_0_1 ∧ y21_0_1 ≤ 2147483647) := krg_e (show (-2147483648 : Int) ≤ F21 14 1 ∧ F21 14 1 ≤ 2147483647 from H.krg 14 1 (ltn len_V151_c10_oz_L4cls rfl)) (show F21 14 1 = y21_0_1 from ((eF21 14 1).trans ey21_0_1))
  have r23 : HID ((0 : Int) ≤ y21_0_2 ∧ y21_0_2 ≤ 1) := krg_e (show (0 : Int) ≤ F21 14 2 ∧ F21 14 2 ≤ 1 from H.krg 14 2 (ltn len_V151_c10_oz_L4cls rfl)) (show F21 14 2 = y21_0_2 from ((eF21 14 2).trans ey21_0_2))
  have r24 : HID ((-2147483648 : Int) ≤ y21_0_3 ∧ y21_0_3 ≤ 2147483647) := krg_e (show (-2147483648 : Int) ≤ F21 14 3 ∧ F21 14 3 ≤ 2147483647 from H.krg 14 3 (ltn len_V151_c10_oz_L4cls rfl)) (show F21 14 3 = y21_0_3 from ((eF21 14 3).trans ey21_0_3))
  have r25 : HID ((-2147483648 : Int) ≤ y21_0_4 ∧ y21_0_4 ≤ 2147483647) := krg_e (show (-2147483648 : Int) ≤ F21 14 4 ∧ F21 14 4 ≤ 2147483647 from H.krg 14 4 (ltn len_V151_c10_oz_L4cls rfl)) (show F21 14 4 = y21_0_4 from ((eF21 14 4).trans ey21_0_4))
  have hp41 := pz21_3
  refine Ew_of (pcₚ := 43) (fun _ => x_aload rfl (rk_o (rk_o (rk_s) rfl rfl) rfl rfl)) ?_
  refine Ew_of (pcₚ := 44) (fun _ => x_iload_n rfl (rk_o (rk_o (rk_o (rfl) rfl rfl) rfl rfl) rfl rfl)) ?_
  refine Ew_of (pcₚ := 46) (fun _ => x_iload rfl (rk_o (rk_s) rfl rfl)) ?_
  refine Ew_of (pcₚ := 48) (fun _ => x_iload rfl rk_s) ?_
  refine v_inv H (o := 3) rfl rfl rfl rfl rfl rfl (by rfl) (C176o (D := puc 52038427443478050113539 D) (N := puc 52038427443478050113539 N) (HW_subc H oz_L4cls_3 oz_L4cls_6) ((mF21 3 2 rfl).trans (pf4)) ((mF21 3 3 rfl).trans (pf5)) ((mF21 3 4 rfl).trans (pf6)) ((mF21 3 5 rfl).trans (pf7)) ((mF21 3 7 rfl).trans (pf8)) ((mF21 3 8 rfl).trans (pf9)) ((mF21 3 9 rfl).trans (pf10)) ((mF21 3 6 rfl).trans (pf11)) (n4) (en4) (n5) (en5) (n6) (en6) (n7) (en7) (n8) (en8) (n9) (en9) (n10) (en10) (n11) (en11) (u3_0) (((mF21 3 0 rfl).trans (eu3_0))) (u3_1) (((mF21 3 1 rfl).trans (eu3_1))) (w4) ((funext (mA21 4 rfl)).trans (ew4)) (w5) ((funext (mA21 5 rfl)).trans (ew5)) (w6) ((funext (mA21 6 rfl)).trans (ew6)) (w7) ((funext (mA21 7 rfl)).trans (ew7)) (w8) ((funext (mA21 8 rfl)).trans (ew8)) (w9) ((funext (mA21 9 rfl)).trans (ew9)) (w10) ((funext (mA21 10 rfl)).trans (ew10)) (show inr (a2) from h1) (show inr (v19) from (HIDe qv19)) (show inr (z20) from pz20_0) (hsl) (h4) (show 0 ≤ (a2) ∧ (a2) < p2 ((u3_0)) from h5) (show 0 ≤ (v19) ∧ (v19) < ((u3_1)) ∧ ((w4)) (v19) ≠ 0 by have qh0 := HIDe qv19; have qh1 := HIDe r2; omega) (pz20_1) (fun z26 σ26 F26ₚ A26ₚ Hₚ Oₚ hS26 hA26 pz26_0 pz26_1 pz26_2 => ⟨rfl, ?_⟩))
  refine v_backc (c := c) (s := s) H oz_L4cls_3 oz_L4cls_6 Hₚ Oₚ (fun F26 A26 H Oₚ eF26 eA26 => ?_)
  have O := OUT_trans O Oₚ
  -- Share.placeAhead
  have cF26 : SF oz_L4clsl_0 F F26 := SF_trans (cF21) (SF_gluc (ι := oz_L4clsl_2) oz_L4cls_6 hS26 eF26 (by decide +kernel)) (any_sub (lₚ := []) (by decide +kernel))
  have mF26 := SFm_of cF26 oz_L4cls_4
  have cA26 : SA oz_L4clsl_1 A A26 := SA_trans (cA21) (SA_gluc (ι := oz_L4clsl_2) oz_L4cls_6 hA26 eA26 (by decide +kernel)) (any_subA (lₚ := []) (by decide +kernel))
  have mA26 := SAm_of cA26 oz_L4cls_5
  have hnx : nxS (((u3_0), cutP ((u3_1)) ((w4))) : TSt) (((w13)) (a3)) ((a2)) = ((z26), btw ((a2)) ((z20))) := by rw [hsy19]; exact sl_nx hsl (by (have qg0 := HIDe r1; have qg1 := HIDe r2; omega)) pz26_2.1 (by (have qg0 := HIDe r1; have qg1 := HIDe r2; omega)) pz20_1 pz26_2.2
  have : (z26) = (nxS (((u3_0), cutP ((u3_1)) ((w4))) : TSt) (((w13)) (a3)) ((a2))).1 := by rw [hnx]
  have : IMP ((0 ≤ (u14_3) ∧ (u14_3) < p2 ((u14_4))) ∧ (u14_1) + 2 ≤ (n15)) (RBA ((u14_2)) ((w15)) ((u14_1)) ((u14_3)) ((u14_4)) ((y21_0_2)) ((w21_1)) ((y21_0_1)) ((y21_0_3)) ((y21_0_4)) ((nxS (((u3_0), cutP ((u3_1)) ((w4))) : TSt) (((w13)) (a3)) ((a2))).2) ∧ (0 ≤ (y21_0_3) ∧ (y21_0_3) < p2 ((y21_0_4))) ∧ 8 * (y21_0_1) + (y21_0_4) ≤ 8 * (u14_1) + (u14_4) + 9) := fun q => by rw [hnx]; have q1 := q.1; have q1a := q1.1; have q1b := q1.2; have q2 := q.2; obtain ⟨r1, h1, b1⟩ := hp41 ⟨by (have qg0 := HIDe r1; have qg1 := HIDe r18; have qg2 := HIDe r2; have qg3 := HIDe r22; have qg4 := HIDe r23; have qg5 := HIDe r24; have qg6 := HIDe r25; have qg7 := HIDe r3; have qg8 := HIDe r4; have qg9 := HIDe r5; have qg10 := HIDe r6; omega), q1a, q1b, by (have qg0 := HIDe r1; have qg1 := HIDe r18; have qg2 := HIDe r2; have qg3 := HIDe r22; have qg4 := HIDe r23; have qg5 := HIDe r24; have qg6 := HIDe r25; have qg7 := HIDe r3; have qg8 := HIDe r4; have qg9 := HIDe r5; have qg10 := HIDe r6; omega)⟩; exact ⟨r1, h1, by (have qg0 := HIDe r1; have qg1 := HIDe r18; have qg2 := HIDe r2; have qg3 := HIDe r22; have qg4 := HIDe r23; have qg5 := HIDe r24; have qg6 := HIDe r25; have qg7 := HIDe r3; have qg8 := HIDe r4; have qg9 := HIDe r5; have qg10 := HIDe r6; omega)⟩
  exact w_ireturn rfl (k (z26) _ _ _ H O (cF26) (cA26) (y21_0_1) ((((show F26 14 1 = F21 14 1 from (eF26 14 1))).trans ((eF21 14 1).trans ey21_0_1))) (y21_0_2) ((((show F26 14 2 = F21 14 2 from (eF26 14 2))).trans ((eF21 14 2).trans ey21_0_2))) (y21_0_3) ((((show F26 14 3 = F21 14 3 from (eF26 14 3))).trans ((eF21 14 3).trans ey21_0_3))) (y21_0_4) ((((show F26 14 4 = F21 14 4 from (eF26 14 4))).trans ((eF21 14 4).trans ey21_0_4))) (w21_1) (((show A26 15 = A21 15 from (eA26 15))).trans ((eA21 15).trans ew21_1)) (show inr (z26) from pz26_0) (show 0 ≤ (z26) ∧ (z26) < p2 ((u3_0)) from pz26_1) (show 0 ≤ (y21_0_1) ∧ (y21_0_1) ≤ (n15) ∧ (n15) ≤ 65536 from pz21_0) (show 0 ≤ (y21_0_4) ∧ (y21_0_4) ≤ 7 from pz21_2) (show (z26) = (nxS (((u3_0), cutP ((u3_1)) ((w4))) : TSt) (((w13)) (a3)) ((a2))).1 by assumption) (show IMP ((0 ≤ (u14_3) ∧ (u14_3) < p2 ((u14_4))) ∧ (u14_1) + 2 ≤ (n15)) (RBA ((u14_2)) ((w15)) ((u14_1)) ((u14_3)) ((u14_4)) ((y21_0_2)) ((w21_1)) ((y21_0_1)) ((y21_0_3)) ((y21_0_4)) ((nxS (((u3_0), cutP ((u3_1)) ((w4))) : TSt) (((w13)) (a3)) ((a2))).2) ∧ (0 ≤ (y21_0_3) ∧ (y21_0_3) < p2 ((y21_0_4))) ∧ 8 * (y21_0_1) + (y21_0_4) ≤ 8 * (u14_1) + (u14_4) + 9) by assumption))
abbrev V151_c11 : vV := [(0, 6, [(4, 0), (4, 0), (4, 0), (4, 0), (4, 0), (4, 0), (4, 0), (4, 0), (4, 0), (4, 0), (4, 0), (4, 0), (4, 0), (4, 0), (4, 0), (0, 0), (0, 0), (4, 0), (4, 0)]), (0, 9, [(4, 0), (4, 0), (4, 0)]), (1, 5, []), (0, 8, [(0, 0), (0, 0), (4, 0), (4, 0), (4, 0), (4, 0), (4, 0), (4, 0), (4, 0), (4, 0), (4, 0), (0, 0), (0, 0)]), (1, 1, []), (1, 1, []), (1, 1, []), (1, 1, []), (1, 1, []), (1, 1, []), (1, 1, []), (1, 1, []), (1, 7, []), (1, 1, []), (0, 7, [(4, 0), (0, 0), (1, 0), (0, 0), (0, 0)]), (1, 0, [])]
theorem len_V151_c11_oz_L4cls : (V151_c11).length = 16 := by decide +kernel
theorem oz_L4cls_9 : vsub V151_c11 V175 [3, 4, 5, 6, 7, 8, 9, 10, 11] = true := by decide +kernel
theorem oz_L4cls_10 : vsub V151_c11 V164 [14, 15] = true := by decide +kernel
theorem oz_L4cls_11 : vsub V151_c11 V176 [3, 4, 5, 6, 7, 8, 9, 10, 11] = true := by decide +kernel

theorem C151_c11 {σE : rS} {D N : Nat → Nat} {F : hF} {A : hA} {d c s : Nat} {Q : wQ} (H : HW V151_c11 σE D N F A) {a2 a3 : Int} (pf1 : HID (F 0 7 = (D 1 : Int))) (pf2 : HID (F 1 1 = (D 2 : Int))) (pf3 : HID (A 2 1 = (D 3 : Int))) (pf4 : HID (F 3 2 = (D 4 : Int))) (pf5 : HID (F 3 3 = (D 5 : Int))) (pf6 : HID (F 3 4 = (D 6 : Int))) (pf7 : HID (F 3 5 = (D 7 : Int))) (pf8 : HID (F 3 7 = (D 8 : Int))) (pf9 : HID (F 3 8 = (D 9 : Int))) (pf10 : HID (F 3 9 = (D 10 : Int))) (pf11 : HID (F 3 6 = (D 11 : Int))) (pf12 : HID (F 0 13 = (D 12 : Int))) (pf13 : HID (A 12 1 = (D 13 : Int))) (pf14 : HID (F 0 8 = (D 14 : Int))) (pf15 : HID (F 14 0 = (D 15 : Int))) (n2 : Int) (en2 : HID ((N 2 : Int) = n2)) (n4 : Int) (en4 : HID ((N 4 : Int) = n4)) (n5 : Int) (en5 : HID ((N 5 : Int) = n5)) (n6 : Int) (en6 : HID ((N 6 : Int) = n6)) (n7 : Int) (en7 : HID ((N 7 : Int) = n7)) (n8 : Int) (en8 : HID ((N 8 : Int) = n8)) (n9 : Int) (en9 : HID ((N 9 : Int) = n9)) (n10 : Int) (en10 : HID ((N 10 : Int) = n10)) (n11 : Int) (en11 : HID ((N 11 : Int) = n11)) (n12 : Int) (en12 : HID ((N 12 : Int) = n12)) (n13 : Int) (en13 : HID ((N 13 : Int) = n13)) (n15 : Int) (en15 : HID ((N 15 : Int) = n15)) (u3_0 : Int) (eu3_0 : HID (F 3 0 = u3_0)) (u3_1 : Int) (eu3_1 : HID (F 3 1 = u3_1)) (u14_1 : Int) (eu14_1 : HID (F 14 1 = u14_1)) (u14_2 : Int) (eu14_2 : HID (F 14 2 = u14_2)) (u14_3 : Int) (eu14_3 : HID (F 14 3 = u14_3)) (u14_4 : Int) (eu14_4 : HID (F 14 4 = u14_4)) (w4 : Int → Int) (ew4 : A 4 = w4) (w5 : Int → Int) (ew5 : A 5 = w5) (w6 : Int → Int) (ew6 : A 6 = w6) (w7 : Int → Int) (ew7 : A 7 = w7) (w8 : Int → Int) (ew8 : A 8 = w8) (w9 : Int → Int) (ew9 : A 9 = w9) (w10 : Int → Int) (ew10 : A 10 = w10) (w13 : Int → Int) (ew13 : A 13 = w13) (w15 : Int → Int) (ew15 : A 15 = w15) (h0 : inr (1)) (h1 : inr (a2)) (h2 : inr (a3)) (h3 : SL ((w4)) ((u3_1)) ((u3_0)) ((w5)) ((w6)) ((w7)) ((w8)) ((w9)) ((w10))) (h4 : SZD ((n4)) ((n5)) ((n6)) ((n7)) ((n11)) ((n8)) ((n9)) ((n10)) ((u3_1)) ((u3_0))) (h5 : 0 ≤ (a2) ∧ (a2) < p2 ((u3_0))) (h6 : 0 ≤ (a3) ∧ (a3) < (n13)) (h7 : 0 ≤ ((w13)) (a3) ∧ ((w13)) (a3) < (u3_1) ∧ ((w4)) (((w13)) (a3)) ≠ 0) (h8 : (n12) = 3 ∧ (n2) = 3) (h9 : 0 ≤ (u14_1) ∧ (u14_1) ≤ (n15) ∧ (n15) ≤ 65536) (h10 : 0 ≤ (u14_4) ∧ (u14_4) ≤ 7) (k : ∀ (z : Int) (σ : rS) (Fₚ : hF) (Aₚ : hA), HW V151_c11 σ D N Fₚ Aₚ → OUT (V151_c11).length D N σE c s D N σ c s → SF [(14, 1), (14, 2), (14, 3), (14, 4)] F Fₚ → SA [15] A Aₚ → ∀ y14_1 : Int, Fₚ 14 1 = y14_1 → ∀ y14_2 : Int, Fₚ 14 2 = y14_2 → ∀ y14_3 : Int, Fₚ 14 3 = y14_3 → ∀ y14_4 : Int, Fₚ 14 4 = y14_4 → ∀ v15 : Int → Int, Aₚ 15 = v15 → (inr (z)) → (0 ≤ (z) ∧ (z) < p2 ((u3_0))) → (0 ≤ (y14_1) ∧ (y14_1) ≤ (n15) ∧ (n15) ≤ 65536) → (0 ≤ (y14_4) ∧ (y14_4) ≤ 7) → ((z) = (nxS (((u3_0), cutP ((u3_1)) ((w4))) : TSt) (((w13)) (a3)) ((a2))).1) → (IMP ((0 ≤ (u14_3) ∧ (u14_3) < p2 ((u14_4))) ∧ (u14_1) + 2 ≤ (n15)) (RBA ((u14_2)) ((w15)) ((u14_1)) ((u14_3)) ((u14_4)) ((y14_2)) ((v15)) ((y14_1)) ((y14_3)) ((y14_4)) ((nxS (((u3_0), cutP ((u3_1)) ((w4))) : TSt) (((w13)) (a3)) ((a2))).2) ∧ (0 ≤ (y14_3) ∧ (y14_3) < p2 ((y14_4))) ∧ 8 * (y14_1) + (y14_4) ≤ 8 * (u14_1) + (u14_4) + 9)) → Q (some (I z)) σ c s) : Ew 151 (d + 1) 0 (rargs 0 [.ref (D 0), I 1, I a2, I a3]) [] σE c s Q := by
  have O := OUT_refl (n := (V151_c11).length) (D := D) (N := N) (σ := σE) (c := c) (s := s)
  have HE := H
  have r1 : HID ((-2147483648 : Int) ≤ u3_0 ∧ u3_0 ≤ 2147483647) := krg_e (show (-2147483648 : Int) ≤ F 3 0 ∧ F 3 0 ≤ 2147483647 from H.krg 3 0 (ltn len_V151_c11_oz_L4cls rfl)) (show F 3 0 = u3_0 from (eu3_0))
  have r2 : HID ((-2147483648 : Int) ≤ u3_1 ∧ u3_1 ≤ 2147483647) := krg_e (show (-2147483648 : Int) ≤ F 3 1 ∧ F 3 1 ≤ 2147483647 from H.krg 3 1 (ltn len_V151_c11_oz_L4cls rfl)) (show F 3 1 = u3_1 from (eu3_1))
  have r3 : HID ((-2147483648 : Int) ≤ u14_1 ∧ u14_1 ≤ 2147483647) := krg_e (show (-2147483648 : Int) ≤ F 14 1 ∧ F 14 1 ≤ 2147483647 from H.krg 14 1 (ltn len_V151_c11_oz_L4cls rfl)) (show F 14 1 = u14_1 from (eu14_1))
  have r4 : HID ((0 : Int) ≤ u14_2 ∧ u14_2 ≤ 1) := krg_e (show (0 : Int) ≤ F 14 2 ∧ F 14 2 ≤ 1 from H.krg 14 2 (ltn len_V151_c11_oz_L4cls rfl)) (show F 14 2 = u14_2 from (eu14_2))
  have r5 : HID ((-2147483648 : Int) ≤ u14_3 ∧ u14_3 ≤ 2147483647) := krg_e (show (-2147483648 : Int) ≤ F 14 3 ∧ F 14 3 ≤ 2147483647 from H.krg 14 3 (ltn len_V151_c11_oz_L4cls rfl)) (show F 14 3 = u14_3 from (eu14_3))
  have r6 : HID ((-2147483648 : Int) ≤ u14_4 ∧ u14_4 ≤ 2147483647) := krg_e (show (-2147483648 : Int) ≤ F 14 4 ∧ F 14 4 ≤ 2147483647 from H.krg 14 4 (ltn len_V151_c11_oz_L4cls rfl)) (show F 14 4 = u14_4 from (eu14_4))
  have r7 : HID ((0 : Int) ≤ n2 ∧ n2 ≤ 1000000) := nrng (H.nle 2 (ltn len_V151_c11_oz_L4cls rfl)) (show (N 2 : Int) = n2 from en2)
  have r16 : HID ((0 : Int) ≤ n12 ∧ n12 ≤ 1000000) := nrng (H.nle 12 (ltn len_V151_c11_oz_L4cls rfl)) (show (N 12 : Int) = n12 from en12)
  have r18 : HID ((0 : Int) ≤ n15 ∧ n15 ≤ 1000000) := nrng (H.nle 15 (ltn len_V151_c11_oz_L4cls rfl)) (show (N 15 : Int) = n15 from en15)
  have hsl : SL ((w4)) ((u3_1)) ((u3_0)) ((w5)) ((w6)) ((w7)) ((w8)) ((w9)) ((w10)) := h3
  have hsf := SHD_f hsl.1
  have hrw : 0 ≤ ((w13)) (a3) ∧ ((w13)) (a3) < (u3_1) ∧ ((w4)) (((w13)) (a3)) ≠ 0 := h7
  refine Ew_of (pcₚ := 1) (fun _ => x_aload_n rfl rfl) ?_
  refine v_g H (o := 0) (v := .ref (D 1)) rfl rfl rfl rfl rfl (vrf (pf1)) ?_
  refine v_g H (o := 1) (v := .ref (D 2)) rfl rfl rfl rfl rfl (vrf (pf2)) ?_
  refine Ew_of (pcₚ := 8) (fun _ => x_iload_n rfl rfl) ?_
  refine v_lR H (o := 2) rfl rfl rfl rfl rfl (n := n2) (en2) (show 0 ≤ 1 ∧ 1 < n2 from q_4422 (HIDe r7) h8) (z := ((D 3 : Nat) : Int)) (v := .ref (D 3)) (pf3) (vrf rfl) ?_
  refine Ew_of (pcₚ := 11) (fun _ => x_astore rfl) ?_
  refine Ew_of (pcₚ := 12) (fun _ => x_aload_n rfl (rk_o (rfl) rfl rfl)) ?_
  refine v_g H (o := 0) (v := .ref (D 12)) rfl rfl rfl rfl rfl (vrf (pf12)) ?_
  refine Ew_of (pcₚ := 16) (fun _ => x_iload_n rfl (rk_o (rfl) rfl rfl)) ?_
  refine v_lR H (o := 12) rfl rfl rfl rfl rfl (n := n12) (en12) (show 0 ≤ 1 ∧ 1 < n12 from q_4423 (HIDe r16) h8) (z := ((D 13 : Nat) : Int)) (v := .ref (D 13)) (pf13) (vrf rfl) ?_
  refine Ew_of (pcₚ := 18) (fun _ => x_iload_n rfl (rk_o (rfl) rfl rfl)) ?_
  refine v_lI H (o := 13) rfl rfl rfl rfl (n := n13) (en13) (show 0 ≤ a3 ∧ a3 < n13 from h6) (fun v19 ev19 (qv19 : HID _) => ?_)
  have ev19 : (w13) (a3) = v19 := (congrFun (ew13) (a3)).symm.trans ev19
  have hsy19 := ev19
  rw [ev19] at hrw
  refine Ew_of (pcₚ := 21) (fun _ => x_istore rfl) ?_
  refine Ew_of (pcₚ := 23) (fun _ => x_aload rfl (rk_o (rk_s) rfl rfl)) ?_
  refine Ew_of (pcₚ := 24) (fun _ => x_iload_n rfl (rk_o (rk_o (rfl) rfl rfl) rfl rfl)) ?_
  refine Ew_of (pcₚ := 26) (fun _ => x_iload rfl rk_s) ?_
  refine v_inv H (o := 3) rfl rfl rfl rfl rfl rfl (by rfl) (C175o (D := puc 52038427443478050113539 D) (N := puc 52038427443478050113539 N) (HW_subc H oz_L4cls_9 oz_L4cls_6) (pf4) (pf5) (pf6) (pf7) (pf8) (pf9) (pf10) (pf11) (n4) (en4) (n5) (en5) (n6) (en6) (n7) (en7) (n8) (en8) (n9) (en9) (n10) (en10) (n11) (en11) (u3_0) ((eu3_0)) (u3_1) ((eu3_1)) (w4) (ew4) (w5) (ew5) (w6) (ew6) (w7) (ew7) (w8) (ew8) (w9) (ew9) (w10) (ew10) (show inr (a2) from h1) (show inr (v19) from (HIDe qv19)) (hsl) (h4) (show 0 ≤ (a2) ∧ (a2) < p2 ((u3_0)) from h5) (show 0 ≤ (v19) ∧ (v19) < ((u3_1)) ∧ ((w4)) (v19) ≠ 0 by have qh0 := HIDe qv19; have qh1 := HIDe r2; omega) (fun z20 σ20 F20ₚ A20ₚ Hₚ Oₚ hS20 hA20 pz20_0 pz20_1 pz20_2 => ⟨rfl, ?_⟩))
  refine v_backc (c := c) (s := s) H oz_L4cls_9 oz_L4cls_6 Hₚ Oₚ (fun F20 A20 H Oₚ eF20 eA20 => ?_)
  have O := OUT_trans O Oₚ
  -- Share.bitsAhead
  have cF20 : SF oz_L4clsl_0 F F20 := SF_trans (SF_refl) (SF_gluc (ι := oz_L4clsl_2) oz_L4cls_6 hS20 eF20 (by decide +kernel)) (any_sub (lₚ := []) (by decide +kernel))
  have mF20 := SFm_of cF20 oz_L4cls_4
  have cA20 : SA oz_L4clsl_1 A A20 := SA_trans (SA_refl) (SA_gluc (ι := oz_L4clsl_2) oz_L4cls_6 hA20 eA20 (by decide +kernel)) (any_subA (lₚ := []) (by decide +kernel))
  have mA20 := SAm_of cA20 oz_L4cls_5
  refine Ew_of (pcₚ := 31) (fun _ => x_istore rfl) ?_
  refine Ew_of (pcₚ := 32) (fun _ => x_aload_n rfl (rk_o (rk_o (rk_o (rfl) rfl rfl) rfl rfl) rfl rfl)) ?_
  refine v_g H (o := 0) (v := .ref (D 14)) rfl rfl rfl rfl rfl (vrf ((mF20 0 8 rfl).trans (pf14))) ?_
  refine Ew_of (pcₚ := 36) (fun _ => x_iload_n rfl (rk_o (rk_o (rk_o (rfl) rfl rfl) rfl rfl) rfl rfl)) ?_
  refine Ew_of (pcₚ := 38) (fun _ => x_iload rfl rk_s) ?_
  refine v_inv H (o := 14) rfl rfl rfl rfl rfl rfl (by rfl) (C164 (D := puc 7694 D) (N := puc 7694 N) (HW_subc H oz_L4cls_10 oz_L4cls_7) ((mF20 14 0 rfl).trans (pf15)) (n15) (en15) (u14_1) ((((show F20 14 1 = F 14 1 from (eF20 14 1))).trans (eu14_1))) (u14_2) ((((show F20 14 2 = F 14 2 from (eF20 14 2))).trans (eu14_2))) (u14_3) ((((show F20 14 3 = F 14 3 from (eF20 14 3))).trans (eu14_3))) (u14_4) ((((show F20 14 4 = F 14 4 from (eF20 14 4))).trans (eu14_4))) (w15) (((show A20 15 = A 15 from (eA20 15))).trans (ew15)) (show inr (a2) from h1) (show inr (z20) from pz20_0) (show 0 ≤ (u14_1) ∧ (u14_1) ≤ (n15) ∧ (n15) ≤ 65536 from h9) (show 0 ≤ (z20) ∧ (z20) ≤ 31 by omega) (show 0 ≤ (u14_4) ∧ (u14_4) ≤ 7 from h10) (fun σ21 F21ₚ A21ₚ Hₚ Oₚ hS21 hA21 y21_0_1 (ey21_0_1 : HID _) y21_0_2 (ey21_0_2 : HID _) y21_0_3 (ey21_0_3 : HID _) y21_0_4 (ey21_0_4 : HID _) w21_1 ew21_1 pz21_0 pz21_1 pz21_2 pz21_3 => ⟨rfl, ?_⟩))
  refine v_backc (c := c) (s := s) H oz_L4cls_10 oz_L4cls_7 Hₚ Oₚ (fun F21 A21 H Oₚ eF21 eA21 => ?_)
  have O := OUT_trans O Oₚ
  -- Row.addBits
  have cF21 : SF oz_L4clsl_0 F F21 := SF_trans (cF20) (SF_gluc (ι := oz_L4clsl_3) oz_L4cls_7 hS21 eF21 (by decide +kernel)) (any_sub (lₚ := [(14, 1), (14, 2), (14, 3), (14, 4)]) (by decide +kernel))
  have mF21 := SFm_of cF21 oz_L4cls_4
  have cA21 : SA oz_L4clsl_1 A A21 := SA_trans (cA20) (SA_gluc (ι := oz_L4clsl_3) oz_L4cls_7 hA21 eA21 (by decide +kernel)) (any_subA (lₚ := [15]) (by decide +kernel))
  have mA21 := SAm_of cA21 oz_L4cls_5
  have r22 : HID ((-2147483648 : Int) ≤ y21_0_1 ∧ y21_0_1 ≤ 2147483647) := krg_e (show (-2147483648 : Int) ≤ F21 14 1 ∧ F21 14 1 ≤ 2147483647 from H.krg 14 1 (ltn len_V151_c11_oz_L4cls rfl)) (show F21 14 1 = y21_0_1 from ((eF21 14 1).trans ey21_0_1))
  have r23 : HID ((0 : Int) ≤ y21_0_2 ∧ y21_0_2 ≤ 1) := krg_e (show (0 : Int) ≤ F21 14 2 ∧ F21 14 2 ≤ 1 from H.krg 14 2 (ltn len_V151_c11_oz_L4cls rfl)) (show F21 14 2 = y21_0_2 from ((eF21 14 2).trans ey21_0_2))
  have r24 : HID ((-2147483648 : Int) ≤ y21_0_3 ∧ y21_0_3 ≤ 2147483647) := krg_e (show (-2147483648 : Int) ≤ F21 14 3 ∧ F21 14 3 ≤ 2147483647 from H.krg 14 3 (ltn len_V151_c11_oz_L4cls rfl)) (show F21 14 3 = y21_0_3 from ((eF21 14 3).trans ey21_0_3))
  have r25 : HID ((-2147483648 : Int) ≤ y21_0_4 ∧ y21_0_4 ≤ 2147483647) := krg_e (show (-2147483648 : Int) ≤ F21 14 4 ∧ F21 14 4 ≤ 2147483647 from H.krg 14 4 (ltn len_V151_c11_oz_L4cls rfl)) (show F21 14 4 = y21_0_4 from ((eF21 14 4).trans ey21_0_4))
  have hp41 := pz21_3
  refine Ew_of (pcₚ := 43) (fun _ => x_aload rfl (rk_o (rk_o (rk_s) rfl rfl) rfl rfl)) ?_
  refine Ew_of (pcₚ := 44) (fun _ => x_iload_n rfl (rk_o (rk_o (rk_o (rfl) rfl rfl) rfl rfl) rfl rfl)) ?_
  refine Ew_of (pcₚ := 46) (fun _ => x_iload rfl (rk_o (rk_s) rfl rfl)) ?_
  refine Ew_of (pcₚ := 48) (fun _ => x_iload rfl rk_s) ?_
  refine v_inv H (o := 3) rfl rfl rfl rfl rfl rfl (by rfl) (C176o (D := puc 52038427443478050113539 D) (N := puc 52038427443478050113539 N) (HW_subc H oz_L4cls_11 oz_L4cls_6) ((mF21 3 2 rfl).trans (pf4)) ((mF21 3 3 rfl).trans (pf5)) ((mF21 3 4 rfl).trans (pf6)) ((mF21 3 5 rfl).trans (pf7)) ((mF21 3 7 rfl).trans (pf8)) ((mF21 3 8 rfl).trans (pf9)) ((mF21 3 9 rfl).trans (pf10)) ((mF21 3 6 rfl).trans (pf11)) (n4) (en4) (n5) (en5) (n6) (en6) (n7) (en7) (n8) (en8) (n9) (en9) (n10) (en10) (n11) (en11) (u3_0) (((mF21 3 0 rfl).trans (eu3_0))) (u3_1) (((mF21 3 1 rfl).trans (eu3_1))) (w4) ((funext (mA21 4 rfl)).trans (ew4)) (w5) ((funext (mA21 5 rfl)).trans (ew5)) (w6) ((funext (mA21 6 rfl)).trans (ew6)) (w7) ((funext (mA21 7 rfl)).trans (ew7)) (w8) ((funext (mA21 8 rfl)).trans (ew8)) (w9) ((funext (mA21 9 rfl)).trans (ew9)) (w10) ((funext (mA21 10 rfl)).trans (ew10)) (show inr (a2) from h1) (show inr (v19) from (HIDe qv19)) (show inr (z20) from pz20_0) (hsl) (h4) (show 0 ≤ (a2) ∧ (a2) < p2 ((u3_0)) from h5) (show 0 ≤ (v19) ∧ (v19) < ((u3_1)) ∧ ((w4)) (v19) ≠ 0 by have qh0 := HIDe qv19; have qh1 := HIDe r2; omega) (pz20_1) (fun z26 σ26 F26ₚ A26ₚ Hₚ Oₚ hS26 hA26 pz26_0 pz26_1 pz26_2 => ⟨rfl, ?_⟩))
  refine v_backc (c := c) (s := s) H oz_L4cls_11 oz_L4cls_6 Hₚ Oₚ (fun F26 A26 H Oₚ eF26 eA26 => ?_)
  have O := OUT_trans O Oₚ
  -- Share.placeAhead
  have cF26 : SF oz_L4clsl_0 F F26 := SF_trans (cF21) (SF_gluc (ι := oz_L4clsl_2) oz_L4cls_6 hS26 eF26 (by decide +kernel)) (any_sub (lₚ := []) (by decide +kernel))
  have mF26 := SFm_of cF26 oz_L4cls_4
  have cA26 : SA oz_L4clsl_1 A A26 := SA_trans (cA21) (SA_gluc (ι := oz_L4clsl_2) oz_L4cls_6 hA26 eA26 (by decide +kernel)) (any_subA (lₚ := []) (by decide +kernel))
  have mA26 := SAm_of cA26 oz_L4cls_5
  have hnx : nxS (((u3_0), cutP ((u3_1)) ((w4))) : TSt) (((w13)) (a3)) ((a2)) = ((z26), btw ((a2)) ((z20))) := by rw [hsy19]; exact sl_nx hsl (by (have qg0 := HIDe r1; have qg1 := HIDe r2; omega)) pz26_2.1 (by (have qg0 := HIDe r1; have qg1 := HIDe r2; omega)) pz20_1 pz26_2.2
  have : (z26) = (nxS (((u3_0), cutP ((u3_1)) ((w4))) : TSt) (((w13)) (a3)) ((a2))).1 := by rw [hnx]
  have : IMP ((0 ≤ (u14_3) ∧ (u14_3) < p2 ((u14_4))) ∧ (u14_1) + 2 ≤ (n15)) (RBA ((u14_2)) ((w15)) ((u14_1)) ((u14_3)) ((u14_4)) ((y21_0_2)) ((w21_1)) ((y21_0_1)) ((y21_0_3)) ((y21_0_4)) ((nxS (((u3_0), cutP ((u3_1)) ((w4))) : TSt) (((w13)) (a3)) ((a2))).2) ∧ (0 ≤ (y21_0_3) ∧ (y21_0_3) < p2 ((y21_0_4))) ∧ 8 * (y21_0_1) + (y21_0_4) ≤ 8 * (u14_1) + (u14_4) + 9) := fun q => by rw [hnx]; have q1 := q.1; have q1a := q1.1; have q1b := q1.2; have q2 := q.2; obtain ⟨r1, h1, b1⟩ := hp41 ⟨by (have qg0 := HIDe r1; have qg1 := HIDe r18; have qg2 := HIDe r2; have qg3 := HIDe r22; have qg4 := HIDe r23; have qg5 := HIDe r24; have qg6 := HIDe r25; have qg7 := HIDe r3; have qg8 := HIDe r4; have qg9 := HIDe r5; have qg10 := HIDe r6; omega), q1a, q1b, by (have qg0 := HIDe r1; have qg1 := HIDe r18; have qg2 := HIDe r2; have qg3 := HIDe r22; have qg4 := HIDe r23; have qg5 := HIDe r24; have qg6 := HIDe r25; have qg7 := HIDe r3; have qg8 := HIDe r4; have qg9 := HIDe r5; have qg10 := HIDe r6; omega)⟩; exact ⟨r1, h1, by (have qg0 := HIDe r1; have qg1 := HIDe r18; have qg2 := HIDe r2; have qg3 := HIDe r22; have qg4 := HIDe r23; have qg5 := HIDe r24; have qg6 := HIDe r25; have qg7 := HIDe r3; have qg8 := HIDe r4; have qg9 := HIDe r5; have qg10 := HIDe r6; omega)⟩
  exact w_ireturn rfl (k (z26) _ _ _ H O (cF26) (cA26) (y21_0_1) ((((show F26 14 1 = F21 14 1 from (eF26 14 1))).trans ((eF21 14 1).trans ey21_0_1))) (y21_0_2) ((((show F26 14 2 = F21 14 2 from (eF26 14 2))).trans ((eF21 14 2).trans ey21_0_2))) (y21_0_3) ((((show F26 14 3 = F21 14 3 from (eF26 14 3))).trans ((eF21 14 3).trans ey21_0_3))) (y21_0_4) ((((show F26 14 4 = F21 14 4 from (eF26 14 4))).trans ((eF21 14 4).trans ey21_0_4))) (w21_1) (((show A26 15 = A21 15 from (eA26 15))).trans ((eA21 15).trans ew21_1)) (show inr (z26) from pz26_0) (show 0 ≤ (z26) ∧ (z26) < p2 ((u3_0)) from pz26_1) (show 0 ≤ (y21_0_1) ∧ (y21_0_1) ≤ (n15) ∧ (n15) ≤ 65536 from pz21_0) (show 0 ≤ (y21_0_4) ∧ (y21_0_4) ≤ 7 from pz21_2) (show (z26) = (nxS (((u3_0), cutP ((u3_1)) ((w4))) : TSt) (((w13)) (a3)) ((a2))).1 by assumption) (show IMP ((0 ≤ (u14_3) ∧ (u14_3) < p2 ((u14_4))) ∧ (u14_1) + 2 ≤ (n15)) (RBA ((u14_2)) ((w15)) ((u14_1)) ((u14_3)) ((u14_4)) ((y21_0_2)) ((w21_1)) ((y21_0_1)) ((y21_0_3)) ((y21_0_4)) ((nxS (((u3_0), cutP ((u3_1)) ((w4))) : TSt) (((w13)) (a3)) ((a2))).2) ∧ (0 ≤ (y21_0_3) ∧ (y21_0_3) < p2 ((y21_0_4))) ∧ 8 * (y21_0_1) + (y21_0_4) ≤ 8 * (u14_1) + (u14_4) + 9) by assumption))
abbrev V151_c12 : vV := [(0, 6, [(4, 0), (4, 0), (4, 0), (4, 0), (4, 0), (4, 0), (4, 0), (4, 0), (4, 0), (4, 0), (4, 0), (4, 0), (4, 0), (4, 0), (4, 0), (0, 0), (0, 0), (4, 0), (4, 0)]), (0, 9, [(4, 0), (4, 0), (4, 0)]), (1, 5, []), (0, 8, [(0, 0), (0, 0), (4, 0), (4, 0), (4, 0), (4, 0), (4, 0), (4, 0), (4, 0), (4, 0), (4, 0), (0, 0), (0, 0)]), (1, 1, []), (1, 1, []), (1, 1, []), (1, 1, []), (1, 1, []), (1, 1, []), (1, 1, []), (1, 1, []), (1, 7, []), (1, 1, []), (0, 7, [(4, 0), (0, 0), (1, 0), (0, 0), (0, 0)]), (1, 0, [])]
theorem len_V151_c12_oz_L4cls : (V151_c12).length = 16 := by decide +kernel
theorem oz_L4cls_13 : vsub V151_c12 V175 [3, 4, 5, 6, 7, 8, 9, 10, 11] = true := by decide +kernel
theorem oz_L4cls_14 : vsub V151_c12 V164 [14, 15] = true := by decide +kernel
theorem oz_L4cls_15 : vsub V151_c12 V176 [3, 4, 5, 6, 7, 8, 9, 10, 11] = true := by decide +kernel

theorem C151_c12 {σE : rS} {D N : Nat → Nat} {F : hF} {A : hA} {d c s : Nat} {Q : wQ} (H : HW V151_c12 σE D N F A) {a2 a3 : Int} (pf1 : HID (F 0 7 = (D 1 : Int))) (pf2 : HID (F 1 1 = (D 2 : Int))) (pf3 : HID (A 2 2 = (D 3 : Int))) (pf4 : HID (F 3 2 = (D 4 : Int))) (pf5 : HID (F 3 3 = (D 5 : Int))) (pf6 : HID (F 3 4 = (D 6 : Int))) (pf7 : HID (F 3 5 = (D 7 : Int))) (pf8 : HID (F 3 7 = (D 8 : Int))) (pf9 : HID (F 3 8 = (D 9 : Int))) (pf10 : HID (F 3 9 = (D 10 : Int))) (pf11 : HID (F 3 6 = (D 11 : Int))) (pf12 : HID (F 0 13 = (D 12 : Int))) (pf13 : HID (A 12 2 = (D 13 : Int))) (pf14 : HID (F 0 8 = (D 14 : Int))) (pf15 : HID (F 14 0 = (D 15 : Int))) (n2 : Int) (en2 : HID ((N 2 : Int) = n2)) (n4 : Int) (en4 : HID ((N 4 : Int) = n4)) (n5 : Int) (en5 : HID ((N 5 : Int) = n5)) (n6 : Int) (en6 : HID ((N 6 : Int) = n6)) (n7 : Int) (en7 : HID ((N 7 : Int) = n7)) (n8 : Int) (en8 : HID ((N 8 : Int) = n8)) (n9 : Int) (en9 : HID ((N 9 : Int) = n9)) (n10 : Int) (en10 : HID ((N 10 : Int) = n10)) (n11 : Int) (en11 : HID ((N 11 : Int) = n11)) (n12 : Int) (en12 : HID ((N 12 : Int) = n12)) (n13 : Int) (en13 : HID ((N 13 : Int) = n13)) (n15 : Int) (en15 : HID ((N 15 : Int) = n15)) (u3_0 : Int) (eu3_0 : HID (F 3 0 = u3_0)) (u3_1 : Int) (eu3_1 : HID (F 3 1 = u3_1)) (u14_1 : Int) (eu14_1 : HID (F 14 1 = u14_1)) (u14_2 : Int) (eu14_2 : HID (F 14 2 = u14_2)) (u14_3 : Int) (eu14_3 : HID (F 14 3 = u14_3)) (u14_4 : Int) (eu14_4 : HID (F 14 4 = u14_4)) (w4 : Int → Int) (ew4 : A 4 = w4) (w5 : Int → Int) (ew5 : A 5 = w5) (w6 : Int → Int) (ew6 : A 6 = w6) (w7 : Int → Int) (ew7 : A 7 = w7) (w8 : Int → Int) (ew8 : A 8 = w8) (w9 : Int → Int) (ew9 : A 9 = w9) (w10 : Int → Int) (ew10 : A 10 = w10) (w13 : Int → Int) (ew13 : A 13 = w13) (w15 : Int → Int) (ew15 : A 15 = w15) (h0 : inr (2)) (h1 : inr (a2)) (h2 : inr (a3)) (h3 : SL ((w4)) ((u3_1)) ((u3_0)) ((w5)) ((w6)) ((w7)) ((w8)) ((w9)) ((w10))) (h4 : SZD ((n4)) ((n5)) ((n6)) ((n7)) ((n11)) ((n8)) ((n9)) ((n10)) ((u3_1)) ((u3_0))) (h5 : 0 ≤ (a2) ∧ (a2) < p2 ((u3_0))) (h6 : 0 ≤ (a3) ∧ (a3) < (n13)) (h7 : 0 ≤ ((w13)) (a3) ∧ ((w13)) (a3) < (u3_1) ∧ ((w4)) (((w13)) (a3)) ≠ 0) (h8 : (n12) = 3 ∧ (n2) = 3) (h9 : 0 ≤ (u14_1) ∧ (u14_1) ≤ (n15) ∧ (n15) ≤ 65536) (h10 : 0 ≤ (u14_4) ∧ (u14_4) ≤ 7) (k : ∀ (z : Int) (σ : rS) (Fₚ : hF) (Aₚ : hA), HW V151_c12 σ D N Fₚ Aₚ → OUT (V151_c12).length D N σE c s D N σ c s → SF [(14, 1), (14, 2), (14, 3), (14, 4)] F Fₚ → SA [15] A Aₚ → ∀ y14_1 : Int, Fₚ 14 1 = y14_1 → ∀ y14_2 : Int, Fₚ 14 2 = y14_2 → ∀ y14_3 : Int, Fₚ 14 3 = y14_3 → ∀ y14_4 : Int, Fₚ 14 4 = y14_4 → ∀ v15 : Int → Int, Aₚ 15 = v15 → (inr (z)) → (0 ≤ (z) ∧ (z) < p2 ((u3_0))) → (0 ≤ (y14_1) ∧ (y14_1) ≤ (n15) ∧ (n15) ≤ 65536) → (0 ≤ (y14_4) ∧ (y14_4) ≤ 7) → ((z) = (nxS (((u3_0), cutP ((u3_1)) ((w4))) : TSt) (((w13)) (a3)) ((a2))).1) → (IMP ((0 ≤ (u14_3) ∧ (u14_3) < p2 ((u14_4))) ∧ (u14_1) + 2 ≤ (n15)) (RBA ((u14_2)) ((w15)) ((u14_1)) ((u14_3)) ((u14_4)) ((y14_2)) ((v15)) ((y14_1)) ((y14_3)) ((y14_4)) ((nxS (((u3_0), cutP ((u3_1)) ((w4))) : TSt) (((w13)) (a3)) ((a2))).2) ∧ (0 ≤ (y14_3) ∧ (y14_3) < p2 ((y14_4))) ∧ 8 * (y14_1) + (y14_4) ≤ 8 * (u14_1) + (u14_4) + 9)) → Q (some (I z)) σ c s) : Ew 151 (d + 1) 0 (rargs 0 [.ref (D 0), I 2, I a2, I a3]) [] σE c s Q := by
  have O := OUT_refl (n := (V151_c12).length) (D := D) (N := N) (σ := σE) (c := c) (s := s)
  have HE := H
  have r1 : HID ((-2147483648 : Int) ≤ u3_0 ∧ u3_0 ≤ 2147483647) := krg_e (show (-2147483648 : Int) ≤ F 3 0 ∧ F 3 0 ≤ 2147483647 from H.krg 3 0 (ltn len_V151_c12_oz_L4cls rfl)) (show F 3 0 = u3_0 from (eu3_0))
  have r2 : HID ((-2147483648 : Int) ≤ u3_1 ∧ u3_1 ≤ 2147483647) := krg_e (show (-2147483648 : Int) ≤ F 3 1 ∧ F 3 1 ≤ 2147483647 from H.krg 3 1 (ltn len_V151_c12_oz_L4cls rfl)) (show F 3 1 = u3_1 from (eu3_1))
  have r3 : HID ((-2147483648 : Int) ≤ u14_1 ∧ u14_1 ≤ 2147483647) := krg_e (show (-2147483648 : Int) ≤ F 14 1 ∧ F 14 1 ≤ 2147483647 from H.krg 14 1 (ltn len_V151_c12_oz_L4cls rfl)) (show F 14 1 = u14_1 from (eu14_1))
  have r4 : HID ((0 : Int) ≤ u14_2 ∧ u14_2 ≤ 1) := krg_e (show (0 : Int) ≤ F 14 2 ∧ F 14 2 ≤ 1 from H.krg 14 2 (ltn len_V151_c12_oz_L4cls rfl)) (show F 14 2 = u14_2 from (eu14_2))
  have r5 : HID ((-2147483648 : Int) ≤ u14_3 ∧ u14_3 ≤ 2147483647) := krg_e (show (-2147483648 : Int) ≤ F 14 3 ∧ F 14 3 ≤ 2147483647 from H.krg 14 3 (ltn len_V151_c12_oz_L4cls rfl)) (show F 14 3 = u14_3 from (eu14_3))
  have r6 : HID ((-2147483648 : Int) ≤ u14_4 ∧ u14_4 ≤ 2147483647) := krg_e (show (-2147483648 : Int) ≤ F 14 4 ∧ F 14 4 ≤ 2147483647 from H.krg 14 4 (ltn len_V151_c12_oz_L4cls rfl)) (show F 14 4 = u14_4 from (eu14_4))
  have r18 : HID ((0 : Int) ≤ n15 ∧ n15 ≤ 1000000) := nrng (H.nle 15 (ltn len_V151_c12_oz_L4cls rfl)) (show (N 15 : Int) = n15 from en15)
  have hsl : SL ((w4)) ((u3_1)) ((u3_0)) ((w5)) ((w6)) ((w7)) ((w8)) ((w9)) ((w10)) := h3
  have hsf := SHD_f hsl.1
  have hrw : 0 ≤ ((w13)) (a3) ∧ ((w13)) (a3) < (u3_1) ∧ ((w4)) (((w13)) (a3)) ≠ 0 := h7
  refine Ew_of (pcₚ := 1) (fun _ => x_aload_n rfl rfl) ?_
  refine v_g H (o := 0) (v := .ref (D 1)) rfl rfl rfl rfl rfl (vrf (pf1)) ?_
  refine v_g H (o := 1) (v := .ref (D 2)) rfl rfl rfl rfl rfl (vrf (pf2)) ?_
  refine Ew_of (pcₚ := 8) (fun _ => x_iload_n rfl rfl) ?_
  refine v_lR H (o := 2) rfl rfl rfl rfl rfl (n := n2) (en2) (show 0 ≤ 2 ∧ 2 < n2 from q_3865 h8) (z := ((D 3 : Nat) : Int)) (v := .ref (D 3)) (pf3) (vrf rfl) ?_
  refine Ew_of (pcₚ := 11) (fun _ => x_astore rfl) ?_
  refine Ew_of (pcₚ := 12) (fun _ => x_aload_n rfl (rk_o (rfl) rfl rfl)) ?_
  refine v_g H (o := 0) (v := .ref (D 12)) rfl rfl rfl rfl rfl (vrf (pf12)) ?_
  refine Ew_of (pcₚ := 16) (fun _ => x_iload_n rfl (rk_o (rfl) rfl rfl)) ?_
  refine v_lR H (o := 12) rfl rfl rfl rfl rfl (n := n12) (en12) (show 0 ≤ 2 ∧ 2 < n12 from q_3866 h8) (z := ((D 13 : Nat) : Int)) (v := .ref (D 13)) (pf13) (vrf rfl) ?_
  refine Ew_of (pcₚ := 18) (fun _ => x_iload_n rfl (rk_o (rfl) rfl rfl)) ?_
  refine v_lI H (o := 13) rfl rfl rfl rfl (n := n13) (en13) (show 0 ≤ a3 ∧ a3 < n13 from h6) (fun v19 ev19 (qv19 : HID _) => ?_)
  have ev19 : (w13) (a3) = v19 := (congrFun (ew13) (a3)).symm.trans ev19
  have hsy19 := ev19
  rw [ev19] at hrw
  refine Ew_of (pcₚ := 21) (fun _ => x_istore rfl) ?_
  refine Ew_of (pcₚ := 23) (fun _ => x_aload rfl (rk_o (rk_s) rfl rfl)) ?_
  refine Ew_of (pcₚ := 24) (fun _ => x_iload_n rfl (rk_o (rk_o (rfl) rfl rfl) rfl rfl)) ?_
  refine Ew_of (pcₚ := 26) (fun _ => x_iload rfl rk_s) ?_
  refine v_inv H (o := 3) rfl rfl rfl rfl rfl rfl (by rfl) (C175o (D := puc 52038427443478050113539 D) (N := puc 52038427443478050113539 N) (HW_subc H oz_L4cls_13 oz_L4cls_6) (pf4) (pf5) (pf6) (pf7) (pf8) (pf9) (pf10) (pf11) (n4) (en4) (n5) (en5) (n6) (en6) (n7) (en7) (n8) (en8) (n9) (en9) (n10) (en10) (n11) (en11) (u3_0) ((eu3_0)) (u3_1) ((eu3_1)) (w4) (ew4) (w5) (ew5) (w6) (ew6) (w7) (ew7) (w8) (ew8) (w9) (ew9) (w10) (ew10) (show inr (a2) from h1) (show inr (v19) from (HIDe qv19)) (hsl) (h4) (show 0 ≤ (a2) ∧ (a2) < p2 ((u3_0)) from h5) (show 0 ≤ (v19) ∧ (v19) < ((u3_1)) ∧ ((w4)) (v19) ≠ 0 by have qh0 := HIDe qv19; have qh1 := HIDe r2; omega) (fun z20 σ20 F20ₚ A20ₚ Hₚ Oₚ hS20 hA20 pz20_0 pz20_1 pz20_2 => ⟨rfl, ?_⟩))
  refine v_backc (c := c) (s := s) H oz_L4cls_13 oz_L4cls_6 Hₚ Oₚ (fun F20 A20 H Oₚ eF20 eA20 => ?_)
  have O := OUT_trans O Oₚ
  -- Share.bitsAhead
  have cF20 : SF oz_L4clsl_0 F F20 := SF_trans (SF_refl) (SF_gluc (ι := oz_L4clsl_2) oz_L4cls_6 hS20 eF20 (by decide +kernel)) (any_sub (lₚ := []) (by decide +kernel))
  have mF20 := SFm_of cF20 oz_L4cls_4
  have cA20 : SA oz_L4clsl_1 A A20 := SA_trans (SA_refl) (SA_gluc (ι := oz_L4clsl_2) oz_L4cls_6 hA20 eA20 (by decide +kernel)) (any_subA (lₚ := []) (by decide +kernel))
  have mA20 := SAm_of cA20 oz_L4cls_5
  refine Ew_of (pcₚ := 31) (fun _ => x_istore rfl) ?_
  refine Ew_of (pcₚ := 32) (fun _ => x_aload_n rfl (rk_o (rk_o (rk_o (rfl) rfl rfl) rfl rfl) rfl rfl)) ?_
  refine v_g H (o := 0) (v := .ref (D 14)) rfl rfl rfl rfl rfl (vrf ((mF20 0 8 rfl).trans (pf14))) ?_
  refine Ew_of (pcₚ := 36) (fun _ => x_iload_n rfl (rk_o (rk_o (rk_o (rfl) rfl rfl) rfl rfl) rfl rfl)) ?_
  refine Ew_of (pcₚ := 38) (fun _ => x_iload rfl rk_s) ?_
  refine v_inv H (o := 14) rfl rfl rfl rfl rfl rfl (by rfl) (C164 (D := puc 7694 D) (N := puc 7694 N) (HW_subc H oz_L4cls_14 oz_L4cls_7) ((mF20 14 0 rfl).trans (pf15)) (n15) (en15) (u14_1) ((((show F20 14 1 = F 14 1 from (eF20 14 1))).trans (eu14_1))) (u14_2) ((((show F20 14 2 = F 14 2 from (eF20 14 2))).trans (eu14_2))) (u14_3) ((((show F20 14 3 = F 14 3 from (eF20 14 3))).trans (eu14_3))) (u14_4) ((((show F20 14 4 = F 14 4 from (eF20 14 4))).trans (eu14_4))) (w15) (((show A20 15 = A 15 from (eA20 15))).trans (ew15)) (show inr (a2) from h1) (show inr (z20) from pz20_0) (show 0 ≤ (u14_1) ∧ (u14_1) ≤ (n15) ∧ (n15) ≤ 65536 from h9) (show 0 ≤ (z20) ∧ (z20) ≤ 31 by omega) (show 0 ≤ (u14_4) ∧ (u14_4) ≤ 7 from h10) (fun σ21 F21ₚ A21ₚ Hₚ Oₚ hS21 hA21 y21_0_1 (ey21_0_1 : HID _) y21_0_2 (ey21_0_2 : HID _) y21_0_3 (ey21_0_3 : HID _) y21_0_4 (ey21_0_4 : HID _) w21_1 ew21_1 pz21_0 pz21_1 pz21_2 pz21_3 => ⟨rfl, ?_⟩))
  refine v_backc (c := c) (s := s) H oz_L4cls_14 oz_L4cls_7 Hₚ Oₚ (fun F21 A21 H Oₚ eF21 eA21 => ?_)
  have O := OUT_trans O Oₚ
  -- Row.addBits
  have cF21 : SF oz_L4clsl_0 F F21 := SF_trans (cF20) (SF_gluc (ι := oz_L4clsl_3) oz_L4cls_7 hS21 eF21 (by decide +kernel)) (any_sub (lₚ := [(14, 1), (14, 2), (14, 3), (14, 4)]) (by decide +kernel))
  have mF21 := SFm_of cF21 oz_L4cls_4
  have cA21 : SA oz_L4clsl_1 A A21 := SA_trans (cA20) (SA_gluc (ι := oz_L4clsl_3) oz_L4cls_7 hA21 eA21 (by decide +kernel)) (any_subA (lₚ := [15]) (by decide +kernel))
  have mA21 := SAm_of cA21 oz_L4cls_5
  have r22 : HID ((-2147483648 : Int) ≤ y21_0_1 ∧ y21_0_1 ≤ 2147483647) := krg_e (show (-2147483648 : Int) ≤ F21 14 1 ∧ F21 14 1 ≤ 2147483647 from H.krg 14 1 (ltn len_V151_c12_oz_L4cls rfl)) (show F21 14 1 = y21_0_1 from ((eF21 14 1).trans ey21_0_1))
  have r23 : HID ((0 : Int) ≤ y21_0_2 ∧ y21_0_2 ≤ 1) := krg_e (show (0 : Int) ≤ F21 14 2 ∧ F21 14 2 ≤ 1 from H.krg 14 2 (ltn len_V151_c12_oz_L4cls rfl)) (show F21 14 2 = y21_0_2 from ((eF21 14 2).trans ey21_0_2))
  have r24 : HID ((-2147483648 : Int) ≤ y21_0_3 ∧ y21_0_3 ≤ 2147483647) := krg_e (show (-2147483648 : Int) ≤ F21 14 3 ∧ F21 14 3 ≤ 2147483647 from H.krg 14 3 (ltn len_V151_c12_oz_L4cls rfl)) (show F21 14 3 = y21_0_3 from ((eF21 14 3).trans ey21_0_3))
  have r25 : HID ((-2147483648 : Int) ≤ y21_0_4 ∧ y21_0_4 ≤ 2147483647) := krg_e (show (-2147483648 : Int) ≤ F21 14 4 ∧ F21 14 4 ≤ 2147483647 from H.krg 14 4 (ltn len_V151_c12_oz_L4cls rfl)) (show F21 14 4 = y21_0_4 from ((eF21 14 4).trans ey21_0_4))
  have hp41 := pz21_3
  refine Ew_of (pcₚ := 43) (fun _ => x_aload rfl (rk_o (rk_o (rk_s) rfl rfl) rfl rfl)) ?_
  refine Ew_of (pcₚ := 44) (fun _ => x_iload_n rfl (rk_o (rk_o (rk_o (rfl) rfl rfl) rfl rfl) rfl rfl)) ?_
  refine Ew_of (pcₚ := 46) (fun _ => x_iload rfl (rk_o (rk_s) rfl rfl)) ?_
  refine Ew_of (pcₚ := 48) (fun _ => x_iload rfl rk_s) ?_
  refine v_inv H (o := 3) rfl rfl rfl rfl rfl rfl (by rfl) (C176o (D := puc 52038427443478050113539 D) (N := puc 52038427443478050113539 N) (HW_subc H oz_L4cls_15 oz_L4cls_6) ((mF21 3 2 rfl).trans (pf4)) ((mF21 3 3 rfl).trans (pf5)) ((mF21 3 4 rfl).trans (pf6)) ((mF21 3 5 rfl).trans (pf7)) ((mF21 3 7 rfl).trans (pf8)) ((mF21 3 8 rfl).trans (pf9)) ((mF21 3 9 rfl).trans (pf10)) ((mF21 3 6 rfl).trans (pf11)) (n4) (en4) (n5) (en5) (n6) (en6) (n7) (en7) (n8) (en8) (n9) (en9) (n10) (en10) (n11) (en11) (u3_0) (((mF21 3 0 rfl).trans (eu3_0))) (u3_1) (((mF21 3 1 rfl).trans (eu3_1))) (w4) ((funext (mA21 4 rfl)).trans (ew4)) (w5) ((funext (mA21 5 rfl)).trans (ew5)) (w6) ((funext (mA21 6 rfl)).trans (ew6)) (w7) ((funext (mA21 7 rfl)).trans (ew7)) (w8) ((funext (mA21 8 rfl)).trans (ew8)) (w9) ((funext (mA21 9 rfl)).trans (ew9)) (w10) ((funext (mA21 10 rfl)).trans (ew10)) (show inr (a2) from h1) (show inr (v19) from (HIDe qv19)) (show inr (z20) from pz20_0) (hsl) (h4) (show 0 ≤ (a2) ∧ (a2) < p2 ((u3_0)) from h5) (show 0 ≤ (v19) ∧ (v19) < ((u3_1)) ∧ ((w4)) (v19) ≠ 0 by have qh0 := HIDe qv19; have qh1 := HIDe r2; omega) (pz20_1) (fun z26 σ26 F26ₚ A26ₚ Hₚ Oₚ hS26 hA26 pz26_0 pz26_1 pz26_2 => ⟨rfl, ?_⟩))
  refine v_backc (c := c) (s := s) H oz_L4cls_15 oz_L4cls_6 Hₚ Oₚ (fun F26 A26 H Oₚ eF26 eA26 => ?_)
  have O := OUT_trans O Oₚ
  -- Share.placeAhead
  have cF26 : SF oz_L4clsl_0 F F26 := SF_trans (cF21) (SF_gluc (ι := oz_L4clsl_2) oz_L4cls_6 hS26 eF26 (by decide +kernel)) (any_sub (lₚ := []) (by decide +kernel))
  have mF26 := SFm_of cF26 oz_L4cls_4
  have cA26 : SA oz_L4clsl_1 A A26 := SA_trans (cA21) (SA_gluc (ι := oz_L4clsl_2) oz_L4cls_6 hA26 eA26 (by decide +kernel)) (any_subA (lₚ := []) (by decide +kernel))
  have mA26 := SAm_of cA26 oz_L4cls_5
  have hnx : nxS (((u3_0), cutP ((u3_1)) ((w4))) : TSt) (((w13)) (a3)) ((a2)) = ((z26), btw ((a2)) ((z20))) := by rw [hsy19]; exact sl_nx hsl (by (have qg0 := HIDe r1; have qg1 := HIDe r2; omega)) pz26_2.1 (by (have qg0 := HIDe r1; have qg1 := HIDe r2; omega)) pz20_1 pz26_2.2
  have : (z26) = (nxS (((u3_0), cutP ((u3_1)) ((w4))) : TSt) (((w13)) (a3)) ((a2))).1 := by rw [hnx]
  have : IMP ((0 ≤ (u14_3) ∧ (u14_3) < p2 ((u14_4))) ∧ (u14_1) + 2 ≤ (n15)) (RBA ((u14_2)) ((w15)) ((u14_1)) ((u14_3)) ((u14_4)) ((y21_0_2)) ((w21_1)) ((y21_0_1)) ((y21_0_3)) ((y21_0_4)) ((nxS (((u3_0), cutP ((u3_1)) ((w4))) : TSt) (((w13)) (a3)) ((a2))).2) ∧ (0 ≤ (y21_0_3) ∧ (y21_0_3) < p2 ((y21_0_4))) ∧ 8 * (y21_0_1) + (y21_0_4) ≤ 8 * (u14_1) + (u14_4) + 9) := fun q => by rw [hnx]; have q1 := q.1; have q1a := q1.1; have q1b := q1.2; have q2 := q.2; obtain ⟨r1, h1, b1⟩ := hp41 ⟨by (have qg0 := HIDe r1; have qg1 := HIDe r18; have qg2 := HIDe r2; have qg3 := HIDe r22; have qg4 := HIDe r23; have qg5 := HIDe r24; have qg6 := HIDe r25; have qg7 := HIDe r3; have qg8 := HIDe r4; have qg9 := HIDe r5; have qg10 := HIDe r6; omega), q1a, q1b, by (have qg0 := HIDe r1; have qg1 := HIDe r18; have qg2 := HIDe r2; have qg3 := HIDe r22; have qg4 := HIDe r23; have qg5 := HIDe r24; have qg6 := HIDe r25; have qg7 := HIDe r3; have qg8 := HIDe r4; have qg9 := HIDe r5; have qg10 := HIDe r6; omega)⟩; exact ⟨r1, h1, by (have qg0 := HIDe r1; have qg1 := HIDe r18; have qg2 := HIDe r2; have qg3 := HIDe r22; have qg4 := HIDe r23; have qg5 := HIDe r24; have qg6 := HIDe r25; have qg7 := HIDe r3; have qg8 := HIDe r4; have qg9 := HIDe r5; have qg10 := HIDe r6; omega)⟩
  exact w_ireturn rfl (k (z26) _ _ _ H O (cF26) (cA26) (y21_0_1) ((((show F26 14 1 = F21 14 1 from (eF26 14 1))).trans ((eF21 14 1).trans ey21_0_1))) (y21_0_2) ((((show F26 14 2 = F21 14 2 from (eF26 14 2))).trans ((eF21 14 2).trans ey21_0_2))) (y21_0_3) ((((show F26 14 3 = F21 14 3 from (eF26 14 3))).trans ((eF21 14 3).trans ey21_0_3))) (y21_0_4) ((((show F26 14 4 = F21 14 4 from (eF26 14 4))).trans ((eF21 14 4).trans ey21_0_4))) (w21_1) (((show A26 15 = A21 15 from (eA26 15))).trans ((eA21 15).trans ew21_1)) (show inr (z26) from pz26_0) (show 0 ≤ (z26) ∧ (z26) < p2 ((u3_0)) from pz26_1) (show 0 ≤ (y21_0_1) ∧ (y21_0_1) ≤ (n15) ∧ (n15) ≤ 65536 from pz21_0) (show 0 ≤ (y21_0_4) ∧ (y21_0_4) ≤ 7 from pz21_2) (show (z26) = (nxS (((u3_0), cutP ((u3_1)) ((w4))) : TSt) (((w13)) (a3)) ((a2))).1 by assumption) (show IMP ((0 ≤ (u14_3) ∧ (u14_3) < p2 ((u14_4))) ∧ (u14_1) + 2 ≤ (n15)) (RBA ((u14_2)) ((w15)) ((u14_1)) ((u14_3)) ((u14_4)) ((y21_0_2)) ((w21_1)) ((y21_0_1)) ((y21_0_3)) ((y21_0_4)) ((nxS (((u3_0), cutP ((u3_1)) ((w4))) : TSt) (((w13)) (a3)) ((a2))).2) ∧ (0 ≤ (y21_0_3) ∧ (y21_0_3) < p2 ((y21_0_4))) ∧ 8 * (y21_0_1) + (y21_0_4) ≤ 8 * (u14_1) + (u14_4) + 9) by assumption))


end
section
/-! L5.cls -/
abbrev V142 : vV := [(0, 6, [(4, 0), (4, 0), (4, 0), (4, 0), (4, 0), (4, 0), (4, 0), (4, 0), (4, 0), (4, 0), (4, 0), (4, 0), (4, 0), (4, 0), (4, 0), (0, 0), (0, 0), (4, 0), (4, 0)]), (0, 7, [(4, 0), (0, 0), (1, 0), (0, 0), (0, 0)]), (1, 0, []), (0, 7, [(4, 0), (0, 0), (1, 0), (0, 0), (0, 0)]), (1, 0, []), (0, 7, [(4, 0), (0, 0), (1, 0), (0, 0), (0, 0)]), (1, 0, []), (0, 9, [(4, 0), (4, 0), (4, 0)]), (0, 3, [(4, 0), (4, 0), (4, 0), (0, 0), (4, 0), (4, 0), (4, 0), (4, 0), (4, 0), (4, 0), (4, 0), (4, 0), (4, 0), (0, 0), (0, 0), (0, 0), (0, 0)]), (1, 1, []), (1, 1, []), (1, 1, [])]
theorem len_V142_oz_L5cls : (V142).length = 12 := by decide +kernel
theorem oz_L5cls_1 : vsub V142 V160 [1, 2] = true := by decide +kernel
theorem oz_L5cls_2 : vmov V142 [1, 2] [1] = true := by decide +kernel
theorem oz_L5cls_3 : vsub V142 V111_Row_Br [8, 1, 4, 2, 10, 9, 11] = true := by decide +kernel
theorem oz_L5cls_4 : vmov V142 [8, 1, 4, 2, 10, 9, 11] [3] = true := by decide +kernel
theorem oz_L5cls_5 : vsub V142 V112_Br [8, 4, 10] = true := by decide +kernel
theorem oz_L5cls_6 : vsub V142 V161_Br [1, 6, 2] = true := by decide +kernel
theorem oz_L5cls_7 : vmov V142 [1, 6, 2] [2] = true := by decide +kernel
def oz_L5clsl_0 : List (Nat × Nat) := [(1, 0), (1, 1), (1, 2), (1, 3), (1, 4)]
theorem oz_L5cls_8 : (oz_L5clsl_0).all (fun p => !tbz 133143986176 (Nat.add (Nat.mul 32 p.1) p.2)) = true := by decide +kernel
def oz_L5clsl_1 : List Nat := [2]
theorem oz_L5cls_9 : (oz_L5clsl_1).all (fun p => !tbz 4 p) = true := by decide +kernel
def oz_L5clsl_2 : List Nat := [1, 2]
theorem oz_L5cls_10 : okc oz_L5clsl_2 1025 = true := by decide +kernel
def oz_L5clsl_3 : List Nat := [8, 1, 4, 2, 10, 9, 11]
theorem oz_L5cls_11 : okc oz_L5clsl_3 198475730417353224 = true := by decide +kernel
def oz_L5clsl_4 : List Nat := [8, 4, 10]
theorem oz_L5cls_12 : okc oz_L5clsl_4 2623496 = true := by decide +kernel
def oz_L5clsl_5 : List Nat := [1, 6, 2]
theorem oz_L5cls_13 : okc oz_L5clsl_5 527361 = true := by decide +kernel
set_option maxHeartbeats 16000000 in
theorem C142 {σE : rS} {D N : Nat → Nat} {F : hF} {A : hA} {d c s : Nat} {Q : wQ} (H : HW V142 σE D N F A) {a1 : Int} (pf1 : HID (F 0 8 = (D 1 : Int))) (pf2 : HID (F 1 0 = (D 2 : Int))) (pf3 : HID (F 0 9 = (D 3 : Int))) (pf4 : HID (F 3 0 = (D 4 : Int))) (pf5 : HID (F 0 10 = (D 5 : Int))) (pf6 : HID (F 5 0 = (D 6 : Int))) (pf7 : HID (F 0 7 = (D 7 : Int))) (pf8 : HID (F 7 0 = (D 8 : Int))) (pf9 : HID (F 8 1 = (D 9 : Int))) (pf10 : HID (F 8 0 = (D 10 : Int))) (pf11 : HID (F 8 2 = (D 11 : Int))) (n2 : Int) (en2 : HID ((N 2 : Int) = n2)) (n4 : Int) (en4 : HID ((N 4 : Int) = n4)) (n6 : Int) (en6 : HID ((N 6 : Int) = n6)) (n9 : Int) (en9 : HID ((N 9 : Int) = n9)) (n10 : Int) (en10 : HID ((N 10 : Int) = n10)) (n11 : Int) (en11 : HID ((N 11 : Int) = n11)) (u0_16 : Int) (eu0_16 : HID (F 0 16 = u0_16)) (u1_1 : Int) (eu1_1 : HID (F 1 1 = u1_1)) (u1_2 : Int) (eu1_2 : HID (F 1 2 = u1_2)) (u1_3 : Int) (eu1_3 : HID (F 1 3 = u1_3)) (u1_4 : Int) (eu1_4 : HID (F 1 4 = u1_4)) (u3_1 : Int) (eu3_1 : HID (F 3 1 = u3_1)) (u5_1 : Int) (eu5_1 : HID (F 5 1 = u5_1)) (u8_3 : Int) (eu8_3 : HID (F 8 3 = u8_3)) (w2 : Int → Int) (ew2 : A 2 = w2) (w4 : Int → Int) (ew4 : A 4 = w4) (w6 : Int → Int) (ew6 : A 6 = w6) (w9 : Int → Int) (ew9 : A 9 = w9) (w10 : Int → Int) (ew10 : A 10 = w10) (w11 : Int → Int) (ew11 : A 11 = w11) (h0 : inr (a1)) (h1 : 0 ≤ (u1_1) ∧ (u1_1) ≤ (n2) ∧ (n2) ≤ 65536) (h2 : 0 ≤ (u1_4) ∧ (u1_4) ≤ 7) (h3 : 0 ≤ (u3_1) ∧ (u3_1) ≤ (n4) ∧ (n4) ≤ 65536) (h4 : 0 ≤ (u5_1) ∧ (u5_1) ≤ (n6) ∧ (n6) ≤ 65536) (h5 : 0 ≤ (a1) ∧ (a1) ≤ 1000000) (h6 : (n9) = 256) (h7 : 0 ≤ (u8_3) ∧ (u8_3) ≤ 11) (h8 : LNG ((w10)) ((u8_3))) (h9 : (n10) = 256) (h10 : (u1_1) = 0 ∧ (u1_4) = 0 ∧ (u1_3) = 0 ∧ (u1_2) = 0) (h11 : (u0_16) = 2 ∨ (u0_16) = 3) (h12 : CZF ((w10)) (ub8 ((w4))) ((u3_1)) (dlF ((u0_16)) ((u5_1))) ((a1))) (h13 : (a1) ≠ 0) (h14 : (u3_1) ≤ 16384 ∧ ((u0_16) ≠ 2 ∨ (u5_1) ≤ 128)) (h15 : CI ((w10)) ((u8_3))) (h16 : CDX ((w10)) ((u8_3)) ((w11)) ((w9))) (k : ∀ (σ : rS) (Dₚ Nₚ : Nat → Nat) (Fₚ : hF) (Aₚ : hA) (cₚ sₚ : Nat), HW V142 σ Dₚ Nₚ Fₚ Aₚ → OUT (V142).length D N σE c s Dₚ Nₚ σ cₚ sₚ → SD [2] D Dₚ → SD [2] N Nₚ → SF [(1, 0), (1, 1), (1, 2), (1, 3), (1, 4)] F Fₚ → SA [2] A Aₚ → Fₚ 1 0 = (Dₚ 2 : Int) → ∀ m2 : Int, (Nₚ 2 : Int) = m2 → ∀ y1_1 : Int, Fₚ 1 1 = y1_1 → ∀ y1_2 : Int, Fₚ 1 2 = y1_2 → ∀ y1_3 : Int, Fₚ 1 3 = y1_3 → ∀ y1_4 : Int, Fₚ 1 4 = y1_4 → ∀ v2 : Int → Int, Aₚ 2 = v2 → (0 ≤ (y1_1) ∧ (y1_1) ≤ (m2) ∧ (m2) ≤ 65536) → (0 ≤ (y1_4) ∧ (y1_4) ≤ 7) → ((y1_4) = 0 ∧ (y1_3) = 0 ∧ (y1_2) = 0) → (sc ((v2)) 0 ((y1_1)) = (nb (HDV ((u0_16)) (hlF ((u3_1)) ((dlF ((u0_16)) ((u5_1))) + STZ ((w10)) (ub8 ((w4))) ((u3_1)))) ((u3_1)) ((dlF ((u0_16)) ((u5_1))) + STZ ((w10)) (ub8 ((w4))) ((u3_1))) (wdF (hlF ((u3_1)) ((dlF ((u0_16)) ((u5_1))) + STZ ((w10)) (ub8 ((w4))) ((u3_1)))))) (hbF (hlF ((u3_1)) ((dlF ((u0_16)) ((u5_1))) + STZ ((w10)) (ub8 ((w4))) ((u3_1))))) ++ DLs ((u0_16)) (sc ((w6)) 0 ((u5_1)))) ++ F1 ((w10)) ((u8_3)) (ub8 ((w4))) ((u3_1))) → ((y1_1) ≤ 170 + 2 * (u3_1)) → Q none σ cₚ sₚ) : Ew 142 (d + 3) 0 (rargs 0 [.ref (D 0), I a1]) [] σE c s Q := by
  have O := OUT_refl (n := (V142).length) (D := D) (N := N) (σ := σE) (c := c) (s := s)
  have HE := H
  have r1 : HID ((-2147483648 : Int) ≤ u0_16 ∧ u0_16 ≤ 2147483647) := krg_e (show (-2147483648 : Int) ≤ F 0 16 ∧ F 0 16 ≤ 2147483647 from H.krg 0 16 (ltn len_V142_oz_L5cls rfl)) (show F 0 16 = u0_16 from (eu0_16))
  have r4 : HID ((-2147483648 : Int) ≤ u1_3 ∧ u1_3 ≤ 2147483647) := krg_e (show (-2147483648 : Int) ≤ F 1 3 ∧ F 1 3 ≤ 2147483647 from H.krg 1 3 (ltn len_V142_oz_L5cls rfl)) (show F 1 3 = u1_3 from (eu1_3))
  have r5 : HID ((-2147483648 : Int) ≤ u1_4 ∧ u1_4 ≤ 2147483647) := krg_e (show (-2147483648 : Int) ≤ F 1 4 ∧ F 1 4 ≤ 2147483647 from H.krg 1 4 (ltn len_V142_oz_L5cls rfl)) (show F 1 4 = u1_4 from (eu1_4))
  have r6 : HID ((-2147483648 : Int) ≤ u3_1 ∧ u3_1 ≤ 2147483647) := krg_e (show (-2147483648 : Int) ≤ F 3 1 ∧ F 3 1 ≤ 2147483647 from H.krg 3 1 (ltn len_V142_oz_L5cls rfl)) (show F 3 1 = u3_1 from (eu3_1))
  have r7 : HID ((-2147483648 : Int) ≤ u5_1 ∧ u5_1 ≤ 2147483647) := krg_e (show (-2147483648 : Int) ≤ F 5 1 ∧ F 5 1 ≤ 2147483647 from H.krg 5 1 (ltn len_V142_oz_L5cls rfl)) (show F 5 1 = u5_1 from (eu5_1))
  have r8 : HID ((-2147483648 : Int) ≤ u8_3 ∧ u8_3 ≤ 2147483647) := krg_e (show (-2147483648 : Int) ≤ F 8 3 ∧ F 8 3 ≤ 2147483647 from H.krg 8 3 (ltn len_V142_oz_L5cls rfl)) (show F 8 3 = u8_3 from (eu8_3))
  have r10 : HID ((0 : Int) ≤ n4 ∧ n4 ≤ 1000000) := nrng (H.nle 4 (ltn len_V142_oz_L5cls rfl)) (show (N 4 : Int) = n4 from en4)
  have hcz0 : CZF ((w10)) (ub8 ((w4))) ((u3_1)) (dlF ((u0_16)) ((u5_1))) ((a1)) := h12
  have hcz := CZF_nz hcz0 (by omega)
  have hcod := hcz.1
  have hczd := hcz.2
  have hci : CI ((w10)) ((u8_3)) := h15
  have hcd : CDX ((w10)) ((u8_3)) ((w11)) ((w9)) := h16
  have hln0 : LNG ((w10)) ((u8_3)) := h8
  have hgn : ∀ k, 0 ≤ ((w10)) ((ub8 ((w4))) k) ∧ ((w10)) ((ub8 ((w4))) k) ≤ 11 := fun k => by have h := hln0 ((ub8 ((w4))) k) (u8_rng _).1 (by have := u8_rng (((w4)) k); show u8 _ < 256; omega); omega
  have hzb := STZ_b hgn (n := ((u3_1))) (by (have qg0 := HIDe r6; omega))
  have hdl : 0 ≤ (dlF ((u0_16)) ((u5_1))) ∧ (dlF ((u0_16)) ((u5_1))) ≤ 128 := by rcases (show (u0_16) = 2 ∨ (u0_16) ≠ 2 by (have qg0 := HIDe r1; have qg1 := HIDe r7; omega)) with q | q; (rw [dlF_2 q]; (have qg0 := HIDe r1; have qg1 := HIDe r7; omega)); (rw [dlF_3 q]; (have qg0 := HIDe r1; have qg1 := HIDe r7; omega))
  refine Ew_of (pcₚ := 1) (fun _ => x_aload_n rfl rfl) ?_
  refine v_g H (o := 0) (v := .ref (D 3)) rfl rfl rfl rfl rfl (vrf (pf3)) ?_
  refine v_g H (o := 3) (v := I (u3_1)) rfl rfl rfl rfl rfl (congrArg (fun z : Int => I z) ((eu3_1) : F 3 1 = u3_1)) ?_
  refine Ew_of (pcₚ := 8) (fun _ => x_istore_n rfl) ?_
  refine Ew_of (pcₚ := 9) (fun _ => x_iload_n rfl rk_s) ?_
  refine Ew_of (pcₚ := 12) (fun _ => x_sipush (z := 1024) rfl (by decide)) ?_
  have hc20 : ∀ (tc20_0 : Int), ∀ (ls : rO) (σ : rS) (F_c20 : hF) (A_c20 : hA) , rlook ls 0 = some (.ref (D 0)) → rlook ls 1 = some (I (a1)) → rlook ls 2 = some (I (u3_1)) → HW V142 σ D N F_c20 A_c20 → OUT (V142).length D N σE c s D N σ c s → SF [] F F_c20 → SA [] A A_c20 → (inr (tc20_0)) → (((u3_1) ≥ (1024) ∧ (tc20_0) = (4)) ∨ ((u3_1) < (1024) ∧ (tc20_0) = (1))) → Ew 142 (d + 3) 20 ls [I (tc20_0)] σ c s Q := by
   as_aux_lemma =>
    intro tc20_0 ls σ F_c20 A_c20  lc20_0 lc20_1 lc20_2 H O hS_c20 hA_c20     jc20_0 jc20_1
    have cF_c20 : SF oz_L5clsl_0 F F_c20 := SF_trans (SF_refl) hS_c20 (any_sub (by decide +kernel))
    have mF_c20 := SFm_of cF_c20 oz_L5cls_8
    have cA_c20 : SA oz_L5clsl_1 A A_c20 := SA_trans (SA_refl) hA_c20 (any_subA (by decide +kernel))
    have mA_c20 := SAm_of cA_c20 oz_L5cls_9
    refine Ew_of (pcₚ := 21) (fun _ => x_istore_n rfl) ?_
    refine Ew_of (pcₚ := 22) (fun _ => x_iload_n rfl (rk_o (lc20_2) rfl rfl)) ?_
    refine Ew_of (pcₚ := 23) (fun _ => x_iload_n rfl rk_s) ?_
    refine w_iadd rfl ?_
    refine Ew_of (pcₚ := 25) (fun _ => x_iconst rfl) ?_
    refine w_isub rfl ?_
    refine Ew_of (pcₚ := 27) (fun _ => x_iload_n rfl rk_s) ?_
    refine w_idiv rfl (show inr (((u3_1 + tc20_0) - 1)) ∧ 0 ≤ ((u3_1 + tc20_0) - 1) from q_4424 h14 h3 jc20_1) (show inr (tc20_0) ∧ 0 < tc20_0 from q_4280 jc20_0 jc20_1) ?_
    have hea : 0 ≤ (((((u3_1 + tc20_0) - 1) / tc20_0)) : Int) ∧ (((((u3_1 + tc20_0) - 1) / tc20_0)) : Int) ≤ 65536 ∧ (((tc20_0) : Int) = 1 ∧ (((((u3_1 + tc20_0) - 1) / tc20_0)) : Int) = (u3_1) ∨ ((tc20_0) : Int) = 4 ∧ 1024 ≤ (u3_1) ∧ 4 * (((((u3_1 + tc20_0) - 1) / tc20_0)) : Int) ≤ (u3_1) + 3 ∧ (u3_1) ≤ 4 * (((((u3_1 + tc20_0) - 1) / tc20_0)) : Int)) := by rcases (show ((tc20_0) : Int) = 1 ∧ (u3_1) < 1024 ∨ ((tc20_0) : Int) = 4 ∧ 1024 ≤ (u3_1) by (have qg0 := HIDe r6; omega)) with q | q <;> rw [q.1] <;> (have qg0 := HIDe r6; omega)
    have hes : ((tc20_0) : Int) = 1 ∧ (((((u3_1 + tc20_0) - 1) / tc20_0)) : Int) = (u3_1) ∧ (u3_1) < 1024 ∨ ((tc20_0) : Int) = 4 ∧ (((((u3_1 + tc20_0) - 1) / tc20_0)) : Int) = ((u3_1) + 3) / 4 ∧ 1024 ≤ (u3_1) := by rcases (show ((tc20_0) : Int) = 1 ∧ (u3_1) < 1024 ∨ ((tc20_0) : Int) = 4 ∧ 1024 ≤ (u3_1) by (have qg0 := HIDe r6; omega)) with q | q; (left; rw [q.1]; (have qg0 := HIDe r6; omega)); (right; rw [q.1]; (have qg0 := HIDe r6; omega))
    refine Ew_of (pcₚ := 30) (fun _ => x_istore rfl) ?_
    refine Ew_of (pcₚ := 31) (fun _ => x_iload_n rfl (rk_o (rk_s) rfl rfl)) ?_
    refine Ew_of (pcₚ := 32) (fun _ => x_iconst rfl) ?_
    have hc60 : ∀ (tc60_0 : Int), ∀ (ls : rO) (σ : rS) (F_c60 : hF) (A_c60 : hA) , rlook ls 0 = some (.ref (D 0)) → rlook ls 1 = some (I (a1)) → rlook ls 2 = some (I (u3_1)) → rlook ls 3 = some (I (tc20_0)) → rlook ls 4 = some (I ((((u3_1 + tc20_0) - 1) / tc20_0))) → HW V142 σ D N F_c60 A_c60 → OUT (V142).length D N σE c s D N σ c s → SF [] F_c20 F_c60 → SA [] A_c20 A_c60 → (inr (tc60_0)) → (((tc20_0) ≠ (1) ∧ (u3_1) ≥ (16384) ∧ (tc60_0) = (5)) ∨ ((tc20_0) ≠ (1) ∧ (u3_1) < (16384) ∧ ((a1 - 4)) ≥ (16384) ∧ (tc60_0) = (5)) ∨ ((tc20_0) ≠ (1) ∧ (u3_1) < (16384) ∧ ((a1 - 4)) < (16384) ∧ (tc60_0) = (4)) ∨ ((tc20_0) = (1) ∧ (tc60_0) = (3))) → Ew 142 (d + 3) 60 ls [I (tc60_0)] σ c s Q := by
     as_aux_lemma =>
      intro tc60_0 ls σ F_c60 A_c60  lc60_0 lc60_1 lc60_2 lc60_3 lc60_4 H O hS_c60 hA_c60     jc60_0 jc60_1
      have cF_c60 : SF oz_L5clsl_0 F F_c60 := SF_trans (cF_c20) hS_c60 (any_sub (by decide +kernel))
      have mF_c60 := SFm_of cF_c60 oz_L5cls_8
      have cA_c60 : SA oz_L5clsl_1 A A_c60 := SA_trans (cA_c20) hA_c60 (any_subA (by decide +kernel))
      have mA_c60 := SAm_of cA_c60 oz_L5cls_9
      refine Ew_of (pcₚ := 62) (fun _ => x_istore rfl) ?_
      refine Ew_of (pcₚ := 63) (fun _ => x_iload_n rfl (rk_o (lc60_3) rfl rfl)) ?_
      refine Ew_of (pcₚ := 64) (fun _ => x_iconst rfl) ?_
      have hc75 : ∀ (tc75_0 : Int), ∀ (ls : rO) (σ : rS) (F_c75 : hF) (A_c75 : hA) , rlook ls 0 = some (.ref (D 0)) → rlook ls 1 = some (I (a1)) → rlook ls 2 = some (I (u3_1)) → rlook ls 3 = some (I (tc20_0)) → rlook ls 4 = some (I ((((u3_1 + tc20_0) - 1) / tc20_0))) → rlook ls 5 = some (I (tc60_0)) → HW V142 σ D N F_c75 A_c75 → OUT (V142).length D N σE c s D N σ c s → SF [] F_c60 F_c75 → SA [] A_c60 A_c75 → (inr (tc75_0)) → (((tc20_0) ≠ (1) ∧ (tc75_0) = ((tc60_0 - 2))) ∨ ((tc20_0) = (1) ∧ (tc75_0) = (0))) → Ew 142 (d + 3) 75 ls [I (tc75_0)] σ c s Q := by
       as_aux_lemma =>
        intro tc75_0 ls σ F_c75 A_c75  lc75_0 lc75_1 lc75_2 lc75_3 lc75_4 lc75_5 H O hS_c75 hA_c75     jc75_0 jc75_1
        have cF_c75 : SF oz_L5clsl_0 F F_c75 := SF_trans (cF_c60) hS_c75 (any_sub (by decide +kernel))
        have mF_c75 := SFm_of cF_c75 oz_L5cls_8
        have cA_c75 : SA oz_L5clsl_1 A A_c75 := SA_trans (cA_c60) hA_c75 (any_subA (by decide +kernel))
        have mA_c75 := SAm_of cA_c75 oz_L5cls_9
        refine Ew_of (pcₚ := 77) (fun _ => x_istore rfl) ?_
        refine Ew_of (pcₚ := 78) (fun _ => x_iload_n rfl (rk_o (lc75_3) rfl rfl)) ?_
        refine Ew_of (pcₚ := 79) (fun _ => x_iconst rfl) ?_
        have hc94 : ∀ (tc94_0 : Int), ∀ (ls : rO) (σ : rS) (F_c94 : hF) (A_c94 : hA) , rlook ls 0 = some (.ref (D 0)) → rlook ls 1 = some (I (a1)) → rlook ls 2 = some (I (u3_1)) → rlook ls 3 = some (I (tc20_0)) → rlook ls 4 = some (I ((((u3_1 + tc20_0) - 1) / tc20_0))) → rlook ls 5 = some (I (tc60_0)) → rlook ls 6 = some (I (tc75_0)) → HW V142 σ D N F_c94 A_c94 → OUT (V142).length D N σE c s D N σ c s → SF [] F_c75 F_c94 → SA [] A_c75 A_c94 → (inr (tc94_0)) → (((tc20_0) ≠ (1) ∧ (tc94_0) = (((4 * tc75_0) + 6))) ∨ ((tc20_0) = (1) ∧ (tc94_0) = (10))) → Ew 142 (d + 3) 94 ls [I (tc94_0)] σ c s Q := by
         as_aux_lemma =>
          intro tc94_0 ls σ F_c94 A_c94  lc94_0 lc94_1 lc94_2 lc94_3 lc94_4 lc94_5 lc94_6 H O hS_c94 hA_c94     jc94_0 jc94_1
          have cF_c94 : SF oz_L5clsl_0 F F_c94 := SF_trans (cF_c75) hS_c94 (any_sub (by decide +kernel))
          have mF_c94 := SFm_of cF_c94 oz_L5cls_8
          have cA_c94 : SA oz_L5clsl_1 A A_c94 := SA_trans (cA_c75) hA_c94 (any_subA (by decide +kernel))
          have mA_c94 := SAm_of cA_c94 oz_L5cls_9
          refine Ew_of (pcₚ := 96) (fun _ => x_istore rfl) ?_
          have hhd := HCL (n := (u3_1)) (b := ((dlF ((u0_16)) ((u5_1))) + STZ ((w10)) (ub8 ((w4))) ((u3_1)))) (l := (tc75_0)) (head := (tc60_0)) (w := (tc94_0)) (by (have qg0 := HIDe r1; have qg1 := HIDe r6; have qg2 := HIDe r7; omega)) (by (have qg0 := HIDe r1; have qg1 := HIDe r6; have qg2 := HIDe r7; omega))
          have hBe : (a1) - (tc60_0) = ((dlF ((u0_16)) ((u5_1))) + STZ ((w10)) (ub8 ((w4))) ((u3_1))) := by (have qg0 := HIDe r1; have qg1 := HIDe r6; have qg2 := HIDe r7; omega)
          have hpw : (u3_1) < p2 ((tc94_0)) := HPW (by (have qg0 := HIDe r6; omega))
          refine Ew_of (pcₚ := 97) (fun _ => x_aload_n rfl (rk_o (lc94_0) rfl rfl)) ?_
          refine v_g H (o := 0) (v := .ref (D 1)) rfl rfl rfl rfl rfl (vrf ((mF_c94 0 8 rfl).trans (pf1))) ?_
          refine Ew_of (pcₚ := 101) (fun _ => x_iload_n rfl (rk_o (lc94_1) rfl rfl)) ?_
          refine Ew_of (pcₚ := 103) (fun _ => x_iload rfl (rk_o (lc94_5) rfl rfl)) ?_
          refine w_isub rfl ?_
          refine w_i2l rfl (show inr ((a1 - tc60_0)) by omega) ?_
          refine Ew_of (pcₚ := 106) (fun _ => x_iconst rfl) ?_
          refine Ew_of (pcₚ := 108) (fun _ => x_iload rfl rk_s) ?_
          refine w_iadd rfl ?_
          refine w_lshlE rfl ?_
          have g14 : inrJ (shlJ ((a1 - tc60_0)) ((4 + tc94_0))) := toJ_inr _
          refine Ew_of (pcₚ := 111) (fun _ => x_iload_n rfl (rk_o (lc94_2) rfl rfl)) ?_
          refine w_i2l rfl (show inr (u3_1) from q_4425 h14 h3) ?_
          refine Ew_of (pcₚ := 113) (fun _ => x_iconst rfl) ?_
          refine w_lshlE rfl ?_
          have g15 : inrJ (shlJ (u3_1) (4)) := toJ_inr _
          refine w_lorE rfl ?_
          have g16 : inrJ (orJ ((shlJ ((a1 - tc60_0)) ((4 + tc94_0)))) ((shlJ (u3_1) (4)))) := toJ_inr _
          refine Ew_of (pcₚ := 117) (fun _ => x_iload rfl (rk_o (lc94_6) rfl rfl)) ?_
          refine Ew_of (pcₚ := 118) (fun _ => x_iconst rfl) ?_
          refine w_ishlE rfl ?_
          have g17 : inr (slI (tc75_0) (2)) := toI_inr _
          refine w_i2l rfl (show inr ((slI (tc75_0) (2))) from g17) ?_
          refine w_lorE rfl ?_
          have g18 : inrJ (orJ ((orJ ((shlJ ((a1 - tc60_0)) ((4 + tc94_0)))) ((shlJ (u3_1) (4))))) ((slI (tc75_0) (2)))) := toJ_inr _
          refine Ew_of (pcₚ := 122) (fun _ => x_aload_n rfl (rk_o (lc94_0) rfl rfl)) ?_
          refine v_g H (o := 0) (v := I (u0_16)) rfl rfl rfl rfl rfl (congrArg (fun z : Int => I z) (((mF_c94 0 16 rfl).trans (eu0_16)) : F_c94 0 16 = u0_16)) ?_
          refine w_i2l rfl (show inr (u0_16) from q_4426 h11) ?_
          refine w_lorE rfl ?_
          have g19 : inrJ (orJ ((orJ ((orJ ((shlJ ((a1 - tc60_0)) ((4 + tc94_0)))) ((shlJ (u3_1) (4))))) ((slI (tc75_0) (2))))) (u0_16)) := toJ_inr _
          obtain ⟨qh, hqh⟩ : ∃ q : Int, q = ((orJ ((orJ ((orJ ((shlJ ((a1 - tc60_0)) ((4 + tc94_0)))) ((shlJ (u3_1) (4))))) ((slI (tc75_0) (2))))) (u0_16))) := ⟨_, rfl⟩
          rw [← hqh]
          have gqh : inrJ qh := by rw [hqh]; first | assumption | omega
          replace hqh : IMP True (qh = ((orJ ((orJ ((orJ ((shlJ ((a1 - tc60_0)) ((4 + tc94_0)))) ((shlJ (u3_1) (4))))) ((slI (tc75_0) (2))))) (u0_16)))) := fun _ => hqh
          try clear g19
          try clear g18
          try clear g17
          try clear g16
          try clear g15
          try clear g14
          refine Ew_of (pcₚ := 129) (fun _ => x_iload rfl (rk_o (lc94_5) rfl rfl)) ?_
          have hqv : qh = HDV ((u0_16)) ((tc75_0)) ((u3_1)) ((a1) - (tc60_0)) ((tc94_0)) := (hqh trivial).trans (HDC (by (have qg0 := HIDe r1; have qg1 := HIDe r6; omega)) (by (have qg0 := HIDe r1; have qg1 := HIDe r6; omega)) (slI_4 (by (have qg0 := HIDe r1; have qg1 := HIDe r6; omega))) (by (have qg0 := HIDe r1; have qg1 := HIDe r6; omega)) ⟨by (have qg0 := HIDe r1; have qg1 := HIDe r6; omega), hpw⟩ (by (have qg0 := HIDe r1; have qg1 := HIDe r6; omega)))
          refine v_inv H (o := 1) rfl rfl rfl rfl rfl rfl (by rfl) (C160 (D := puc 1025 D) (N := puc 1025 N) (HW_subc H oz_L5cls_1 oz_L5cls_10) ((((((hS_c94 1 0 rfl).trans (hS_c75 1 0 rfl)).trans (hS_c60 1 0 rfl)).trans (hS_c20 1 0 rfl))).trans (pf2)) (n2) (en2) (u1_1) ((((((hS_c94 1 1 rfl).trans (hS_c75 1 1 rfl)).trans (hS_c60 1 1 rfl)).trans (hS_c20 1 1 rfl)).trans (eu1_1))) (u1_2) ((((((hS_c94 1 2 rfl).trans (hS_c75 1 2 rfl)).trans (hS_c60 1 2 rfl)).trans (hS_c20 1 2 rfl)).trans (eu1_2))) (w2) ((funext (hA_c94 2 rfl)).trans ((funext (hA_c75 2 rfl)).trans ((funext (hA_c60 2 rfl)).trans ((funext (hA_c20 2 rfl)).trans (ew2))))) (show inrJ (qh) from gqh) (show inr (tc60_0) from jc60_0) (show 0 ≤ (u1_1) ∧ (u1_1) ≤ (n2) ∧ (n2) ≤ 65536 from h1) (show 0 ≤ (tc60_0) ∧ (tc60_0) ≤ 8 by omega) (fun σ20 D20ₚ N20ₚ F20ₚ A20ₚ c20 s20 Hₚ Oₚ hD20 hN20 hS20 hA20 (pm20_1 : HID _) m20_1 (em20_1 : HID _) y20_0_1 (ey20_0_1 : HID _) y20_0_2 (ey20_0_2 : HID _) w20_1 ew20_1 pz20_0 pz20_1 pz20_2 => ⟨rfl, ?_⟩))
          refine v_backMc (c := c) (s := s) H oz_L5cls_1 oz_L5cls_10 Hₚ Oₚ hD20 oz_L5cls_2 (fun D20 N20 F20 A20 H Oₚ eD20 eN20 eF20 eA20 => ?_)
          have O := OUT_trans O Oₚ
          -- Row.addNumber
          have cF20 : SF oz_L5clsl_0 F F20 := SF_trans (cF_c94) (SF_gluc (ι := oz_L5clsl_2) oz_L5cls_10 hS20 eF20 (by decide +kernel)) (any_sub (lₚ := [(1, 0), (1, 1), (1, 2)]) (by decide +kernel))
          have mF20 := SFm_of cF20 oz_L5cls_8
          have cA20 : SA oz_L5clsl_1 A A20 := SA_trans (cA_c94) (SA_gluc (ι := oz_L5clsl_2) oz_L5cls_10 hA20 eA20 (by decide +kernel)) (any_subA (lₚ := [2]) (by decide +kernel))
          have mA20 := SAm_of cA20 oz_L5cls_9
          have cD20 : SD oz_L5clsl_1 D D20 := SD_trans (SD_refl) (SD_gluc (ι := oz_L5clsl_2) oz_L5cls_10 hD20 eD20 (by decide +kernel)) (any_subA (lₚ := [2]) (by decide +kernel))
          have mD20 := SDm_of cD20 oz_L5cls_9
          have cN20 : SD oz_L5clsl_1 N N20 := SD_trans (SD_refl) (SD_gluc (ι := oz_L5clsl_2) oz_L5cls_10 hN20 eN20 (by decide +kernel)) (any_subA (lₚ := [2]) (by decide +kernel))
          have mN20 := SDm_of cN20 oz_L5cls_9
          have pf20_1_0 : HID (F20 1 0 = (D20 2 : Int)) := (eF20 1 0).trans (pm20_1.trans (congrArg (fun q : Nat => (q : Int)) (eD20 2).symm))
          have r22 : HID ((-2147483648 : Int) ≤ y20_0_1 ∧ y20_0_1 ≤ 2147483647) := krg_e (show (-2147483648 : Int) ≤ F20 1 1 ∧ F20 1 1 ≤ 2147483647 from H.krg 1 1 (ltn len_V142_oz_L5cls rfl)) (show F20 1 1 = y20_0_1 from ((eF20 1 1).trans ey20_0_1))
          have r23 : HID ((0 : Int) ≤ y20_0_2 ∧ y20_0_2 ≤ 1) := krg_e (show (0 : Int) ≤ F20 1 2 ∧ F20 1 2 ≤ 1 from H.krg 1 2 (ltn len_V142_oz_L5cls rfl)) (show F20 1 2 = y20_0_2 from ((eF20 1 2).trans ey20_0_2))
          have hc162 : ∀ (ls : rO) (σ : rS) (D_c162 N_c162 : Nat → Nat) (c_c162 s_c162 : Nat) (F_c162 : hF) (A_c162 : hA) , rlook ls 0 = some (.ref (D_c162 0)) → rlook ls 2 = some (I (u3_1)) → rlook ls 3 = some (I (tc20_0)) → rlook ls 4 = some (I ((((u3_1 + tc20_0) - 1) / tc20_0))) → HW V142 σ D_c162 N_c162 F_c162 A_c162 → OUT (V142).length D N σE c s D_c162 N_c162 σ c_c162 s_c162 → SD [2] D20 D_c162 → SD [2] N20 N_c162 → SF [(1, 0), (1, 1), (1, 2)] F20 F_c162 → SA [2] A20 A_c162 → F_c162 1 0 = (D_c162 2 : Int) → ∀ mc162_2 : Int, (N_c162 2 : Int) = mc162_2 → ∀ yc162_1_1 : Int, F_c162 1 1 = yc162_1_1 → ∀ yc162_1_2 : Int, F_c162 1 2 = yc162_1_2 → ∀ wc162_2 : Int → Int, A_c162 2 = wc162_2 → (0 ≤ (yc162_1_1) ∧ (yc162_1_1) ≤ (mc162_2) ∧ (mc162_2) ≤ 65536) → ((u1_4) = 0 ∧ (u1_3) = 0 ∧ (yc162_1_2) = 0) → ((yc162_1_1) ≤ 133) → (sc ((wc162_2)) 0 ((yc162_1_1)) = (nb (HDV ((u0_16)) (hlF ((u3_1)) ((dlF ((u0_16)) ((u5_1))) + STZ ((w10)) (ub8 ((w4))) ((u3_1)))) ((u3_1)) ((dlF ((u0_16)) ((u5_1))) + STZ ((w10)) (ub8 ((w4))) ((u3_1))) (wdF (hlF ((u3_1)) ((dlF ((u0_16)) ((u5_1))) + STZ ((w10)) (ub8 ((w4))) ((u3_1)))))) (hbF (hlF ((u3_1)) ((dlF ((u0_16)) ((u5_1))) + STZ ((w10)) (ub8 ((w4))) ((u3_1))))) ++ DLs ((u0_16)) (sc ((w6)) 0 ((u5_1))))) → Ew 142 (d + 3) 162 ls [] σ c_c162 s_c162 Q := by
           as_aux_lemma =>
            intro  ls σ D_c162 N_c162 c_c162 s_c162 F_c162 A_c162  lc162_0 lc162_2 lc162_3 lc162_4 H O hD_c162 hN_c162 hS_c162 hA_c162 pmc162_2 mc162_2 emc162_2 yc162_1_1 eyc162_1_1 yc162_1_2 eyc162_1_2 wc162_2 ewc162_2 jc162_0 jc162_1 jc162_2 jc162_3
            have cF_c162 : SF oz_L5clsl_0 F F_c162 := SF_trans (cF20) hS_c162 (any_sub (by decide +kernel))
            have mF_c162 := SFm_of cF_c162 oz_L5cls_8
            have cA_c162 : SA oz_L5clsl_1 A A_c162 := SA_trans (cA20) hA_c162 (any_subA (by decide +kernel))
            have mA_c162 := SAm_of cA_c162 oz_L5cls_9
            have cD_c162 : SD oz_L5clsl_1 D D_c162 := SD_trans (cD20) hD_c162 (any_subA (by decide +kernel))
            have mD_c162 := SDm_of cD_c162 oz_L5cls_9
            have cN_c162 : SD oz_L5clsl_1 N N_c162 := SD_trans (cN20) hN_c162 (any_subA (by decide +kernel))
            have mN_c162 := SDm_of cN_c162 oz_L5cls_9
            replace pmc162_2 := HIDm pmc162_2
            replace emc162_2 := HIDm emc162_2
            replace eyc162_1_1 := HIDm eyc162_1_1
            replace eyc162_1_2 := HIDm eyc162_1_2
            try clear pz20_1
            have r25 : HID ((-2147483648 : Int) ≤ yc162_1_1 ∧ yc162_1_1 ≤ 2147483647) := krg_e (show (-2147483648 : Int) ≤ F_c162 1 1 ∧ F_c162 1 1 ≤ 2147483647 from H.krg 1 1 (ltn len_V142_oz_L5cls rfl)) (show F_c162 1 1 = yc162_1_1 from (eyc162_1_1))
            have k162_s : sc ((wc162_2)) 0 ((yc162_1_1)) = (nb (HDV ((u0_16)) (hlF ((u3_1)) ((dlF ((u0_16)) ((u5_1))) + STZ ((w10)) (ub8 ((w4))) ((u3_1)))) ((u3_1)) ((dlF ((u0_16)) ((u5_1))) + STZ ((w10)) (ub8 ((w4))) ((u3_1))) (wdF (hlF ((u3_1)) ((dlF ((u0_16)) ((u5_1))) + STZ ((w10)) (ub8 ((w4))) ((u3_1)))))) (hbF (hlF ((u3_1)) ((dlF ((u0_16)) ((u5_1))) + STZ ((w10)) (ub8 ((w4))) ((u3_1))))) ++ DLs ((u0_16)) (sc ((w6)) 0 ((u5_1)))) := by assumption
            try clear pz20_1
            refine Ew_of (pcₚ := 163) (fun _ => x_iconst rfl) ?_
            refine Ew_of (pcₚ := 165) (fun _ => x_istore rfl) ?_
            have : sc ((wc162_2)) 0 ((yc162_1_1)) = (nb (HDV ((u0_16)) (hlF ((u3_1)) ((dlF ((u0_16)) ((u5_1))) + STZ ((w10)) (ub8 ((w4))) ((u3_1)))) ((u3_1)) ((dlF ((u0_16)) ((u5_1))) + STZ ((w10)) (ub8 ((w4))) ((u3_1))) (wdF (hlF ((u3_1)) ((dlF ((u0_16)) ((u5_1))) + STZ ((w10)) (ub8 ((w4))) ((u3_1)))))) (hbF (hlF ((u3_1)) ((dlF ((u0_16)) ((u5_1))) + STZ ((w10)) (ub8 ((w4))) ((u3_1))))) ++ DLs ((u0_16)) (sc ((w6)) 0 ((u5_1)))) ++ N4 ((w10)) (ub8 ((w4))) (((((u3_1 + tc20_0) - 1) / tc20_0))) (0 : Int).toNat := by rw [N4_0 (by (have qg0 := HIDe r1; have qg1 := HIDe r25; have qg2 := HIDe r6; have qg3 := HIDe r7; omega)), List.append_nil]; exact k162_s
            suffices hl165 : ∀ (m : Nat), ∀ (ls : rO) (σ : rS) (D_165 N_165 : Nat → Nat) (c_165 s_165 : Nat) (F_165 : hF) (A_165 : hA) (x165_8 : Int), rlook ls 0 = some (.ref (D_165 0)) → rlook ls 2 = some (I (u3_1)) → rlook ls 3 = some (I (tc20_0)) → rlook ls 4 = some (I ((((u3_1 + tc20_0) - 1) / tc20_0))) → rlook ls 8 = some (I (x165_8)) → HW V142 σ D_165 N_165 F_165 A_165 → OUT (V142).length D N σE c s D_165 N_165 σ c_165 s_165 → SD [2] D_c162 D_165 → SD [2] N_c162 N_165 → SF [(1, 0), (1, 1), (1, 2)] F_c162 F_165 → SA [2] A_c162 A_165 → F_165 1 0 = (D_165 2 : Int) → ∀ m165_2 : Int, (N_165 2 : Int) = m165_2 → ∀ y165_1_1 : Int, F_165 1 1 = y165_1_1 → ∀ y165_1_2 : Int, F_165 1 2 = y165_1_2 → ∀ w165_2 : Int → Int, A_165 2 = w165_2 → (inr (x165_8)) → (0 ≤ (x165_8) ∧ (x165_8) ≤ 4 ∧ (x165_8) ≤ (tc20_0) - 1) → (0 ≤ (y165_1_1) ∧ (y165_1_1) ≤ (m165_2) ∧ (m165_2) ≤ 65536) → ((u1_4) = 0 ∧ (u1_3) = 0 ∧ (y165_1_2) = 0) → ((y165_1_1) ≤ 133 + 2 * (x165_8)) → (sc ((w165_2)) 0 ((y165_1_1)) = (nb (HDV ((u0_16)) (hlF ((u3_1)) ((dlF ((u0_16)) ((u5_1))) + STZ ((w10)) (ub8 ((w4))) ((u3_1)))) ((u3_1)) ((dlF ((u0_16)) ((u5_1))) + STZ ((w10)) (ub8 ((w4))) ((u3_1))) (wdF (hlF ((u3_1)) ((dlF ((u0_16)) ((u5_1))) + STZ ((w10)) (ub8 ((w4))) ((u3_1)))))) (hbF (hlF ((u3_1)) ((dlF ((u0_16)) ((u5_1))) + STZ ((w10)) (ub8 ((w4))) ((u3_1))))) ++ DLs ((u0_16)) (sc ((w6)) 0 ((u5_1)))) ++ N4 ((w10)) (ub8 ((w4))) (((((u3_1 + tc20_0) - 1) / tc20_0))) ((x165_8) : Int).toNat) → (4 - (x165_8)).toNat = m → Ew 142 (d + 3) 165 ls [] σ c_165 s_165 Q from
              hl165 _ _ _ _ _ _ _ _ _ (0) (rk_o (lc162_0) rfl rfl) (rk_o (lc162_2) rfl rfl) (rk_o (lc162_3) rfl rfl) (rk_o (lc162_4) rfl rfl) (rk_s) H O (SD_refl) (SD_refl) (SF_refl) (SA_refl) (pmc162_2) (mc162_2) (emc162_2) (yc162_1_1) ((eyc162_1_1)) (yc162_1_2) ((eyc162_1_2)) (wc162_2) (ewc162_2) (show inr (0) from q_2) (show 0 ≤ (0) ∧ (0) ≤ 4 ∧ (0) ≤ (tc20_0) - 1 from q_4428 hes jc94_1) (show 0 ≤ (yc162_1_1) ∧ (yc162_1_1) ≤ (mc162_2) ∧ (mc162_2) ≤ 65536 from jc162_0) (show (u1_4) = 0 ∧ (u1_3) = 0 ∧ (yc162_1_2) = 0 from jc162_1) (show (yc162_1_1) ≤ 133 + 2 * (0) from q_4427 jc162_2) (show sc ((wc162_2)) 0 ((yc162_1_1)) = (nb (HDV ((u0_16)) (hlF ((u3_1)) ((dlF ((u0_16)) ((u5_1))) + STZ ((w10)) (ub8 ((w4))) ((u3_1)))) ((u3_1)) ((dlF ((u0_16)) ((u5_1))) + STZ ((w10)) (ub8 ((w4))) ((u3_1))) (wdF (hlF ((u3_1)) ((dlF ((u0_16)) ((u5_1))) + STZ ((w10)) (ub8 ((w4))) ((u3_1)))))) (hbF (hlF ((u3_1)) ((dlF ((u0_16)) ((u5_1))) + STZ ((w10)) (ub8 ((w4))) ((u3_1))))) ++ DLs ((u0_16)) (sc ((w6)) 0 ((u5_1)))) ++ N4 ((w10)) (ub8 ((w4))) (((((u3_1 + tc20_0) - 1) / tc20_0))) ((0) : Int).toNat by assumption) rfl
            as_aux_lemma =>
            intro m
            induction m using Nat.strongRecOn with
            | _ m ih165 =>
              intro ls σ D_165 N_165 c_165 s_165 F_165 A_165 x165_8 l165_0 l165_2 l165_3 l165_4 l165_8 H O hD_165 hN_165 hS_165 hA_165 pm165_2 m165_2 em165_2 y165_1_1 ey165_1_1 y165_1_2 ey165_1_2 w165_2 ew165_2 j165_0 j165_1 j165_2 j165_3 j165_4 j165_5 hm165
              have cF_165 : SF oz_L5clsl_0 F F_165 := SF_trans (cF_c162) hS_165 (any_sub (by decide +kernel))
              have mF_165 := SFm_of cF_165 oz_L5cls_8
              have cA_165 : SA oz_L5clsl_1 A A_165 := SA_trans (cA_c162) hA_165 (any_subA (by decide +kernel))
              have mA_165 := SAm_of cA_165 oz_L5cls_9
              have cD_165 : SD oz_L5clsl_1 D D_165 := SD_trans (cD_c162) hD_165 (any_subA (by decide +kernel))
              have mD_165 := SDm_of cD_165 oz_L5cls_9
              have cN_165 : SD oz_L5clsl_1 N N_165 := SD_trans (cN_c162) hN_165 (any_subA (by decide +kernel))
              have mN_165 := SDm_of cN_165 oz_L5cls_9
              replace pm165_2 := HIDm pm165_2
              replace em165_2 := HIDm em165_2
              replace ey165_1_1 := HIDm ey165_1_1
              replace ey165_1_2 := HIDm ey165_1_2
              have r28 : HID ((-2147483648 : Int) ≤ y165_1_1 ∧ y165_1_1 ≤ 2147483647) := krg_e (show (-2147483648 : Int) ≤ F_165 1 1 ∧ F_165 1 1 ≤ 2147483647 from H.krg 1 1 (ltn len_V142_oz_L5cls rfl)) (show F_165 1 1 = y165_1_1 from (ey165_1_1))
              have j165_s : sc ((w165_2)) 0 ((y165_1_1)) = (nb (HDV ((u0_16)) (hlF ((u3_1)) ((dlF ((u0_16)) ((u5_1))) + STZ ((w10)) (ub8 ((w4))) ((u3_1)))) ((u3_1)) ((dlF ((u0_16)) ((u5_1))) + STZ ((w10)) (ub8 ((w4))) ((u3_1))) (wdF (hlF ((u3_1)) ((dlF ((u0_16)) ((u5_1))) + STZ ((w10)) (ub8 ((w4))) ((u3_1)))))) (hbF (hlF ((u3_1)) ((dlF ((u0_16)) ((u5_1))) + STZ ((w10)) (ub8 ((w4))) ((u3_1))))) ++ DLs ((u0_16)) (sc ((w6)) 0 ((u5_1)))) ++ N4 ((w10)) (ub8 ((w4))) (((((u3_1 + tc20_0) - 1) / tc20_0))) ((x165_8) : Int).toNat := by assumption
              refine Ew_of (pcₚ := 167) (fun _ => x_iload rfl l165_8) ?_
              refine Ew_of (pcₚ := 168) (fun _ => x_iload_n rfl l165_3) ?_
              refine Ew_of (pcₚ := 169) (fun _ => x_iconst rfl) ?_
              refine w_isub rfl ?_
              refine w_icmpge (t := 217) rfl rfl (show inr (x165_8) from j165_0) (show inr ((tc20_0 - 1)) from q_4429 j165_1 jc20_0) (fun b30 => ?_) (fun b30 => ?_)
              · have hs217 : sc ((w165_2)) 0 ((y165_1_1)) = (nb (HDV ((u0_16)) (hlF ((u3_1)) ((dlF ((u0_16)) ((u5_1))) + STZ ((w10)) (ub8 ((w4))) ((u3_1)))) ((u3_1)) ((dlF ((u0_16)) ((u5_1))) + STZ ((w10)) (ub8 ((w4))) ((u3_1))) (wdF (hlF ((u3_1)) ((dlF ((u0_16)) ((u5_1))) + STZ ((w10)) (ub8 ((w4))) ((u3_1)))))) (hbF (hlF ((u3_1)) ((dlF ((u0_16)) ((u5_1))) + STZ ((w10)) (ub8 ((w4))) ((u3_1))))) ++ DLs ((u0_16)) (sc ((w6)) 0 ((u5_1)))) ++ N4 ((w10)) (ub8 ((w4))) (((((u3_1 + tc20_0) - 1) / tc20_0))) ((tc20_0) - 1 : Int).toNat := by rw [show ((tc20_0) - 1 : Int) = (x165_8) by (have qg0 := HIDe r1; have qg1 := HIDe r28; have qg2 := HIDe r6; have qg3 := HIDe r7; omega)]; exact j165_s
                refine Ew_of (pcₚ := 218) (fun _ => x_iconst rfl) ?_
                refine Ew_of (pcₚ := 220) (fun _ => x_istore rfl) ?_
                have : sc ((w165_2)) 0 ((y165_1_1)) = (nb (HDV ((u0_16)) (hlF ((u3_1)) ((dlF ((u0_16)) ((u5_1))) + STZ ((w10)) (ub8 ((w4))) ((u3_1)))) ((u3_1)) ((dlF ((u0_16)) ((u5_1))) + STZ ((w10)) (ub8 ((w4))) ((u3_1))) (wdF (hlF ((u3_1)) ((dlF ((u0_16)) ((u5_1))) + STZ ((w10)) (ub8 ((w4))) ((u3_1)))))) (hbF (hlF ((u3_1)) ((dlF ((u0_16)) ((u5_1))) + STZ ((w10)) (ub8 ((w4))) ((u3_1))))) ++ DLs ((u0_16)) (sc ((w6)) 0 ((u5_1)))) ++ N4 ((w10)) (ub8 ((w4))) (((((u3_1 + tc20_0) - 1) / tc20_0))) ((tc20_0) - 1 : Int).toNat ++ S1 ((w10)) ((u8_3)) (ub8 ((w4))) ((u3_1)) (((((u3_1 + tc20_0) - 1) / tc20_0))) (0 : Int).toNat := by rw [S1_0 (by (have qg0 := HIDe r1; have qg1 := HIDe r28; have qg2 := HIDe r6; have qg3 := HIDe r7; have qg4 := HIDe r8; omega)), List.append_nil]; exact hs217
                have hzm : (0 : Int) * ((((u3_1 + tc20_0) - 1) / tc20_0)) = 0 := Int.zero_mul _
                suffices hl220 : ∀ (m : Nat), ∀ (ls : rO) (σ : rS) (D_220 N_220 : Nat → Nat) (c_220 s_220 : Nat) (F_220 : hF) (A_220 : hA) (x220_8 : Int), rlook ls 0 = some (.ref (D_220 0)) → rlook ls 2 = some (I (u3_1)) → rlook ls 3 = some (I (tc20_0)) → rlook ls 4 = some (I ((((u3_1 + tc20_0) - 1) / tc20_0))) → rlook ls 8 = some (I (x220_8)) → HW V142 σ D_220 N_220 F_220 A_220 → OUT (V142).length D N σE c s D_220 N_220 σ c_220 s_220 → SD [2] D_165 D_220 → SD [2] N_165 N_220 → SF [(1, 0), (1, 1), (1, 2), (1, 3), (1, 4)] F_165 F_220 → SA [2] A_165 A_220 → F_220 1 0 = (D_220 2 : Int) → ∀ m220_2 : Int, (N_220 2 : Int) = m220_2 → ∀ y220_1_1 : Int, F_220 1 1 = y220_1_1 → ∀ y220_1_2 : Int, F_220 1 2 = y220_1_2 → ∀ y220_1_3 : Int, F_220 1 3 = y220_1_3 → ∀ y220_1_4 : Int, F_220 1 4 = y220_1_4 → ∀ w220_2 : Int → Int, A_220 2 = w220_2 → (inr (x220_8)) → (0 ≤ (x220_8) ∧ (x220_8) ≤ 4 ∧ (x220_8) ≤ (tc20_0)) → (0 ≤ (y220_1_1) ∧ (y220_1_1) ≤ (m220_2) ∧ (m220_2) ≤ 65536) → (0 ≤ (y220_1_4) ∧ (y220_1_4) ≤ 7) → ((y220_1_4) = 0 ∧ (y220_1_3) = 0 ∧ (y220_1_2) = 0) → ((y220_1_1) ≤ 141 + 2 * ((x220_8) * ((((u3_1 + tc20_0) - 1) / tc20_0))) + 3 * (x220_8)) → (sc ((w220_2)) 0 ((y220_1_1)) = (nb (HDV ((u0_16)) (hlF ((u3_1)) ((dlF ((u0_16)) ((u5_1))) + STZ ((w10)) (ub8 ((w4))) ((u3_1)))) ((u3_1)) ((dlF ((u0_16)) ((u5_1))) + STZ ((w10)) (ub8 ((w4))) ((u3_1))) (wdF (hlF ((u3_1)) ((dlF ((u0_16)) ((u5_1))) + STZ ((w10)) (ub8 ((w4))) ((u3_1)))))) (hbF (hlF ((u3_1)) ((dlF ((u0_16)) ((u5_1))) + STZ ((w10)) (ub8 ((w4))) ((u3_1))))) ++ DLs ((u0_16)) (sc ((w6)) 0 ((u5_1)))) ++ N4 ((w10)) (ub8 ((w4))) (((((u3_1 + tc20_0) - 1) / tc20_0))) ((tc20_0) - 1 : Int).toNat ++ S1 ((w10)) ((u8_3)) (ub8 ((w4))) ((u3_1)) (((((u3_1 + tc20_0) - 1) / tc20_0))) ((x220_8) : Int).toNat) → (4 - (x220_8)).toNat = m → Ew 142 (d + 3) 220 ls [] σ c_220 s_220 Q from
                  hl220 _ _ _ _ _ _ _ _ _ (0) (rk_o (l165_0) rfl rfl) (rk_o (l165_2) rfl rfl) (rk_o (l165_3) rfl rfl) (rk_o (l165_4) rfl rfl) (rk_s) H O (SD_refl) (SD_refl) (SF_refl) (SA_refl) (pm165_2) (m165_2) (em165_2) (y165_1_1) ((ey165_1_1)) (y165_1_2) ((ey165_1_2)) (u1_3) (((((((((hS_165 1 3 rfl).trans (hS_c162 1 3 rfl)).trans ((show F20 1 3 = F_c94 1 3 from (eF20 1 3).trans (hS20 0 3 rfl)))).trans (hS_c94 1 3 rfl)).trans (hS_c75 1 3 rfl)).trans (hS_c60 1 3 rfl)).trans (hS_c20 1 3 rfl)).trans (eu1_3))) (u1_4) (((((((((hS_165 1 4 rfl).trans (hS_c162 1 4 rfl)).trans ((show F20 1 4 = F_c94 1 4 from (eF20 1 4).trans (hS20 0 4 rfl)))).trans (hS_c94 1 4 rfl)).trans (hS_c75 1 4 rfl)).trans (hS_c60 1 4 rfl)).trans (hS_c20 1 4 rfl)).trans (eu1_4))) (w165_2) (ew165_2) (show inr (0) from q_2) (show 0 ≤ (0) ∧ (0) ≤ 4 ∧ (0) ≤ (tc20_0) from q_4431 j165_1) (show 0 ≤ (y165_1_1) ∧ (y165_1_1) ≤ (m165_2) ∧ (m165_2) ≤ 65536 from j165_2) (show 0 ≤ (u1_4) ∧ (u1_4) ≤ 7 from h2) (show (u1_4) = 0 ∧ (u1_3) = 0 ∧ (y165_1_2) = 0 from j165_3) (show (y165_1_1) ≤ 141 + 2 * ((0) * ((((u3_1 + tc20_0) - 1) / tc20_0))) + 3 * (0) from q_4430 j165_1 j165_4) (show sc ((w165_2)) 0 ((y165_1_1)) = (nb (HDV ((u0_16)) (hlF ((u3_1)) ((dlF ((u0_16)) ((u5_1))) + STZ ((w10)) (ub8 ((w4))) ((u3_1)))) ((u3_1)) ((dlF ((u0_16)) ((u5_1))) + STZ ((w10)) (ub8 ((w4))) ((u3_1))) (wdF (hlF ((u3_1)) ((dlF ((u0_16)) ((u5_1))) + STZ ((w10)) (ub8 ((w4))) ((u3_1)))))) (hbF (hlF ((u3_1)) ((dlF ((u0_16)) ((u5_1))) + STZ ((w10)) (ub8 ((w4))) ((u3_1))))) ++ DLs ((u0_16)) (sc ((w6)) 0 ((u5_1)))) ++ N4 ((w10)) (ub8 ((w4))) (((((u3_1 + tc20_0) - 1) / tc20_0))) ((tc20_0) - 1 : Int).toNat ++ S1 ((w10)) ((u8_3)) (ub8 ((w4))) ((u3_1)) (((((u3_1 + tc20_0) - 1) / tc20_0))) ((0) : Int).toNat by assumption) rfl
                as_aux_lemma =>
                intro m
                induction m using Nat.strongRecOn with
                | _ m ih220 =>
                  intro ls σ D_220 N_220 c_220 s_220 F_220 A_220 x220_8 l220_0 l220_2 l220_3 l220_4 l220_8 H O hD_220 hN_220 hS_220 hA_220 pm220_2 m220_2 em220_2 y220_1_1 ey220_1_1 y220_1_2 ey220_1_2 y220_1_3 ey220_1_3 y220_1_4 ey220_1_4 w220_2 ew220_2 j220_0 j220_1 j220_2 j220_3 j220_4 j220_5 j220_6 hm220
                  have cF_220 : SF oz_L5clsl_0 F F_220 := SF_trans (cF_165) hS_220 (any_sub (by decide +kernel))
                  have mF_220 := SFm_of cF_220 oz_L5cls_8
                  have cA_220 : SA oz_L5clsl_1 A A_220 := SA_trans (cA_165) hA_220 (any_subA (by decide +kernel))
                  have mA_220 := SAm_of cA_220 oz_L5cls_9
                  have cD_220 : SD oz_L5clsl_1 D D_220 := SD_trans (cD_165) hD_220 (any_subA (by decide +kernel))
                  have mD_220 := SDm_of cD_220 oz_L5cls_9
                  have cN_220 : SD oz_L5clsl_1 N N_220 := SD_trans (cN_165) hN_220 (any_subA (by decide +kernel))
                  have mN_220 := SDm_of cN_220 oz_L5cls_9
                  replace pm220_2 := HIDm pm220_2
                  replace em220_2 := HIDm em220_2
                  replace ey220_1_1 := HIDm ey220_1_1
                  replace ey220_1_2 := HIDm ey220_1_2
                  replace ey220_1_3 := HIDm ey220_1_3
                  replace ey220_1_4 := HIDm ey220_1_4
                  have r32 : HID ((-2147483648 : Int) ≤ y220_1_1 ∧ y220_1_1 ≤ 2147483647) := krg_e (show (-2147483648 : Int) ≤ F_220 1 1 ∧ F_220 1 1 ≤ 2147483647 from H.krg 1 1 (ltn len_V142_oz_L5cls rfl)) (show F_220 1 1 = y220_1_1 from (ey220_1_1))
                  have r33 : HID ((0 : Int) ≤ y220_1_2 ∧ y220_1_2 ≤ 1) := krg_e (show (0 : Int) ≤ F_220 1 2 ∧ F_220 1 2 ≤ 1 from H.krg 1 2 (ltn len_V142_oz_L5cls rfl)) (show F_220 1 2 = y220_1_2 from (ey220_1_2))
                  have r34 : HID ((-2147483648 : Int) ≤ y220_1_3 ∧ y220_1_3 ≤ 2147483647) := krg_e (show (-2147483648 : Int) ≤ F_220 1 3 ∧ F_220 1 3 ≤ 2147483647 from H.krg 1 3 (ltn len_V142_oz_L5cls rfl)) (show F_220 1 3 = y220_1_3 from (ey220_1_3))
                  have r35 : HID ((-2147483648 : Int) ≤ y220_1_4 ∧ y220_1_4 ≤ 2147483647) := krg_e (show (-2147483648 : Int) ≤ F_220 1 4 ∧ F_220 1 4 ≤ 2147483647 from H.krg 1 4 (ltn len_V142_oz_L5cls rfl)) (show F_220 1 4 = y220_1_4 from (ey220_1_4))
                  have j220_s : sc ((w220_2)) 0 ((y220_1_1)) = (nb (HDV ((u0_16)) (hlF ((u3_1)) ((dlF ((u0_16)) ((u5_1))) + STZ ((w10)) (ub8 ((w4))) ((u3_1)))) ((u3_1)) ((dlF ((u0_16)) ((u5_1))) + STZ ((w10)) (ub8 ((w4))) ((u3_1))) (wdF (hlF ((u3_1)) ((dlF ((u0_16)) ((u5_1))) + STZ ((w10)) (ub8 ((w4))) ((u3_1)))))) (hbF (hlF ((u3_1)) ((dlF ((u0_16)) ((u5_1))) + STZ ((w10)) (ub8 ((w4))) ((u3_1))))) ++ DLs ((u0_16)) (sc ((w6)) 0 ((u5_1)))) ++ N4 ((w10)) (ub8 ((w4))) (((((u3_1 + tc20_0) - 1) / tc20_0))) ((tc20_0) - 1 : Int).toNat ++ S1 ((w10)) ((u8_3)) (ub8 ((w4))) ((u3_1)) (((((u3_1 + tc20_0) - 1) / tc20_0))) ((x220_8) : Int).toNat := by assumption
                  refine Ew_of (pcₚ := 222) (fun _ => x_iload rfl l220_8) ?_
                  refine Ew_of (pcₚ := 223) (fun _ => x_iload_n rfl l220_3) ?_
                  refine w_icmpge (t := 269) rfl rfl (show inr (x220_8) from j220_0) (show inr (tc20_0) from jc20_0) (fun b36 => ?_) (fun b36 => ?_)
                  · have hcb : (y220_1_1) ≤ 170 + 2 * (u3_1) := by rcases hes with ⟨q, q2, q3⟩ | ⟨q, q2, q3⟩; (have h1 : (x220_8) * ((((u3_1 + tc20_0) - 1) / tc20_0)) = ((((u3_1 + tc20_0) - 1) / tc20_0)) := (by rw [show ((x220_8) : Int) = 1 by (have qg0 := HIDe r32; have qg1 := HIDe r6; omega), Int.one_mul]); (have qg0 := HIDe r32; have qg1 := HIDe r6; omega)); (have h1 : (x220_8) * ((((u3_1 + tc20_0) - 1) / tc20_0)) = 4 * ((((u3_1 + tc20_0) - 1) / tc20_0)) := (by rw [show ((x220_8) : Int) = 4 by (have qg0 := HIDe r32; have qg1 := HIDe r6; omega)]); (have qg0 := HIDe r32; have qg1 := HIDe r6; omega))
                    have hend : sc ((w220_2)) 0 ((y220_1_1)) = (nb (HDV ((u0_16)) (hlF ((u3_1)) ((dlF ((u0_16)) ((u5_1))) + STZ ((w10)) (ub8 ((w4))) ((u3_1)))) ((u3_1)) ((dlF ((u0_16)) ((u5_1))) + STZ ((w10)) (ub8 ((w4))) ((u3_1))) (wdF (hlF ((u3_1)) ((dlF ((u0_16)) ((u5_1))) + STZ ((w10)) (ub8 ((w4))) ((u3_1)))))) (hbF (hlF ((u3_1)) ((dlF ((u0_16)) ((u5_1))) + STZ ((w10)) (ub8 ((w4))) ((u3_1))))) ++ DLs ((u0_16)) (sc ((w6)) 0 ((u5_1)))) ++ F1 ((w10)) ((u8_3)) (ub8 ((w4))) ((u3_1)) := by rcases hes with ⟨q, q2, q3⟩ | ⟨q, q2, q3⟩; (rw [j220_s, show ((tc20_0) - 1 : Int) = 0 by (have qg0 := HIDe r1; have qg1 := HIDe r32; have qg2 := HIDe r6; have qg3 := HIDe r7; have qg4 := HIDe r8; omega), N4_0 (by (have qg0 := HIDe r1; have qg1 := HIDe r32; have qg2 := HIDe r6; have qg3 := HIDe r7; have qg4 := HIDe r8; omega)), List.append_nil, show ((x220_8) : Int) = 1 by (have qg0 := HIDe r1; have qg1 := HIDe r32; have qg2 := HIDe r6; have qg3 := HIDe r7; have qg4 := HIDe r8; omega), q2, S1_1 q3]); (rw [j220_s, show ((tc20_0) - 1 : Int) = 3 by (have qg0 := HIDe r1; have qg1 := HIDe r32; have qg2 := HIDe r6; have qg3 := HIDe r7; have qg4 := HIDe r8; omega), show ((x220_8) : Int) = 4 by (have qg0 := HIDe r1; have qg1 := HIDe r32; have qg2 := HIDe r6; have qg3 := HIDe r7; have qg4 := HIDe r8; omega), List.append_assoc, S1_4 q3 q2])
                    exact w_ret rfl (k _ _ _ _ _ _ _ H O (cD_220) (cN_220) (cF_220) (cA_220) (pm220_2) (m220_2) (em220_2) (y220_1_1) ((ey220_1_1)) (y220_1_2) ((ey220_1_2)) (y220_1_3) ((ey220_1_3)) (y220_1_4) ((ey220_1_4)) (w220_2) (ew220_2) (show 0 ≤ (y220_1_1) ∧ (y220_1_1) ≤ (m220_2) ∧ (m220_2) ≤ 65536 from j220_2) (show 0 ≤ (y220_1_4) ∧ (y220_1_4) ≤ 7 from j220_3) (show (y220_1_4) = 0 ∧ (y220_1_3) = 0 ∧ (y220_1_2) = 0 from j220_4) (hend) (show (y220_1_1) ≤ 170 + 2 * (u3_1) from hcb))
                  · refine Ew_of (pcₚ := 227) (fun _ => x_aload_n rfl l220_0) ?_
                    refine v_g H (o := 0) (v := .ref (D_220 7)) rfl rfl rfl rfl rfl (vrf ((mF_220 0 7 rfl).trans ((pf7).trans (congrArg (fun q : Nat => (q : Int)) (mD_220 7 rfl).symm)))) ?_
                    refine v_g H (o := 7) (v := .ref (D_220 8)) rfl rfl rfl rfl rfl (vrf ((mF_220 7 0 rfl).trans ((pf8).trans (congrArg (fun q : Nat => (q : Int)) (mD_220 8 rfl).symm)))) ?_
                    refine Ew_of (pcₚ := 234) (fun _ => x_aload_n rfl l220_0) ?_
                    refine v_g H (o := 0) (v := .ref (D_220 1)) rfl rfl rfl rfl rfl (vrf ((mF_220 0 8 rfl).trans ((pf1).trans (congrArg (fun q : Nat => (q : Int)) (mD_220 1 rfl).symm)))) ?_
                    refine Ew_of (pcₚ := 238) (fun _ => x_aload_n rfl l220_0) ?_
                    refine v_g H (o := 0) (v := .ref (D_220 3)) rfl rfl rfl rfl rfl (vrf ((mF_220 0 9 rfl).trans ((pf3).trans (congrArg (fun q : Nat => (q : Int)) (mD_220 3 rfl).symm)))) ?_
                    refine v_g H (o := 3) (v := .ref (D_220 4)) rfl rfl rfl rfl rfl (vrf ((mF_220 3 0 rfl).trans ((pf4).trans (congrArg (fun q : Nat => (q : Int)) (mD_220 4 rfl).symm)))) ?_
                    have hpr : 0 ≤ (x220_8) * ((((u3_1 + tc20_0) - 1) / tc20_0)) ∧ (x220_8) * ((((u3_1 + tc20_0) - 1) / tc20_0)) ≤ (u3_1) ∧ 0 ≤ ((x220_8) + 1) * ((((u3_1 + tc20_0) - 1) / tc20_0)) ∧ ((x220_8) + 1) * ((((u3_1 + tc20_0) - 1) / tc20_0)) ≤ 300000 ∧ (x220_8) * ((((u3_1 + tc20_0) - 1) / tc20_0)) ≤ ((x220_8) + 1) * ((((u3_1 + tc20_0) - 1) / tc20_0)) := by rcases (show (x220_8) = 0 ∨ (x220_8) = 1 ∨ (x220_8) = 2 ∨ (x220_8) = 3 by (have qg0 := HIDe r6; omega)) with q | q | q | q <;> rw [q] <;> (have qg0 := HIDe r6; omega)
                    have hpe2 : ((x220_8) + 1) * ((((u3_1 + tc20_0) - 1) / tc20_0)) = (x220_8) * ((((u3_1 + tc20_0) - 1) / tc20_0)) + ((((u3_1 + tc20_0) - 1) / tc20_0)) := by rw [Int.add_mul, Int.one_mul]
                    refine Ew_of (pcₚ := 246) (fun _ => x_iload rfl l220_8) ?_
                    refine Ew_of (pcₚ := 248) (fun _ => x_iload rfl l220_4) ?_
                    refine w_imul rfl ?_
                    refine Ew_of (pcₚ := 250) (fun _ => x_iload_n rfl l220_2) ?_
                    refine Ew_of (pcₚ := 252) (fun _ => x_iload rfl l220_8) ?_
                    refine Ew_of (pcₚ := 253) (fun _ => x_iconst rfl) ?_
                    refine w_iadd rfl ?_
                    refine Ew_of (pcₚ := 256) (fun _ => x_iload rfl l220_4) ?_
                    refine w_imul rfl ?_
                    refine v_min rfl rfl (show inr (u3_1) from q_4425 h14 h3) (show inr (((x220_8 + 1) * (((u3_1 + tc20_0) - 1) / tc20_0))) from q_4432 hpr) (fun z37 gz37 => ?_)
                    have hmn : ((z37) : Int) = mnI ((u3_1)) (((x220_8) + 1) * ((((u3_1 + tc20_0) - 1) / tc20_0))) := mnI_e (by (have qg0 := HIDe r6; omega))
                    have hcdk : ∀ k, (x220_8) * ((((u3_1 + tc20_0) - 1) / tc20_0)) ≤ k → k < ((z37) : Int) → ((w10)) ((ub8 ((w4))) k) ≠ 0 := fun k a b => hcod k (by (have qg0 := HIDe r6; omega)) (by (have qg0 := HIDe r6; omega))
                    refine v_inv H (o := 8) rfl rfl rfl rfl rfl rfl (by rfl) (C111_Row_Br (D := puc 198475730417353224 D_220) (N := puc 198475730417353224 N_220) (HW_subc H oz_L5cls_3 oz_L5cls_11) (pm220_2) ((mF_220 8 0 rfl).trans ((pf10).trans (congrArg (fun q : Nat => (q : Int)) (mD_220 10 rfl).symm))) ((mF_220 8 1 rfl).trans ((pf9).trans (congrArg (fun q : Nat => (q : Int)) (mD_220 9 rfl).symm))) ((mF_220 8 2 rfl).trans ((pf11).trans (congrArg (fun q : Nat => (q : Int)) (mD_220 11 rfl).symm))) (n4) ((congrArg (fun q : Nat => (q : Int)) (mN_220 4 rfl)).trans (en4)) (m220_2) (em220_2) (n10) ((congrArg (fun q : Nat => (q : Int)) (mN_220 10 rfl)).trans (en10)) (n9) ((congrArg (fun q : Nat => (q : Int)) (mN_220 9 rfl)).trans (en9)) (n11) ((congrArg (fun q : Nat => (q : Int)) (mN_220 11 rfl)).trans (en11)) (u8_3) (((mF_220 8 3 rfl).trans (eu8_3))) (y220_1_1) ((ey220_1_1)) (y220_1_2) ((ey220_1_2)) (y220_1_3) ((ey220_1_3)) (y220_1_4) ((ey220_1_4)) (w4) ((funext (mA_220 4 rfl)).trans (ew4)) (w220_2) (ew220_2) (w10) ((funext (mA_220 10 rfl)).trans (ew10)) (w9) ((funext (mA_220 9 rfl)).trans (ew9)) (w11) ((funext (mA_220 11 rfl)).trans (ew11)) (show inr ((x220_8 * (((u3_1 + tc20_0) - 1) / tc20_0))) from q_4436 hpr) (show inr (z37) from q_4435 gz37 h14 h3 hpr) (show 0 ≤ (y220_1_1) ∧ (y220_1_1) ≤ (m220_2) ∧ (m220_2) ≤ 65536 from j220_2) (show 0 ≤ (y220_1_4) ∧ (y220_1_4) ≤ 7 from j220_3) (show 0 ≤ ((x220_8 * (((u3_1 + tc20_0) - 1) / tc20_0))) ∧ ((x220_8 * (((u3_1 + tc20_0) - 1) / tc20_0))) ≤ (z37) ∧ (z37) ≤ (n4) ∧ (n4) ≤ 65536 from q_4434 (HIDe r10) gz37 h3 hpr) (show 0 ≤ ((u8_3)) ∧ ((u8_3)) ≤ 11 from h7) (hln0) (show (n10) = 256 ∧ (n9) = 256 from q_4433 h6 h9) (show (y220_1_4) = 0 ∧ (y220_1_3) = 0 ∧ (y220_1_2) = 0 ∧ (y220_1_1) + 2 * ((z37) - ((x220_8 * (((u3_1 + tc20_0) - 1) / tc20_0)))) + 2 ≤ 65536 by have qh0 := HIDe r32; have qh1 := HIDe r33; have qh2 := HIDe r34; have qh3 := HIDe r35; have qh4 := HIDe r6; omega) (hci) (hcd) (show ∀ k, ((x220_8 * (((u3_1 + tc20_0) - 1) / tc20_0))) ≤ k → k < (z37) → ((w10)) ((ub8 ((w4))) k) ≠ 0 by assumption) (fun σ39 D39ₚ N39ₚ F39ₚ A39ₚ c39 s39 Hₚ Oₚ hD39 hN39 hS39 hA39 (pm39_3 : HID _) m39_3 (em39_3 : HID _) y39_1_1 (ey39_1_1 : HID _) y39_1_2 (ey39_1_2 : HID _) y39_1_3 (ey39_1_3 : HID _) y39_1_4 (ey39_1_4 : HID _) w39_3 ew39_3 pz39_0 pz39_1 pz39_2 pz39_3 pz39_4 pz39_5 => ⟨rfl, ?_⟩))
                    refine v_backMc (c := c_220) (s := s_220) H oz_L5cls_3 oz_L5cls_11 Hₚ Oₚ hD39 oz_L5cls_4 (fun D39 N39 F39 A39 H Oₚ eD39 eN39 eF39 eA39 => ?_)
                    have O := OUT_trans O Oₚ
                    -- Codes.pack
                    have cF39 : SF oz_L5clsl_0 F F39 := SF_trans (cF_220) (SF_gluc (ι := oz_L5clsl_3) oz_L5cls_11 hS39 eF39 (by decide +kernel)) (any_sub (lₚ := [(1, 0), (1, 1), (1, 2), (1, 3), (1, 4)]) (by decide +kernel))
                    have mF39 := SFm_of cF39 oz_L5cls_8
                    have cA39 : SA oz_L5clsl_1 A A39 := SA_trans (cA_220) (SA_gluc (ι := oz_L5clsl_3) oz_L5cls_11 hA39 eA39 (by decide +kernel)) (any_subA (lₚ := [2]) (by decide +kernel))
                    have mA39 := SAm_of cA39 oz_L5cls_9
                    have cD39 : SD oz_L5clsl_1 D D39 := SD_trans (cD_220) (SD_gluc (ι := oz_L5clsl_3) oz_L5cls_11 hD39 eD39 (by decide +kernel)) (any_subA (lₚ := [2]) (by decide +kernel))
                    have mD39 := SDm_of cD39 oz_L5cls_9
                    have cN39 : SD oz_L5clsl_1 N N39 := SD_trans (cN_220) (SD_gluc (ι := oz_L5clsl_3) oz_L5cls_11 hN39 eN39 (by decide +kernel)) (any_subA (lₚ := [2]) (by decide +kernel))
                    have mN39 := SDm_of cN39 oz_L5cls_9
                    have pf39_1_0 : HID (F39 1 0 = (D39 2 : Int)) := (eF39 1 0).trans (pm39_3.trans (congrArg (fun q : Nat => (q : Int)) (eD39 2).symm))
                    have r41 : HID ((-2147483648 : Int) ≤ y39_1_1 ∧ y39_1_1 ≤ 2147483647) := krg_e (show (-2147483648 : Int) ≤ F39 1 1 ∧ F39 1 1 ≤ 2147483647 from H.krg 1 1 (ltn len_V142_oz_L5cls rfl)) (show F39 1 1 = y39_1_1 from ((eF39 1 1).trans ey39_1_1))
                    have hs63 : sc ((w39_3)) 0 ((y39_1_1)) = (nb (HDV ((u0_16)) (hlF ((u3_1)) ((dlF ((u0_16)) ((u5_1))) + STZ ((w10)) (ub8 ((w4))) ((u3_1)))) ((u3_1)) ((dlF ((u0_16)) ((u5_1))) + STZ ((w10)) (ub8 ((w4))) ((u3_1))) (wdF (hlF ((u3_1)) ((dlF ((u0_16)) ((u5_1))) + STZ ((w10)) (ub8 ((w4))) ((u3_1)))))) (hbF (hlF ((u3_1)) ((dlF ((u0_16)) ((u5_1))) + STZ ((w10)) (ub8 ((w4))) ((u3_1))))) ++ DLs ((u0_16)) (sc ((w6)) 0 ((u5_1)))) ++ N4 ((w10)) (ub8 ((w4))) (((((u3_1 + tc20_0) - 1) / tc20_0))) ((tc20_0) - 1 : Int).toNat ++ S1 ((w10)) ((u8_3)) (ub8 ((w4))) ((u3_1)) (((((u3_1 + tc20_0) - 1) / tc20_0))) ((x220_8) + 1 : Int).toNat := by rw [pz39_4, j220_s, S1_s (k := (x220_8)) (m := (x220_8) + 1) (by (have qg0 := HIDe r1; have qg1 := HIDe r41; have qg2 := HIDe r6; have qg3 := HIDe r7; have qg4 := HIDe r8; omega)) rfl rfl hmn, List.append_assoc]
                    refine Ew_of (pcₚ := 266) (fun _ => x_iinc (len := 3) rfl (l220_8)) ?_
                    refine Ew_of (pcₚ := 220) (fun _ => x_goto rfl rfl) ?_
                    exact ih220 _ (by omega) _ _ _ _ _ _ _ _ ((x220_8 + 1)) ((rk_o (l220_0) rfl rfl).trans (congrArg (fun q : Nat => some (Value.ref q)) (((show D39 0 = D_220 0 from (eD39 0)))).symm)) (rk_o (l220_2) rfl rfl) (rk_o (l220_3) rfl rfl) (rk_o (l220_4) rfl rfl) (rk_s) H O (SD_trans (hD_220) (SD_gluc (ι := oz_L5clsl_3) oz_L5cls_11 hD39 eD39 (by decide +kernel)) (any_subA (lₚ := [2]) (by decide +kernel))) (SD_trans (hN_220) (SD_gluc (ι := oz_L5clsl_3) oz_L5cls_11 hN39 eN39 (by decide +kernel)) (any_subA (lₚ := [2]) (by decide +kernel))) (SF_trans (hS_220) (SF_gluc (ι := oz_L5clsl_3) oz_L5cls_11 hS39 eF39 (by decide +kernel)) (any_sub (lₚ := [(1, 0), (1, 1), (1, 2), (1, 3), (1, 4)]) (by decide +kernel))) (SA_trans (hA_220) (SA_gluc (ι := oz_L5clsl_3) oz_L5cls_11 hA39 eA39 (by decide +kernel)) (any_subA (lₚ := [2]) (by decide +kernel))) (pf39_1_0) (m39_3) ((congrArg (fun q : Nat => (q : Int)) (eN39 2)).trans em39_3) (y39_1_1) (((eF39 1 1).trans ey39_1_1)) (y39_1_2) (((eF39 1 2).trans ey39_1_2)) (y39_1_3) (((eF39 1 3).trans ey39_1_3)) (y39_1_4) (((eF39 1 4).trans ey39_1_4)) (w39_3) ((eA39 2).trans ew39_3) (show inr ((x220_8 + 1)) from q_4438 j220_1) (show 0 ≤ ((x220_8 + 1)) ∧ ((x220_8 + 1)) ≤ 4 ∧ ((x220_8 + 1)) ≤ (tc20_0) by omega) (show 0 ≤ (y39_1_1) ∧ (y39_1_1) ≤ (m39_3) ∧ (m39_3) ≤ 65536 from pz39_0) (show 0 ≤ (y39_1_4) ∧ (y39_1_4) ≤ 7 from q_3789 pz39_1) (show (y39_1_4) = 0 ∧ (y39_1_3) = 0 ∧ (y39_1_2) = 0 from q_4437 pz39_1 pz39_3) (show (y39_1_1) ≤ 141 + 2 * (((x220_8 + 1)) * ((((u3_1 + tc20_0) - 1) / tc20_0))) + 3 * ((x220_8 + 1)) by have qh0 := HIDe r41; have qh1 := HIDe r6; omega) (hs63) rfl
              · refine Ew_of (pcₚ := 174) (fun _ => x_aload_n rfl l165_0) ?_
                refine v_g H (o := 0) (v := .ref (D_165 1)) rfl rfl rfl rfl rfl (vrf ((mF_165 0 8 rfl).trans ((pf1).trans (congrArg (fun q : Nat => (q : Int)) (mD_165 1 rfl).symm)))) ?_
                refine Ew_of (pcₚ := 178) (fun _ => x_aload_n rfl l165_0) ?_
                refine v_g H (o := 0) (v := .ref (D_165 7)) rfl rfl rfl rfl rfl (vrf ((mF_165 0 7 rfl).trans ((pf7).trans (congrArg (fun q : Nat => (q : Int)) (mD_165 7 rfl).symm)))) ?_
                refine v_g H (o := 7) (v := .ref (D_165 8)) rfl rfl rfl rfl rfl (vrf ((mF_165 7 0 rfl).trans ((pf8).trans (congrArg (fun q : Nat => (q : Int)) (mD_165 8 rfl).symm)))) ?_
                refine Ew_of (pcₚ := 185) (fun _ => x_aload_n rfl l165_0) ?_
                refine v_g H (o := 0) (v := .ref (D_165 3)) rfl rfl rfl rfl rfl (vrf ((mF_165 0 9 rfl).trans ((pf3).trans (congrArg (fun q : Nat => (q : Int)) (mD_165 3 rfl).symm)))) ?_
                refine v_g H (o := 3) (v := .ref (D_165 4)) rfl rfl rfl rfl rfl (vrf ((mF_165 3 0 rfl).trans ((pf4).trans (congrArg (fun q : Nat => (q : Int)) (mD_165 4 rfl).symm)))) ?_
                have hpr : 0 ≤ (x165_8) * ((((u3_1 + tc20_0) - 1) / tc20_0)) ∧ ((x165_8) + 1) * ((((u3_1 + tc20_0) - 1) / tc20_0)) ≤ (u3_1) ∧ (x165_8) * ((((u3_1 + tc20_0) - 1) / tc20_0)) ≤ ((x165_8) + 1) * ((((u3_1 + tc20_0) - 1) / tc20_0)) := by rcases (show (x165_8) = 0 ∨ (x165_8) = 1 ∨ (x165_8) = 2 by (have qg0 := HIDe r6; omega)) with q | q | q <;> rw [q] <;> (have qg0 := HIDe r6; omega)
                have hpe : ((x165_8) + 1) * ((((u3_1 + tc20_0) - 1) / tc20_0)) = (x165_8) * ((((u3_1 + tc20_0) - 1) / tc20_0)) + ((((u3_1 + tc20_0) - 1) / tc20_0)) := by rw [Int.add_mul, Int.one_mul]
                refine Ew_of (pcₚ := 193) (fun _ => x_iload rfl l165_8) ?_
                refine Ew_of (pcₚ := 195) (fun _ => x_iload rfl l165_4) ?_
                refine w_imul rfl ?_
                refine Ew_of (pcₚ := 198) (fun _ => x_iload rfl l165_8) ?_
                refine Ew_of (pcₚ := 199) (fun _ => x_iconst rfl) ?_
                refine w_iadd rfl ?_
                refine Ew_of (pcₚ := 202) (fun _ => x_iload rfl l165_4) ?_
                refine w_imul rfl ?_
                refine v_inv H (o := 8) rfl rfl rfl rfl rfl rfl (by rfl) (C112_Br (D := puc 2623496 D_165) (N := puc 2623496 N_165) (HW_subc H oz_L5cls_5 oz_L5cls_12) ((mF_165 8 0 rfl).trans ((pf10).trans (congrArg (fun q : Nat => (q : Int)) (mD_165 10 rfl).symm))) (n4) ((congrArg (fun q : Nat => (q : Int)) (mN_165 4 rfl)).trans (en4)) (n10) ((congrArg (fun q : Nat => (q : Int)) (mN_165 10 rfl)).trans (en10)) (u8_3) (((mF_165 8 3 rfl).trans (eu8_3))) (w4) ((funext (mA_165 4 rfl)).trans (ew4)) (w10) ((funext (mA_165 10 rfl)).trans (ew10)) (show inr ((x165_8 * (((u3_1 + tc20_0) - 1) / tc20_0))) from q_4441 h14 hpr) (show inr (((x165_8 + 1) * (((u3_1 + tc20_0) - 1) / tc20_0))) from q_4440 h14 hpr) (show 0 ≤ ((x165_8 * (((u3_1 + tc20_0) - 1) / tc20_0))) ∧ ((x165_8 * (((u3_1 + tc20_0) - 1) / tc20_0))) ≤ (((x165_8 + 1) * (((u3_1 + tc20_0) - 1) / tc20_0))) ∧ (((x165_8 + 1) * (((u3_1 + tc20_0) - 1) / tc20_0))) ≤ (n4) ∧ (n4) ≤ 65536 from q_4439 h3 hpr) (show 0 ≤ ((u8_3)) ∧ ((u8_3)) ≤ 11 from h7) (hln0) (show (n10) = 256 from h9) (fun z45 σ45 F45ₚ A45ₚ Hₚ Oₚ hS45 hA45 pz45_0 pz45_1 pz45_2 => ⟨rfl, ?_⟩))
                refine v_backc (c := c_165) (s := s_165) H oz_L5cls_5 oz_L5cls_12 Hₚ Oₚ (fun F45 A45 H Oₚ eF45 eA45 => ?_)
                have O := OUT_trans O Oₚ
                -- Codes.packedSize
                have cF45 : SF oz_L5clsl_0 F F45 := SF_trans (cF_165) (SF_gluc (ι := oz_L5clsl_4) oz_L5cls_12 hS45 eF45 (by decide +kernel)) (any_sub (lₚ := []) (by decide +kernel))
                have mF45 := SFm_of cF45 oz_L5cls_8
                have cA45 : SA oz_L5clsl_1 A A45 := SA_trans (cA_165) (SA_gluc (ι := oz_L5clsl_4) oz_L5cls_12 hA45 eA45 (by decide +kernel)) (any_subA (lₚ := []) (by decide +kernel))
                have mA45 := SAm_of cA45 oz_L5cls_9
                have hz03 : z45 = z1F ((w10)) (ub8 ((w4))) ((x165_8) * ((((u3_1 + tc20_0) - 1) / tc20_0))) ((x165_8) * ((((u3_1 + tc20_0) - 1) / tc20_0)) + ((((u3_1 + tc20_0) - 1) / tc20_0))) := by rw [← hpe]; exact PSZ_c pz45_2 (fun k a b => hcod k (by (have qg0 := HIDe r6; omega)) (by (have qg0 := HIDe r6; omega)))
                refine w_i2l rfl (show inr (z45) from pz45_0) ?_
                refine Ew_of (pcₚ := 208) (fun _ => x_iconst rfl) ?_
                refine v_inv H (o := 1) rfl rfl rfl rfl rfl rfl (by rfl) (C160 (D := puc 1025 D_165) (N := puc 1025 N_165) (HW_subc H oz_L5cls_1 oz_L5cls_10) ((((show F45 1 0 = F_165 1 0 from (eF45 1 0)))).trans (pm165_2)) (m165_2) (em165_2) (y165_1_1) ((((show F45 1 1 = F_165 1 1 from (eF45 1 1))).trans (ey165_1_1))) (y165_1_2) ((((show F45 1 2 = F_165 1 2 from (eF45 1 2))).trans (ey165_1_2))) (w165_2) (((show A45 2 = A_165 2 from (eA45 2))).trans (ew165_2)) (show inrJ (z45) from q_4442 pz45_1) (show inr (2) from q_122) (show 0 ≤ (y165_1_1) ∧ (y165_1_1) ≤ (m165_2) ∧ (m165_2) ≤ 65536 from j165_2) (show 0 ≤ (2) ∧ (2) ≤ 8 from q_2748) (fun σ46 D46ₚ N46ₚ F46ₚ A46ₚ c46 s46 Hₚ Oₚ hD46 hN46 hS46 hA46 (pm46_1 : HID _) m46_1 (em46_1 : HID _) y46_0_1 (ey46_0_1 : HID _) y46_0_2 (ey46_0_2 : HID _) w46_1 ew46_1 pz46_0 pz46_1 pz46_2 => ⟨rfl, ?_⟩))
                refine v_backMc (c := c_165) (s := s_165) H oz_L5cls_1 oz_L5cls_10 Hₚ Oₚ hD46 oz_L5cls_2 (fun D46 N46 F46 A46 H Oₚ eD46 eN46 eF46 eA46 => ?_)
                have O := OUT_trans O Oₚ
                -- Row.addNumber
                have cF46 : SF oz_L5clsl_0 F F46 := SF_trans (cF45) (SF_gluc (ι := oz_L5clsl_2) oz_L5cls_10 hS46 eF46 (by decide +kernel)) (any_sub (lₚ := [(1, 0), (1, 1), (1, 2)]) (by decide +kernel))
                have mF46 := SFm_of cF46 oz_L5cls_8
                have cA46 : SA oz_L5clsl_1 A A46 := SA_trans (cA45) (SA_gluc (ι := oz_L5clsl_2) oz_L5cls_10 hA46 eA46 (by decide +kernel)) (any_subA (lₚ := [2]) (by decide +kernel))
                have mA46 := SAm_of cA46 oz_L5cls_9
                have cD46 : SD oz_L5clsl_1 D D46 := SD_trans (cD_165) (SD_gluc (ι := oz_L5clsl_2) oz_L5cls_10 hD46 eD46 (by decide +kernel)) (any_subA (lₚ := [2]) (by decide +kernel))
                have mD46 := SDm_of cD46 oz_L5cls_9
                have cN46 : SD oz_L5clsl_1 N N46 := SD_trans (cN_165) (SD_gluc (ι := oz_L5clsl_2) oz_L5cls_10 hN46 eN46 (by decide +kernel)) (any_subA (lₚ := [2]) (by decide +kernel))
                have mN46 := SDm_of cN46 oz_L5cls_9
                have pf46_1_0 : HID (F46 1 0 = (D46 2 : Int)) := (eF46 1 0).trans (pm46_1.trans (congrArg (fun q : Nat => (q : Int)) (eD46 2).symm))
                have r48 : HID ((-2147483648 : Int) ≤ y46_0_1 ∧ y46_0_1 ≤ 2147483647) := krg_e (show (-2147483648 : Int) ≤ F46 1 1 ∧ F46 1 1 ≤ 2147483647 from H.krg 1 1 (ltn len_V142_oz_L5cls rfl)) (show F46 1 1 = y46_0_1 from ((eF46 1 1).trans ey46_0_1))
                have r49 : HID ((0 : Int) ≤ y46_0_2 ∧ y46_0_2 ≤ 1) := krg_e (show (0 : Int) ≤ F46 1 2 ∧ F46 1 2 ≤ 1 from H.krg 1 2 (ltn len_V142_oz_L5cls rfl)) (show F46 1 2 = y46_0_2 from ((eF46 1 2).trans ey46_0_2))
                have hcn11 := RAP_n pz46_2 (by omega) (by omega) (by omega) (by rw [nb_len]; omega)
                rw [nb_len] at hcn11
                have hf11 := RAP_from pz46_2 (by omega) (a := 0) (by omega) (by rw [nb_len]; omega) (by omega)
                have hb11 := hf11.1
                have hs11 : sc ((w46_1)) 0 ((y46_0_1)) = (nb (HDV ((u0_16)) (hlF ((u3_1)) ((dlF ((u0_16)) ((u5_1))) + STZ ((w10)) (ub8 ((w4))) ((u3_1)))) ((u3_1)) ((dlF ((u0_16)) ((u5_1))) + STZ ((w10)) (ub8 ((w4))) ((u3_1))) (wdF (hlF ((u3_1)) ((dlF ((u0_16)) ((u5_1))) + STZ ((w10)) (ub8 ((w4))) ((u3_1)))))) (hbF (hlF ((u3_1)) ((dlF ((u0_16)) ((u5_1))) + STZ ((w10)) (ub8 ((w4))) ((u3_1))))) ++ DLs ((u0_16)) (sc ((w6)) 0 ((u5_1)))) ++ N4 ((w10)) (ub8 ((w4))) (((((u3_1 + tc20_0) - 1) / tc20_0))) ((x165_8) + 1 : Int).toNat := by rw [hf11.2, j165_s, N4_s (k := (x165_8)) (m := (x165_8) + 1) (by (have qg0 := HIDe r1; have qg1 := HIDe r48; have qg2 := HIDe r6; have qg3 := HIDe r7; omega)) rfl hz03, List.append_assoc]
                try clear pz46_1
                refine Ew_of (pcₚ := 214) (fun _ => x_iinc (len := 3) rfl (l165_8)) ?_
                refine Ew_of (pcₚ := 165) (fun _ => x_goto rfl rfl) ?_
                exact ih165 _ (by omega) _ _ _ _ _ _ _ _ ((x165_8 + 1)) ((rk_o (l165_0) rfl rfl).trans (congrArg (fun q : Nat => some (Value.ref q)) (((show D46 0 = D_165 0 from (eD46 0)))).symm)) (rk_o (l165_2) rfl rfl) (rk_o (l165_3) rfl rfl) (rk_o (l165_4) rfl rfl) (rk_s) H O (SD_trans (hD_165) (SD_gluc (ι := oz_L5clsl_2) oz_L5cls_10 hD46 eD46 (by decide +kernel)) (any_subA (lₚ := [2]) (by decide +kernel))) (SD_trans (hN_165) (SD_gluc (ι := oz_L5clsl_2) oz_L5cls_10 hN46 eN46 (by decide +kernel)) (any_subA (lₚ := [2]) (by decide +kernel))) (SF_trans (SF_trans (hS_165) (SF_gluc (ι := oz_L5clsl_4) oz_L5cls_12 hS45 eF45 (by decide +kernel)) (any_sub (lₚ := []) (by decide +kernel))) (SF_gluc (ι := oz_L5clsl_2) oz_L5cls_10 hS46 eF46 (by decide +kernel)) (any_sub (lₚ := [(1, 0), (1, 1), (1, 2)]) (by decide +kernel))) (SA_trans (SA_trans (hA_165) (SA_gluc (ι := oz_L5clsl_4) oz_L5cls_12 hA45 eA45 (by decide +kernel)) (any_subA (lₚ := []) (by decide +kernel))) (SA_gluc (ι := oz_L5clsl_2) oz_L5cls_10 hA46 eA46 (by decide +kernel)) (any_subA (lₚ := [2]) (by decide +kernel))) (pf46_1_0) (m46_1) ((congrArg (fun q : Nat => (q : Int)) (eN46 2)).trans em46_1) (y46_0_1) (((eF46 1 1).trans ey46_0_1)) (y46_0_2) (((eF46 1 2).trans ey46_0_2)) (w46_1) ((eA46 2).trans ew46_1) (show inr ((x165_8 + 1)) from q_4443 j165_1) (show 0 ≤ ((x165_8 + 1)) ∧ ((x165_8 + 1)) ≤ 4 ∧ ((x165_8 + 1)) ≤ (tc20_0) - 1 by omega) (show 0 ≤ (y46_0_1) ∧ (y46_0_1) ≤ (m46_1) ∧ (m46_1) ≤ 65536 from pz46_0) (show (u1_4) = 0 ∧ (u1_3) = 0 ∧ (y46_0_2) = 0 by have qh0 := HIDe r4; have qh1 := HIDe r49; have qh2 := HIDe r5; omega) (show (y46_0_1) ≤ 133 + 2 * ((x165_8 + 1)) by have qh0 := HIDe r48; omega) (hs11) rfl
          have hr1 := pz20_2
          have hf32 := RAP_from hr1 (by omega) (a := 0) (by omega) (by rw [nb_len]; omega) (by omega)
          have hs132 : sc ((w20_1)) 0 ((y20_0_1)) = nb (HDV ((u0_16)) (hlF ((u3_1)) ((dlF ((u0_16)) ((u5_1))) + STZ ((w10)) (ub8 ((w4))) ((u3_1)))) ((u3_1)) ((dlF ((u0_16)) ((u5_1))) + STZ ((w10)) (ub8 ((w4))) ((u3_1))) (wdF (hlF ((u3_1)) ((dlF ((u0_16)) ((u5_1))) + STZ ((w10)) (ub8 ((w4))) ((u3_1)))))) (hbF (hlF ((u3_1)) ((dlF ((u0_16)) ((u5_1))) + STZ ((w10)) (ub8 ((w4))) ((u3_1))))) := by rw [hf32.2, sc_nil (by (have qg0 := HIDe r1; have qg1 := HIDe r22; have qg2 := HIDe r6; have qg3 := HIDe r7; omega)), List.nil_append, hqv, hBe, hhd.2.1, hhd.2.2.1, hhd.1]
          have hb132 := hf32.1
          have hl5 : (tc60_0) ≤ 5 := by omega
          have hc32 : 0 ≤ (y20_0_1) ∧ (y20_0_1) ≤ 5 := by (have qg0 := HIDe r22; omega)
          try clear pz20_1
          refine Ew_of (pcₚ := 133) (fun _ => x_aload_n rfl (rk_o (lc94_0) rfl rfl)) ?_
          refine Ew_stk (congrArg (fun qz : Nat => ([.ref qz] : List Value)) (show D20 0 = D 0 from mD20 0 rfl).symm) ?_
          refine v_g H (o := 0) (v := I (u0_16)) rfl rfl rfl rfl rfl (congrArg (fun z : Int => I z) (((mF20 0 16 rfl).trans (eu0_16)) : F20 0 16 = u0_16)) ?_
          refine Ew_of (pcₚ := 137) (fun _ => x_iconst rfl) ?_
          refine w_icmpne (t := 162) rfl rfl (show inr (u0_16) from q_4426 h11) (show inr (2) from q_122) (fun b50 => ?_) (fun b50 => ?_)
          · have hf62 : (y20_0_2) = 0 ∧ (y20_0_1) ≤ 133 ∧ sc ((w20_1)) 0 ((y20_0_1)) = (nb (HDV ((u0_16)) (hlF ((u3_1)) ((dlF ((u0_16)) ((u5_1))) + STZ ((w10)) (ub8 ((w4))) ((u3_1)))) ((u3_1)) ((dlF ((u0_16)) ((u5_1))) + STZ ((w10)) (ub8 ((w4))) ((u3_1))) (wdF (hlF ((u3_1)) ((dlF ((u0_16)) ((u5_1))) + STZ ((w10)) (ub8 ((w4))) ((u3_1)))))) (hbF (hlF ((u3_1)) ((dlF ((u0_16)) ((u5_1))) + STZ ((w10)) (ub8 ((w4))) ((u3_1))))) ++ DLs ((u0_16)) (sc ((w6)) 0 ((u5_1)))) := by first | (have hf := RAP_from (pNONE_3 (by (have qg0 := HIDe r1; have qg1 := HIDe r22; have qg2 := HIDe r23; have qg3 := HIDe r6; have qg4 := HIDe r7; omega))) hf32.1 (a := 0) (by (have qg0 := HIDe r1; have qg1 := HIDe r22; have qg2 := HIDe r23; have qg3 := HIDe r6; have qg4 := HIDe r7; omega)) (by rw [sc_lenI (by (have qg0 := HIDe r1; have qg1 := HIDe r22; have qg2 := HIDe r23; have qg3 := HIDe r6; have qg4 := HIDe r7; omega))]; (have qg0 := HIDe r1; have qg1 := HIDe r22; have qg2 := HIDe r23; have qg3 := HIDe r6; have qg4 := HIDe r7; omega)) (by (have qg0 := HIDe r1; have qg1 := HIDe r22; have qg2 := HIDe r23; have qg3 := HIDe r6; have qg4 := HIDe r7; omega)); exact ⟨hf.1, by (have qg0 := HIDe r1; have qg1 := HIDe r22; have qg2 := HIDe r23; have qg3 := HIDe r6; have qg4 := HIDe r7; omega), by rw [hf.2, hs132, DLs_2 (by (have qg0 := HIDe r1; have qg1 := HIDe r22; have qg2 := HIDe r23; have qg3 := HIDe r6; have qg4 := HIDe r7; omega)), Int.zero_add]⟩) | exact ⟨hf32.1, by (have qg0 := HIDe r1; have qg1 := HIDe r22; have qg2 := HIDe r23; have qg3 := HIDe r6; have qg4 := HIDe r7; omega), by rw [hs132, DLs_3 (by (have qg0 := HIDe r1; have qg1 := HIDe r22; have qg2 := HIDe r23; have qg3 := HIDe r6; have qg4 := HIDe r7; omega)), List.append_nil]⟩
            have hf62a := hf62.1
            have hf62b := hf62.2.1
            have hf62c := hf62.2.2
            exact hc162  _ _ _ _ _ _ _ _  ((rk_o (lc94_0) rfl rfl).trans (congrArg (fun q : Nat => some (Value.ref q)) (mD20 0 rfl).symm)) (rk_o (lc94_2) rfl rfl) (rk_o (lc94_3) rfl rfl) (rk_o (lc94_4) rfl rfl) H O (SD_refl) (SD_refl) (SF_refl) (SA_refl) (pf20_1_0) (m20_1) ((congrArg (fun q : Nat => (q : Int)) (eN20 2)).trans em20_1) (y20_0_1) (((eF20 1 1).trans ey20_0_1)) (y20_0_2) (((eF20 1 2).trans ey20_0_2)) (w20_1) ((eA20 2).trans ew20_1) (show 0 ≤ (y20_0_1) ∧ (y20_0_1) ≤ (m20_1) ∧ (m20_1) ≤ 65536 from pz20_0) (show (u1_4) = 0 ∧ (u1_3) = 0 ∧ (y20_0_2) = 0 by have qh0 := HIDe r23; have qh1 := HIDe r4; have qh2 := HIDe r5; omega) (show (y20_0_1) ≤ 133 from q_4444 hc32) (show sc ((w20_1)) 0 ((y20_0_1)) = (nb (HDV ((u0_16)) (hlF ((u3_1)) ((dlF ((u0_16)) ((u5_1))) + STZ ((w10)) (ub8 ((w4))) ((u3_1)))) ((u3_1)) ((dlF ((u0_16)) ((u5_1))) + STZ ((w10)) (ub8 ((w4))) ((u3_1))) (wdF (hlF ((u3_1)) ((dlF ((u0_16)) ((u5_1))) + STZ ((w10)) (ub8 ((w4))) ((u3_1)))))) (hbF (hlF ((u3_1)) ((dlF ((u0_16)) ((u5_1))) + STZ ((w10)) (ub8 ((w4))) ((u3_1))))) ++ DLs ((u0_16)) (sc ((w6)) 0 ((u5_1)))) by assumption)
          · refine Ew_of (pcₚ := 141) (fun _ => x_aload_n rfl (rk_o (lc94_0) rfl rfl)) ?_
            refine Ew_stk (congrArg (fun qz : Nat => ([.ref qz] : List Value)) (show D20 0 = D 0 from mD20 0 rfl).symm) ?_
            refine v_g H (o := 0) (v := .ref (D20 1)) rfl rfl rfl rfl rfl (vrf ((mF20 0 8 rfl).trans ((pf1).trans (congrArg (fun q : Nat => (q : Int)) (mD20 1 rfl).symm)))) ?_
            refine Ew_of (pcₚ := 145) (fun _ => x_aload_n rfl (rk_o (lc94_0) rfl rfl)) ?_
            refine Ew_stk (congrArg (fun qz : Nat => ([.ref qz, .ref (D20 1)] : List Value)) (show D20 0 = D 0 from mD20 0 rfl).symm) ?_
            refine v_g H (o := 0) (v := .ref (D20 5)) rfl rfl rfl rfl rfl (vrf ((mF20 0 10 rfl).trans ((pf5).trans (congrArg (fun q : Nat => (q : Int)) (mD20 5 rfl).symm)))) ?_
            refine v_g H (o := 5) (v := .ref (D20 6)) rfl rfl rfl rfl rfl (vrf ((mF20 5 0 rfl).trans ((pf6).trans (congrArg (fun q : Nat => (q : Int)) (mD20 6 rfl).symm)))) ?_
            refine Ew_of (pcₚ := 152) (fun _ => x_iconst rfl) ?_
            refine Ew_of (pcₚ := 153) (fun _ => x_aload_n rfl (rk_o (lc94_0) rfl rfl)) ?_
            refine Ew_stk (congrArg (fun qz : Nat => ([.ref qz, I (0), .ref (D20 6), .ref (D20 1)] : List Value)) (show D20 0 = D 0 from mD20 0 rfl).symm) ?_
            refine v_g H (o := 0) (v := .ref (D20 5)) rfl rfl rfl rfl rfl (vrf ((mF20 0 10 rfl).trans ((pf5).trans (congrArg (fun q : Nat => (q : Int)) (mD20 5 rfl).symm)))) ?_
            refine v_g H (o := 5) (v := I (u5_1)) rfl rfl rfl rfl rfl (congrArg (fun z : Int => I z) (((mF20 5 1 rfl).trans (eu5_1)) : F20 5 1 = u5_1)) ?_
            refine v_inv H (o := 1) rfl rfl rfl rfl rfl rfl (by rfl) (C161_Br (D := puc 527361 D20) (N := puc 527361 N20) (HW_subc H oz_L5cls_6 oz_L5cls_13) (pf20_1_0) (n6) ((congrArg (fun q : Nat => (q : Int)) (mN20 6 rfl)).trans (en6)) (m20_1) ((congrArg (fun q : Nat => (q : Int)) (eN20 2)).trans em20_1) (y20_0_1) (((eF20 1 1).trans ey20_0_1)) (y20_0_2) (((eF20 1 2).trans ey20_0_2)) (w6) ((funext (mA20 6 rfl)).trans (ew6)) (w20_1) ((eA20 2).trans ew20_1) (show inr (0) from q_2) (show inr (u5_1) from q_38 h4) (show 0 ≤ (y20_0_1) ∧ (y20_0_1) ≤ (m20_1) ∧ (m20_1) ≤ 65536 from pz20_0) (show (u5_1) < 0 ∨ 0 ≤ (0) ∧ (0) + (u5_1) ≤ (n6) from q_2944 h4) (fun σ51 D51ₚ N51ₚ F51ₚ A51ₚ c51 s51 Hₚ Oₚ hD51 hN51 hS51 hA51 (pm51_2 : HID _) m51_2 (em51_2 : HID _) y51_0_1 (ey51_0_1 : HID _) y51_0_2 (ey51_0_2 : HID _) w51_2 ew51_2 pz51_0 pz51_1 pz51_2 pz51_3 => ⟨rfl, ?_⟩))
            refine v_backMc (c := (c + c20)) (s := (s + s20)) H oz_L5cls_6 oz_L5cls_13 Hₚ Oₚ hD51 oz_L5cls_7 (fun D51 N51 F51 A51 H Oₚ eD51 eN51 eF51 eA51 => ?_)
            have O := OUT_trans O Oₚ
            -- Row.addPart
            have cF51 : SF oz_L5clsl_0 F F51 := SF_trans (cF20) (SF_gluc (ι := oz_L5clsl_5) oz_L5cls_13 hS51 eF51 (by decide +kernel)) (any_sub (lₚ := [(1, 0), (1, 1), (1, 2)]) (by decide +kernel))
            have mF51 := SFm_of cF51 oz_L5cls_8
            have cA51 : SA oz_L5clsl_1 A A51 := SA_trans (cA20) (SA_gluc (ι := oz_L5clsl_5) oz_L5cls_13 hA51 eA51 (by decide +kernel)) (any_subA (lₚ := [2]) (by decide +kernel))
            have mA51 := SAm_of cA51 oz_L5cls_9
            have cD51 : SD oz_L5clsl_1 D D51 := SD_trans (cD20) (SD_gluc (ι := oz_L5clsl_5) oz_L5cls_13 hD51 eD51 (by decide +kernel)) (any_subA (lₚ := [2]) (by decide +kernel))
            have mD51 := SDm_of cD51 oz_L5cls_9
            have cN51 : SD oz_L5clsl_1 N N51 := SD_trans (cN20) (SD_gluc (ι := oz_L5clsl_5) oz_L5cls_13 hN51 eN51 (by decide +kernel)) (any_subA (lₚ := [2]) (by decide +kernel))
            have mN51 := SDm_of cN51 oz_L5cls_9
            have pf51_1_0 : HID (F51 1 0 = (D51 2 : Int)) := (eF51 1 0).trans (pm51_2.trans (congrArg (fun q : Nat => (q : Int)) (eD51 2).symm))
            have r53 : HID ((-2147483648 : Int) ≤ y51_0_1 ∧ y51_0_1 ≤ 2147483647) := krg_e (show (-2147483648 : Int) ≤ F51 1 1 ∧ F51 1 1 ≤ 2147483647 from H.krg 1 1 (ltn len_V142_oz_L5cls rfl)) (show F51 1 1 = y51_0_1 from ((eF51 1 1).trans ey51_0_1))
            have r54 : HID ((0 : Int) ≤ y51_0_2 ∧ y51_0_2 ≤ 1) := krg_e (show (0 : Int) ≤ F51 1 2 ∧ F51 1 2 ≤ 1 from H.krg 1 2 (ltn len_V142_oz_L5cls rfl)) (show F51 1 2 = y51_0_2 from ((eF51 1 2).trans ey51_0_2))
            have hf62 : (y51_0_2) = 0 ∧ (y51_0_1) ≤ 133 ∧ sc ((w51_2)) 0 ((y51_0_1)) = (nb (HDV ((u0_16)) (hlF ((u3_1)) ((dlF ((u0_16)) ((u5_1))) + STZ ((w10)) (ub8 ((w4))) ((u3_1)))) ((u3_1)) ((dlF ((u0_16)) ((u5_1))) + STZ ((w10)) (ub8 ((w4))) ((u3_1))) (wdF (hlF ((u3_1)) ((dlF ((u0_16)) ((u5_1))) + STZ ((w10)) (ub8 ((w4))) ((u3_1)))))) (hbF (hlF ((u3_1)) ((dlF ((u0_16)) ((u5_1))) + STZ ((w10)) (ub8 ((w4))) ((u3_1))))) ++ DLs ((u0_16)) (sc ((w6)) 0 ((u5_1)))) := by first | (have hf := RAP_from (pz51_3 (by (have qg0 := HIDe r1; have qg1 := HIDe r53; have qg2 := HIDe r54; have qg3 := HIDe r6; have qg4 := HIDe r7; omega))) hf32.1 (a := 0) (by (have qg0 := HIDe r1; have qg1 := HIDe r53; have qg2 := HIDe r54; have qg3 := HIDe r6; have qg4 := HIDe r7; omega)) (by rw [sc_lenI (by (have qg0 := HIDe r1; have qg1 := HIDe r53; have qg2 := HIDe r54; have qg3 := HIDe r6; have qg4 := HIDe r7; omega))]; (have qg0 := HIDe r1; have qg1 := HIDe r53; have qg2 := HIDe r54; have qg3 := HIDe r6; have qg4 := HIDe r7; omega)) (by (have qg0 := HIDe r1; have qg1 := HIDe r53; have qg2 := HIDe r54; have qg3 := HIDe r6; have qg4 := HIDe r7; omega)); exact ⟨hf.1, by (have qg0 := HIDe r1; have qg1 := HIDe r53; have qg2 := HIDe r54; have qg3 := HIDe r6; have qg4 := HIDe r7; omega), by rw [hf.2, hs132, DLs_2 (by (have qg0 := HIDe r1; have qg1 := HIDe r53; have qg2 := HIDe r54; have qg3 := HIDe r6; have qg4 := HIDe r7; omega)), Int.zero_add]⟩) | exact ⟨hf32.1, by (have qg0 := HIDe r1; have qg1 := HIDe r53; have qg2 := HIDe r54; have qg3 := HIDe r6; have qg4 := HIDe r7; omega), by rw [hs132, DLs_3 (by (have qg0 := HIDe r1; have qg1 := HIDe r53; have qg2 := HIDe r54; have qg3 := HIDe r6; have qg4 := HIDe r7; omega)), List.append_nil]⟩
            have hf62a := hf62.1
            have hf62b := hf62.2.1
            have hf62c := hf62.2.2
            exact hc162  _ _ _ _ _ _ _ _  ((rk_o (lc94_0) rfl rfl).trans (congrArg (fun q : Nat => some (Value.ref q)) (mD51 0 rfl).symm)) (rk_o (lc94_2) rfl rfl) (rk_o (lc94_3) rfl rfl) (rk_o (lc94_4) rfl rfl) H O (SD_trans (SD_refl) (SD_gluc (ι := oz_L5clsl_5) oz_L5cls_13 hD51 eD51 (by decide +kernel)) (any_subA (lₚ := [2]) (by decide +kernel))) (SD_trans (SD_refl) (SD_gluc (ι := oz_L5clsl_5) oz_L5cls_13 hN51 eN51 (by decide +kernel)) (any_subA (lₚ := [2]) (by decide +kernel))) (SF_trans (SF_refl) (SF_gluc (ι := oz_L5clsl_5) oz_L5cls_13 hS51 eF51 (by decide +kernel)) (any_sub (lₚ := [(1, 0), (1, 1), (1, 2)]) (by decide +kernel))) (SA_trans (SA_refl) (SA_gluc (ι := oz_L5clsl_5) oz_L5cls_13 hA51 eA51 (by decide +kernel)) (any_subA (lₚ := [2]) (by decide +kernel))) (pf51_1_0) (m51_2) ((congrArg (fun q : Nat => (q : Int)) (eN51 2)).trans em51_2) (y51_0_1) (((eF51 1 1).trans ey51_0_1)) (y51_0_2) (((eF51 1 2).trans ey51_0_2)) (w51_2) ((eA51 2).trans ew51_2) (show 0 ≤ (y51_0_1) ∧ (y51_0_1) ≤ (m51_2) ∧ (m51_2) ≤ 65536 from pz51_0) (show (u1_4) = 0 ∧ (u1_3) = 0 ∧ (y51_0_2) = 0 by have qh0 := HIDe r4; have qh1 := HIDe r5; have qh2 := HIDe r54; omega) (show (y51_0_1) ≤ 133 by have qh0 := HIDe r53; omega) (show sc ((w51_2)) 0 ((y51_0_1)) = (nb (HDV ((u0_16)) (hlF ((u3_1)) ((dlF ((u0_16)) ((u5_1))) + STZ ((w10)) (ub8 ((w4))) ((u3_1)))) ((u3_1)) ((dlF ((u0_16)) ((u5_1))) + STZ ((w10)) (ub8 ((w4))) ((u3_1))) (wdF (hlF ((u3_1)) ((dlF ((u0_16)) ((u5_1))) + STZ ((w10)) (ub8 ((w4))) ((u3_1)))))) (hbF (hlF ((u3_1)) ((dlF ((u0_16)) ((u5_1))) + STZ ((w10)) (ub8 ((w4))) ((u3_1))))) ++ DLs ((u0_16)) (sc ((w6)) 0 ((u5_1)))) by assumption)
        refine w_icmpne (t := 87) rfl rfl (show inr (tc20_0) from jc20_0) (show inr (1) from q_135) (fun b55 => ?_) (fun b55 => ?_)
        · refine Ew_of (pcₚ := 88) (fun _ => x_iconst rfl) ?_
          refine Ew_of (pcₚ := 90) (fun _ => x_iload rfl rk_s) ?_
          refine w_imul rfl ?_
          refine Ew_of (pcₚ := 93) (fun _ => x_bipush (z := 6) rfl (by decide)) ?_
          refine w_iadd rfl ?_
          exact hc94 (((4 * tc75_0) + 6)) _ _ _ _  (rk_o (lc75_0) rfl rfl) (rk_o (lc75_1) rfl rfl) (rk_o (lc75_2) rfl rfl) (rk_o (lc75_3) rfl rfl) (rk_o (lc75_4) rfl rfl) (rk_o (lc75_5) rfl rfl) (rk_s) H O (SF_refl) (SA_refl)     (show inr (((4 * tc75_0) + 6)) by omega) (show ((tc20_0) ≠ (1) ∧ (((4 * tc75_0) + 6)) = (((4 * tc75_0) + 6))) ∨ ((tc20_0) = (1) ∧ (((4 * tc75_0) + 6)) = (10)) from q_4445 b55)
        · refine Ew_of (pcₚ := 84) (fun _ => x_bipush (z := 10) rfl (by decide)) ?_
          refine Ew_of (pcₚ := 94) (fun _ => x_goto rfl rfl) ?_
          exact hc94 (10) _ _ _ _  (rk_o (lc75_0) rfl rfl) (rk_o (lc75_1) rfl rfl) (rk_o (lc75_2) rfl rfl) (rk_o (lc75_3) rfl rfl) (rk_o (lc75_4) rfl rfl) (rk_o (lc75_5) rfl rfl) (rk_s) H O (SF_refl) (SA_refl)     (show inr (10) from q_746) (show ((tc20_0) ≠ (1) ∧ (10) = (((4 * tc75_0) + 6))) ∨ ((tc20_0) = (1) ∧ (10) = (10)) from q_4446 b55)
      refine w_icmpne (t := 71) rfl rfl (show inr (tc20_0) from jc20_0) (show inr (1) from q_135) (fun b56 => ?_) (fun b56 => ?_)
      · refine Ew_of (pcₚ := 73) (fun _ => x_iload rfl rk_s) ?_
        refine Ew_of (pcₚ := 74) (fun _ => x_iconst rfl) ?_
        refine w_isub rfl ?_
        exact hc75 ((tc60_0 - 2)) _ _ _ _  (rk_o (lc60_0) rfl rfl) (rk_o (lc60_1) rfl rfl) (rk_o (lc60_2) rfl rfl) (rk_o (lc60_3) rfl rfl) (rk_o (lc60_4) rfl rfl) (rk_s) H O (SF_refl) (SA_refl)     (show inr ((tc60_0 - 2)) by omega) (show ((tc20_0) ≠ (1) ∧ ((tc60_0 - 2)) = ((tc60_0 - 2))) ∨ ((tc20_0) = (1) ∧ ((tc60_0 - 2)) = (0)) from q_4447 b56)
      · refine Ew_of (pcₚ := 68) (fun _ => x_iconst rfl) ?_
        refine Ew_of (pcₚ := 75) (fun _ => x_goto rfl rfl) ?_
        exact hc75 (0) _ _ _ _  (rk_o (lc60_0) rfl rfl) (rk_o (lc60_1) rfl rfl) (rk_o (lc60_2) rfl rfl) (rk_o (lc60_3) rfl rfl) (rk_o (lc60_4) rfl rfl) (rk_s) H O (SF_refl) (SA_refl)     (show inr (0) from q_2) (show ((tc20_0) ≠ (1) ∧ (0) = ((tc60_0 - 2))) ∨ ((tc20_0) = (1) ∧ (0) = (0)) from q_4448 b56)
    refine w_icmpne (t := 39) rfl rfl (show inr (tc20_0) from jc20_0) (show inr (1) from q_135) (fun b57 => ?_) (fun b57 => ?_)
    · refine Ew_of (pcₚ := 40) (fun _ => x_iload_n rfl (rk_o (rk_o (lc20_2) rfl rfl) rfl rfl)) ?_
      refine Ew_of (pcₚ := 43) (fun _ => x_sipush (z := 16384) rfl (by decide)) ?_
      refine w_icmpge (t := 59) rfl rfl (show inr (u3_1) from q_4425 h14 h3) (show inr (16384) from q_80) (fun b58 => ?_) (fun b58 => ?_)
      · refine Ew_of (pcₚ := 60) (fun _ => x_iconst rfl) ?_
        exact hc60 (5) _ _ _ _  (rk_o (rk_o (lc20_0) rfl rfl) rfl rfl) (rk_o (rk_o (lc20_1) rfl rfl) rfl rfl) (rk_o (rk_o (lc20_2) rfl rfl) rfl rfl) (rk_o (rk_s) rfl rfl) (rk_s) H O (SF_refl) (SA_refl)     (show inr (5) from q_727) (show ((tc20_0) ≠ (1) ∧ (u3_1) ≥ (16384) ∧ (5) = (5)) ∨ ((tc20_0) ≠ (1) ∧ (u3_1) < (16384) ∧ ((a1 - 4)) ≥ (16384) ∧ (5) = (5)) ∨ ((tc20_0) ≠ (1) ∧ (u3_1) < (16384) ∧ ((a1 - 4)) < (16384) ∧ (5) = (4)) ∨ ((tc20_0) = (1) ∧ (5) = (3)) from q_4449 b57 b58)
      · refine Ew_of (pcₚ := 47) (fun _ => x_iload_n rfl (rk_o (rk_o (lc20_1) rfl rfl) rfl rfl)) ?_
        refine Ew_of (pcₚ := 48) (fun _ => x_iconst rfl) ?_
        refine w_isub rfl ?_
        refine Ew_of (pcₚ := 52) (fun _ => x_sipush (z := 16384) rfl (by decide)) ?_
        refine w_icmpge (t := 59) rfl rfl (show inr ((a1 - 4)) from q_4450 h5) (show inr (16384) from q_80) (fun b59 => ?_) (fun b59 => ?_)
        · refine Ew_of (pcₚ := 60) (fun _ => x_iconst rfl) ?_
          exact hc60 (5) _ _ _ _  (rk_o (rk_o (lc20_0) rfl rfl) rfl rfl) (rk_o (rk_o (lc20_1) rfl rfl) rfl rfl) (rk_o (rk_o (lc20_2) rfl rfl) rfl rfl) (rk_o (rk_s) rfl rfl) (rk_s) H O (SF_refl) (SA_refl)     (show inr (5) from q_727) (show ((tc20_0) ≠ (1) ∧ (u3_1) ≥ (16384) ∧ (5) = (5)) ∨ ((tc20_0) ≠ (1) ∧ (u3_1) < (16384) ∧ ((a1 - 4)) ≥ (16384) ∧ (5) = (5)) ∨ ((tc20_0) ≠ (1) ∧ (u3_1) < (16384) ∧ ((a1 - 4)) < (16384) ∧ (5) = (4)) ∨ ((tc20_0) = (1) ∧ (5) = (3)) from q_4451 b57 b58 b59)
        · refine Ew_of (pcₚ := 56) (fun _ => x_iconst rfl) ?_
          refine Ew_of (pcₚ := 60) (fun _ => x_goto rfl rfl) ?_
          exact hc60 (4) _ _ _ _  (rk_o (rk_o (lc20_0) rfl rfl) rfl rfl) (rk_o (rk_o (lc20_1) rfl rfl) rfl rfl) (rk_o (rk_o (lc20_2) rfl rfl) rfl rfl) (rk_o (rk_s) rfl rfl) (rk_s) H O (SF_refl) (SA_refl)     (show inr (4) from q_216) (show ((tc20_0) ≠ (1) ∧ (u3_1) ≥ (16384) ∧ (4) = (5)) ∨ ((tc20_0) ≠ (1) ∧ (u3_1) < (16384) ∧ ((a1 - 4)) ≥ (16384) ∧ (4) = (5)) ∨ ((tc20_0) ≠ (1) ∧ (u3_1) < (16384) ∧ ((a1 - 4)) < (16384) ∧ (4) = (4)) ∨ ((tc20_0) = (1) ∧ (4) = (3)) from q_4452 b57 b58 b59)
    · refine Ew_of (pcₚ := 36) (fun _ => x_iconst rfl) ?_
      refine Ew_of (pcₚ := 60) (fun _ => x_goto rfl rfl) ?_
      exact hc60 (3) _ _ _ _  (rk_o (rk_o (lc20_0) rfl rfl) rfl rfl) (rk_o (rk_o (lc20_1) rfl rfl) rfl rfl) (rk_o (rk_o (lc20_2) rfl rfl) rfl rfl) (rk_o (rk_s) rfl rfl) (rk_s) H O (SF_refl) (SA_refl)     (show inr (3) from q_246) (show ((tc20_0) ≠ (1) ∧ (u3_1) ≥ (16384) ∧ (3) = (5)) ∨ ((tc20_0) ≠ (1) ∧ (u3_1) < (16384) ∧ ((a1 - 4)) ≥ (16384) ∧ (3) = (5)) ∨ ((tc20_0) ≠ (1) ∧ (u3_1) < (16384) ∧ ((a1 - 4)) < (16384) ∧ (3) = (4)) ∨ ((tc20_0) = (1) ∧ (3) = (3)) from q_4453 b57)
  refine w_icmpge (t := 19) rfl rfl (show inr (u3_1) from q_4425 h14 h3) (show inr (1024) from q_2128) (fun b60 => ?_) (fun b60 => ?_)
  · refine Ew_of (pcₚ := 20) (fun _ => x_iconst rfl) ?_
    exact hc20 (4) _ _ _ _  (rk_o (rfl) rfl rfl) (rk_o (rfl) rfl rfl) (rk_s) H O (SF_refl) (SA_refl)     (show inr (4) from q_216) (show ((u3_1) ≥ (1024) ∧ (4) = (4)) ∨ ((u3_1) < (1024) ∧ (4) = (1)) from q_4296 b60)
  · refine Ew_of (pcₚ := 16) (fun _ => x_iconst rfl) ?_
    refine Ew_of (pcₚ := 20) (fun _ => x_goto rfl rfl) ?_
    exact hc20 (1) _ _ _ _  (rk_o (rfl) rfl rfl) (rk_o (rfl) rfl rfl) (rk_s) H O (SF_refl) (SA_refl)     (show inr (1) from q_135) (show ((u3_1) ≥ (1024) ∧ (1) = (4)) ∨ ((u3_1) < (1024) ∧ (1) = (1)) from q_4297 b60)


end
