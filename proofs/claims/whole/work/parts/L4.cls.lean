abbrev V151_c10 : vV := [(0, 6, [(4, 0), (4, 0), (4, 0), (4, 0), (4, 0), (4, 0), (4, 0), (4, 0), (4, 0), (4, 0), (4, 0), (4, 0), (4, 0), (4, 0), (4, 0), (0, 0), (0, 0), (4, 0), (4, 0)]), (0, 9, [(4, 0), (4, 0), (4, 0)]), (1, 5, []), (0, 8, [(0, 0), (0, 0), (4, 0), (4, 0), (4, 0), (4, 0), (4, 0), (4, 0), (4, 0), (4, 0), (4, 0), (0, 0), (0, 0)]), (1, 1, []), (1, 1, []), (1, 1, []), (1, 1, []), (1, 1, []), (1, 1, []), (1, 1, []), (1, 1, []), (1, 7, []), (1, 1, []), (0, 7, [(4, 0), (0, 0), (1, 0), (0, 0), (0, 0)]), (1, 0, [])]
/-- Packer.packState: this, this.next, this.next.tables, this.next.tables.0, this.next.tables.0.points, this.next.tables.0.masses, this.next.tables.0.mostBits, this.next.tables.0.starts, this.next.tables.0.symbolAt, this.next.tables.0.numberAt, this.next.tables.0.placeOf, this.next.tables.0.used, this.symbols, this.symbols.0, this.packed, this.packed.bytes -/
theorem C151_c10 {σE : rS} {D N : Nat → Nat} {F : hF} {A : hA} {d c s : Nat} {Q : wQ} (H : HW V151_c10 σE D N F A) {a2 a3 : Int} (pf1 : F 0 7 = (D 1 : Int)) (pf2 : F 1 1 = (D 2 : Int)) (pf3 : A 2 0 = (D 3 : Int)) (pf4 : F 3 2 = (D 4 : Int)) (pf5 : F 3 3 = (D 5 : Int)) (pf6 : F 3 4 = (D 6 : Int)) (pf7 : F 3 5 = (D 7 : Int)) (pf8 : F 3 7 = (D 8 : Int)) (pf9 : F 3 8 = (D 9 : Int)) (pf10 : F 3 9 = (D 10 : Int)) (pf11 : F 3 6 = (D 11 : Int)) (pf12 : F 0 13 = (D 12 : Int)) (pf13 : A 12 0 = (D 13 : Int)) (pf14 : F 0 8 = (D 14 : Int)) (pf15 : F 14 0 = (D 15 : Int)) (n2 : Int) (en2 : (N 2 : Int) = n2) (n4 : Int) (en4 : (N 4 : Int) = n4) (n5 : Int) (en5 : (N 5 : Int) = n5) (n6 : Int) (en6 : (N 6 : Int) = n6) (n7 : Int) (en7 : (N 7 : Int) = n7) (n8 : Int) (en8 : (N 8 : Int) = n8) (n9 : Int) (en9 : (N 9 : Int) = n9) (n10 : Int) (en10 : (N 10 : Int) = n10) (n11 : Int) (en11 : (N 11 : Int) = n11) (n12 : Int) (en12 : (N 12 : Int) = n12) (n13 : Int) (en13 : (N 13 : Int) = n13) (n15 : Int) (en15 : (N 15 : Int) = n15) (u3_0 : Int) (eu3_0 : F 3 0 = u3_0) (u3_1 : Int) (eu3_1 : F 3 1 = u3_1) (u14_1 : Int) (eu14_1 : F 14 1 = u14_1) (u14_2 : Int) (eu14_2 : F 14 2 = u14_2) (u14_3 : Int) (eu14_3 : F 14 3 = u14_3) (u14_4 : Int) (eu14_4 : F 14 4 = u14_4) (w4 : Int → Int) (ew4 : A 4 = w4) (w5 : Int → Int) (ew5 : A 5 = w5) (w6 : Int → Int) (ew6 : A 6 = w6) (w7 : Int → Int) (ew7 : A 7 = w7) (w8 : Int → Int) (ew8 : A 8 = w8) (w9 : Int → Int) (ew9 : A 9 = w9) (w10 : Int → Int) (ew10 : A 10 = w10) (w13 : Int → Int) (ew13 : A 13 = w13) (w15 : Int → Int) (ew15 : A 15 = w15) (h0 : inr (0)) (h1 : inr (a2)) (h2 : inr (a3)) (h3 : SL ((w4)) ((u3_1)) ((u3_0)) ((w5)) ((w6)) ((w7)) ((w8)) ((w9)) ((w10))) (h4 : SZD ((n4)) ((n5)) ((n6)) ((n7)) ((n11)) ((n8)) ((n9)) ((n10)) ((u3_1)) ((u3_0))) (h5 : 0 ≤ (a2) ∧ (a2) < p2 ((u3_0))) (h6 : 0 ≤ (a3) ∧ (a3) < (n13)) (h7 : 0 ≤ ((w13)) (a3) ∧ ((w13)) (a3) < (u3_1) ∧ ((w4)) (((w13)) (a3)) ≠ 0) (h8 : (n12) = 3 ∧ (n2) = 3) (h9 : 0 ≤ (u14_1) ∧ (u14_1) ≤ (n15) ∧ (n15) ≤ 65536) (h10 : 0 ≤ (u14_4) ∧ (u14_4) ≤ 7) (k : ∀ (z : Int) (σ : rS) (F' : hF) (A' : hA), HW V151_c10 σ D N F' A' → OUT (V151_c10).length D N σE c s D N σ c s → SF [(14, 1), (14, 2), (14, 3), (14, 4)] F F' → SA [15] A A' → ∀ y14_1 : Int, F' 14 1 = y14_1 → ∀ y14_2 : Int, F' 14 2 = y14_2 → ∀ y14_3 : Int, F' 14 3 = y14_3 → ∀ y14_4 : Int, F' 14 4 = y14_4 → ∀ v15 : Int → Int, A' 15 = v15 → (inr (z)) → (0 ≤ (z) ∧ (z) < p2 ((u3_0))) → (0 ≤ (y14_1) ∧ (y14_1) ≤ (n15) ∧ (n15) ≤ 65536) → (0 ≤ (y14_4) ∧ (y14_4) ≤ 7) → ((z) = (nxS (((u3_0), cutP ((u3_1)) ((w4))) : TSt) (((w13)) (a3)) ((a2))).1) → (IMP ((0 ≤ (u14_3) ∧ (u14_3) < p2 ((u14_4))) ∧ (u14_1) + 2 ≤ (n15)) (RBA ((u14_2)) ((w15)) ((u14_1)) ((u14_3)) ((u14_4)) ((y14_2)) ((v15)) ((y14_1)) ((y14_3)) ((y14_4)) ((nxS (((u3_0), cutP ((u3_1)) ((w4))) : TSt) (((w13)) (a3)) ((a2))).2) ∧ (0 ≤ (y14_3) ∧ (y14_3) < p2 ((y14_4))) ∧ 8 * (y14_1) + (y14_4) ≤ 8 * (u14_1) + (u14_4) + 9)) → Q (some (I z)) σ c s) : Ew 151 (d + 1) 0 (rargs 0 [.ref (D 0), I 0, I a2, I a3]) [] σE c s Q := by
  have O := OUT_refl (n := (V151_c10).length) (D := D) (N := N) (σ := σE) (c := c) (s := s)
  have HE := H
  have r1 : HID ((-2147483648 : Int) ≤ u3_0 ∧ u3_0 ≤ 2147483647) := krg_e (show (-2147483648 : Int) ≤ F 3 0 ∧ F 3 0 ≤ 2147483647 from H.krg 3 0 (by decide)) (show F 3 0 = u3_0 from (eu3_0))
  have r2 : HID ((-2147483648 : Int) ≤ u3_1 ∧ u3_1 ≤ 2147483647) := krg_e (show (-2147483648 : Int) ≤ F 3 1 ∧ F 3 1 ≤ 2147483647 from H.krg 3 1 (by decide)) (show F 3 1 = u3_1 from (eu3_1))
  have r3 : HID ((-2147483648 : Int) ≤ u14_1 ∧ u14_1 ≤ 2147483647) := krg_e (show (-2147483648 : Int) ≤ F 14 1 ∧ F 14 1 ≤ 2147483647 from H.krg 14 1 (by decide)) (show F 14 1 = u14_1 from (eu14_1))
  have r4 : HID ((0 : Int) ≤ u14_2 ∧ u14_2 ≤ 1) := krg_e (show (0 : Int) ≤ F 14 2 ∧ F 14 2 ≤ 1 from H.krg 14 2 (by decide)) (show F 14 2 = u14_2 from (eu14_2))
  have r5 : HID ((-2147483648 : Int) ≤ u14_3 ∧ u14_3 ≤ 2147483647) := krg_e (show (-2147483648 : Int) ≤ F 14 3 ∧ F 14 3 ≤ 2147483647 from H.krg 14 3 (by decide)) (show F 14 3 = u14_3 from (eu14_3))
  have r6 : HID ((-2147483648 : Int) ≤ u14_4 ∧ u14_4 ≤ 2147483647) := krg_e (show (-2147483648 : Int) ≤ F 14 4 ∧ F 14 4 ≤ 2147483647 from H.krg 14 4 (by decide)) (show F 14 4 = u14_4 from (eu14_4))
  replace pf1 := HIDm pf1
  replace pf2 := HIDm pf2
  replace pf3 := HIDm pf3
  replace pf4 := HIDm pf4
  replace pf5 := HIDm pf5
  replace pf6 := HIDm pf6
  replace pf7 := HIDm pf7
  replace pf8 := HIDm pf8
  replace pf9 := HIDm pf9
  replace pf10 := HIDm pf10
  replace pf11 := HIDm pf11
  replace pf12 := HIDm pf12
  replace pf13 := HIDm pf13
  replace pf14 := HIDm pf14
  replace pf15 := HIDm pf15
  replace en2 := HIDm en2
  replace en4 := HIDm en4
  replace en5 := HIDm en5
  replace en6 := HIDm en6
  replace en7 := HIDm en7
  replace en8 := HIDm en8
  replace en9 := HIDm en9
  replace en10 := HIDm en10
  replace en11 := HIDm en11
  replace en12 := HIDm en12
  replace en13 := HIDm en13
  replace en15 := HIDm en15
  replace eu3_0 := HIDm eu3_0
  replace eu3_1 := HIDm eu3_1
  replace eu14_1 := HIDm eu14_1
  replace eu14_2 := HIDm eu14_2
  replace eu14_3 := HIDm eu14_3
  replace eu14_4 := HIDm eu14_4
  have r7 : HID ((0 : Int) ≤ n2 ∧ n2 ≤ 1000000) := nrng (H.nle 2 (by decide)) (show (N 2 : Int) = n2 from en2)
  have r8 : HID ((0 : Int) ≤ n4 ∧ n4 ≤ 1000000) := nrng (H.nle 4 (by decide)) (show (N 4 : Int) = n4 from en4)
  have r9 : HID ((0 : Int) ≤ n5 ∧ n5 ≤ 1000000) := nrng (H.nle 5 (by decide)) (show (N 5 : Int) = n5 from en5)
  have r10 : HID ((0 : Int) ≤ n6 ∧ n6 ≤ 1000000) := nrng (H.nle 6 (by decide)) (show (N 6 : Int) = n6 from en6)
  have r11 : HID ((0 : Int) ≤ n7 ∧ n7 ≤ 1000000) := nrng (H.nle 7 (by decide)) (show (N 7 : Int) = n7 from en7)
  have r12 : HID ((0 : Int) ≤ n8 ∧ n8 ≤ 1000000) := nrng (H.nle 8 (by decide)) (show (N 8 : Int) = n8 from en8)
  have r13 : HID ((0 : Int) ≤ n9 ∧ n9 ≤ 1000000) := nrng (H.nle 9 (by decide)) (show (N 9 : Int) = n9 from en9)
  have r14 : HID ((0 : Int) ≤ n10 ∧ n10 ≤ 1000000) := nrng (H.nle 10 (by decide)) (show (N 10 : Int) = n10 from en10)
  have r15 : HID ((0 : Int) ≤ n11 ∧ n11 ≤ 1000000) := nrng (H.nle 11 (by decide)) (show (N 11 : Int) = n11 from en11)
  have r16 : HID ((0 : Int) ≤ n12 ∧ n12 ≤ 1000000) := nrng (H.nle 12 (by decide)) (show (N 12 : Int) = n12 from en12)
  have r17 : HID ((0 : Int) ≤ n13 ∧ n13 ≤ 1000000) := nrng (H.nle 13 (by decide)) (show (N 13 : Int) = n13 from en13)
  have r18 : HID ((0 : Int) ≤ n15 ∧ n15 ≤ 1000000) := nrng (H.nle 15 (by decide)) (show (N 15 : Int) = n15 from en15)
  have hsl : SL ((w4)) ((u3_1)) ((u3_0)) ((w5)) ((w6)) ((w7)) ((w8)) ((w9)) ((w10)) := by assumption
  have hsf := SHD_f hsl.1
  have hrw : 0 ≤ ((w13)) (a3) ∧ ((w13)) (a3) < (u3_1) ∧ ((w4)) (((w13)) (a3)) ≠ 0 := by assumption
  refine Ew_of (pc' := 1) (fun _ => x_aload_n rfl rfl) ?_
  refine v_g H (o := 0) (v := .ref (D 1)) rfl rfl rfl rfl rfl (vrf (pf1)) ?_
  refine v_g H (o := 1) (v := .ref (D 2)) rfl rfl rfl rfl rfl (vrf (pf2)) ?_
  refine Ew_of (pc' := 8) (fun _ => x_iload_n rfl rfl) ?_
  refine v_lR H (o := 2) rfl rfl rfl rfl rfl (n := n2) (en2) (show 0 ≤ 0 ∧ 0 < n2 by have qh0 := HIDe r7; omega) (z := ((D 3 : Nat) : Int)) (v := .ref (D 3)) (pf3) (vrf rfl) ?_
  refine Ew_of (pc' := 11) (fun _ => x_astore rfl) ?_
  refine Ew_of (pc' := 12) (fun _ => x_aload_n rfl (rk_o (rfl) rfl rfl)) ?_
  refine v_g H (o := 0) (v := .ref (D 12)) rfl rfl rfl rfl rfl (vrf (pf12)) ?_
  refine Ew_of (pc' := 16) (fun _ => x_iload_n rfl (rk_o (rfl) rfl rfl)) ?_
  refine v_lR H (o := 12) rfl rfl rfl rfl rfl (n := n12) (en12) (show 0 ≤ 0 ∧ 0 < n12 by have qh0 := HIDe r16; omega) (z := ((D 13 : Nat) : Int)) (v := .ref (D 13)) (pf13) (vrf rfl) ?_
  refine Ew_of (pc' := 18) (fun _ => x_iload_n rfl (rk_o (rfl) rfl rfl)) ?_
  refine v_lI H (o := 13) rfl rfl rfl rfl (n := n13) (en13) (show 0 ≤ a3 ∧ a3 < n13 by have qh0 := HIDe r17; omega) (fun v19 ev19 qv19 => ?_)
  replace qv19 := HIDm qv19
  have ev19 : (w13) (a3) = v19 := (congrFun (ew13) (a3)).symm.trans ev19
  have hsy19 := ev19
  rw [ev19] at hrw
  refine Ew_of (pc' := 21) (fun _ => x_istore rfl) ?_
  refine Ew_of (pc' := 23) (fun _ => x_aload rfl (rk_o (rk_s) rfl rfl)) ?_
  refine Ew_of (pc' := 24) (fun _ => x_iload_n rfl (rk_o (rk_o (rfl) rfl rfl) rfl rfl)) ?_
  refine Ew_of (pc' := 26) (fun _ => x_iload rfl rk_s) ?_
  refine v_inv H (o := 3) rfl rfl rfl rfl rfl rfl (by rfl) (C175o (D := pul [3, 4, 5, 6, 7, 8, 9, 10, 11] D) (N := pul [3, 4, 5, 6, 7, 8, 9, 10, 11] N) (HW_sub H (VS_of (show vsub V151_c10 V175 [3, 4, 5, 6, 7, 8, 9, 10, 11] = true by decide +kernel))) (pf4) (pf5) (pf6) (pf7) (pf8) (pf9) (pf10) (pf11) (n4) (en4) (n5) (en5) (n6) (en6) (n7) (en7) (n8) (en8) (n9) (en9) (n10) (en10) (n11) (en11) (u3_0) ((eu3_0)) (u3_1) ((eu3_1)) (w4) (ew4) (w5) (ew5) (w6) (ew6) (w7) (ew7) (w8) (ew8) (w9) (ew9) (w10) (ew10) (show inr (a2) by omega) (show inr (v19) by have qh0 := HIDe qv19; omega) (show SL ((w4)) ((u3_1)) ((u3_0)) ((w5)) ((w6)) ((w7)) ((w8)) ((w9)) ((w10)) by assumption) (show SZD ((n4)) ((n5)) ((n6)) ((n7)) ((n11)) ((n8)) ((n9)) ((n10)) ((u3_1)) ((u3_0)) by assumption) (show 0 ≤ (a2) ∧ (a2) < p2 ((u3_0)) by have qh0 := HIDe r1; omega) (show 0 ≤ (v19) ∧ (v19) < ((u3_1)) ∧ ((w4)) (v19) ≠ 0 by have qh0 := HIDe qv19; have qh1 := HIDe r2; omega) (fun z20 σ20 F20' A20' H' O' hS20 hA20 pz20_0 pz20_1 pz20_2 => ⟨rfl, ?_⟩))
  refine v_back (c := c) (s := s) H (show vsub V151_c10 V175 [3, 4, 5, 6, 7, 8, 9, 10, 11] = true by decide +kernel) H' O' (fun F20 A20 H O' eF20 eA20 => ?_)
  have O := OUT_trans O O'
  -- Share.bitsAhead
  refine Ew_of (pc' := 31) (fun _ => x_istore rfl) ?_
  refine Ew_of (pc' := 32) (fun _ => x_aload_n rfl (rk_o (rk_o (rk_o (rfl) rfl rfl) rfl rfl) rfl rfl)) ?_
  refine v_g H (o := 0) (v := .ref (D 14)) rfl rfl rfl rfl rfl (vrf ((((show F20 0 8 = F 0 8 from (eF20 0 8)))).trans (pf14))) ?_
  refine Ew_of (pc' := 36) (fun _ => x_iload_n rfl (rk_o (rk_o (rk_o (rfl) rfl rfl) rfl rfl) rfl rfl)) ?_
  refine Ew_of (pc' := 38) (fun _ => x_iload rfl rk_s) ?_
  refine v_inv H (o := 14) rfl rfl rfl rfl rfl rfl (by rfl) (C164 (D := pul [14, 15] D) (N := pul [14, 15] N) (HW_sub H (VS_of (show vsub V151_c10 V164 [14, 15] = true by decide +kernel))) ((((show F20 14 0 = F 14 0 from (eF20 14 0)))).trans (pf15)) (n15) (en15) (u14_1) ((((show F20 14 1 = F 14 1 from (eF20 14 1))).trans (eu14_1))) (u14_2) ((((show F20 14 2 = F 14 2 from (eF20 14 2))).trans (eu14_2))) (u14_3) ((((show F20 14 3 = F 14 3 from (eF20 14 3))).trans (eu14_3))) (u14_4) ((((show F20 14 4 = F 14 4 from (eF20 14 4))).trans (eu14_4))) (w15) (((show A20 15 = A 15 from (eA20 15))).trans (ew15)) (show inr (a2) by omega) (show inr (z20) by omega) (show 0 ≤ (u14_1) ∧ (u14_1) ≤ (n15) ∧ (n15) ≤ 65536 by have qh0 := HIDe r18; have qh1 := HIDe r3; omega) (show 0 ≤ (z20) ∧ (z20) ≤ 31 by omega) (show 0 ≤ (u14_4) ∧ (u14_4) ≤ 7 by have qh0 := HIDe r6; omega) (fun σ21 F21' A21' H' O' hS21 hA21 y21_0_1 ey21_0_1 y21_0_2 ey21_0_2 y21_0_3 ey21_0_3 y21_0_4 ey21_0_4 w21_1 ew21_1 pz21_0 pz21_1 pz21_2 pz21_3 => ⟨rfl, ?_⟩))
  replace ey21_0_1 := HIDm ey21_0_1
  replace ey21_0_2 := HIDm ey21_0_2
  replace ey21_0_3 := HIDm ey21_0_3
  replace ey21_0_4 := HIDm ey21_0_4
  refine v_back (c := c) (s := s) H (show vsub V151_c10 V164 [14, 15] = true by decide +kernel) H' O' (fun F21 A21 H O' eF21 eA21 => ?_)
  have O := OUT_trans O O'
  -- Row.addBits
  have r22 : HID ((-2147483648 : Int) ≤ y21_0_1 ∧ y21_0_1 ≤ 2147483647) := krg_e (show (-2147483648 : Int) ≤ F21 14 1 ∧ F21 14 1 ≤ 2147483647 from H.krg 14 1 (by decide)) (show F21 14 1 = y21_0_1 from ((eF21 14 1).trans ey21_0_1))
  have r23 : HID ((0 : Int) ≤ y21_0_2 ∧ y21_0_2 ≤ 1) := krg_e (show (0 : Int) ≤ F21 14 2 ∧ F21 14 2 ≤ 1 from H.krg 14 2 (by decide)) (show F21 14 2 = y21_0_2 from ((eF21 14 2).trans ey21_0_2))
  have r24 : HID ((-2147483648 : Int) ≤ y21_0_3 ∧ y21_0_3 ≤ 2147483647) := krg_e (show (-2147483648 : Int) ≤ F21 14 3 ∧ F21 14 3 ≤ 2147483647 from H.krg 14 3 (by decide)) (show F21 14 3 = y21_0_3 from ((eF21 14 3).trans ey21_0_3))
  have r25 : HID ((-2147483648 : Int) ≤ y21_0_4 ∧ y21_0_4 ≤ 2147483647) := krg_e (show (-2147483648 : Int) ≤ F21 14 4 ∧ F21 14 4 ≤ 2147483647 from H.krg 14 4 (by decide)) (show F21 14 4 = y21_0_4 from ((eF21 14 4).trans ey21_0_4))
  have hp41 := pz21_3
  refine Ew_of (pc' := 43) (fun _ => x_aload rfl (rk_o (rk_o (rk_s) rfl rfl) rfl rfl)) ?_
  refine Ew_of (pc' := 44) (fun _ => x_iload_n rfl (rk_o (rk_o (rk_o (rfl) rfl rfl) rfl rfl) rfl rfl)) ?_
  refine Ew_of (pc' := 46) (fun _ => x_iload rfl (rk_o (rk_s) rfl rfl)) ?_
  refine Ew_of (pc' := 48) (fun _ => x_iload rfl rk_s) ?_
  refine v_inv H (o := 3) rfl rfl rfl rfl rfl rfl (by rfl) (C176o (D := pul [3, 4, 5, 6, 7, 8, 9, 10, 11] D) (N := pul [3, 4, 5, 6, 7, 8, 9, 10, 11] N) (HW_sub H (VS_of (show vsub V151_c10 V176 [3, 4, 5, 6, 7, 8, 9, 10, 11] = true by decide +kernel))) (((((show F21 3 2 = F20 3 2 from (eF21 3 2))).trans ((show F20 3 2 = F 3 2 from (eF20 3 2).trans (hS20 0 2 rfl))))).trans (pf4)) (((((show F21 3 3 = F20 3 3 from (eF21 3 3))).trans ((show F20 3 3 = F 3 3 from (eF20 3 3).trans (hS20 0 3 rfl))))).trans (pf5)) (((((show F21 3 4 = F20 3 4 from (eF21 3 4))).trans ((show F20 3 4 = F 3 4 from (eF20 3 4).trans (hS20 0 4 rfl))))).trans (pf6)) (((((show F21 3 5 = F20 3 5 from (eF21 3 5))).trans ((show F20 3 5 = F 3 5 from (eF20 3 5).trans (hS20 0 5 rfl))))).trans (pf7)) (((((show F21 3 7 = F20 3 7 from (eF21 3 7))).trans ((show F20 3 7 = F 3 7 from (eF20 3 7).trans (hS20 0 7 rfl))))).trans (pf8)) (((((show F21 3 8 = F20 3 8 from (eF21 3 8))).trans ((show F20 3 8 = F 3 8 from (eF20 3 8).trans (hS20 0 8 rfl))))).trans (pf9)) (((((show F21 3 9 = F20 3 9 from (eF21 3 9))).trans ((show F20 3 9 = F 3 9 from (eF20 3 9).trans (hS20 0 9 rfl))))).trans (pf10)) (((((show F21 3 6 = F20 3 6 from (eF21 3 6))).trans ((show F20 3 6 = F 3 6 from (eF20 3 6).trans (hS20 0 6 rfl))))).trans (pf11)) (n4) (en4) (n5) (en5) (n6) (en6) (n7) (en7) (n8) (en8) (n9) (en9) (n10) (en10) (n11) (en11) (u3_0) (((((show F21 3 0 = F20 3 0 from (eF21 3 0))).trans ((show F20 3 0 = F 3 0 from (eF20 3 0).trans (hS20 0 0 rfl)))).trans (eu3_0))) (u3_1) (((((show F21 3 1 = F20 3 1 from (eF21 3 1))).trans ((show F20 3 1 = F 3 1 from (eF20 3 1).trans (hS20 0 1 rfl)))).trans (eu3_1))) (w4) (((show A21 4 = A20 4 from (eA21 4))).trans (((show A20 4 = A 4 from (eA20 4).trans (funext (hA20 1 rfl)))).trans (ew4))) (w5) (((show A21 5 = A20 5 from (eA21 5))).trans (((show A20 5 = A 5 from (eA20 5).trans (funext (hA20 2 rfl)))).trans (ew5))) (w6) (((show A21 6 = A20 6 from (eA21 6))).trans (((show A20 6 = A 6 from (eA20 6).trans (funext (hA20 3 rfl)))).trans (ew6))) (w7) (((show A21 7 = A20 7 from (eA21 7))).trans (((show A20 7 = A 7 from (eA20 7).trans (funext (hA20 4 rfl)))).trans (ew7))) (w8) (((show A21 8 = A20 8 from (eA21 8))).trans (((show A20 8 = A 8 from (eA20 8).trans (funext (hA20 5 rfl)))).trans (ew8))) (w9) (((show A21 9 = A20 9 from (eA21 9))).trans (((show A20 9 = A 9 from (eA20 9).trans (funext (hA20 6 rfl)))).trans (ew9))) (w10) (((show A21 10 = A20 10 from (eA21 10))).trans (((show A20 10 = A 10 from (eA20 10).trans (funext (hA20 7 rfl)))).trans (ew10))) (show inr (a2) by omega) (show inr (v19) by have qh0 := HIDe qv19; omega) (show inr (z20) by omega) (show SL ((w4)) ((u3_1)) ((u3_0)) ((w5)) ((w6)) ((w7)) ((w8)) ((w9)) ((w10)) by assumption) (show SZD ((n4)) ((n5)) ((n6)) ((n7)) ((n11)) ((n8)) ((n9)) ((n10)) ((u3_1)) ((u3_0)) by assumption) (show 0 ≤ (a2) ∧ (a2) < p2 ((u3_0)) by have qh0 := HIDe r1; omega) (show 0 ≤ (v19) ∧ (v19) < ((u3_1)) ∧ ((w4)) (v19) ≠ 0 by have qh0 := HIDe qv19; have qh1 := HIDe r2; omega) (show BA (mass (((w4)) (v19))) ((u3_0)) (a2) (z20) by assumption) (fun z26 σ26 F26' A26' H' O' hS26 hA26 pz26_0 pz26_1 pz26_2 => ⟨rfl, ?_⟩))
  refine v_back (c := c) (s := s) H (show vsub V151_c10 V176 [3, 4, 5, 6, 7, 8, 9, 10, 11] = true by decide +kernel) H' O' (fun F26 A26 H O' eF26 eA26 => ?_)
  have O := OUT_trans O O'
  -- Share.placeAhead
  have hnx : nxS (((u3_0), cutP ((u3_1)) ((w4))) : TSt) (((w13)) (a3)) ((a2)) = ((z26), btw ((a2)) ((z20))) := by rw [hsy19]; exact sl_nx hsl (by (have qg0 := HIDe r1; have qg1 := HIDe r2; omega)) pz26_2.1 (by (have qg0 := HIDe r1; have qg1 := HIDe r2; omega)) pz20_1 pz26_2.2
  have : (z26) = (nxS (((u3_0), cutP ((u3_1)) ((w4))) : TSt) (((w13)) (a3)) ((a2))).1 := by rw [hnx]
  have : IMP ((0 ≤ (u14_3) ∧ (u14_3) < p2 ((u14_4))) ∧ (u14_1) + 2 ≤ (n15)) (RBA ((u14_2)) ((w15)) ((u14_1)) ((u14_3)) ((u14_4)) ((y21_0_2)) ((w21_1)) ((y21_0_1)) ((y21_0_3)) ((y21_0_4)) ((nxS (((u3_0), cutP ((u3_1)) ((w4))) : TSt) (((w13)) (a3)) ((a2))).2) ∧ (0 ≤ (y21_0_3) ∧ (y21_0_3) < p2 ((y21_0_4))) ∧ 8 * (y21_0_1) + (y21_0_4) ≤ 8 * (u14_1) + (u14_4) + 9) := fun q => by rw [hnx]; have q1 := q.1; have q1a := q1.1; have q1b := q1.2; have q2 := q.2; obtain ⟨r1, h1, b1⟩ := hp41 ⟨by (have qg0 := HIDe r1; have qg1 := HIDe r18; have qg2 := HIDe r2; have qg3 := HIDe r22; have qg4 := HIDe r23; have qg5 := HIDe r24; have qg6 := HIDe r25; have qg7 := HIDe r3; have qg8 := HIDe r4; have qg9 := HIDe r5; have qg10 := HIDe r6; omega), q1a, q1b, by (have qg0 := HIDe r1; have qg1 := HIDe r18; have qg2 := HIDe r2; have qg3 := HIDe r22; have qg4 := HIDe r23; have qg5 := HIDe r24; have qg6 := HIDe r25; have qg7 := HIDe r3; have qg8 := HIDe r4; have qg9 := HIDe r5; have qg10 := HIDe r6; omega)⟩; exact ⟨r1, h1, by (have qg0 := HIDe r1; have qg1 := HIDe r18; have qg2 := HIDe r2; have qg3 := HIDe r22; have qg4 := HIDe r23; have qg5 := HIDe r24; have qg6 := HIDe r25; have qg7 := HIDe r3; have qg8 := HIDe r4; have qg9 := HIDe r5; have qg10 := HIDe r6; omega)⟩
  exact w_ireturn rfl (k (z26) _ _ _ H O (SF_trans (SF_trans (SF_trans (SF_refl) (SF_glu (ι := [3, 4, 5, 6, 7, 8, 9, 10, 11]) hS20 eF20 (by decide +kernel)) (any_sub (l' := []) rfl)) (SF_glu (ι := [14, 15]) hS21 eF21 (by decide +kernel)) (any_sub (l' := [(14, 1), (14, 2), (14, 3), (14, 4)]) rfl)) (SF_glu (ι := [3, 4, 5, 6, 7, 8, 9, 10, 11]) hS26 eF26 (by decide +kernel)) (any_sub (l' := []) rfl)) (SA_trans (SA_trans (SA_trans (SA_refl) (SA_glu (ι := [3, 4, 5, 6, 7, 8, 9, 10, 11]) hA20 eA20 (by decide +kernel)) (any_subA (l' := []) rfl)) (SA_glu (ι := [14, 15]) hA21 eA21 (by decide +kernel)) (any_subA (l' := [15]) rfl)) (SA_glu (ι := [3, 4, 5, 6, 7, 8, 9, 10, 11]) hA26 eA26 (by decide +kernel)) (any_subA (l' := []) rfl)) (y21_0_1) ((((show F26 14 1 = F21 14 1 from (eF26 14 1))).trans ((eF21 14 1).trans ey21_0_1))) (y21_0_2) ((((show F26 14 2 = F21 14 2 from (eF26 14 2))).trans ((eF21 14 2).trans ey21_0_2))) (y21_0_3) ((((show F26 14 3 = F21 14 3 from (eF26 14 3))).trans ((eF21 14 3).trans ey21_0_3))) (y21_0_4) ((((show F26 14 4 = F21 14 4 from (eF26 14 4))).trans ((eF21 14 4).trans ey21_0_4))) (w21_1) (((show A26 15 = A21 15 from (eA26 15))).trans ((eA21 15).trans ew21_1)) (show inr (z26) by omega) (show 0 ≤ (z26) ∧ (z26) < p2 ((u3_0)) by have qh0 := HIDe r1; omega) (show 0 ≤ (y21_0_1) ∧ (y21_0_1) ≤ (n15) ∧ (n15) ≤ 65536 by have qh0 := HIDe r18; have qh1 := HIDe r22; omega) (show 0 ≤ (y21_0_4) ∧ (y21_0_4) ≤ 7 by have qh0 := HIDe r25; omega) (show (z26) = (nxS (((u3_0), cutP ((u3_1)) ((w4))) : TSt) (((w13)) (a3)) ((a2))).1 by assumption) (show IMP ((0 ≤ (u14_3) ∧ (u14_3) < p2 ((u14_4))) ∧ (u14_1) + 2 ≤ (n15)) (RBA ((u14_2)) ((w15)) ((u14_1)) ((u14_3)) ((u14_4)) ((y21_0_2)) ((w21_1)) ((y21_0_1)) ((y21_0_3)) ((y21_0_4)) ((nxS (((u3_0), cutP ((u3_1)) ((w4))) : TSt) (((w13)) (a3)) ((a2))).2) ∧ (0 ≤ (y21_0_3) ∧ (y21_0_3) < p2 ((y21_0_4))) ∧ 8 * (y21_0_1) + (y21_0_4) ≤ 8 * (u14_1) + (u14_4) + 9) by assumption))
abbrev V151_c11 : vV := [(0, 6, [(4, 0), (4, 0), (4, 0), (4, 0), (4, 0), (4, 0), (4, 0), (4, 0), (4, 0), (4, 0), (4, 0), (4, 0), (4, 0), (4, 0), (4, 0), (0, 0), (0, 0), (4, 0), (4, 0)]), (0, 9, [(4, 0), (4, 0), (4, 0)]), (1, 5, []), (0, 8, [(0, 0), (0, 0), (4, 0), (4, 0), (4, 0), (4, 0), (4, 0), (4, 0), (4, 0), (4, 0), (4, 0), (0, 0), (0, 0)]), (1, 1, []), (1, 1, []), (1, 1, []), (1, 1, []), (1, 1, []), (1, 1, []), (1, 1, []), (1, 1, []), (1, 7, []), (1, 1, []), (0, 7, [(4, 0), (0, 0), (1, 0), (0, 0), (0, 0)]), (1, 0, [])]
/-- Packer.packState: this, this.next, this.next.tables, this.next.tables.1, this.next.tables.1.points, this.next.tables.1.masses, this.next.tables.1.mostBits, this.next.tables.1.starts, this.next.tables.1.symbolAt, this.next.tables.1.numberAt, this.next.tables.1.placeOf, this.next.tables.1.used, this.symbols, this.symbols.1, this.packed, this.packed.bytes -/
theorem C151_c11 {σE : rS} {D N : Nat → Nat} {F : hF} {A : hA} {d c s : Nat} {Q : wQ} (H : HW V151_c11 σE D N F A) {a2 a3 : Int} (pf1 : F 0 7 = (D 1 : Int)) (pf2 : F 1 1 = (D 2 : Int)) (pf3 : A 2 1 = (D 3 : Int)) (pf4 : F 3 2 = (D 4 : Int)) (pf5 : F 3 3 = (D 5 : Int)) (pf6 : F 3 4 = (D 6 : Int)) (pf7 : F 3 5 = (D 7 : Int)) (pf8 : F 3 7 = (D 8 : Int)) (pf9 : F 3 8 = (D 9 : Int)) (pf10 : F 3 9 = (D 10 : Int)) (pf11 : F 3 6 = (D 11 : Int)) (pf12 : F 0 13 = (D 12 : Int)) (pf13 : A 12 1 = (D 13 : Int)) (pf14 : F 0 8 = (D 14 : Int)) (pf15 : F 14 0 = (D 15 : Int)) (n2 : Int) (en2 : (N 2 : Int) = n2) (n4 : Int) (en4 : (N 4 : Int) = n4) (n5 : Int) (en5 : (N 5 : Int) = n5) (n6 : Int) (en6 : (N 6 : Int) = n6) (n7 : Int) (en7 : (N 7 : Int) = n7) (n8 : Int) (en8 : (N 8 : Int) = n8) (n9 : Int) (en9 : (N 9 : Int) = n9) (n10 : Int) (en10 : (N 10 : Int) = n10) (n11 : Int) (en11 : (N 11 : Int) = n11) (n12 : Int) (en12 : (N 12 : Int) = n12) (n13 : Int) (en13 : (N 13 : Int) = n13) (n15 : Int) (en15 : (N 15 : Int) = n15) (u3_0 : Int) (eu3_0 : F 3 0 = u3_0) (u3_1 : Int) (eu3_1 : F 3 1 = u3_1) (u14_1 : Int) (eu14_1 : F 14 1 = u14_1) (u14_2 : Int) (eu14_2 : F 14 2 = u14_2) (u14_3 : Int) (eu14_3 : F 14 3 = u14_3) (u14_4 : Int) (eu14_4 : F 14 4 = u14_4) (w4 : Int → Int) (ew4 : A 4 = w4) (w5 : Int → Int) (ew5 : A 5 = w5) (w6 : Int → Int) (ew6 : A 6 = w6) (w7 : Int → Int) (ew7 : A 7 = w7) (w8 : Int → Int) (ew8 : A 8 = w8) (w9 : Int → Int) (ew9 : A 9 = w9) (w10 : Int → Int) (ew10 : A 10 = w10) (w13 : Int → Int) (ew13 : A 13 = w13) (w15 : Int → Int) (ew15 : A 15 = w15) (h0 : inr (1)) (h1 : inr (a2)) (h2 : inr (a3)) (h3 : SL ((w4)) ((u3_1)) ((u3_0)) ((w5)) ((w6)) ((w7)) ((w8)) ((w9)) ((w10))) (h4 : SZD ((n4)) ((n5)) ((n6)) ((n7)) ((n11)) ((n8)) ((n9)) ((n10)) ((u3_1)) ((u3_0))) (h5 : 0 ≤ (a2) ∧ (a2) < p2 ((u3_0))) (h6 : 0 ≤ (a3) ∧ (a3) < (n13)) (h7 : 0 ≤ ((w13)) (a3) ∧ ((w13)) (a3) < (u3_1) ∧ ((w4)) (((w13)) (a3)) ≠ 0) (h8 : (n12) = 3 ∧ (n2) = 3) (h9 : 0 ≤ (u14_1) ∧ (u14_1) ≤ (n15) ∧ (n15) ≤ 65536) (h10 : 0 ≤ (u14_4) ∧ (u14_4) ≤ 7) (k : ∀ (z : Int) (σ : rS) (F' : hF) (A' : hA), HW V151_c11 σ D N F' A' → OUT (V151_c11).length D N σE c s D N σ c s → SF [(14, 1), (14, 2), (14, 3), (14, 4)] F F' → SA [15] A A' → ∀ y14_1 : Int, F' 14 1 = y14_1 → ∀ y14_2 : Int, F' 14 2 = y14_2 → ∀ y14_3 : Int, F' 14 3 = y14_3 → ∀ y14_4 : Int, F' 14 4 = y14_4 → ∀ v15 : Int → Int, A' 15 = v15 → (inr (z)) → (0 ≤ (z) ∧ (z) < p2 ((u3_0))) → (0 ≤ (y14_1) ∧ (y14_1) ≤ (n15) ∧ (n15) ≤ 65536) → (0 ≤ (y14_4) ∧ (y14_4) ≤ 7) → ((z) = (nxS (((u3_0), cutP ((u3_1)) ((w4))) : TSt) (((w13)) (a3)) ((a2))).1) → (IMP ((0 ≤ (u14_3) ∧ (u14_3) < p2 ((u14_4))) ∧ (u14_1) + 2 ≤ (n15)) (RBA ((u14_2)) ((w15)) ((u14_1)) ((u14_3)) ((u14_4)) ((y14_2)) ((v15)) ((y14_1)) ((y14_3)) ((y14_4)) ((nxS (((u3_0), cutP ((u3_1)) ((w4))) : TSt) (((w13)) (a3)) ((a2))).2) ∧ (0 ≤ (y14_3) ∧ (y14_3) < p2 ((y14_4))) ∧ 8 * (y14_1) + (y14_4) ≤ 8 * (u14_1) + (u14_4) + 9)) → Q (some (I z)) σ c s) : Ew 151 (d + 1) 0 (rargs 0 [.ref (D 0), I 1, I a2, I a3]) [] σE c s Q := by
  have O := OUT_refl (n := (V151_c11).length) (D := D) (N := N) (σ := σE) (c := c) (s := s)
  have HE := H
  have r1 : HID ((-2147483648 : Int) ≤ u3_0 ∧ u3_0 ≤ 2147483647) := krg_e (show (-2147483648 : Int) ≤ F 3 0 ∧ F 3 0 ≤ 2147483647 from H.krg 3 0 (by decide)) (show F 3 0 = u3_0 from (eu3_0))
  have r2 : HID ((-2147483648 : Int) ≤ u3_1 ∧ u3_1 ≤ 2147483647) := krg_e (show (-2147483648 : Int) ≤ F 3 1 ∧ F 3 1 ≤ 2147483647 from H.krg 3 1 (by decide)) (show F 3 1 = u3_1 from (eu3_1))
  have r3 : HID ((-2147483648 : Int) ≤ u14_1 ∧ u14_1 ≤ 2147483647) := krg_e (show (-2147483648 : Int) ≤ F 14 1 ∧ F 14 1 ≤ 2147483647 from H.krg 14 1 (by decide)) (show F 14 1 = u14_1 from (eu14_1))
  have r4 : HID ((0 : Int) ≤ u14_2 ∧ u14_2 ≤ 1) := krg_e (show (0 : Int) ≤ F 14 2 ∧ F 14 2 ≤ 1 from H.krg 14 2 (by decide)) (show F 14 2 = u14_2 from (eu14_2))
  have r5 : HID ((-2147483648 : Int) ≤ u14_3 ∧ u14_3 ≤ 2147483647) := krg_e (show (-2147483648 : Int) ≤ F 14 3 ∧ F 14 3 ≤ 2147483647 from H.krg 14 3 (by decide)) (show F 14 3 = u14_3 from (eu14_3))
  have r6 : HID ((-2147483648 : Int) ≤ u14_4 ∧ u14_4 ≤ 2147483647) := krg_e (show (-2147483648 : Int) ≤ F 14 4 ∧ F 14 4 ≤ 2147483647 from H.krg 14 4 (by decide)) (show F 14 4 = u14_4 from (eu14_4))
  replace pf1 := HIDm pf1
  replace pf2 := HIDm pf2
  replace pf3 := HIDm pf3
  replace pf4 := HIDm pf4
  replace pf5 := HIDm pf5
  replace pf6 := HIDm pf6
  replace pf7 := HIDm pf7
  replace pf8 := HIDm pf8
  replace pf9 := HIDm pf9
  replace pf10 := HIDm pf10
  replace pf11 := HIDm pf11
  replace pf12 := HIDm pf12
  replace pf13 := HIDm pf13
  replace pf14 := HIDm pf14
  replace pf15 := HIDm pf15
  replace en2 := HIDm en2
  replace en4 := HIDm en4
  replace en5 := HIDm en5
  replace en6 := HIDm en6
  replace en7 := HIDm en7
  replace en8 := HIDm en8
  replace en9 := HIDm en9
  replace en10 := HIDm en10
  replace en11 := HIDm en11
  replace en12 := HIDm en12
  replace en13 := HIDm en13
  replace en15 := HIDm en15
  replace eu3_0 := HIDm eu3_0
  replace eu3_1 := HIDm eu3_1
  replace eu14_1 := HIDm eu14_1
  replace eu14_2 := HIDm eu14_2
  replace eu14_3 := HIDm eu14_3
  replace eu14_4 := HIDm eu14_4
  have r7 : HID ((0 : Int) ≤ n2 ∧ n2 ≤ 1000000) := nrng (H.nle 2 (by decide)) (show (N 2 : Int) = n2 from en2)
  have r8 : HID ((0 : Int) ≤ n4 ∧ n4 ≤ 1000000) := nrng (H.nle 4 (by decide)) (show (N 4 : Int) = n4 from en4)
  have r9 : HID ((0 : Int) ≤ n5 ∧ n5 ≤ 1000000) := nrng (H.nle 5 (by decide)) (show (N 5 : Int) = n5 from en5)
  have r10 : HID ((0 : Int) ≤ n6 ∧ n6 ≤ 1000000) := nrng (H.nle 6 (by decide)) (show (N 6 : Int) = n6 from en6)
  have r11 : HID ((0 : Int) ≤ n7 ∧ n7 ≤ 1000000) := nrng (H.nle 7 (by decide)) (show (N 7 : Int) = n7 from en7)
  have r12 : HID ((0 : Int) ≤ n8 ∧ n8 ≤ 1000000) := nrng (H.nle 8 (by decide)) (show (N 8 : Int) = n8 from en8)
  have r13 : HID ((0 : Int) ≤ n9 ∧ n9 ≤ 1000000) := nrng (H.nle 9 (by decide)) (show (N 9 : Int) = n9 from en9)
  have r14 : HID ((0 : Int) ≤ n10 ∧ n10 ≤ 1000000) := nrng (H.nle 10 (by decide)) (show (N 10 : Int) = n10 from en10)
  have r15 : HID ((0 : Int) ≤ n11 ∧ n11 ≤ 1000000) := nrng (H.nle 11 (by decide)) (show (N 11 : Int) = n11 from en11)
  have r16 : HID ((0 : Int) ≤ n12 ∧ n12 ≤ 1000000) := nrng (H.nle 12 (by decide)) (show (N 12 : Int) = n12 from en12)
  have r17 : HID ((0 : Int) ≤ n13 ∧ n13 ≤ 1000000) := nrng (H.nle 13 (by decide)) (show (N 13 : Int) = n13 from en13)
  have r18 : HID ((0 : Int) ≤ n15 ∧ n15 ≤ 1000000) := nrng (H.nle 15 (by decide)) (show (N 15 : Int) = n15 from en15)
  have hsl : SL ((w4)) ((u3_1)) ((u3_0)) ((w5)) ((w6)) ((w7)) ((w8)) ((w9)) ((w10)) := by assumption
  have hsf := SHD_f hsl.1
  have hrw : 0 ≤ ((w13)) (a3) ∧ ((w13)) (a3) < (u3_1) ∧ ((w4)) (((w13)) (a3)) ≠ 0 := by assumption
  refine Ew_of (pc' := 1) (fun _ => x_aload_n rfl rfl) ?_
  refine v_g H (o := 0) (v := .ref (D 1)) rfl rfl rfl rfl rfl (vrf (pf1)) ?_
  refine v_g H (o := 1) (v := .ref (D 2)) rfl rfl rfl rfl rfl (vrf (pf2)) ?_
  refine Ew_of (pc' := 8) (fun _ => x_iload_n rfl rfl) ?_
  refine v_lR H (o := 2) rfl rfl rfl rfl rfl (n := n2) (en2) (show 0 ≤ 1 ∧ 1 < n2 by have qh0 := HIDe r7; omega) (z := ((D 3 : Nat) : Int)) (v := .ref (D 3)) (pf3) (vrf rfl) ?_
  refine Ew_of (pc' := 11) (fun _ => x_astore rfl) ?_
  refine Ew_of (pc' := 12) (fun _ => x_aload_n rfl (rk_o (rfl) rfl rfl)) ?_
  refine v_g H (o := 0) (v := .ref (D 12)) rfl rfl rfl rfl rfl (vrf (pf12)) ?_
  refine Ew_of (pc' := 16) (fun _ => x_iload_n rfl (rk_o (rfl) rfl rfl)) ?_
  refine v_lR H (o := 12) rfl rfl rfl rfl rfl (n := n12) (en12) (show 0 ≤ 1 ∧ 1 < n12 by have qh0 := HIDe r16; omega) (z := ((D 13 : Nat) : Int)) (v := .ref (D 13)) (pf13) (vrf rfl) ?_
  refine Ew_of (pc' := 18) (fun _ => x_iload_n rfl (rk_o (rfl) rfl rfl)) ?_
  refine v_lI H (o := 13) rfl rfl rfl rfl (n := n13) (en13) (show 0 ≤ a3 ∧ a3 < n13 by have qh0 := HIDe r17; omega) (fun v19 ev19 qv19 => ?_)
  replace qv19 := HIDm qv19
  have ev19 : (w13) (a3) = v19 := (congrFun (ew13) (a3)).symm.trans ev19
  have hsy19 := ev19
  rw [ev19] at hrw
  refine Ew_of (pc' := 21) (fun _ => x_istore rfl) ?_
  refine Ew_of (pc' := 23) (fun _ => x_aload rfl (rk_o (rk_s) rfl rfl)) ?_
  refine Ew_of (pc' := 24) (fun _ => x_iload_n rfl (rk_o (rk_o (rfl) rfl rfl) rfl rfl)) ?_
  refine Ew_of (pc' := 26) (fun _ => x_iload rfl rk_s) ?_
  refine v_inv H (o := 3) rfl rfl rfl rfl rfl rfl (by rfl) (C175o (D := pul [3, 4, 5, 6, 7, 8, 9, 10, 11] D) (N := pul [3, 4, 5, 6, 7, 8, 9, 10, 11] N) (HW_sub H (VS_of (show vsub V151_c11 V175 [3, 4, 5, 6, 7, 8, 9, 10, 11] = true by decide +kernel))) (pf4) (pf5) (pf6) (pf7) (pf8) (pf9) (pf10) (pf11) (n4) (en4) (n5) (en5) (n6) (en6) (n7) (en7) (n8) (en8) (n9) (en9) (n10) (en10) (n11) (en11) (u3_0) ((eu3_0)) (u3_1) ((eu3_1)) (w4) (ew4) (w5) (ew5) (w6) (ew6) (w7) (ew7) (w8) (ew8) (w9) (ew9) (w10) (ew10) (show inr (a2) by omega) (show inr (v19) by have qh0 := HIDe qv19; omega) (show SL ((w4)) ((u3_1)) ((u3_0)) ((w5)) ((w6)) ((w7)) ((w8)) ((w9)) ((w10)) by assumption) (show SZD ((n4)) ((n5)) ((n6)) ((n7)) ((n11)) ((n8)) ((n9)) ((n10)) ((u3_1)) ((u3_0)) by assumption) (show 0 ≤ (a2) ∧ (a2) < p2 ((u3_0)) by have qh0 := HIDe r1; omega) (show 0 ≤ (v19) ∧ (v19) < ((u3_1)) ∧ ((w4)) (v19) ≠ 0 by have qh0 := HIDe qv19; have qh1 := HIDe r2; omega) (fun z20 σ20 F20' A20' H' O' hS20 hA20 pz20_0 pz20_1 pz20_2 => ⟨rfl, ?_⟩))
  refine v_back (c := c) (s := s) H (show vsub V151_c11 V175 [3, 4, 5, 6, 7, 8, 9, 10, 11] = true by decide +kernel) H' O' (fun F20 A20 H O' eF20 eA20 => ?_)
  have O := OUT_trans O O'
  -- Share.bitsAhead
  refine Ew_of (pc' := 31) (fun _ => x_istore rfl) ?_
  refine Ew_of (pc' := 32) (fun _ => x_aload_n rfl (rk_o (rk_o (rk_o (rfl) rfl rfl) rfl rfl) rfl rfl)) ?_
  refine v_g H (o := 0) (v := .ref (D 14)) rfl rfl rfl rfl rfl (vrf ((((show F20 0 8 = F 0 8 from (eF20 0 8)))).trans (pf14))) ?_
  refine Ew_of (pc' := 36) (fun _ => x_iload_n rfl (rk_o (rk_o (rk_o (rfl) rfl rfl) rfl rfl) rfl rfl)) ?_
  refine Ew_of (pc' := 38) (fun _ => x_iload rfl rk_s) ?_
  refine v_inv H (o := 14) rfl rfl rfl rfl rfl rfl (by rfl) (C164 (D := pul [14, 15] D) (N := pul [14, 15] N) (HW_sub H (VS_of (show vsub V151_c11 V164 [14, 15] = true by decide +kernel))) ((((show F20 14 0 = F 14 0 from (eF20 14 0)))).trans (pf15)) (n15) (en15) (u14_1) ((((show F20 14 1 = F 14 1 from (eF20 14 1))).trans (eu14_1))) (u14_2) ((((show F20 14 2 = F 14 2 from (eF20 14 2))).trans (eu14_2))) (u14_3) ((((show F20 14 3 = F 14 3 from (eF20 14 3))).trans (eu14_3))) (u14_4) ((((show F20 14 4 = F 14 4 from (eF20 14 4))).trans (eu14_4))) (w15) (((show A20 15 = A 15 from (eA20 15))).trans (ew15)) (show inr (a2) by omega) (show inr (z20) by omega) (show 0 ≤ (u14_1) ∧ (u14_1) ≤ (n15) ∧ (n15) ≤ 65536 by have qh0 := HIDe r18; have qh1 := HIDe r3; omega) (show 0 ≤ (z20) ∧ (z20) ≤ 31 by omega) (show 0 ≤ (u14_4) ∧ (u14_4) ≤ 7 by have qh0 := HIDe r6; omega) (fun σ21 F21' A21' H' O' hS21 hA21 y21_0_1 ey21_0_1 y21_0_2 ey21_0_2 y21_0_3 ey21_0_3 y21_0_4 ey21_0_4 w21_1 ew21_1 pz21_0 pz21_1 pz21_2 pz21_3 => ⟨rfl, ?_⟩))
  replace ey21_0_1 := HIDm ey21_0_1
  replace ey21_0_2 := HIDm ey21_0_2
  replace ey21_0_3 := HIDm ey21_0_3
  replace ey21_0_4 := HIDm ey21_0_4
  refine v_back (c := c) (s := s) H (show vsub V151_c11 V164 [14, 15] = true by decide +kernel) H' O' (fun F21 A21 H O' eF21 eA21 => ?_)
  have O := OUT_trans O O'
  -- Row.addBits
  have r22 : HID ((-2147483648 : Int) ≤ y21_0_1 ∧ y21_0_1 ≤ 2147483647) := krg_e (show (-2147483648 : Int) ≤ F21 14 1 ∧ F21 14 1 ≤ 2147483647 from H.krg 14 1 (by decide)) (show F21 14 1 = y21_0_1 from ((eF21 14 1).trans ey21_0_1))
  have r23 : HID ((0 : Int) ≤ y21_0_2 ∧ y21_0_2 ≤ 1) := krg_e (show (0 : Int) ≤ F21 14 2 ∧ F21 14 2 ≤ 1 from H.krg 14 2 (by decide)) (show F21 14 2 = y21_0_2 from ((eF21 14 2).trans ey21_0_2))
  have r24 : HID ((-2147483648 : Int) ≤ y21_0_3 ∧ y21_0_3 ≤ 2147483647) := krg_e (show (-2147483648 : Int) ≤ F21 14 3 ∧ F21 14 3 ≤ 2147483647 from H.krg 14 3 (by decide)) (show F21 14 3 = y21_0_3 from ((eF21 14 3).trans ey21_0_3))
  have r25 : HID ((-2147483648 : Int) ≤ y21_0_4 ∧ y21_0_4 ≤ 2147483647) := krg_e (show (-2147483648 : Int) ≤ F21 14 4 ∧ F21 14 4 ≤ 2147483647 from H.krg 14 4 (by decide)) (show F21 14 4 = y21_0_4 from ((eF21 14 4).trans ey21_0_4))
  have hp41 := pz21_3
  refine Ew_of (pc' := 43) (fun _ => x_aload rfl (rk_o (rk_o (rk_s) rfl rfl) rfl rfl)) ?_
  refine Ew_of (pc' := 44) (fun _ => x_iload_n rfl (rk_o (rk_o (rk_o (rfl) rfl rfl) rfl rfl) rfl rfl)) ?_
  refine Ew_of (pc' := 46) (fun _ => x_iload rfl (rk_o (rk_s) rfl rfl)) ?_
  refine Ew_of (pc' := 48) (fun _ => x_iload rfl rk_s) ?_
  refine v_inv H (o := 3) rfl rfl rfl rfl rfl rfl (by rfl) (C176o (D := pul [3, 4, 5, 6, 7, 8, 9, 10, 11] D) (N := pul [3, 4, 5, 6, 7, 8, 9, 10, 11] N) (HW_sub H (VS_of (show vsub V151_c11 V176 [3, 4, 5, 6, 7, 8, 9, 10, 11] = true by decide +kernel))) (((((show F21 3 2 = F20 3 2 from (eF21 3 2))).trans ((show F20 3 2 = F 3 2 from (eF20 3 2).trans (hS20 0 2 rfl))))).trans (pf4)) (((((show F21 3 3 = F20 3 3 from (eF21 3 3))).trans ((show F20 3 3 = F 3 3 from (eF20 3 3).trans (hS20 0 3 rfl))))).trans (pf5)) (((((show F21 3 4 = F20 3 4 from (eF21 3 4))).trans ((show F20 3 4 = F 3 4 from (eF20 3 4).trans (hS20 0 4 rfl))))).trans (pf6)) (((((show F21 3 5 = F20 3 5 from (eF21 3 5))).trans ((show F20 3 5 = F 3 5 from (eF20 3 5).trans (hS20 0 5 rfl))))).trans (pf7)) (((((show F21 3 7 = F20 3 7 from (eF21 3 7))).trans ((show F20 3 7 = F 3 7 from (eF20 3 7).trans (hS20 0 7 rfl))))).trans (pf8)) (((((show F21 3 8 = F20 3 8 from (eF21 3 8))).trans ((show F20 3 8 = F 3 8 from (eF20 3 8).trans (hS20 0 8 rfl))))).trans (pf9)) (((((show F21 3 9 = F20 3 9 from (eF21 3 9))).trans ((show F20 3 9 = F 3 9 from (eF20 3 9).trans (hS20 0 9 rfl))))).trans (pf10)) (((((show F21 3 6 = F20 3 6 from (eF21 3 6))).trans ((show F20 3 6 = F 3 6 from (eF20 3 6).trans (hS20 0 6 rfl))))).trans (pf11)) (n4) (en4) (n5) (en5) (n6) (en6) (n7) (en7) (n8) (en8) (n9) (en9) (n10) (en10) (n11) (en11) (u3_0) (((((show F21 3 0 = F20 3 0 from (eF21 3 0))).trans ((show F20 3 0 = F 3 0 from (eF20 3 0).trans (hS20 0 0 rfl)))).trans (eu3_0))) (u3_1) (((((show F21 3 1 = F20 3 1 from (eF21 3 1))).trans ((show F20 3 1 = F 3 1 from (eF20 3 1).trans (hS20 0 1 rfl)))).trans (eu3_1))) (w4) (((show A21 4 = A20 4 from (eA21 4))).trans (((show A20 4 = A 4 from (eA20 4).trans (funext (hA20 1 rfl)))).trans (ew4))) (w5) (((show A21 5 = A20 5 from (eA21 5))).trans (((show A20 5 = A 5 from (eA20 5).trans (funext (hA20 2 rfl)))).trans (ew5))) (w6) (((show A21 6 = A20 6 from (eA21 6))).trans (((show A20 6 = A 6 from (eA20 6).trans (funext (hA20 3 rfl)))).trans (ew6))) (w7) (((show A21 7 = A20 7 from (eA21 7))).trans (((show A20 7 = A 7 from (eA20 7).trans (funext (hA20 4 rfl)))).trans (ew7))) (w8) (((show A21 8 = A20 8 from (eA21 8))).trans (((show A20 8 = A 8 from (eA20 8).trans (funext (hA20 5 rfl)))).trans (ew8))) (w9) (((show A21 9 = A20 9 from (eA21 9))).trans (((show A20 9 = A 9 from (eA20 9).trans (funext (hA20 6 rfl)))).trans (ew9))) (w10) (((show A21 10 = A20 10 from (eA21 10))).trans (((show A20 10 = A 10 from (eA20 10).trans (funext (hA20 7 rfl)))).trans (ew10))) (show inr (a2) by omega) (show inr (v19) by have qh0 := HIDe qv19; omega) (show inr (z20) by omega) (show SL ((w4)) ((u3_1)) ((u3_0)) ((w5)) ((w6)) ((w7)) ((w8)) ((w9)) ((w10)) by assumption) (show SZD ((n4)) ((n5)) ((n6)) ((n7)) ((n11)) ((n8)) ((n9)) ((n10)) ((u3_1)) ((u3_0)) by assumption) (show 0 ≤ (a2) ∧ (a2) < p2 ((u3_0)) by have qh0 := HIDe r1; omega) (show 0 ≤ (v19) ∧ (v19) < ((u3_1)) ∧ ((w4)) (v19) ≠ 0 by have qh0 := HIDe qv19; have qh1 := HIDe r2; omega) (show BA (mass (((w4)) (v19))) ((u3_0)) (a2) (z20) by assumption) (fun z26 σ26 F26' A26' H' O' hS26 hA26 pz26_0 pz26_1 pz26_2 => ⟨rfl, ?_⟩))
  refine v_back (c := c) (s := s) H (show vsub V151_c11 V176 [3, 4, 5, 6, 7, 8, 9, 10, 11] = true by decide +kernel) H' O' (fun F26 A26 H O' eF26 eA26 => ?_)
  have O := OUT_trans O O'
  -- Share.placeAhead
  have hnx : nxS (((u3_0), cutP ((u3_1)) ((w4))) : TSt) (((w13)) (a3)) ((a2)) = ((z26), btw ((a2)) ((z20))) := by rw [hsy19]; exact sl_nx hsl (by (have qg0 := HIDe r1; have qg1 := HIDe r2; omega)) pz26_2.1 (by (have qg0 := HIDe r1; have qg1 := HIDe r2; omega)) pz20_1 pz26_2.2
  have : (z26) = (nxS (((u3_0), cutP ((u3_1)) ((w4))) : TSt) (((w13)) (a3)) ((a2))).1 := by rw [hnx]
  have : IMP ((0 ≤ (u14_3) ∧ (u14_3) < p2 ((u14_4))) ∧ (u14_1) + 2 ≤ (n15)) (RBA ((u14_2)) ((w15)) ((u14_1)) ((u14_3)) ((u14_4)) ((y21_0_2)) ((w21_1)) ((y21_0_1)) ((y21_0_3)) ((y21_0_4)) ((nxS (((u3_0), cutP ((u3_1)) ((w4))) : TSt) (((w13)) (a3)) ((a2))).2) ∧ (0 ≤ (y21_0_3) ∧ (y21_0_3) < p2 ((y21_0_4))) ∧ 8 * (y21_0_1) + (y21_0_4) ≤ 8 * (u14_1) + (u14_4) + 9) := fun q => by rw [hnx]; have q1 := q.1; have q1a := q1.1; have q1b := q1.2; have q2 := q.2; obtain ⟨r1, h1, b1⟩ := hp41 ⟨by (have qg0 := HIDe r1; have qg1 := HIDe r18; have qg2 := HIDe r2; have qg3 := HIDe r22; have qg4 := HIDe r23; have qg5 := HIDe r24; have qg6 := HIDe r25; have qg7 := HIDe r3; have qg8 := HIDe r4; have qg9 := HIDe r5; have qg10 := HIDe r6; omega), q1a, q1b, by (have qg0 := HIDe r1; have qg1 := HIDe r18; have qg2 := HIDe r2; have qg3 := HIDe r22; have qg4 := HIDe r23; have qg5 := HIDe r24; have qg6 := HIDe r25; have qg7 := HIDe r3; have qg8 := HIDe r4; have qg9 := HIDe r5; have qg10 := HIDe r6; omega)⟩; exact ⟨r1, h1, by (have qg0 := HIDe r1; have qg1 := HIDe r18; have qg2 := HIDe r2; have qg3 := HIDe r22; have qg4 := HIDe r23; have qg5 := HIDe r24; have qg6 := HIDe r25; have qg7 := HIDe r3; have qg8 := HIDe r4; have qg9 := HIDe r5; have qg10 := HIDe r6; omega)⟩
  exact w_ireturn rfl (k (z26) _ _ _ H O (SF_trans (SF_trans (SF_trans (SF_refl) (SF_glu (ι := [3, 4, 5, 6, 7, 8, 9, 10, 11]) hS20 eF20 (by decide +kernel)) (any_sub (l' := []) rfl)) (SF_glu (ι := [14, 15]) hS21 eF21 (by decide +kernel)) (any_sub (l' := [(14, 1), (14, 2), (14, 3), (14, 4)]) rfl)) (SF_glu (ι := [3, 4, 5, 6, 7, 8, 9, 10, 11]) hS26 eF26 (by decide +kernel)) (any_sub (l' := []) rfl)) (SA_trans (SA_trans (SA_trans (SA_refl) (SA_glu (ι := [3, 4, 5, 6, 7, 8, 9, 10, 11]) hA20 eA20 (by decide +kernel)) (any_subA (l' := []) rfl)) (SA_glu (ι := [14, 15]) hA21 eA21 (by decide +kernel)) (any_subA (l' := [15]) rfl)) (SA_glu (ι := [3, 4, 5, 6, 7, 8, 9, 10, 11]) hA26 eA26 (by decide +kernel)) (any_subA (l' := []) rfl)) (y21_0_1) ((((show F26 14 1 = F21 14 1 from (eF26 14 1))).trans ((eF21 14 1).trans ey21_0_1))) (y21_0_2) ((((show F26 14 2 = F21 14 2 from (eF26 14 2))).trans ((eF21 14 2).trans ey21_0_2))) (y21_0_3) ((((show F26 14 3 = F21 14 3 from (eF26 14 3))).trans ((eF21 14 3).trans ey21_0_3))) (y21_0_4) ((((show F26 14 4 = F21 14 4 from (eF26 14 4))).trans ((eF21 14 4).trans ey21_0_4))) (w21_1) (((show A26 15 = A21 15 from (eA26 15))).trans ((eA21 15).trans ew21_1)) (show inr (z26) by omega) (show 0 ≤ (z26) ∧ (z26) < p2 ((u3_0)) by have qh0 := HIDe r1; omega) (show 0 ≤ (y21_0_1) ∧ (y21_0_1) ≤ (n15) ∧ (n15) ≤ 65536 by have qh0 := HIDe r18; have qh1 := HIDe r22; omega) (show 0 ≤ (y21_0_4) ∧ (y21_0_4) ≤ 7 by have qh0 := HIDe r25; omega) (show (z26) = (nxS (((u3_0), cutP ((u3_1)) ((w4))) : TSt) (((w13)) (a3)) ((a2))).1 by assumption) (show IMP ((0 ≤ (u14_3) ∧ (u14_3) < p2 ((u14_4))) ∧ (u14_1) + 2 ≤ (n15)) (RBA ((u14_2)) ((w15)) ((u14_1)) ((u14_3)) ((u14_4)) ((y21_0_2)) ((w21_1)) ((y21_0_1)) ((y21_0_3)) ((y21_0_4)) ((nxS (((u3_0), cutP ((u3_1)) ((w4))) : TSt) (((w13)) (a3)) ((a2))).2) ∧ (0 ≤ (y21_0_3) ∧ (y21_0_3) < p2 ((y21_0_4))) ∧ 8 * (y21_0_1) + (y21_0_4) ≤ 8 * (u14_1) + (u14_4) + 9) by assumption))
abbrev V151_c12 : vV := [(0, 6, [(4, 0), (4, 0), (4, 0), (4, 0), (4, 0), (4, 0), (4, 0), (4, 0), (4, 0), (4, 0), (4, 0), (4, 0), (4, 0), (4, 0), (4, 0), (0, 0), (0, 0), (4, 0), (4, 0)]), (0, 9, [(4, 0), (4, 0), (4, 0)]), (1, 5, []), (0, 8, [(0, 0), (0, 0), (4, 0), (4, 0), (4, 0), (4, 0), (4, 0), (4, 0), (4, 0), (4, 0), (4, 0), (0, 0), (0, 0)]), (1, 1, []), (1, 1, []), (1, 1, []), (1, 1, []), (1, 1, []), (1, 1, []), (1, 1, []), (1, 1, []), (1, 7, []), (1, 1, []), (0, 7, [(4, 0), (0, 0), (1, 0), (0, 0), (0, 0)]), (1, 0, [])]
/-- Packer.packState: this, this.next, this.next.tables, this.next.tables.2, this.next.tables.2.points, this.next.tables.2.masses, this.next.tables.2.mostBits, this.next.tables.2.starts, this.next.tables.2.symbolAt, this.next.tables.2.numberAt, this.next.tables.2.placeOf, this.next.tables.2.used, this.symbols, this.symbols.2, this.packed, this.packed.bytes -/
theorem C151_c12 {σE : rS} {D N : Nat → Nat} {F : hF} {A : hA} {d c s : Nat} {Q : wQ} (H : HW V151_c12 σE D N F A) {a2 a3 : Int} (pf1 : F 0 7 = (D 1 : Int)) (pf2 : F 1 1 = (D 2 : Int)) (pf3 : A 2 2 = (D 3 : Int)) (pf4 : F 3 2 = (D 4 : Int)) (pf5 : F 3 3 = (D 5 : Int)) (pf6 : F 3 4 = (D 6 : Int)) (pf7 : F 3 5 = (D 7 : Int)) (pf8 : F 3 7 = (D 8 : Int)) (pf9 : F 3 8 = (D 9 : Int)) (pf10 : F 3 9 = (D 10 : Int)) (pf11 : F 3 6 = (D 11 : Int)) (pf12 : F 0 13 = (D 12 : Int)) (pf13 : A 12 2 = (D 13 : Int)) (pf14 : F 0 8 = (D 14 : Int)) (pf15 : F 14 0 = (D 15 : Int)) (n2 : Int) (en2 : (N 2 : Int) = n2) (n4 : Int) (en4 : (N 4 : Int) = n4) (n5 : Int) (en5 : (N 5 : Int) = n5) (n6 : Int) (en6 : (N 6 : Int) = n6) (n7 : Int) (en7 : (N 7 : Int) = n7) (n8 : Int) (en8 : (N 8 : Int) = n8) (n9 : Int) (en9 : (N 9 : Int) = n9) (n10 : Int) (en10 : (N 10 : Int) = n10) (n11 : Int) (en11 : (N 11 : Int) = n11) (n12 : Int) (en12 : (N 12 : Int) = n12) (n13 : Int) (en13 : (N 13 : Int) = n13) (n15 : Int) (en15 : (N 15 : Int) = n15) (u3_0 : Int) (eu3_0 : F 3 0 = u3_0) (u3_1 : Int) (eu3_1 : F 3 1 = u3_1) (u14_1 : Int) (eu14_1 : F 14 1 = u14_1) (u14_2 : Int) (eu14_2 : F 14 2 = u14_2) (u14_3 : Int) (eu14_3 : F 14 3 = u14_3) (u14_4 : Int) (eu14_4 : F 14 4 = u14_4) (w4 : Int → Int) (ew4 : A 4 = w4) (w5 : Int → Int) (ew5 : A 5 = w5) (w6 : Int → Int) (ew6 : A 6 = w6) (w7 : Int → Int) (ew7 : A 7 = w7) (w8 : Int → Int) (ew8 : A 8 = w8) (w9 : Int → Int) (ew9 : A 9 = w9) (w10 : Int → Int) (ew10 : A 10 = w10) (w13 : Int → Int) (ew13 : A 13 = w13) (w15 : Int → Int) (ew15 : A 15 = w15) (h0 : inr (2)) (h1 : inr (a2)) (h2 : inr (a3)) (h3 : SL ((w4)) ((u3_1)) ((u3_0)) ((w5)) ((w6)) ((w7)) ((w8)) ((w9)) ((w10))) (h4 : SZD ((n4)) ((n5)) ((n6)) ((n7)) ((n11)) ((n8)) ((n9)) ((n10)) ((u3_1)) ((u3_0))) (h5 : 0 ≤ (a2) ∧ (a2) < p2 ((u3_0))) (h6 : 0 ≤ (a3) ∧ (a3) < (n13)) (h7 : 0 ≤ ((w13)) (a3) ∧ ((w13)) (a3) < (u3_1) ∧ ((w4)) (((w13)) (a3)) ≠ 0) (h8 : (n12) = 3 ∧ (n2) = 3) (h9 : 0 ≤ (u14_1) ∧ (u14_1) ≤ (n15) ∧ (n15) ≤ 65536) (h10 : 0 ≤ (u14_4) ∧ (u14_4) ≤ 7) (k : ∀ (z : Int) (σ : rS) (F' : hF) (A' : hA), HW V151_c12 σ D N F' A' → OUT (V151_c12).length D N σE c s D N σ c s → SF [(14, 1), (14, 2), (14, 3), (14, 4)] F F' → SA [15] A A' → ∀ y14_1 : Int, F' 14 1 = y14_1 → ∀ y14_2 : Int, F' 14 2 = y14_2 → ∀ y14_3 : Int, F' 14 3 = y14_3 → ∀ y14_4 : Int, F' 14 4 = y14_4 → ∀ v15 : Int → Int, A' 15 = v15 → (inr (z)) → (0 ≤ (z) ∧ (z) < p2 ((u3_0))) → (0 ≤ (y14_1) ∧ (y14_1) ≤ (n15) ∧ (n15) ≤ 65536) → (0 ≤ (y14_4) ∧ (y14_4) ≤ 7) → ((z) = (nxS (((u3_0), cutP ((u3_1)) ((w4))) : TSt) (((w13)) (a3)) ((a2))).1) → (IMP ((0 ≤ (u14_3) ∧ (u14_3) < p2 ((u14_4))) ∧ (u14_1) + 2 ≤ (n15)) (RBA ((u14_2)) ((w15)) ((u14_1)) ((u14_3)) ((u14_4)) ((y14_2)) ((v15)) ((y14_1)) ((y14_3)) ((y14_4)) ((nxS (((u3_0), cutP ((u3_1)) ((w4))) : TSt) (((w13)) (a3)) ((a2))).2) ∧ (0 ≤ (y14_3) ∧ (y14_3) < p2 ((y14_4))) ∧ 8 * (y14_1) + (y14_4) ≤ 8 * (u14_1) + (u14_4) + 9)) → Q (some (I z)) σ c s) : Ew 151 (d + 1) 0 (rargs 0 [.ref (D 0), I 2, I a2, I a3]) [] σE c s Q := by
  have O := OUT_refl (n := (V151_c12).length) (D := D) (N := N) (σ := σE) (c := c) (s := s)
  have HE := H
  have r1 : HID ((-2147483648 : Int) ≤ u3_0 ∧ u3_0 ≤ 2147483647) := krg_e (show (-2147483648 : Int) ≤ F 3 0 ∧ F 3 0 ≤ 2147483647 from H.krg 3 0 (by decide)) (show F 3 0 = u3_0 from (eu3_0))
  have r2 : HID ((-2147483648 : Int) ≤ u3_1 ∧ u3_1 ≤ 2147483647) := krg_e (show (-2147483648 : Int) ≤ F 3 1 ∧ F 3 1 ≤ 2147483647 from H.krg 3 1 (by decide)) (show F 3 1 = u3_1 from (eu3_1))
  have r3 : HID ((-2147483648 : Int) ≤ u14_1 ∧ u14_1 ≤ 2147483647) := krg_e (show (-2147483648 : Int) ≤ F 14 1 ∧ F 14 1 ≤ 2147483647 from H.krg 14 1 (by decide)) (show F 14 1 = u14_1 from (eu14_1))
  have r4 : HID ((0 : Int) ≤ u14_2 ∧ u14_2 ≤ 1) := krg_e (show (0 : Int) ≤ F 14 2 ∧ F 14 2 ≤ 1 from H.krg 14 2 (by decide)) (show F 14 2 = u14_2 from (eu14_2))
  have r5 : HID ((-2147483648 : Int) ≤ u14_3 ∧ u14_3 ≤ 2147483647) := krg_e (show (-2147483648 : Int) ≤ F 14 3 ∧ F 14 3 ≤ 2147483647 from H.krg 14 3 (by decide)) (show F 14 3 = u14_3 from (eu14_3))
  have r6 : HID ((-2147483648 : Int) ≤ u14_4 ∧ u14_4 ≤ 2147483647) := krg_e (show (-2147483648 : Int) ≤ F 14 4 ∧ F 14 4 ≤ 2147483647 from H.krg 14 4 (by decide)) (show F 14 4 = u14_4 from (eu14_4))
  replace pf1 := HIDm pf1
  replace pf2 := HIDm pf2
  replace pf3 := HIDm pf3
  replace pf4 := HIDm pf4
  replace pf5 := HIDm pf5
  replace pf6 := HIDm pf6
  replace pf7 := HIDm pf7
  replace pf8 := HIDm pf8
  replace pf9 := HIDm pf9
  replace pf10 := HIDm pf10
  replace pf11 := HIDm pf11
  replace pf12 := HIDm pf12
  replace pf13 := HIDm pf13
  replace pf14 := HIDm pf14
  replace pf15 := HIDm pf15
  replace en2 := HIDm en2
  replace en4 := HIDm en4
  replace en5 := HIDm en5
  replace en6 := HIDm en6
  replace en7 := HIDm en7
  replace en8 := HIDm en8
  replace en9 := HIDm en9
  replace en10 := HIDm en10
  replace en11 := HIDm en11
  replace en12 := HIDm en12
  replace en13 := HIDm en13
  replace en15 := HIDm en15
  replace eu3_0 := HIDm eu3_0
  replace eu3_1 := HIDm eu3_1
  replace eu14_1 := HIDm eu14_1
  replace eu14_2 := HIDm eu14_2
  replace eu14_3 := HIDm eu14_3
  replace eu14_4 := HIDm eu14_4
  have r7 : HID ((0 : Int) ≤ n2 ∧ n2 ≤ 1000000) := nrng (H.nle 2 (by decide)) (show (N 2 : Int) = n2 from en2)
  have r8 : HID ((0 : Int) ≤ n4 ∧ n4 ≤ 1000000) := nrng (H.nle 4 (by decide)) (show (N 4 : Int) = n4 from en4)
  have r9 : HID ((0 : Int) ≤ n5 ∧ n5 ≤ 1000000) := nrng (H.nle 5 (by decide)) (show (N 5 : Int) = n5 from en5)
  have r10 : HID ((0 : Int) ≤ n6 ∧ n6 ≤ 1000000) := nrng (H.nle 6 (by decide)) (show (N 6 : Int) = n6 from en6)
  have r11 : HID ((0 : Int) ≤ n7 ∧ n7 ≤ 1000000) := nrng (H.nle 7 (by decide)) (show (N 7 : Int) = n7 from en7)
  have r12 : HID ((0 : Int) ≤ n8 ∧ n8 ≤ 1000000) := nrng (H.nle 8 (by decide)) (show (N 8 : Int) = n8 from en8)
  have r13 : HID ((0 : Int) ≤ n9 ∧ n9 ≤ 1000000) := nrng (H.nle 9 (by decide)) (show (N 9 : Int) = n9 from en9)
  have r14 : HID ((0 : Int) ≤ n10 ∧ n10 ≤ 1000000) := nrng (H.nle 10 (by decide)) (show (N 10 : Int) = n10 from en10)
  have r15 : HID ((0 : Int) ≤ n11 ∧ n11 ≤ 1000000) := nrng (H.nle 11 (by decide)) (show (N 11 : Int) = n11 from en11)
  have r16 : HID ((0 : Int) ≤ n12 ∧ n12 ≤ 1000000) := nrng (H.nle 12 (by decide)) (show (N 12 : Int) = n12 from en12)
  have r17 : HID ((0 : Int) ≤ n13 ∧ n13 ≤ 1000000) := nrng (H.nle 13 (by decide)) (show (N 13 : Int) = n13 from en13)
  have r18 : HID ((0 : Int) ≤ n15 ∧ n15 ≤ 1000000) := nrng (H.nle 15 (by decide)) (show (N 15 : Int) = n15 from en15)
  have hsl : SL ((w4)) ((u3_1)) ((u3_0)) ((w5)) ((w6)) ((w7)) ((w8)) ((w9)) ((w10)) := by assumption
  have hsf := SHD_f hsl.1
  have hrw : 0 ≤ ((w13)) (a3) ∧ ((w13)) (a3) < (u3_1) ∧ ((w4)) (((w13)) (a3)) ≠ 0 := by assumption
  refine Ew_of (pc' := 1) (fun _ => x_aload_n rfl rfl) ?_
  refine v_g H (o := 0) (v := .ref (D 1)) rfl rfl rfl rfl rfl (vrf (pf1)) ?_
  refine v_g H (o := 1) (v := .ref (D 2)) rfl rfl rfl rfl rfl (vrf (pf2)) ?_
  refine Ew_of (pc' := 8) (fun _ => x_iload_n rfl rfl) ?_
  refine v_lR H (o := 2) rfl rfl rfl rfl rfl (n := n2) (en2) (show 0 ≤ 2 ∧ 2 < n2 by have qh0 := HIDe r7; omega) (z := ((D 3 : Nat) : Int)) (v := .ref (D 3)) (pf3) (vrf rfl) ?_
  refine Ew_of (pc' := 11) (fun _ => x_astore rfl) ?_
  refine Ew_of (pc' := 12) (fun _ => x_aload_n rfl (rk_o (rfl) rfl rfl)) ?_
  refine v_g H (o := 0) (v := .ref (D 12)) rfl rfl rfl rfl rfl (vrf (pf12)) ?_
  refine Ew_of (pc' := 16) (fun _ => x_iload_n rfl (rk_o (rfl) rfl rfl)) ?_
  refine v_lR H (o := 12) rfl rfl rfl rfl rfl (n := n12) (en12) (show 0 ≤ 2 ∧ 2 < n12 by have qh0 := HIDe r16; omega) (z := ((D 13 : Nat) : Int)) (v := .ref (D 13)) (pf13) (vrf rfl) ?_
  refine Ew_of (pc' := 18) (fun _ => x_iload_n rfl (rk_o (rfl) rfl rfl)) ?_
  refine v_lI H (o := 13) rfl rfl rfl rfl (n := n13) (en13) (show 0 ≤ a3 ∧ a3 < n13 by have qh0 := HIDe r17; omega) (fun v19 ev19 qv19 => ?_)
  replace qv19 := HIDm qv19
  have ev19 : (w13) (a3) = v19 := (congrFun (ew13) (a3)).symm.trans ev19
  have hsy19 := ev19
  rw [ev19] at hrw
  refine Ew_of (pc' := 21) (fun _ => x_istore rfl) ?_
  refine Ew_of (pc' := 23) (fun _ => x_aload rfl (rk_o (rk_s) rfl rfl)) ?_
  refine Ew_of (pc' := 24) (fun _ => x_iload_n rfl (rk_o (rk_o (rfl) rfl rfl) rfl rfl)) ?_
  refine Ew_of (pc' := 26) (fun _ => x_iload rfl rk_s) ?_
  refine v_inv H (o := 3) rfl rfl rfl rfl rfl rfl (by rfl) (C175o (D := pul [3, 4, 5, 6, 7, 8, 9, 10, 11] D) (N := pul [3, 4, 5, 6, 7, 8, 9, 10, 11] N) (HW_sub H (VS_of (show vsub V151_c12 V175 [3, 4, 5, 6, 7, 8, 9, 10, 11] = true by decide +kernel))) (pf4) (pf5) (pf6) (pf7) (pf8) (pf9) (pf10) (pf11) (n4) (en4) (n5) (en5) (n6) (en6) (n7) (en7) (n8) (en8) (n9) (en9) (n10) (en10) (n11) (en11) (u3_0) ((eu3_0)) (u3_1) ((eu3_1)) (w4) (ew4) (w5) (ew5) (w6) (ew6) (w7) (ew7) (w8) (ew8) (w9) (ew9) (w10) (ew10) (show inr (a2) by omega) (show inr (v19) by have qh0 := HIDe qv19; omega) (show SL ((w4)) ((u3_1)) ((u3_0)) ((w5)) ((w6)) ((w7)) ((w8)) ((w9)) ((w10)) by assumption) (show SZD ((n4)) ((n5)) ((n6)) ((n7)) ((n11)) ((n8)) ((n9)) ((n10)) ((u3_1)) ((u3_0)) by assumption) (show 0 ≤ (a2) ∧ (a2) < p2 ((u3_0)) by have qh0 := HIDe r1; omega) (show 0 ≤ (v19) ∧ (v19) < ((u3_1)) ∧ ((w4)) (v19) ≠ 0 by have qh0 := HIDe qv19; have qh1 := HIDe r2; omega) (fun z20 σ20 F20' A20' H' O' hS20 hA20 pz20_0 pz20_1 pz20_2 => ⟨rfl, ?_⟩))
  refine v_back (c := c) (s := s) H (show vsub V151_c12 V175 [3, 4, 5, 6, 7, 8, 9, 10, 11] = true by decide +kernel) H' O' (fun F20 A20 H O' eF20 eA20 => ?_)
  have O := OUT_trans O O'
  -- Share.bitsAhead
  refine Ew_of (pc' := 31) (fun _ => x_istore rfl) ?_
  refine Ew_of (pc' := 32) (fun _ => x_aload_n rfl (rk_o (rk_o (rk_o (rfl) rfl rfl) rfl rfl) rfl rfl)) ?_
  refine v_g H (o := 0) (v := .ref (D 14)) rfl rfl rfl rfl rfl (vrf ((((show F20 0 8 = F 0 8 from (eF20 0 8)))).trans (pf14))) ?_
  refine Ew_of (pc' := 36) (fun _ => x_iload_n rfl (rk_o (rk_o (rk_o (rfl) rfl rfl) rfl rfl) rfl rfl)) ?_
  refine Ew_of (pc' := 38) (fun _ => x_iload rfl rk_s) ?_
  refine v_inv H (o := 14) rfl rfl rfl rfl rfl rfl (by rfl) (C164 (D := pul [14, 15] D) (N := pul [14, 15] N) (HW_sub H (VS_of (show vsub V151_c12 V164 [14, 15] = true by decide +kernel))) ((((show F20 14 0 = F 14 0 from (eF20 14 0)))).trans (pf15)) (n15) (en15) (u14_1) ((((show F20 14 1 = F 14 1 from (eF20 14 1))).trans (eu14_1))) (u14_2) ((((show F20 14 2 = F 14 2 from (eF20 14 2))).trans (eu14_2))) (u14_3) ((((show F20 14 3 = F 14 3 from (eF20 14 3))).trans (eu14_3))) (u14_4) ((((show F20 14 4 = F 14 4 from (eF20 14 4))).trans (eu14_4))) (w15) (((show A20 15 = A 15 from (eA20 15))).trans (ew15)) (show inr (a2) by omega) (show inr (z20) by omega) (show 0 ≤ (u14_1) ∧ (u14_1) ≤ (n15) ∧ (n15) ≤ 65536 by have qh0 := HIDe r18; have qh1 := HIDe r3; omega) (show 0 ≤ (z20) ∧ (z20) ≤ 31 by omega) (show 0 ≤ (u14_4) ∧ (u14_4) ≤ 7 by have qh0 := HIDe r6; omega) (fun σ21 F21' A21' H' O' hS21 hA21 y21_0_1 ey21_0_1 y21_0_2 ey21_0_2 y21_0_3 ey21_0_3 y21_0_4 ey21_0_4 w21_1 ew21_1 pz21_0 pz21_1 pz21_2 pz21_3 => ⟨rfl, ?_⟩))
  replace ey21_0_1 := HIDm ey21_0_1
  replace ey21_0_2 := HIDm ey21_0_2
  replace ey21_0_3 := HIDm ey21_0_3
  replace ey21_0_4 := HIDm ey21_0_4
  refine v_back (c := c) (s := s) H (show vsub V151_c12 V164 [14, 15] = true by decide +kernel) H' O' (fun F21 A21 H O' eF21 eA21 => ?_)
  have O := OUT_trans O O'
  -- Row.addBits
  have r22 : HID ((-2147483648 : Int) ≤ y21_0_1 ∧ y21_0_1 ≤ 2147483647) := krg_e (show (-2147483648 : Int) ≤ F21 14 1 ∧ F21 14 1 ≤ 2147483647 from H.krg 14 1 (by decide)) (show F21 14 1 = y21_0_1 from ((eF21 14 1).trans ey21_0_1))
  have r23 : HID ((0 : Int) ≤ y21_0_2 ∧ y21_0_2 ≤ 1) := krg_e (show (0 : Int) ≤ F21 14 2 ∧ F21 14 2 ≤ 1 from H.krg 14 2 (by decide)) (show F21 14 2 = y21_0_2 from ((eF21 14 2).trans ey21_0_2))
  have r24 : HID ((-2147483648 : Int) ≤ y21_0_3 ∧ y21_0_3 ≤ 2147483647) := krg_e (show (-2147483648 : Int) ≤ F21 14 3 ∧ F21 14 3 ≤ 2147483647 from H.krg 14 3 (by decide)) (show F21 14 3 = y21_0_3 from ((eF21 14 3).trans ey21_0_3))
  have r25 : HID ((-2147483648 : Int) ≤ y21_0_4 ∧ y21_0_4 ≤ 2147483647) := krg_e (show (-2147483648 : Int) ≤ F21 14 4 ∧ F21 14 4 ≤ 2147483647 from H.krg 14 4 (by decide)) (show F21 14 4 = y21_0_4 from ((eF21 14 4).trans ey21_0_4))
  have hp41 := pz21_3
  refine Ew_of (pc' := 43) (fun _ => x_aload rfl (rk_o (rk_o (rk_s) rfl rfl) rfl rfl)) ?_
  refine Ew_of (pc' := 44) (fun _ => x_iload_n rfl (rk_o (rk_o (rk_o (rfl) rfl rfl) rfl rfl) rfl rfl)) ?_
  refine Ew_of (pc' := 46) (fun _ => x_iload rfl (rk_o (rk_s) rfl rfl)) ?_
  refine Ew_of (pc' := 48) (fun _ => x_iload rfl rk_s) ?_
  refine v_inv H (o := 3) rfl rfl rfl rfl rfl rfl (by rfl) (C176o (D := pul [3, 4, 5, 6, 7, 8, 9, 10, 11] D) (N := pul [3, 4, 5, 6, 7, 8, 9, 10, 11] N) (HW_sub H (VS_of (show vsub V151_c12 V176 [3, 4, 5, 6, 7, 8, 9, 10, 11] = true by decide +kernel))) (((((show F21 3 2 = F20 3 2 from (eF21 3 2))).trans ((show F20 3 2 = F 3 2 from (eF20 3 2).trans (hS20 0 2 rfl))))).trans (pf4)) (((((show F21 3 3 = F20 3 3 from (eF21 3 3))).trans ((show F20 3 3 = F 3 3 from (eF20 3 3).trans (hS20 0 3 rfl))))).trans (pf5)) (((((show F21 3 4 = F20 3 4 from (eF21 3 4))).trans ((show F20 3 4 = F 3 4 from (eF20 3 4).trans (hS20 0 4 rfl))))).trans (pf6)) (((((show F21 3 5 = F20 3 5 from (eF21 3 5))).trans ((show F20 3 5 = F 3 5 from (eF20 3 5).trans (hS20 0 5 rfl))))).trans (pf7)) (((((show F21 3 7 = F20 3 7 from (eF21 3 7))).trans ((show F20 3 7 = F 3 7 from (eF20 3 7).trans (hS20 0 7 rfl))))).trans (pf8)) (((((show F21 3 8 = F20 3 8 from (eF21 3 8))).trans ((show F20 3 8 = F 3 8 from (eF20 3 8).trans (hS20 0 8 rfl))))).trans (pf9)) (((((show F21 3 9 = F20 3 9 from (eF21 3 9))).trans ((show F20 3 9 = F 3 9 from (eF20 3 9).trans (hS20 0 9 rfl))))).trans (pf10)) (((((show F21 3 6 = F20 3 6 from (eF21 3 6))).trans ((show F20 3 6 = F 3 6 from (eF20 3 6).trans (hS20 0 6 rfl))))).trans (pf11)) (n4) (en4) (n5) (en5) (n6) (en6) (n7) (en7) (n8) (en8) (n9) (en9) (n10) (en10) (n11) (en11) (u3_0) (((((show F21 3 0 = F20 3 0 from (eF21 3 0))).trans ((show F20 3 0 = F 3 0 from (eF20 3 0).trans (hS20 0 0 rfl)))).trans (eu3_0))) (u3_1) (((((show F21 3 1 = F20 3 1 from (eF21 3 1))).trans ((show F20 3 1 = F 3 1 from (eF20 3 1).trans (hS20 0 1 rfl)))).trans (eu3_1))) (w4) (((show A21 4 = A20 4 from (eA21 4))).trans (((show A20 4 = A 4 from (eA20 4).trans (funext (hA20 1 rfl)))).trans (ew4))) (w5) (((show A21 5 = A20 5 from (eA21 5))).trans (((show A20 5 = A 5 from (eA20 5).trans (funext (hA20 2 rfl)))).trans (ew5))) (w6) (((show A21 6 = A20 6 from (eA21 6))).trans (((show A20 6 = A 6 from (eA20 6).trans (funext (hA20 3 rfl)))).trans (ew6))) (w7) (((show A21 7 = A20 7 from (eA21 7))).trans (((show A20 7 = A 7 from (eA20 7).trans (funext (hA20 4 rfl)))).trans (ew7))) (w8) (((show A21 8 = A20 8 from (eA21 8))).trans (((show A20 8 = A 8 from (eA20 8).trans (funext (hA20 5 rfl)))).trans (ew8))) (w9) (((show A21 9 = A20 9 from (eA21 9))).trans (((show A20 9 = A 9 from (eA20 9).trans (funext (hA20 6 rfl)))).trans (ew9))) (w10) (((show A21 10 = A20 10 from (eA21 10))).trans (((show A20 10 = A 10 from (eA20 10).trans (funext (hA20 7 rfl)))).trans (ew10))) (show inr (a2) by omega) (show inr (v19) by have qh0 := HIDe qv19; omega) (show inr (z20) by omega) (show SL ((w4)) ((u3_1)) ((u3_0)) ((w5)) ((w6)) ((w7)) ((w8)) ((w9)) ((w10)) by assumption) (show SZD ((n4)) ((n5)) ((n6)) ((n7)) ((n11)) ((n8)) ((n9)) ((n10)) ((u3_1)) ((u3_0)) by assumption) (show 0 ≤ (a2) ∧ (a2) < p2 ((u3_0)) by have qh0 := HIDe r1; omega) (show 0 ≤ (v19) ∧ (v19) < ((u3_1)) ∧ ((w4)) (v19) ≠ 0 by have qh0 := HIDe qv19; have qh1 := HIDe r2; omega) (show BA (mass (((w4)) (v19))) ((u3_0)) (a2) (z20) by assumption) (fun z26 σ26 F26' A26' H' O' hS26 hA26 pz26_0 pz26_1 pz26_2 => ⟨rfl, ?_⟩))
  refine v_back (c := c) (s := s) H (show vsub V151_c12 V176 [3, 4, 5, 6, 7, 8, 9, 10, 11] = true by decide +kernel) H' O' (fun F26 A26 H O' eF26 eA26 => ?_)
  have O := OUT_trans O O'
  -- Share.placeAhead
  have hnx : nxS (((u3_0), cutP ((u3_1)) ((w4))) : TSt) (((w13)) (a3)) ((a2)) = ((z26), btw ((a2)) ((z20))) := by rw [hsy19]; exact sl_nx hsl (by (have qg0 := HIDe r1; have qg1 := HIDe r2; omega)) pz26_2.1 (by (have qg0 := HIDe r1; have qg1 := HIDe r2; omega)) pz20_1 pz26_2.2
  have : (z26) = (nxS (((u3_0), cutP ((u3_1)) ((w4))) : TSt) (((w13)) (a3)) ((a2))).1 := by rw [hnx]
  have : IMP ((0 ≤ (u14_3) ∧ (u14_3) < p2 ((u14_4))) ∧ (u14_1) + 2 ≤ (n15)) (RBA ((u14_2)) ((w15)) ((u14_1)) ((u14_3)) ((u14_4)) ((y21_0_2)) ((w21_1)) ((y21_0_1)) ((y21_0_3)) ((y21_0_4)) ((nxS (((u3_0), cutP ((u3_1)) ((w4))) : TSt) (((w13)) (a3)) ((a2))).2) ∧ (0 ≤ (y21_0_3) ∧ (y21_0_3) < p2 ((y21_0_4))) ∧ 8 * (y21_0_1) + (y21_0_4) ≤ 8 * (u14_1) + (u14_4) + 9) := fun q => by rw [hnx]; have q1 := q.1; have q1a := q1.1; have q1b := q1.2; have q2 := q.2; obtain ⟨r1, h1, b1⟩ := hp41 ⟨by (have qg0 := HIDe r1; have qg1 := HIDe r18; have qg2 := HIDe r2; have qg3 := HIDe r22; have qg4 := HIDe r23; have qg5 := HIDe r24; have qg6 := HIDe r25; have qg7 := HIDe r3; have qg8 := HIDe r4; have qg9 := HIDe r5; have qg10 := HIDe r6; omega), q1a, q1b, by (have qg0 := HIDe r1; have qg1 := HIDe r18; have qg2 := HIDe r2; have qg3 := HIDe r22; have qg4 := HIDe r23; have qg5 := HIDe r24; have qg6 := HIDe r25; have qg7 := HIDe r3; have qg8 := HIDe r4; have qg9 := HIDe r5; have qg10 := HIDe r6; omega)⟩; exact ⟨r1, h1, by (have qg0 := HIDe r1; have qg1 := HIDe r18; have qg2 := HIDe r2; have qg3 := HIDe r22; have qg4 := HIDe r23; have qg5 := HIDe r24; have qg6 := HIDe r25; have qg7 := HIDe r3; have qg8 := HIDe r4; have qg9 := HIDe r5; have qg10 := HIDe r6; omega)⟩
  exact w_ireturn rfl (k (z26) _ _ _ H O (SF_trans (SF_trans (SF_trans (SF_refl) (SF_glu (ι := [3, 4, 5, 6, 7, 8, 9, 10, 11]) hS20 eF20 (by decide +kernel)) (any_sub (l' := []) rfl)) (SF_glu (ι := [14, 15]) hS21 eF21 (by decide +kernel)) (any_sub (l' := [(14, 1), (14, 2), (14, 3), (14, 4)]) rfl)) (SF_glu (ι := [3, 4, 5, 6, 7, 8, 9, 10, 11]) hS26 eF26 (by decide +kernel)) (any_sub (l' := []) rfl)) (SA_trans (SA_trans (SA_trans (SA_refl) (SA_glu (ι := [3, 4, 5, 6, 7, 8, 9, 10, 11]) hA20 eA20 (by decide +kernel)) (any_subA (l' := []) rfl)) (SA_glu (ι := [14, 15]) hA21 eA21 (by decide +kernel)) (any_subA (l' := [15]) rfl)) (SA_glu (ι := [3, 4, 5, 6, 7, 8, 9, 10, 11]) hA26 eA26 (by decide +kernel)) (any_subA (l' := []) rfl)) (y21_0_1) ((((show F26 14 1 = F21 14 1 from (eF26 14 1))).trans ((eF21 14 1).trans ey21_0_1))) (y21_0_2) ((((show F26 14 2 = F21 14 2 from (eF26 14 2))).trans ((eF21 14 2).trans ey21_0_2))) (y21_0_3) ((((show F26 14 3 = F21 14 3 from (eF26 14 3))).trans ((eF21 14 3).trans ey21_0_3))) (y21_0_4) ((((show F26 14 4 = F21 14 4 from (eF26 14 4))).trans ((eF21 14 4).trans ey21_0_4))) (w21_1) (((show A26 15 = A21 15 from (eA26 15))).trans ((eA21 15).trans ew21_1)) (show inr (z26) by omega) (show 0 ≤ (z26) ∧ (z26) < p2 ((u3_0)) by have qh0 := HIDe r1; omega) (show 0 ≤ (y21_0_1) ∧ (y21_0_1) ≤ (n15) ∧ (n15) ≤ 65536 by have qh0 := HIDe r18; have qh1 := HIDe r22; omega) (show 0 ≤ (y21_0_4) ∧ (y21_0_4) ≤ 7 by have qh0 := HIDe r25; omega) (show (z26) = (nxS (((u3_0), cutP ((u3_1)) ((w4))) : TSt) (((w13)) (a3)) ((a2))).1 by assumption) (show IMP ((0 ≤ (u14_3) ∧ (u14_3) < p2 ((u14_4))) ∧ (u14_1) + 2 ≤ (n15)) (RBA ((u14_2)) ((w15)) ((u14_1)) ((u14_3)) ((u14_4)) ((y21_0_2)) ((w21_1)) ((y21_0_1)) ((y21_0_3)) ((y21_0_4)) ((nxS (((u3_0), cutP ((u3_1)) ((w4))) : TSt) (((w13)) (a3)) ((a2))).2) ∧ (0 ≤ (y21_0_3) ∧ (y21_0_3) < p2 ((y21_0_4))) ∧ 8 * (y21_0_1) + (y21_0_4) ≤ 8 * (u14_1) + (u14_4) + 9) by assumption))
