abbrev V154_Row_c20 : vV := [(0, 6, [(4, 0), (4, 0), (4, 0), (4, 0), (4, 0), (4, 0), (4, 0), (4, 0), (4, 0), (4, 0), (4, 0), (4, 0), (4, 0), (4, 0), (4, 0), (0, 0), (0, 0), (4, 0), (4, 0)]), (0, 7, [(4, 0), (0, 0), (1, 0), (0, 0), (0, 0)]), (1, 1, []), (1, 7, []), (0, 5, [(4, 0), (4, 0), (4, 0), (4, 0), (0, 0), (0, 0), (0, 0), (4, 0), (4, 0), (0, 0), (0, 0), (0, 0), (0, 0), (0, 0), (0, 0), (0, 0), (0, 0), (0, 0), (0, 0)]), (1, 1, []), (1, 5, []), (0, 8, [(0, 0), (0, 0), (4, 0), (4, 0), (4, 0), (4, 0), (4, 0), (4, 0), (4, 0), (4, 0), (4, 0), (0, 0), (0, 0)]), (1, 1, []), (1, 1, []), (1, 1, []), (1, 1, []), (1, 1, []), (1, 1, []), (1, 1, []), (1, 1, []), (1, 0, []), (0, 7, [(4, 0), (0, 0), (1, 0), (0, 0), (0, 0)]), (1, 0, [])]
set_option maxHeartbeats 16000000 in
/-- Packer.packOwnShare: this, #1, this.symbolCounts, this.symbols, this.finder, this.symbols.0, this.ownTables, this.ownTables.0, this.ownTables.0.points, this.ownTables.0.masses, this.ownTables.0.mostBits, this.ownTables.0.starts, this.ownTables.0.used, this.ownTables.0.symbolAt, this.ownTables.0.numberAt, this.ownTables.0.placeOf, #1.bytes, this.told, this.told.bytes -/
theorem C154_Row_c20 {σE : rS} {D N : Nat → Nat} {F : hF} {A : hA} {d c s : Nat} {Q : wQ} (H : HW V154_Row_c20 σE D N F A) (HT : STC σE)  (pf2 : F 0 12 = (D 2 : Int)) (pf3 : F 0 13 = (D 3 : Int)) (pf4 : F 0 1 = (D 4 : Int)) (pf5 : A 3 0 = (D 5 : Int)) (pf6 : F 0 4 = (D 6 : Int)) (pf7 : A 6 0 = (D 7 : Int)) (pf8 : F 7 2 = (D 8 : Int)) (pf9 : F 7 3 = (D 9 : Int)) (pf10 : F 7 4 = (D 10 : Int)) (pf11 : F 7 5 = (D 11 : Int)) (pf12 : F 7 6 = (D 12 : Int)) (pf13 : F 7 7 = (D 13 : Int)) (pf14 : F 7 8 = (D 14 : Int)) (pf15 : F 7 9 = (D 15 : Int)) (pf16 : F 1 0 = (D 16 : Int)) (pf17 : F 0 10 = (D 17 : Int)) (pf18 : F 17 0 = (D 18 : Int)) (n2 : Int) (en2 : (N 2 : Int) = n2) (n3 : Int) (en3 : (N 3 : Int) = n3) (n5 : Int) (en5 : (N 5 : Int) = n5) (n6 : Int) (en6 : (N 6 : Int) = n6) (n8 : Int) (en8 : (N 8 : Int) = n8) (n9 : Int) (en9 : (N 9 : Int) = n9) (n10 : Int) (en10 : (N 10 : Int) = n10) (n11 : Int) (en11 : (N 11 : Int) = n11) (n12 : Int) (en12 : (N 12 : Int) = n12) (n13 : Int) (en13 : (N 13 : Int) = n13) (n14 : Int) (en14 : (N 14 : Int) = n14) (n15 : Int) (en15 : (N 15 : Int) = n15) (n16 : Int) (en16 : (N 16 : Int) = n16) (n18 : Int) (en18 : (N 18 : Int) = n18) (u1_1 : Int) (eu1_1 : F 1 1 = u1_1) (u1_4 : Int) (eu1_4 : F 1 4 = u1_4) (u4_4 : Int) (eu4_4 : F 4 4 = u4_4) (u7_1 : Int) (eu7_1 : F 7 1 = u7_1) (u17_1 : Int) (eu17_1 : F 17 1 = u17_1) (w5 : Int → Int) (ew5 : A 5 = w5) (h0 : inr (0)) (h1 : (n2) = 53 ∧ (n3) = 3) (h2 : 1 ≤ (u4_4) ∧ (u4_4) ≤ (n5) ∧ (n5) ≤ 65536) (h3 : RNG ((w5)) ((u4_4)) 36) (h4 : SHZD ((n8)) ((n9)) ((n10)) ((n11)) ((n12)) ((n13)) ((n14)) ((n15)) ((u7_1)) 36 512) (h5 : 0 ≤ (u1_1) ∧ (u1_1) ≤ (n16) ∧ (n16) ≤ 65536) (h6 : 0 ≤ (u1_4) ∧ (u1_4) ≤ 7) (h7 : 0 ≤ (u17_1) ∧ (u17_1) ≤ (n18) ∧ (n18) ≤ 65536) (h8 : (n6) = 3) (k : ∀ (σ : rS) (D' N' : Nat → Nat) (F' : hF) (A' : hA) (c' s' : Nat), HW V154_Row_c20 σ D' N' F' A' → OUT (V154_Row_c20).length D N σE c s D' N' σ c' s' → SD [16, 18] D D' → SD [16, 18] N N' → SF [(0, 15), (1, 0), (1, 1), (1, 2), (1, 3), (1, 4), (7, 0), (17, 0), (17, 1), (17, 2), (17, 3), (17, 4)] F F' → SA [2, 8, 9, 10, 11, 12, 13, 14, 15, 16, 18] A A' → F' 1 0 = (D' 16 : Int) → F' 17 0 = (D' 18 : Int) → ∀ m16 : Int, (N' 16 : Int) = m16 → ∀ m18 : Int, (N' 18 : Int) = m18 → ∀ y1_1 : Int, F' 1 1 = y1_1 → ∀ y1_4 : Int, F' 1 4 = y1_4 → ∀ y17_1 : Int, F' 17 1 = y17_1 → (0 ≤ (y1_1) ∧ (y1_1) ≤ (m16) ∧ (m16) ≤ 65536) → (0 ≤ (y1_4) ∧ (y1_4) ≤ 7) → (0 ≤ (y17_1) ∧ (y17_1) ≤ (m18) ∧ (m18) ≤ 65536) → Q none σ c' s') : Ew 154 (d + 4) 0 (rargs 0 [.ref (D 0), .ref (D 1), I 0]) [] σE c s Q := by
  have O := OUT_refl (n := (V154_Row_c20).length) (D := D) (N := N) (σ := σE) (c := c) (s := s)
  have HE := H
  have r1 : HID ((-2147483648 : Int) ≤ u1_1 ∧ u1_1 ≤ 2147483647) := krg_e (show (-2147483648 : Int) ≤ F 1 1 ∧ F 1 1 ≤ 2147483647 from H.krg 1 1 (by decide)) (show F 1 1 = u1_1 from (eu1_1))
  have r2 : HID ((-2147483648 : Int) ≤ u1_4 ∧ u1_4 ≤ 2147483647) := krg_e (show (-2147483648 : Int) ≤ F 1 4 ∧ F 1 4 ≤ 2147483647 from H.krg 1 4 (by decide)) (show F 1 4 = u1_4 from (eu1_4))
  have r3 : HID ((-2147483648 : Int) ≤ u4_4 ∧ u4_4 ≤ 2147483647) := krg_e (show (-2147483648 : Int) ≤ F 4 4 ∧ F 4 4 ≤ 2147483647 from H.krg 4 4 (by decide)) (show F 4 4 = u4_4 from (eu4_4))
  have r4 : HID ((-2147483648 : Int) ≤ u7_1 ∧ u7_1 ≤ 2147483647) := krg_e (show (-2147483648 : Int) ≤ F 7 1 ∧ F 7 1 ≤ 2147483647 from H.krg 7 1 (by decide)) (show F 7 1 = u7_1 from (eu7_1))
  have r5 : HID ((-2147483648 : Int) ≤ u17_1 ∧ u17_1 ≤ 2147483647) := krg_e (show (-2147483648 : Int) ≤ F 17 1 ∧ F 17 1 ≤ 2147483647 from H.krg 17 1 (by decide)) (show F 17 1 = u17_1 from (eu17_1))
  replace pf2 := HIDm pf2
  replace pf3 := HIDm pf3
  replace pf4 := HIDm pf4
  replace pf5 := HIDm pf5
  replace pf6 := HIDm pf6
  replace pf7 := HIDm pf7
  replace pf8 := HIDm pf8
  replace pf9 := HIDm pf9
  replace pf10 := HIDm pf10
  replace pf11 := HIDm pf11
  replace pf12 := HIDm pf12
  replace pf13 := HIDm pf13
  replace pf14 := HIDm pf14
  replace pf15 := HIDm pf15
  replace pf16 := HIDm pf16
  replace pf17 := HIDm pf17
  replace pf18 := HIDm pf18
  replace en2 := HIDm en2
  replace en3 := HIDm en3
  replace en5 := HIDm en5
  replace en6 := HIDm en6
  replace en8 := HIDm en8
  replace en9 := HIDm en9
  replace en10 := HIDm en10
  replace en11 := HIDm en11
  replace en12 := HIDm en12
  replace en13 := HIDm en13
  replace en14 := HIDm en14
  replace en15 := HIDm en15
  replace en16 := HIDm en16
  replace en18 := HIDm en18
  replace eu1_1 := HIDm eu1_1
  replace eu1_4 := HIDm eu1_4
  replace eu4_4 := HIDm eu4_4
  replace eu7_1 := HIDm eu7_1
  replace eu17_1 := HIDm eu17_1
  have r6 : HID ((0 : Int) ≤ n2 ∧ n2 ≤ 1000000) := nrng (H.nle 2 (by decide)) (show (N 2 : Int) = n2 from en2)
  have r7 : HID ((0 : Int) ≤ n3 ∧ n3 ≤ 1000000) := nrng (H.nle 3 (by decide)) (show (N 3 : Int) = n3 from en3)
  have r8 : HID ((0 : Int) ≤ n5 ∧ n5 ≤ 1000000) := nrng (H.nle 5 (by decide)) (show (N 5 : Int) = n5 from en5)
  have r9 : HID ((0 : Int) ≤ n6 ∧ n6 ≤ 1000000) := nrng (H.nle 6 (by decide)) (show (N 6 : Int) = n6 from en6)
  have r10 : HID ((0 : Int) ≤ n8 ∧ n8 ≤ 1000000) := nrng (H.nle 8 (by decide)) (show (N 8 : Int) = n8 from en8)
  have r11 : HID ((0 : Int) ≤ n9 ∧ n9 ≤ 1000000) := nrng (H.nle 9 (by decide)) (show (N 9 : Int) = n9 from en9)
  have r12 : HID ((0 : Int) ≤ n10 ∧ n10 ≤ 1000000) := nrng (H.nle 10 (by decide)) (show (N 10 : Int) = n10 from en10)
  have r13 : HID ((0 : Int) ≤ n11 ∧ n11 ≤ 1000000) := nrng (H.nle 11 (by decide)) (show (N 11 : Int) = n11 from en11)
  have r14 : HID ((0 : Int) ≤ n12 ∧ n12 ≤ 1000000) := nrng (H.nle 12 (by decide)) (show (N 12 : Int) = n12 from en12)
  have r15 : HID ((0 : Int) ≤ n13 ∧ n13 ≤ 1000000) := nrng (H.nle 13 (by decide)) (show (N 13 : Int) = n13 from en13)
  have r16 : HID ((0 : Int) ≤ n14 ∧ n14 ≤ 1000000) := nrng (H.nle 14 (by decide)) (show (N 14 : Int) = n14 from en14)
  have r17 : HID ((0 : Int) ≤ n15 ∧ n15 ≤ 1000000) := nrng (H.nle 15 (by decide)) (show (N 15 : Int) = n15 from en15)
  have r18 : HID ((0 : Int) ≤ n16 ∧ n16 ≤ 1000000) := nrng (H.nle 16 (by decide)) (show (N 16 : Int) = n16 from en16)
  have r19 : HID ((0 : Int) ≤ n18 ∧ n18 ≤ 1000000) := nrng (H.nle 18 (by decide)) (show (N 18 : Int) = n18 from en18)
  have hrg : RNG ((w5)) ((u4_4)) 36 := by assumption
  have hszq : SHZD ((n8)) ((n9)) ((n10)) ((n11)) ((n12)) ((n13)) ((n14)) ((n15)) ((u7_1)) 36 512 := by assumption
  unfold SHZD at hszq
  have hsF : (u7_1) = 36 ∧ (n8) = (u7_1) := by (have qg0 := HIDe r10; have qg1 := HIDe r4; omega)
  clear hszq
  refine Ew_of (pc' := 1) (fun _ => x_aload_n rfl rfl) ?_
  refine Ew_of (pc' := 2) (fun _ => x_iload_n rfl rfl) ?_
  refine v_inv H (o := 0) rfl rfl rfl rfl rfl rfl (by rfl) (C146_c10 (D := pul [0, 2, 3, 4, 5] D) (N := pul [0, 2, 3, 4, 5] N) (HW_sub H (VS_of (show vsub V154_Row_c20 V146_c10 [0, 2, 3, 4, 5] = true by decide +kernel))) (pf2) (pf3) (pf4) (pf5) (n2) (en2) (n3) (en3) (n5) (en5) (u4_4) ((eu4_4)) (A 2) (rfl) (w5) (ew5) (show inr (0) by omega) (show (n2) = 53 ∧ (n3) = 3 by have qh0 := HIDe r6; have qh1 := HIDe r7; omega) (show 0 ≤ (u4_4) ∧ (u4_4) ≤ (n5) ∧ (n5) ≤ 65536 by have qh0 := HIDe r3; have qh1 := HIDe r8; omega) (show RNG ((w5)) ((u4_4)) 36 by assumption) (fun z20 σ20 F20' A20' H' O' hS20 hA20 w20_1 ew20_1 pz20_0 pz20_1 pz20_2 pz20_3 => ⟨rfl, ?_⟩))
  refine v_back (c := c) (s := s) H (show vsub V154_Row_c20 V146_c10 [0, 2, 3, 4, 5] = true by decide +kernel) H' O' (fun F20 A20 H O' eF20 eA20 => ?_)
  have O := OUT_trans O O'
  -- Packer.countSymbols
  have hct : CTN ((w5)) ((w20_1)) ((u4_4)) 53 := pz20_1
  have hps : ((z20) : Int) = su (fun i => pos1 (((w20_1)) i)) 53 := pz20_2
  have hpr := pz20_3
  refine Ew_of (pc' := 6) (fun _ => x_istore_n rfl) ?_
  refine Ew_of (pc' := 7) (fun _ => x_aload_n rfl (rk_o (rfl) rfl rfl)) ?_
  refine Ew_of (pc' := 8) (fun _ => x_aload_n rfl (rk_o (rfl) rfl rfl)) ?_
  refine Ew_of (pc' := 9) (fun _ => x_aload_n rfl (rk_o (rfl) rfl rfl)) ?_
  refine v_g H (o := 0) (v := .ref (D 6)) rfl rfl rfl rfl rfl (vrf ((((show F20 0 4 = F 0 4 from (eF20 0 4).trans (hS20 0 4 rfl)))).trans (pf6))) ?_
  refine Ew_of (pc' := 13) (fun _ => x_iload_n rfl (rk_o (rfl) rfl rfl)) ?_
  refine v_lR H (o := 6) rfl rfl rfl rfl rfl (n := n6) (en6) (show 0 ≤ 0 ∧ 0 < n6 by have qh0 := HIDe r9; omega) (z := ((D 7 : Nat) : Int)) (v := .ref (D 7)) ((congrFun (((show A20 6 = A 6 from (eA20 6)))) 0).trans (pf7)) (vrf rfl) ?_
  refine Ew_of (pc' := 15) (fun _ => x_aload_n rfl (rk_o (rfl) rfl rfl)) ?_
  refine Ew_of (pc' := 16) (fun _ => x_aload_n rfl (rk_o (rfl) rfl rfl)) ?_
  refine v_g H (o := 0) (v := .ref (D 6)) rfl rfl rfl rfl rfl (vrf ((((show F20 0 4 = F 0 4 from (eF20 0 4).trans (hS20 0 4 rfl)))).trans (pf6))) ?_
  refine Ew_of (pc' := 20) (fun _ => x_iload_n rfl (rk_o (rfl) rfl rfl)) ?_
  refine v_lR H (o := 6) rfl rfl rfl rfl rfl (n := n6) (en6) (show 0 ≤ 0 ∧ 0 < n6 by have qh0 := HIDe r9; omega) (z := ((D 7 : Nat) : Int)) (v := .ref (D 7)) ((congrFun (((show A20 6 = A 6 from (eA20 6)))) 0).trans (pf7)) (vrf rfl) ?_
  refine Ew_of (pc' := 22) (fun _ => x_iload_n rfl (rk_o (rfl) rfl rfl)) ?_
  refine Ew_of (pc' := 23) (fun _ => x_iload_n rfl rk_s) ?_
  refine Ew_of (pc' := 26) (fun _ => x_ldc_w (z := 2147483647) rfl (by decide)) ?_
  have r21 : HID ((-2147483648 : Int) ≤ F 0 15 ∧ F 0 15 ≤ 2147483647) := krg_e (show (-2147483648 : Int) ≤ F20 0 15 ∧ F20 0 15 ≤ 2147483647 from H.krg 0 15 (by decide)) (show F20 0 15 = F 0 15 from ((show F20 0 15 = F 0 15 from (eF20 0 15).trans (hS20 0 15 rfl))))
  refine v_inv H (o := 0) rfl rfl rfl rfl rfl rfl (by rfl) (C149_Share_c20 (D := pul [0, 7, 2, 3, 4, 5, 8, 9, 10, 11, 12, 13, 14, 15, 17, 18] D) (N := pul [0, 7, 2, 3, 4, 5, 8, 9, 10, 11, 12, 13, 14, 15, 17, 18] N) (HW_sub H (VS_of (show vsub V154_Row_c20 V149_Share_c20 [0, 7, 2, 3, 4, 5, 8, 9, 10, 11, 12, 13, 14, 15, 17, 18] = true by decide +kernel))) (STC_out HT HE O) ((((show F20 0 12 = F 0 12 from (eF20 0 12).trans (hS20 0 12 rfl)))).trans (pf2)) ((((show F20 0 13 = F 0 13 from (eF20 0 13).trans (hS20 0 13 rfl)))).trans (pf3)) ((((show F20 0 1 = F 0 1 from (eF20 0 1).trans (hS20 0 1 rfl)))).trans (pf4)) ((congrFun (((show A20 3 = A 3 from (eA20 3).trans (funext (hA20 2 rfl))))) 0).trans (pf5)) ((((show F20 7 2 = F 7 2 from (eF20 7 2)))).trans (pf8)) ((((show F20 7 3 = F 7 3 from (eF20 7 3)))).trans (pf9)) ((((show F20 7 4 = F 7 4 from (eF20 7 4)))).trans (pf10)) ((((show F20 7 5 = F 7 5 from (eF20 7 5)))).trans (pf11)) ((((show F20 7 6 = F 7 6 from (eF20 7 6)))).trans (pf12)) ((((show F20 7 7 = F 7 7 from (eF20 7 7)))).trans (pf13)) ((((show F20 7 8 = F 7 8 from (eF20 7 8)))).trans (pf14)) ((((show F20 7 9 = F 7 9 from (eF20 7 9)))).trans (pf15)) ((((show F20 0 10 = F 0 10 from (eF20 0 10).trans (hS20 0 10 rfl)))).trans (pf17)) ((((show F20 17 0 = F 17 0 from (eF20 17 0)))).trans (pf18)) (n2) (en2) (n3) (en3) (n5) (en5) (n8) (en8) (n9) (en9) (n10) (en10) (n11) (en11) (n12) (en12) (n13) (en13) (n14) (en14) (n15) (en15) (n18) (en18) (F 0 15) (((show F20 0 15 = F 0 15 from (eF20 0 15).trans (hS20 0 15 rfl)))) (u7_1) ((((show F20 7 1 = F 7 1 from (eF20 7 1))).trans (eu7_1))) (u4_4) ((((show F20 4 4 = F 4 4 from (eF20 4 4).trans (hS20 3 4 rfl))).trans (eu4_4))) (u17_1) ((((show F20 17 1 = F 17 1 from (eF20 17 1))).trans (eu17_1))) (w20_1) ((eA20 2).trans ew20_1) (w5) (((show A20 5 = A 5 from (eA20 5).trans (funext (hA20 4 rfl)))).trans (ew5)) (show inr (0) by omega) (show inr (z20) by omega) (show inr (2147483647) by omega) (show (n2) = 53 ∧ (n3) = 3 by have qh0 := HIDe r6; have qh1 := HIDe r7; omega) (show 1 ≤ (u4_4) ∧ (u4_4) ≤ (n5) ∧ (n5) ≤ 65536 by have qh0 := HIDe r3; have qh1 := HIDe r8; omega) (show RNG ((w5)) ((u4_4)) 36 by assumption) (show CTN ((w5)) ((w20_1)) ((u4_4)) 53 by assumption) (show (z20) = su (fun i => pos1 (((w20_1)) i)) 53 by assumption) (show 0 ≤ (z20) ∧ (z20) ≤ 53 by omega) (show SHZD ((n8)) ((n9)) ((n10)) ((n11)) ((n12)) ((n13)) ((n14)) ((n15)) ((u7_1)) 36 512 by assumption) (show 0 ≤ (u17_1) ∧ (u17_1) ≤ (n18) ∧ (n18) ≤ 65536 by have qh0 := HIDe r19; have qh1 := HIDe r5; omega) (fun z22 σ22 D22' N22' F22' A22' c22 s22 H' O' hD22 hN22 hS22 hA22 pm22_15 m22_15 em22_15 y22_0_15 ey22_0_15 y22_14_1 ey22_14_1 pz22_0 pz22_1 pz22_2 pz22_3 pz22_4 => ⟨rfl, ?_⟩))
  replace pm22_15 := HIDm pm22_15
  replace em22_15 := HIDm em22_15
  replace ey22_0_15 := HIDm ey22_0_15
  replace ey22_14_1 := HIDm ey22_14_1
  refine v_backM (c := c) (s := s) H (show vsub V154_Row_c20 V149_Share_c20 [0, 7, 2, 3, 4, 5, 8, 9, 10, 11, 12, 13, 14, 15, 17, 18] = true by decide +kernel) H' O' hD22 (show vmov V154_Row_c20 [0, 7, 2, 3, 4, 5, 8, 9, 10, 11, 12, 13, 14, 15, 17, 18] [15] = true by decide +kernel) (fun D22 N22 F22 A22 H O' eD22 eN22 eF22 eA22 => ?_)
  have O := OUT_trans O O'
  -- Packer.bestOrder
  have pe22_3_0 : HID (A22 3 0 = (D22 5 : Int)) := (congrFun ((show A22 3 = A20 3 from (eA22 3).trans (funext (hA22 3 rfl)))) 0).trans (((congrFun (((show A20 3 = A 3 from (eA20 3).trans (funext (hA20 2 rfl))))) 0).trans (pf5)).trans (congrArg (fun q : Nat => (q : Int)) ((show D22 5 = D 5 from (eD22 5).trans (hD22 5 rfl))).symm))
  have pe22_6_0 : HID (A22 6 0 = (D22 7 : Int)) := (congrFun ((show A22 6 = A20 6 from (eA22 6))) 0).trans (((congrFun (((show A20 6 = A 6 from (eA20 6)))) 0).trans (pf7)).trans (congrArg (fun q : Nat => (q : Int)) ((show D22 7 = D 7 from (eD22 7).trans (hD22 1 rfl))).symm))
  have pf22_0_1 : HID (F22 0 1 = (D22 4 : Int)) := ((show F22 0 1 = F20 0 1 from (eF22 0 1).trans (hS22 0 1 rfl))).trans (((((show F20 0 1 = F 0 1 from (eF20 0 1).trans (hS20 0 1 rfl)))).trans (pf4)).trans (congrArg (fun q : Nat => (q : Int)) ((show D22 4 = D 4 from (eD22 4).trans (hD22 4 rfl))).symm))
  have pf22_0_10 : HID (F22 0 10 = (D22 17 : Int)) := ((show F22 0 10 = F20 0 10 from (eF22 0 10).trans (hS22 0 10 rfl))).trans (((((show F20 0 10 = F 0 10 from (eF20 0 10).trans (hS20 0 10 rfl)))).trans (pf17)).trans (congrArg (fun q : Nat => (q : Int)) ((show D22 17 = D 17 from (eD22 17).trans (hD22 14 rfl))).symm))
  have pf22_0_12 : HID (F22 0 12 = (D22 2 : Int)) := ((show F22 0 12 = F20 0 12 from (eF22 0 12).trans (hS22 0 12 rfl))).trans (((((show F20 0 12 = F 0 12 from (eF20 0 12).trans (hS20 0 12 rfl)))).trans (pf2)).trans (congrArg (fun q : Nat => (q : Int)) ((show D22 2 = D 2 from (eD22 2).trans (hD22 2 rfl))).symm))
  have pf22_0_13 : HID (F22 0 13 = (D22 3 : Int)) := ((show F22 0 13 = F20 0 13 from (eF22 0 13).trans (hS22 0 13 rfl))).trans (((((show F20 0 13 = F 0 13 from (eF20 0 13).trans (hS20 0 13 rfl)))).trans (pf3)).trans (congrArg (fun q : Nat => (q : Int)) ((show D22 3 = D 3 from (eD22 3).trans (hD22 3 rfl))).symm))
  have pf22_0_4 : HID (F22 0 4 = (D22 6 : Int)) := ((show F22 0 4 = F20 0 4 from (eF22 0 4).trans (hS22 0 4 rfl))).trans (((((show F20 0 4 = F 0 4 from (eF20 0 4).trans (hS20 0 4 rfl)))).trans (pf6)).trans (congrArg (fun q : Nat => (q : Int)) ((show D22 6 = D 6 from (eD22 6))).symm))
  have pf22_1_0 : HID (F22 1 0 = (D22 16 : Int)) := ((show F22 1 0 = F20 1 0 from (eF22 1 0))).trans (((((show F20 1 0 = F 1 0 from (eF20 1 0)))).trans (pf16)).trans (congrArg (fun q : Nat => (q : Int)) ((show D22 16 = D 16 from (eD22 16))).symm))
  have pf22_17_0 : HID (F22 17 0 = (D22 18 : Int)) := (eF22 17 0).trans (pm22_15.trans (congrArg (fun q : Nat => (q : Int)) (eD22 18).symm))
  have pf22_7_2 : HID (F22 7 2 = (D22 8 : Int)) := ((show F22 7 2 = F20 7 2 from (eF22 7 2).trans (hS22 1 2 rfl))).trans (((((show F20 7 2 = F 7 2 from (eF20 7 2)))).trans (pf8)).trans (congrArg (fun q : Nat => (q : Int)) ((show D22 8 = D 8 from (eD22 8).trans (hD22 6 rfl))).symm))
  have pf22_7_3 : HID (F22 7 3 = (D22 9 : Int)) := ((show F22 7 3 = F20 7 3 from (eF22 7 3).trans (hS22 1 3 rfl))).trans (((((show F20 7 3 = F 7 3 from (eF20 7 3)))).trans (pf9)).trans (congrArg (fun q : Nat => (q : Int)) ((show D22 9 = D 9 from (eD22 9).trans (hD22 7 rfl))).symm))
  have pf22_7_4 : HID (F22 7 4 = (D22 10 : Int)) := ((show F22 7 4 = F20 7 4 from (eF22 7 4).trans (hS22 1 4 rfl))).trans (((((show F20 7 4 = F 7 4 from (eF20 7 4)))).trans (pf10)).trans (congrArg (fun q : Nat => (q : Int)) ((show D22 10 = D 10 from (eD22 10).trans (hD22 8 rfl))).symm))
  have pf22_7_5 : HID (F22 7 5 = (D22 11 : Int)) := ((show F22 7 5 = F20 7 5 from (eF22 7 5).trans (hS22 1 5 rfl))).trans (((((show F20 7 5 = F 7 5 from (eF20 7 5)))).trans (pf11)).trans (congrArg (fun q : Nat => (q : Int)) ((show D22 11 = D 11 from (eD22 11).trans (hD22 9 rfl))).symm))
  have pf22_7_6 : HID (F22 7 6 = (D22 12 : Int)) := ((show F22 7 6 = F20 7 6 from (eF22 7 6).trans (hS22 1 6 rfl))).trans (((((show F20 7 6 = F 7 6 from (eF20 7 6)))).trans (pf12)).trans (congrArg (fun q : Nat => (q : Int)) ((show D22 12 = D 12 from (eD22 12).trans (hD22 10 rfl))).symm))
  have pf22_7_7 : HID (F22 7 7 = (D22 13 : Int)) := ((show F22 7 7 = F20 7 7 from (eF22 7 7).trans (hS22 1 7 rfl))).trans (((((show F20 7 7 = F 7 7 from (eF20 7 7)))).trans (pf13)).trans (congrArg (fun q : Nat => (q : Int)) ((show D22 13 = D 13 from (eD22 13).trans (hD22 11 rfl))).symm))
  have pf22_7_8 : HID (F22 7 8 = (D22 14 : Int)) := ((show F22 7 8 = F20 7 8 from (eF22 7 8).trans (hS22 1 8 rfl))).trans (((((show F20 7 8 = F 7 8 from (eF20 7 8)))).trans (pf14)).trans (congrArg (fun q : Nat => (q : Int)) ((show D22 14 = D 14 from (eD22 14).trans (hD22 12 rfl))).symm))
  have pf22_7_9 : HID (F22 7 9 = (D22 15 : Int)) := ((show F22 7 9 = F20 7 9 from (eF22 7 9).trans (hS22 1 9 rfl))).trans (((((show F20 7 9 = F 7 9 from (eF20 7 9)))).trans (pf15)).trans (congrArg (fun q : Nat => (q : Int)) ((show D22 15 = D 15 from (eD22 15).trans (hD22 13 rfl))).symm))
  have r23 : HID ((0 : Int) ≤ m22_15 ∧ m22_15 ≤ 1000000) := nrng (H.nle 18 (by decide)) (show (N22 18 : Int) = m22_15 from (congrArg (fun q : Nat => (q : Int)) (eN22 18)).trans em22_15)
  have r24 : HID ((-2147483648 : Int) ≤ y22_0_15 ∧ y22_0_15 ≤ 2147483647) := krg_e (show (-2147483648 : Int) ≤ F22 0 15 ∧ F22 0 15 ≤ 2147483647 from H.krg 0 15 (by decide)) (show F22 0 15 = y22_0_15 from ((eF22 0 15).trans ey22_0_15))
  have r25 : HID ((-2147483648 : Int) ≤ y22_14_1 ∧ y22_14_1 ≤ 2147483647) := krg_e (show (-2147483648 : Int) ≤ F22 17 1 ∧ F22 17 1 ≤ 2147483647 from H.krg 17 1 (by decide)) (show F22 17 1 = y22_14_1 from ((eF22 17 1).trans ey22_14_1))
  have hcn : CNT ((w20_1)) ((u7_1)) ((u4_4)) ((z22)) := CTN_CNT hct (by (have qg0 := HIDe r3; have qg1 := HIDe r4; omega)) (by rw [hsF.1]; exact hrg) (by (have qg0 := HIDe r3; have qg1 := HIDe r4; omega)) (by (have qg0 := HIDe r3; have qg1 := HIDe r4; omega)) (by (have qg0 := HIDe r3; have qg1 := HIDe r4; omega)) hps (by (have qg0 := HIDe r3; have qg1 := HIDe r4; omega))
  try clear pz22_1
  try clear pz22_2
  refine Ew_stk (show ([I (z22), .ref (D 7), .ref (D 1), .ref (D 0)] : List Value) = [I (z22), .ref (D22 7), .ref (D22 1), .ref (D22 0)] by rw [show D22 0 = D 0 from ((show D22 0 = D 0 from (eD22 0).trans (hD22 0 rfl))), show D22 1 = D 1 from ((show D22 1 = D 1 from (eD22 1))), show D22 7 = D 7 from ((show D22 7 = D 7 from (eD22 7).trans (hD22 1 rfl)))]) ?_
  have r26 : HID ((0 : Int) ≤ F 1 2 ∧ F 1 2 ≤ 1) := krg_e (show (0 : Int) ≤ F22 1 2 ∧ F22 1 2 ≤ 1 from H.krg 1 2 (by decide)) (show F22 1 2 = F 1 2 from (((show F22 1 2 = F20 1 2 from (eF22 1 2))).trans ((show F20 1 2 = F 1 2 from (eF20 1 2)))))
  have r27 : HID ((-2147483648 : Int) ≤ F 1 3 ∧ F 1 3 ≤ 2147483647) := krg_e (show (-2147483648 : Int) ≤ F22 1 3 ∧ F22 1 3 ≤ 2147483647 from H.krg 1 3 (by decide)) (show F22 1 3 = F 1 3 from (((show F22 1 3 = F20 1 3 from (eF22 1 3))).trans ((show F20 1 3 = F 1 3 from (eF20 1 3)))))
  have r28 : HID ((-2147483648 : Int) ≤ F22 7 0 ∧ F22 7 0 ≤ 2147483647) := krg_e (show (-2147483648 : Int) ≤ F22 7 0 ∧ F22 7 0 ≤ 2147483647 from H.krg 7 0 (by decide)) (show F22 7 0 = F22 7 0 from rfl)
  refine v_inv H (o := 0) rfl rfl rfl rfl rfl rfl (by rfl) (C148_Row_Share (D := pul [0, 1, 7, 4, 2, 8, 16] D22) (N := pul [0, 1, 7, 4, 2, 8, 16] N22) (HW_sub H (VS_of (show vsub V154_Row_c20 V148_Row_Share [0, 1, 7, 4, 2, 8, 16] = true by decide +kernel))) (pf22_0_1) (pf22_0_12) (pf22_7_2) (pf22_1_0) (n2) ((congrArg (fun q : Nat => (q : Int)) (show N22 2 = N 2 from (eN22 2).trans (hN22 2 rfl))).trans (en2)) (n8) ((congrArg (fun q : Nat => (q : Int)) (show N22 8 = N 8 from (eN22 8).trans (hN22 6 rfl))).trans (en8)) (n16) ((congrArg (fun q : Nat => (q : Int)) (show N22 16 = N 16 from (eN22 16))).trans (en16)) (u1_1) (((((show F22 1 1 = F20 1 1 from (eF22 1 1))).trans ((show F20 1 1 = F 1 1 from (eF20 1 1)))).trans (eu1_1))) (F 1 2) ((((show F22 1 2 = F20 1 2 from (eF22 1 2))).trans ((show F20 1 2 = F 1 2 from (eF20 1 2))))) (F 1 3) ((((show F22 1 3 = F20 1 3 from (eF22 1 3))).trans ((show F20 1 3 = F 1 3 from (eF20 1 3))))) (u1_4) (((((show F22 1 4 = F20 1 4 from (eF22 1 4))).trans ((show F20 1 4 = F 1 4 from (eF20 1 4)))).trans (eu1_4))) (F22 7 0) (rfl) (u7_1) (((((show F22 7 1 = F20 7 1 from (eF22 7 1).trans (hS22 1 1 rfl))).trans ((show F20 7 1 = F 7 1 from (eF20 7 1)))).trans (eu7_1))) (u4_4) (((((show F22 4 4 = F20 4 4 from (eF22 4 4).trans (hS22 4 4 rfl))).trans ((show F20 4 4 = F 4 4 from (eF20 4 4).trans (hS20 3 4 rfl)))).trans (eu4_4))) (w20_1) (((show A22 2 = A20 2 from (eA22 2).trans (funext (hA22 2 rfl)))).trans ((eA20 2).trans ew20_1)) (A22 8) (rfl) (A 16) (((show A22 16 = A20 16 from (eA22 16))).trans ((show A20 16 = A 16 from (eA20 16)))) (show inr (z22) by omega) (show CNT ((w20_1)) ((u7_1)) ((u4_4)) (z22) by assumption) (show (u7_1) ≤ (n2) ∧ (n8) = (u7_1) by have qh0 := HIDe r10; have qh1 := HIDe r4; have qh2 := HIDe r6; omega) (show 0 ≤ (u1_1) ∧ (u1_1) ≤ (n16) ∧ (n16) ≤ 65536 by have qh0 := HIDe r1; have qh1 := HIDe r18; omega) (show 0 ≤ (u1_4) ∧ (u1_4) ≤ 7 by have qh0 := HIDe r2; omega) (fun σ29 D29' N29' F29' A29' c29 s29 H' O' hD29 hN29 hS29 hA29 pm29_6 m29_6 em29_6 y29_1_1 ey29_1_1 y29_1_2 ey29_1_2 y29_1_3 ey29_1_3 y29_1_4 ey29_1_4 y29_2_0 ey29_2_0 w29_5 ew29_5 w29_6 ew29_6 pz29_0 pz29_1 pz29_2 pz29_3 pz29_4 pz29_5 pz29_6 pz29_7 pz29_8 => ⟨rfl, ?_⟩))
  replace pm29_6 := HIDm pm29_6
  replace em29_6 := HIDm em29_6
  replace ey29_1_1 := HIDm ey29_1_1
  replace ey29_1_2 := HIDm ey29_1_2
  replace ey29_1_3 := HIDm ey29_1_3
  replace ey29_1_4 := HIDm ey29_1_4
  replace ey29_2_0 := HIDm ey29_2_0
  refine v_backM (c := (c + c22)) (s := (s + s22)) H (show vsub V154_Row_c20 V148_Row_Share [0, 1, 7, 4, 2, 8, 16] = true by decide +kernel) H' O' hD29 (show vmov V154_Row_c20 [0, 1, 7, 4, 2, 8, 16] [6] = true by decide +kernel) (fun D29 N29 F29 A29 H O' eD29 eN29 eF29 eA29 => ?_)
  have O := OUT_trans O O'
  -- Packer.packShare
  have pe29_3_0 : HID (A29 3 0 = (D29 5 : Int)) := (congrFun ((show A29 3 = A22 3 from (eA29 3))) 0).trans ((pe22_3_0).trans (congrArg (fun q : Nat => (q : Int)) ((show D29 5 = D22 5 from (eD29 5))).symm))
  have pe29_6_0 : HID (A29 6 0 = (D29 7 : Int)) := (congrFun ((show A29 6 = A22 6 from (eA29 6))) 0).trans ((pe22_6_0).trans (congrArg (fun q : Nat => (q : Int)) ((show D29 7 = D22 7 from (eD29 7).trans (hD29 2 rfl))).symm))
  have pf29_0_1 : HID (F29 0 1 = (D29 4 : Int)) := ((show F29 0 1 = F22 0 1 from (eF29 0 1).trans (hS29 0 1 rfl))).trans ((pf22_0_1).trans (congrArg (fun q : Nat => (q : Int)) ((show D29 4 = D22 4 from (eD29 4).trans (hD29 3 rfl))).symm))
  have pf29_0_10 : HID (F29 0 10 = (D29 17 : Int)) := ((show F29 0 10 = F22 0 10 from (eF29 0 10).trans (hS29 0 10 rfl))).trans ((pf22_0_10).trans (congrArg (fun q : Nat => (q : Int)) ((show D29 17 = D22 17 from (eD29 17))).symm))
  have pf29_0_12 : HID (F29 0 12 = (D29 2 : Int)) := ((show F29 0 12 = F22 0 12 from (eF29 0 12).trans (hS29 0 12 rfl))).trans ((pf22_0_12).trans (congrArg (fun q : Nat => (q : Int)) ((show D29 2 = D22 2 from (eD29 2).trans (hD29 4 rfl))).symm))
  have pf29_0_13 : HID (F29 0 13 = (D29 3 : Int)) := ((show F29 0 13 = F22 0 13 from (eF29 0 13).trans (hS29 0 13 rfl))).trans ((pf22_0_13).trans (congrArg (fun q : Nat => (q : Int)) ((show D29 3 = D22 3 from (eD29 3))).symm))
  have pf29_0_4 : HID (F29 0 4 = (D29 6 : Int)) := ((show F29 0 4 = F22 0 4 from (eF29 0 4).trans (hS29 0 4 rfl))).trans ((pf22_0_4).trans (congrArg (fun q : Nat => (q : Int)) ((show D29 6 = D22 6 from (eD29 6))).symm))
  have pf29_1_0 : HID (F29 1 0 = (D29 16 : Int)) := (eF29 1 0).trans (pm29_6.trans (congrArg (fun q : Nat => (q : Int)) (eD29 16).symm))
  have pf29_17_0 : HID (F29 17 0 = (D29 18 : Int)) := ((show F29 17 0 = F22 17 0 from (eF29 17 0))).trans ((pf22_17_0).trans (congrArg (fun q : Nat => (q : Int)) ((show D29 18 = D22 18 from (eD29 18))).symm))
  have pf29_7_2 : HID (F29 7 2 = (D29 8 : Int)) := ((show F29 7 2 = F22 7 2 from (eF29 7 2).trans (hS29 2 2 rfl))).trans ((pf22_7_2).trans (congrArg (fun q : Nat => (q : Int)) ((show D29 8 = D22 8 from (eD29 8).trans (hD29 5 rfl))).symm))
  have pf29_7_3 : HID (F29 7 3 = (D29 9 : Int)) := ((show F29 7 3 = F22 7 3 from (eF29 7 3).trans (hS29 2 3 rfl))).trans ((pf22_7_3).trans (congrArg (fun q : Nat => (q : Int)) ((show D29 9 = D22 9 from (eD29 9))).symm))
  have pf29_7_4 : HID (F29 7 4 = (D29 10 : Int)) := ((show F29 7 4 = F22 7 4 from (eF29 7 4).trans (hS29 2 4 rfl))).trans ((pf22_7_4).trans (congrArg (fun q : Nat => (q : Int)) ((show D29 10 = D22 10 from (eD29 10))).symm))
  have pf29_7_5 : HID (F29 7 5 = (D29 11 : Int)) := ((show F29 7 5 = F22 7 5 from (eF29 7 5).trans (hS29 2 5 rfl))).trans ((pf22_7_5).trans (congrArg (fun q : Nat => (q : Int)) ((show D29 11 = D22 11 from (eD29 11))).symm))
  have pf29_7_6 : HID (F29 7 6 = (D29 12 : Int)) := ((show F29 7 6 = F22 7 6 from (eF29 7 6).trans (hS29 2 6 rfl))).trans ((pf22_7_6).trans (congrArg (fun q : Nat => (q : Int)) ((show D29 12 = D22 12 from (eD29 12))).symm))
  have pf29_7_7 : HID (F29 7 7 = (D29 13 : Int)) := ((show F29 7 7 = F22 7 7 from (eF29 7 7).trans (hS29 2 7 rfl))).trans ((pf22_7_7).trans (congrArg (fun q : Nat => (q : Int)) ((show D29 13 = D22 13 from (eD29 13))).symm))
  have pf29_7_8 : HID (F29 7 8 = (D29 14 : Int)) := ((show F29 7 8 = F22 7 8 from (eF29 7 8).trans (hS29 2 8 rfl))).trans ((pf22_7_8).trans (congrArg (fun q : Nat => (q : Int)) ((show D29 14 = D22 14 from (eD29 14))).symm))
  have pf29_7_9 : HID (F29 7 9 = (D29 15 : Int)) := ((show F29 7 9 = F22 7 9 from (eF29 7 9).trans (hS29 2 9 rfl))).trans ((pf22_7_9).trans (congrArg (fun q : Nat => (q : Int)) ((show D29 15 = D22 15 from (eD29 15))).symm))
  have r30 : HID ((0 : Int) ≤ m29_6 ∧ m29_6 ≤ 1000000) := nrng (H.nle 16 (by decide)) (show (N29 16 : Int) = m29_6 from (congrArg (fun q : Nat => (q : Int)) (eN29 16)).trans em29_6)
  have r31 : HID ((-2147483648 : Int) ≤ y29_1_1 ∧ y29_1_1 ≤ 2147483647) := krg_e (show (-2147483648 : Int) ≤ F29 1 1 ∧ F29 1 1 ≤ 2147483647 from H.krg 1 1 (by decide)) (show F29 1 1 = y29_1_1 from ((eF29 1 1).trans ey29_1_1))
  have r32 : HID ((0 : Int) ≤ y29_1_2 ∧ y29_1_2 ≤ 1) := krg_e (show (0 : Int) ≤ F29 1 2 ∧ F29 1 2 ≤ 1 from H.krg 1 2 (by decide)) (show F29 1 2 = y29_1_2 from ((eF29 1 2).trans ey29_1_2))
  have r33 : HID ((-2147483648 : Int) ≤ y29_1_3 ∧ y29_1_3 ≤ 2147483647) := krg_e (show (-2147483648 : Int) ≤ F29 1 3 ∧ F29 1 3 ≤ 2147483647 from H.krg 1 3 (by decide)) (show F29 1 3 = y29_1_3 from ((eF29 1 3).trans ey29_1_3))
  have r34 : HID ((-2147483648 : Int) ≤ y29_1_4 ∧ y29_1_4 ≤ 2147483647) := krg_e (show (-2147483648 : Int) ≤ F29 1 4 ∧ F29 1 4 ≤ 2147483647 from H.krg 1 4 (by decide)) (show F29 1 4 = y29_1_4 from ((eF29 1 4).trans ey29_1_4))
  have r35 : HID ((-2147483648 : Int) ≤ y29_2_0 ∧ y29_2_0 ≤ 2147483647) := krg_e (show (-2147483648 : Int) ≤ F29 7 0 ∧ F29 7 0 ≤ 2147483647 from H.krg 7 0 (by decide)) (show F29 7 0 = y29_2_0 from ((eF29 7 0).trans ey29_2_0))
  exact w_ret rfl (k _ _ _ _ _ _ _ H O (SD_trans (SD_trans (SD_refl) (SD_glu (ι := [0, 7, 2, 3, 4, 5, 8, 9, 10, 11, 12, 13, 14, 15, 17, 18]) hD22 eD22 (by decide +kernel)) (any_subA (l' := [18]) rfl)) (SD_glu (ι := [0, 1, 7, 4, 2, 8, 16]) hD29 eD29 (by decide +kernel)) (any_subA (l' := [16]) rfl)) (SD_trans (SD_trans (SD_refl) (SD_glu (ι := [0, 7, 2, 3, 4, 5, 8, 9, 10, 11, 12, 13, 14, 15, 17, 18]) hN22 eN22 (by decide +kernel)) (any_subA (l' := [18]) rfl)) (SD_glu (ι := [0, 1, 7, 4, 2, 8, 16]) hN29 eN29 (by decide +kernel)) (any_subA (l' := [16]) rfl)) (SF_trans (SF_trans (SF_trans (SF_refl) (SF_glu (ι := [0, 2, 3, 4, 5]) hS20 eF20 (by decide +kernel)) (any_sub (l' := []) rfl)) (SF_glu (ι := [0, 7, 2, 3, 4, 5, 8, 9, 10, 11, 12, 13, 14, 15, 17, 18]) hS22 eF22 (by decide +kernel)) (any_sub (l' := [(0, 15), (7, 0), (17, 0), (17, 1), (17, 2), (17, 3), (17, 4)]) rfl)) (SF_glu (ι := [0, 1, 7, 4, 2, 8, 16]) hS29 eF29 (by decide +kernel)) (any_sub (l' := [(1, 0), (1, 1), (1, 2), (1, 3), (1, 4), (7, 0)]) rfl)) (SA_trans (SA_trans (SA_trans (SA_refl) (SA_glu (ι := [0, 2, 3, 4, 5]) hA20 eA20 (by decide +kernel)) (any_subA (l' := [2]) rfl)) (SA_glu (ι := [0, 7, 2, 3, 4, 5, 8, 9, 10, 11, 12, 13, 14, 15, 17, 18]) hA22 eA22 (by decide +kernel)) (any_subA (l' := [8, 9, 10, 11, 12, 13, 14, 15, 18]) rfl)) (SA_glu (ι := [0, 1, 7, 4, 2, 8, 16]) hA29 eA29 (by decide +kernel)) (any_subA (l' := [8, 16]) rfl)) (pf29_1_0) (pf29_17_0) (m29_6) ((congrArg (fun q : Nat => (q : Int)) (eN29 16)).trans em29_6) (m22_15) ((congrArg (fun q : Nat => (q : Int)) (show N29 18 = N22 18 from (eN29 18))).trans ((congrArg (fun q : Nat => (q : Int)) (eN22 18)).trans em22_15)) (y29_1_1) (((eF29 1 1).trans ey29_1_1)) (y29_1_4) (((eF29 1 4).trans ey29_1_4)) (y22_14_1) ((((show F29 17 1 = F22 17 1 from (eF29 17 1))).trans ((eF22 17 1).trans ey22_14_1))) (show 0 ≤ (y29_1_1) ∧ (y29_1_1) ≤ (m29_6) ∧ (m29_6) ≤ 65536 by have qh0 := HIDe r30; have qh1 := HIDe r31; omega) (show 0 ≤ (y29_1_4) ∧ (y29_1_4) ≤ 7 by have qh0 := HIDe r34; omega) (show 0 ≤ (y22_14_1) ∧ (y22_14_1) ≤ (m22_15) ∧ (m22_15) ≤ 65536 by have qh0 := HIDe r23; have qh1 := HIDe r25; omega))
abbrev V154_Row_c21 : vV := [(0, 6, [(4, 0), (4, 0), (4, 0), (4, 0), (4, 0), (4, 0), (4, 0), (4, 0), (4, 0), (4, 0), (4, 0), (4, 0), (4, 0), (4, 0), (4, 0), (0, 0), (0, 0), (4, 0), (4, 0)]), (0, 7, [(4, 0), (0, 0), (1, 0), (0, 0), (0, 0)]), (1, 1, []), (1, 7, []), (0, 5, [(4, 0), (4, 0), (4, 0), (4, 0), (0, 0), (0, 0), (0, 0), (4, 0), (4, 0), (0, 0), (0, 0), (0, 0), (0, 0), (0, 0), (0, 0), (0, 0), (0, 0), (0, 0), (0, 0)]), (1, 1, []), (1, 5, []), (0, 8, [(0, 0), (0, 0), (4, 0), (4, 0), (4, 0), (4, 0), (4, 0), (4, 0), (4, 0), (4, 0), (4, 0), (0, 0), (0, 0)]), (1, 1, []), (1, 1, []), (1, 1, []), (1, 1, []), (1, 1, []), (1, 1, []), (1, 1, []), (1, 1, []), (1, 0, []), (0, 7, [(4, 0), (0, 0), (1, 0), (0, 0), (0, 0)]), (1, 0, [])]
set_option maxHeartbeats 16000000 in
/-- Packer.packOwnShare: this, #1, this.symbolCounts, this.symbols, this.finder, this.symbols.1, this.ownTables, this.ownTables.1, this.ownTables.1.points, this.ownTables.1.masses, this.ownTables.1.mostBits, this.ownTables.1.starts, this.ownTables.1.used, this.ownTables.1.symbolAt, this.ownTables.1.numberAt, this.ownTables.1.placeOf, #1.bytes, this.told, this.told.bytes -/
theorem C154_Row_c21 {σE : rS} {D N : Nat → Nat} {F : hF} {A : hA} {d c s : Nat} {Q : wQ} (H : HW V154_Row_c21 σE D N F A) (HT : STC σE)  (pf2 : F 0 12 = (D 2 : Int)) (pf3 : F 0 13 = (D 3 : Int)) (pf4 : F 0 1 = (D 4 : Int)) (pf5 : A 3 1 = (D 5 : Int)) (pf6 : F 0 4 = (D 6 : Int)) (pf7 : A 6 1 = (D 7 : Int)) (pf8 : F 7 2 = (D 8 : Int)) (pf9 : F 7 3 = (D 9 : Int)) (pf10 : F 7 4 = (D 10 : Int)) (pf11 : F 7 5 = (D 11 : Int)) (pf12 : F 7 6 = (D 12 : Int)) (pf13 : F 7 7 = (D 13 : Int)) (pf14 : F 7 8 = (D 14 : Int)) (pf15 : F 7 9 = (D 15 : Int)) (pf16 : F 1 0 = (D 16 : Int)) (pf17 : F 0 10 = (D 17 : Int)) (pf18 : F 17 0 = (D 18 : Int)) (n2 : Int) (en2 : (N 2 : Int) = n2) (n3 : Int) (en3 : (N 3 : Int) = n3) (n5 : Int) (en5 : (N 5 : Int) = n5) (n6 : Int) (en6 : (N 6 : Int) = n6) (n8 : Int) (en8 : (N 8 : Int) = n8) (n9 : Int) (en9 : (N 9 : Int) = n9) (n10 : Int) (en10 : (N 10 : Int) = n10) (n11 : Int) (en11 : (N 11 : Int) = n11) (n12 : Int) (en12 : (N 12 : Int) = n12) (n13 : Int) (en13 : (N 13 : Int) = n13) (n14 : Int) (en14 : (N 14 : Int) = n14) (n15 : Int) (en15 : (N 15 : Int) = n15) (n16 : Int) (en16 : (N 16 : Int) = n16) (n18 : Int) (en18 : (N 18 : Int) = n18) (u1_1 : Int) (eu1_1 : F 1 1 = u1_1) (u1_4 : Int) (eu1_4 : F 1 4 = u1_4) (u4_4 : Int) (eu4_4 : F 4 4 = u4_4) (u7_1 : Int) (eu7_1 : F 7 1 = u7_1) (u17_1 : Int) (eu17_1 : F 17 1 = u17_1) (w5 : Int → Int) (ew5 : A 5 = w5) (h0 : inr (1)) (h1 : (n2) = 53 ∧ (n3) = 3) (h2 : 1 ≤ (u4_4) ∧ (u4_4) ≤ (n5) ∧ (n5) ≤ 65536) (h3 : RNG ((w5)) ((u4_4)) 32) (h4 : SHZD ((n8)) ((n9)) ((n10)) ((n11)) ((n12)) ((n13)) ((n14)) ((n15)) ((u7_1)) 32 256) (h5 : 0 ≤ (u1_1) ∧ (u1_1) ≤ (n16) ∧ (n16) ≤ 65536) (h6 : 0 ≤ (u1_4) ∧ (u1_4) ≤ 7) (h7 : 0 ≤ (u17_1) ∧ (u17_1) ≤ (n18) ∧ (n18) ≤ 65536) (h8 : (n6) = 3) (k : ∀ (σ : rS) (D' N' : Nat → Nat) (F' : hF) (A' : hA) (c' s' : Nat), HW V154_Row_c21 σ D' N' F' A' → OUT (V154_Row_c21).length D N σE c s D' N' σ c' s' → SD [16, 18] D D' → SD [16, 18] N N' → SF [(0, 15), (1, 0), (1, 1), (1, 2), (1, 3), (1, 4), (7, 0), (17, 0), (17, 1), (17, 2), (17, 3), (17, 4)] F F' → SA [2, 8, 9, 10, 11, 12, 13, 14, 15, 16, 18] A A' → F' 1 0 = (D' 16 : Int) → F' 17 0 = (D' 18 : Int) → ∀ m16 : Int, (N' 16 : Int) = m16 → ∀ m18 : Int, (N' 18 : Int) = m18 → ∀ y1_1 : Int, F' 1 1 = y1_1 → ∀ y1_4 : Int, F' 1 4 = y1_4 → ∀ y17_1 : Int, F' 17 1 = y17_1 → (0 ≤ (y1_1) ∧ (y1_1) ≤ (m16) ∧ (m16) ≤ 65536) → (0 ≤ (y1_4) ∧ (y1_4) ≤ 7) → (0 ≤ (y17_1) ∧ (y17_1) ≤ (m18) ∧ (m18) ≤ 65536) → Q none σ c' s') : Ew 154 (d + 4) 0 (rargs 0 [.ref (D 0), .ref (D 1), I 1]) [] σE c s Q := by
  have O := OUT_refl (n := (V154_Row_c21).length) (D := D) (N := N) (σ := σE) (c := c) (s := s)
  have HE := H
  have r1 : HID ((-2147483648 : Int) ≤ u1_1 ∧ u1_1 ≤ 2147483647) := krg_e (show (-2147483648 : Int) ≤ F 1 1 ∧ F 1 1 ≤ 2147483647 from H.krg 1 1 (by decide)) (show F 1 1 = u1_1 from (eu1_1))
  have r2 : HID ((-2147483648 : Int) ≤ u1_4 ∧ u1_4 ≤ 2147483647) := krg_e (show (-2147483648 : Int) ≤ F 1 4 ∧ F 1 4 ≤ 2147483647 from H.krg 1 4 (by decide)) (show F 1 4 = u1_4 from (eu1_4))
  have r3 : HID ((-2147483648 : Int) ≤ u4_4 ∧ u4_4 ≤ 2147483647) := krg_e (show (-2147483648 : Int) ≤ F 4 4 ∧ F 4 4 ≤ 2147483647 from H.krg 4 4 (by decide)) (show F 4 4 = u4_4 from (eu4_4))
  have r4 : HID ((-2147483648 : Int) ≤ u7_1 ∧ u7_1 ≤ 2147483647) := krg_e (show (-2147483648 : Int) ≤ F 7 1 ∧ F 7 1 ≤ 2147483647 from H.krg 7 1 (by decide)) (show F 7 1 = u7_1 from (eu7_1))
  have r5 : HID ((-2147483648 : Int) ≤ u17_1 ∧ u17_1 ≤ 2147483647) := krg_e (show (-2147483648 : Int) ≤ F 17 1 ∧ F 17 1 ≤ 2147483647 from H.krg 17 1 (by decide)) (show F 17 1 = u17_1 from (eu17_1))
  replace pf2 := HIDm pf2
  replace pf3 := HIDm pf3
  replace pf4 := HIDm pf4
  replace pf5 := HIDm pf5
  replace pf6 := HIDm pf6
  replace pf7 := HIDm pf7
  replace pf8 := HIDm pf8
  replace pf9 := HIDm pf9
  replace pf10 := HIDm pf10
  replace pf11 := HIDm pf11
  replace pf12 := HIDm pf12
  replace pf13 := HIDm pf13
  replace pf14 := HIDm pf14
  replace pf15 := HIDm pf15
  replace pf16 := HIDm pf16
  replace pf17 := HIDm pf17
  replace pf18 := HIDm pf18
  replace en2 := HIDm en2
  replace en3 := HIDm en3
  replace en5 := HIDm en5
  replace en6 := HIDm en6
  replace en8 := HIDm en8
  replace en9 := HIDm en9
  replace en10 := HIDm en10
  replace en11 := HIDm en11
  replace en12 := HIDm en12
  replace en13 := HIDm en13
  replace en14 := HIDm en14
  replace en15 := HIDm en15
  replace en16 := HIDm en16
  replace en18 := HIDm en18
  replace eu1_1 := HIDm eu1_1
  replace eu1_4 := HIDm eu1_4
  replace eu4_4 := HIDm eu4_4
  replace eu7_1 := HIDm eu7_1
  replace eu17_1 := HIDm eu17_1
  have r6 : HID ((0 : Int) ≤ n2 ∧ n2 ≤ 1000000) := nrng (H.nle 2 (by decide)) (show (N 2 : Int) = n2 from en2)
  have r7 : HID ((0 : Int) ≤ n3 ∧ n3 ≤ 1000000) := nrng (H.nle 3 (by decide)) (show (N 3 : Int) = n3 from en3)
  have r8 : HID ((0 : Int) ≤ n5 ∧ n5 ≤ 1000000) := nrng (H.nle 5 (by decide)) (show (N 5 : Int) = n5 from en5)
  have r9 : HID ((0 : Int) ≤ n6 ∧ n6 ≤ 1000000) := nrng (H.nle 6 (by decide)) (show (N 6 : Int) = n6 from en6)
  have r10 : HID ((0 : Int) ≤ n8 ∧ n8 ≤ 1000000) := nrng (H.nle 8 (by decide)) (show (N 8 : Int) = n8 from en8)
  have r11 : HID ((0 : Int) ≤ n9 ∧ n9 ≤ 1000000) := nrng (H.nle 9 (by decide)) (show (N 9 : Int) = n9 from en9)
  have r12 : HID ((0 : Int) ≤ n10 ∧ n10 ≤ 1000000) := nrng (H.nle 10 (by decide)) (show (N 10 : Int) = n10 from en10)
  have r13 : HID ((0 : Int) ≤ n11 ∧ n11 ≤ 1000000) := nrng (H.nle 11 (by decide)) (show (N 11 : Int) = n11 from en11)
  have r14 : HID ((0 : Int) ≤ n12 ∧ n12 ≤ 1000000) := nrng (H.nle 12 (by decide)) (show (N 12 : Int) = n12 from en12)
  have r15 : HID ((0 : Int) ≤ n13 ∧ n13 ≤ 1000000) := nrng (H.nle 13 (by decide)) (show (N 13 : Int) = n13 from en13)
  have r16 : HID ((0 : Int) ≤ n14 ∧ n14 ≤ 1000000) := nrng (H.nle 14 (by decide)) (show (N 14 : Int) = n14 from en14)
  have r17 : HID ((0 : Int) ≤ n15 ∧ n15 ≤ 1000000) := nrng (H.nle 15 (by decide)) (show (N 15 : Int) = n15 from en15)
  have r18 : HID ((0 : Int) ≤ n16 ∧ n16 ≤ 1000000) := nrng (H.nle 16 (by decide)) (show (N 16 : Int) = n16 from en16)
  have r19 : HID ((0 : Int) ≤ n18 ∧ n18 ≤ 1000000) := nrng (H.nle 18 (by decide)) (show (N 18 : Int) = n18 from en18)
  have hrg : RNG ((w5)) ((u4_4)) 32 := by assumption
  have hszq : SHZD ((n8)) ((n9)) ((n10)) ((n11)) ((n12)) ((n13)) ((n14)) ((n15)) ((u7_1)) 32 256 := by assumption
  unfold SHZD at hszq
  have hsF : (u7_1) = 32 ∧ (n8) = (u7_1) := by (have qg0 := HIDe r10; have qg1 := HIDe r4; omega)
  clear hszq
  refine Ew_of (pc' := 1) (fun _ => x_aload_n rfl rfl) ?_
  refine Ew_of (pc' := 2) (fun _ => x_iload_n rfl rfl) ?_
  refine v_inv H (o := 0) rfl rfl rfl rfl rfl rfl (by rfl) (C146_c11 (D := pul [0, 2, 3, 4, 5] D) (N := pul [0, 2, 3, 4, 5] N) (HW_sub H (VS_of (show vsub V154_Row_c21 V146_c11 [0, 2, 3, 4, 5] = true by decide +kernel))) (pf2) (pf3) (pf4) (pf5) (n2) (en2) (n3) (en3) (n5) (en5) (u4_4) ((eu4_4)) (A 2) (rfl) (w5) (ew5) (show inr (1) by omega) (show (n2) = 53 ∧ (n3) = 3 by have qh0 := HIDe r6; have qh1 := HIDe r7; omega) (show 0 ≤ (u4_4) ∧ (u4_4) ≤ (n5) ∧ (n5) ≤ 65536 by have qh0 := HIDe r3; have qh1 := HIDe r8; omega) (show RNG ((w5)) ((u4_4)) 32 by assumption) (fun z20 σ20 F20' A20' H' O' hS20 hA20 w20_1 ew20_1 pz20_0 pz20_1 pz20_2 pz20_3 => ⟨rfl, ?_⟩))
  refine v_back (c := c) (s := s) H (show vsub V154_Row_c21 V146_c11 [0, 2, 3, 4, 5] = true by decide +kernel) H' O' (fun F20 A20 H O' eF20 eA20 => ?_)
  have O := OUT_trans O O'
  -- Packer.countSymbols
  have hct : CTN ((w5)) ((w20_1)) ((u4_4)) 53 := pz20_1
  have hps : ((z20) : Int) = su (fun i => pos1 (((w20_1)) i)) 53 := pz20_2
  have hpr := pz20_3
  refine Ew_of (pc' := 6) (fun _ => x_istore_n rfl) ?_
  refine Ew_of (pc' := 7) (fun _ => x_aload_n rfl (rk_o (rfl) rfl rfl)) ?_
  refine Ew_of (pc' := 8) (fun _ => x_aload_n rfl (rk_o (rfl) rfl rfl)) ?_
  refine Ew_of (pc' := 9) (fun _ => x_aload_n rfl (rk_o (rfl) rfl rfl)) ?_
  refine v_g H (o := 0) (v := .ref (D 6)) rfl rfl rfl rfl rfl (vrf ((((show F20 0 4 = F 0 4 from (eF20 0 4).trans (hS20 0 4 rfl)))).trans (pf6))) ?_
  refine Ew_of (pc' := 13) (fun _ => x_iload_n rfl (rk_o (rfl) rfl rfl)) ?_
  refine v_lR H (o := 6) rfl rfl rfl rfl rfl (n := n6) (en6) (show 0 ≤ 1 ∧ 1 < n6 by have qh0 := HIDe r9; omega) (z := ((D 7 : Nat) : Int)) (v := .ref (D 7)) ((congrFun (((show A20 6 = A 6 from (eA20 6)))) 1).trans (pf7)) (vrf rfl) ?_
  refine Ew_of (pc' := 15) (fun _ => x_aload_n rfl (rk_o (rfl) rfl rfl)) ?_
  refine Ew_of (pc' := 16) (fun _ => x_aload_n rfl (rk_o (rfl) rfl rfl)) ?_
  refine v_g H (o := 0) (v := .ref (D 6)) rfl rfl rfl rfl rfl (vrf ((((show F20 0 4 = F 0 4 from (eF20 0 4).trans (hS20 0 4 rfl)))).trans (pf6))) ?_
  refine Ew_of (pc' := 20) (fun _ => x_iload_n rfl (rk_o (rfl) rfl rfl)) ?_
  refine v_lR H (o := 6) rfl rfl rfl rfl rfl (n := n6) (en6) (show 0 ≤ 1 ∧ 1 < n6 by have qh0 := HIDe r9; omega) (z := ((D 7 : Nat) : Int)) (v := .ref (D 7)) ((congrFun (((show A20 6 = A 6 from (eA20 6)))) 1).trans (pf7)) (vrf rfl) ?_
  refine Ew_of (pc' := 22) (fun _ => x_iload_n rfl (rk_o (rfl) rfl rfl)) ?_
  refine Ew_of (pc' := 23) (fun _ => x_iload_n rfl rk_s) ?_
  refine Ew_of (pc' := 26) (fun _ => x_ldc_w (z := 2147483647) rfl (by decide)) ?_
  have r21 : HID ((-2147483648 : Int) ≤ F 0 15 ∧ F 0 15 ≤ 2147483647) := krg_e (show (-2147483648 : Int) ≤ F20 0 15 ∧ F20 0 15 ≤ 2147483647 from H.krg 0 15 (by decide)) (show F20 0 15 = F 0 15 from ((show F20 0 15 = F 0 15 from (eF20 0 15).trans (hS20 0 15 rfl))))
  refine v_inv H (o := 0) rfl rfl rfl rfl rfl rfl (by rfl) (C149_Share_c21 (D := pul [0, 7, 2, 3, 4, 5, 8, 9, 10, 11, 12, 13, 14, 15, 17, 18] D) (N := pul [0, 7, 2, 3, 4, 5, 8, 9, 10, 11, 12, 13, 14, 15, 17, 18] N) (HW_sub H (VS_of (show vsub V154_Row_c21 V149_Share_c21 [0, 7, 2, 3, 4, 5, 8, 9, 10, 11, 12, 13, 14, 15, 17, 18] = true by decide +kernel))) (STC_out HT HE O) ((((show F20 0 12 = F 0 12 from (eF20 0 12).trans (hS20 0 12 rfl)))).trans (pf2)) ((((show F20 0 13 = F 0 13 from (eF20 0 13).trans (hS20 0 13 rfl)))).trans (pf3)) ((((show F20 0 1 = F 0 1 from (eF20 0 1).trans (hS20 0 1 rfl)))).trans (pf4)) ((congrFun (((show A20 3 = A 3 from (eA20 3).trans (funext (hA20 2 rfl))))) 1).trans (pf5)) ((((show F20 7 2 = F 7 2 from (eF20 7 2)))).trans (pf8)) ((((show F20 7 3 = F 7 3 from (eF20 7 3)))).trans (pf9)) ((((show F20 7 4 = F 7 4 from (eF20 7 4)))).trans (pf10)) ((((show F20 7 5 = F 7 5 from (eF20 7 5)))).trans (pf11)) ((((show F20 7 6 = F 7 6 from (eF20 7 6)))).trans (pf12)) ((((show F20 7 7 = F 7 7 from (eF20 7 7)))).trans (pf13)) ((((show F20 7 8 = F 7 8 from (eF20 7 8)))).trans (pf14)) ((((show F20 7 9 = F 7 9 from (eF20 7 9)))).trans (pf15)) ((((show F20 0 10 = F 0 10 from (eF20 0 10).trans (hS20 0 10 rfl)))).trans (pf17)) ((((show F20 17 0 = F 17 0 from (eF20 17 0)))).trans (pf18)) (n2) (en2) (n3) (en3) (n5) (en5) (n8) (en8) (n9) (en9) (n10) (en10) (n11) (en11) (n12) (en12) (n13) (en13) (n14) (en14) (n15) (en15) (n18) (en18) (F 0 15) (((show F20 0 15 = F 0 15 from (eF20 0 15).trans (hS20 0 15 rfl)))) (u7_1) ((((show F20 7 1 = F 7 1 from (eF20 7 1))).trans (eu7_1))) (u4_4) ((((show F20 4 4 = F 4 4 from (eF20 4 4).trans (hS20 3 4 rfl))).trans (eu4_4))) (u17_1) ((((show F20 17 1 = F 17 1 from (eF20 17 1))).trans (eu17_1))) (w20_1) ((eA20 2).trans ew20_1) (w5) (((show A20 5 = A 5 from (eA20 5).trans (funext (hA20 4 rfl)))).trans (ew5)) (show inr (1) by omega) (show inr (z20) by omega) (show inr (2147483647) by omega) (show (n2) = 53 ∧ (n3) = 3 by have qh0 := HIDe r6; have qh1 := HIDe r7; omega) (show 1 ≤ (u4_4) ∧ (u4_4) ≤ (n5) ∧ (n5) ≤ 65536 by have qh0 := HIDe r3; have qh1 := HIDe r8; omega) (show RNG ((w5)) ((u4_4)) 32 by assumption) (show CTN ((w5)) ((w20_1)) ((u4_4)) 53 by assumption) (show (z20) = su (fun i => pos1 (((w20_1)) i)) 53 by assumption) (show 0 ≤ (z20) ∧ (z20) ≤ 53 by omega) (show SHZD ((n8)) ((n9)) ((n10)) ((n11)) ((n12)) ((n13)) ((n14)) ((n15)) ((u7_1)) 32 256 by assumption) (show 0 ≤ (u17_1) ∧ (u17_1) ≤ (n18) ∧ (n18) ≤ 65536 by have qh0 := HIDe r19; have qh1 := HIDe r5; omega) (fun z22 σ22 D22' N22' F22' A22' c22 s22 H' O' hD22 hN22 hS22 hA22 pm22_15 m22_15 em22_15 y22_0_15 ey22_0_15 y22_14_1 ey22_14_1 pz22_0 pz22_1 pz22_2 pz22_3 pz22_4 => ⟨rfl, ?_⟩))
  replace pm22_15 := HIDm pm22_15
  replace em22_15 := HIDm em22_15
  replace ey22_0_15 := HIDm ey22_0_15
  replace ey22_14_1 := HIDm ey22_14_1
  refine v_backM (c := c) (s := s) H (show vsub V154_Row_c21 V149_Share_c21 [0, 7, 2, 3, 4, 5, 8, 9, 10, 11, 12, 13, 14, 15, 17, 18] = true by decide +kernel) H' O' hD22 (show vmov V154_Row_c21 [0, 7, 2, 3, 4, 5, 8, 9, 10, 11, 12, 13, 14, 15, 17, 18] [15] = true by decide +kernel) (fun D22 N22 F22 A22 H O' eD22 eN22 eF22 eA22 => ?_)
  have O := OUT_trans O O'
  -- Packer.bestOrder
  have pe22_3_1 : HID (A22 3 1 = (D22 5 : Int)) := (congrFun ((show A22 3 = A20 3 from (eA22 3).trans (funext (hA22 3 rfl)))) 1).trans (((congrFun (((show A20 3 = A 3 from (eA20 3).trans (funext (hA20 2 rfl))))) 1).trans (pf5)).trans (congrArg (fun q : Nat => (q : Int)) ((show D22 5 = D 5 from (eD22 5).trans (hD22 5 rfl))).symm))
  have pe22_6_1 : HID (A22 6 1 = (D22 7 : Int)) := (congrFun ((show A22 6 = A20 6 from (eA22 6))) 1).trans (((congrFun (((show A20 6 = A 6 from (eA20 6)))) 1).trans (pf7)).trans (congrArg (fun q : Nat => (q : Int)) ((show D22 7 = D 7 from (eD22 7).trans (hD22 1 rfl))).symm))
  have pf22_0_1 : HID (F22 0 1 = (D22 4 : Int)) := ((show F22 0 1 = F20 0 1 from (eF22 0 1).trans (hS22 0 1 rfl))).trans (((((show F20 0 1 = F 0 1 from (eF20 0 1).trans (hS20 0 1 rfl)))).trans (pf4)).trans (congrArg (fun q : Nat => (q : Int)) ((show D22 4 = D 4 from (eD22 4).trans (hD22 4 rfl))).symm))
  have pf22_0_10 : HID (F22 0 10 = (D22 17 : Int)) := ((show F22 0 10 = F20 0 10 from (eF22 0 10).trans (hS22 0 10 rfl))).trans (((((show F20 0 10 = F 0 10 from (eF20 0 10).trans (hS20 0 10 rfl)))).trans (pf17)).trans (congrArg (fun q : Nat => (q : Int)) ((show D22 17 = D 17 from (eD22 17).trans (hD22 14 rfl))).symm))
  have pf22_0_12 : HID (F22 0 12 = (D22 2 : Int)) := ((show F22 0 12 = F20 0 12 from (eF22 0 12).trans (hS22 0 12 rfl))).trans (((((show F20 0 12 = F 0 12 from (eF20 0 12).trans (hS20 0 12 rfl)))).trans (pf2)).trans (congrArg (fun q : Nat => (q : Int)) ((show D22 2 = D 2 from (eD22 2).trans (hD22 2 rfl))).symm))
  have pf22_0_13 : HID (F22 0 13 = (D22 3 : Int)) := ((show F22 0 13 = F20 0 13 from (eF22 0 13).trans (hS22 0 13 rfl))).trans (((((show F20 0 13 = F 0 13 from (eF20 0 13).trans (hS20 0 13 rfl)))).trans (pf3)).trans (congrArg (fun q : Nat => (q : Int)) ((show D22 3 = D 3 from (eD22 3).trans (hD22 3 rfl))).symm))
  have pf22_0_4 : HID (F22 0 4 = (D22 6 : Int)) := ((show F22 0 4 = F20 0 4 from (eF22 0 4).trans (hS22 0 4 rfl))).trans (((((show F20 0 4 = F 0 4 from (eF20 0 4).trans (hS20 0 4 rfl)))).trans (pf6)).trans (congrArg (fun q : Nat => (q : Int)) ((show D22 6 = D 6 from (eD22 6))).symm))
  have pf22_1_0 : HID (F22 1 0 = (D22 16 : Int)) := ((show F22 1 0 = F20 1 0 from (eF22 1 0))).trans (((((show F20 1 0 = F 1 0 from (eF20 1 0)))).trans (pf16)).trans (congrArg (fun q : Nat => (q : Int)) ((show D22 16 = D 16 from (eD22 16))).symm))
  have pf22_17_0 : HID (F22 17 0 = (D22 18 : Int)) := (eF22 17 0).trans (pm22_15.trans (congrArg (fun q : Nat => (q : Int)) (eD22 18).symm))
  have pf22_7_2 : HID (F22 7 2 = (D22 8 : Int)) := ((show F22 7 2 = F20 7 2 from (eF22 7 2).trans (hS22 1 2 rfl))).trans (((((show F20 7 2 = F 7 2 from (eF20 7 2)))).trans (pf8)).trans (congrArg (fun q : Nat => (q : Int)) ((show D22 8 = D 8 from (eD22 8).trans (hD22 6 rfl))).symm))
  have pf22_7_3 : HID (F22 7 3 = (D22 9 : Int)) := ((show F22 7 3 = F20 7 3 from (eF22 7 3).trans (hS22 1 3 rfl))).trans (((((show F20 7 3 = F 7 3 from (eF20 7 3)))).trans (pf9)).trans (congrArg (fun q : Nat => (q : Int)) ((show D22 9 = D 9 from (eD22 9).trans (hD22 7 rfl))).symm))
  have pf22_7_4 : HID (F22 7 4 = (D22 10 : Int)) := ((show F22 7 4 = F20 7 4 from (eF22 7 4).trans (hS22 1 4 rfl))).trans (((((show F20 7 4 = F 7 4 from (eF20 7 4)))).trans (pf10)).trans (congrArg (fun q : Nat => (q : Int)) ((show D22 10 = D 10 from (eD22 10).trans (hD22 8 rfl))).symm))
  have pf22_7_5 : HID (F22 7 5 = (D22 11 : Int)) := ((show F22 7 5 = F20 7 5 from (eF22 7 5).trans (hS22 1 5 rfl))).trans (((((show F20 7 5 = F 7 5 from (eF20 7 5)))).trans (pf11)).trans (congrArg (fun q : Nat => (q : Int)) ((show D22 11 = D 11 from (eD22 11).trans (hD22 9 rfl))).symm))
  have pf22_7_6 : HID (F22 7 6 = (D22 12 : Int)) := ((show F22 7 6 = F20 7 6 from (eF22 7 6).trans (hS22 1 6 rfl))).trans (((((show F20 7 6 = F 7 6 from (eF20 7 6)))).trans (pf12)).trans (congrArg (fun q : Nat => (q : Int)) ((show D22 12 = D 12 from (eD22 12).trans (hD22 10 rfl))).symm))
  have pf22_7_7 : HID (F22 7 7 = (D22 13 : Int)) := ((show F22 7 7 = F20 7 7 from (eF22 7 7).trans (hS22 1 7 rfl))).trans (((((show F20 7 7 = F 7 7 from (eF20 7 7)))).trans (pf13)).trans (congrArg (fun q : Nat => (q : Int)) ((show D22 13 = D 13 from (eD22 13).trans (hD22 11 rfl))).symm))
  have pf22_7_8 : HID (F22 7 8 = (D22 14 : Int)) := ((show F22 7 8 = F20 7 8 from (eF22 7 8).trans (hS22 1 8 rfl))).trans (((((show F20 7 8 = F 7 8 from (eF20 7 8)))).trans (pf14)).trans (congrArg (fun q : Nat => (q : Int)) ((show D22 14 = D 14 from (eD22 14).trans (hD22 12 rfl))).symm))
  have pf22_7_9 : HID (F22 7 9 = (D22 15 : Int)) := ((show F22 7 9 = F20 7 9 from (eF22 7 9).trans (hS22 1 9 rfl))).trans (((((show F20 7 9 = F 7 9 from (eF20 7 9)))).trans (pf15)).trans (congrArg (fun q : Nat => (q : Int)) ((show D22 15 = D 15 from (eD22 15).trans (hD22 13 rfl))).symm))
  have r23 : HID ((0 : Int) ≤ m22_15 ∧ m22_15 ≤ 1000000) := nrng (H.nle 18 (by decide)) (show (N22 18 : Int) = m22_15 from (congrArg (fun q : Nat => (q : Int)) (eN22 18)).trans em22_15)
  have r24 : HID ((-2147483648 : Int) ≤ y22_0_15 ∧ y22_0_15 ≤ 2147483647) := krg_e (show (-2147483648 : Int) ≤ F22 0 15 ∧ F22 0 15 ≤ 2147483647 from H.krg 0 15 (by decide)) (show F22 0 15 = y22_0_15 from ((eF22 0 15).trans ey22_0_15))
  have r25 : HID ((-2147483648 : Int) ≤ y22_14_1 ∧ y22_14_1 ≤ 2147483647) := krg_e (show (-2147483648 : Int) ≤ F22 17 1 ∧ F22 17 1 ≤ 2147483647 from H.krg 17 1 (by decide)) (show F22 17 1 = y22_14_1 from ((eF22 17 1).trans ey22_14_1))
  have hcn : CNT ((w20_1)) ((u7_1)) ((u4_4)) ((z22)) := CTN_CNT hct (by (have qg0 := HIDe r3; have qg1 := HIDe r4; omega)) (by rw [hsF.1]; exact hrg) (by (have qg0 := HIDe r3; have qg1 := HIDe r4; omega)) (by (have qg0 := HIDe r3; have qg1 := HIDe r4; omega)) (by (have qg0 := HIDe r3; have qg1 := HIDe r4; omega)) hps (by (have qg0 := HIDe r3; have qg1 := HIDe r4; omega))
  try clear pz22_1
  try clear pz22_2
  refine Ew_stk (show ([I (z22), .ref (D 7), .ref (D 1), .ref (D 0)] : List Value) = [I (z22), .ref (D22 7), .ref (D22 1), .ref (D22 0)] by rw [show D22 0 = D 0 from ((show D22 0 = D 0 from (eD22 0).trans (hD22 0 rfl))), show D22 1 = D 1 from ((show D22 1 = D 1 from (eD22 1))), show D22 7 = D 7 from ((show D22 7 = D 7 from (eD22 7).trans (hD22 1 rfl)))]) ?_
  have r26 : HID ((0 : Int) ≤ F 1 2 ∧ F 1 2 ≤ 1) := krg_e (show (0 : Int) ≤ F22 1 2 ∧ F22 1 2 ≤ 1 from H.krg 1 2 (by decide)) (show F22 1 2 = F 1 2 from (((show F22 1 2 = F20 1 2 from (eF22 1 2))).trans ((show F20 1 2 = F 1 2 from (eF20 1 2)))))
  have r27 : HID ((-2147483648 : Int) ≤ F 1 3 ∧ F 1 3 ≤ 2147483647) := krg_e (show (-2147483648 : Int) ≤ F22 1 3 ∧ F22 1 3 ≤ 2147483647 from H.krg 1 3 (by decide)) (show F22 1 3 = F 1 3 from (((show F22 1 3 = F20 1 3 from (eF22 1 3))).trans ((show F20 1 3 = F 1 3 from (eF20 1 3)))))
  have r28 : HID ((-2147483648 : Int) ≤ F22 7 0 ∧ F22 7 0 ≤ 2147483647) := krg_e (show (-2147483648 : Int) ≤ F22 7 0 ∧ F22 7 0 ≤ 2147483647 from H.krg 7 0 (by decide)) (show F22 7 0 = F22 7 0 from rfl)
  refine v_inv H (o := 0) rfl rfl rfl rfl rfl rfl (by rfl) (C148_Row_Share (D := pul [0, 1, 7, 4, 2, 8, 16] D22) (N := pul [0, 1, 7, 4, 2, 8, 16] N22) (HW_sub H (VS_of (show vsub V154_Row_c21 V148_Row_Share [0, 1, 7, 4, 2, 8, 16] = true by decide +kernel))) (pf22_0_1) (pf22_0_12) (pf22_7_2) (pf22_1_0) (n2) ((congrArg (fun q : Nat => (q : Int)) (show N22 2 = N 2 from (eN22 2).trans (hN22 2 rfl))).trans (en2)) (n8) ((congrArg (fun q : Nat => (q : Int)) (show N22 8 = N 8 from (eN22 8).trans (hN22 6 rfl))).trans (en8)) (n16) ((congrArg (fun q : Nat => (q : Int)) (show N22 16 = N 16 from (eN22 16))).trans (en16)) (u1_1) (((((show F22 1 1 = F20 1 1 from (eF22 1 1))).trans ((show F20 1 1 = F 1 1 from (eF20 1 1)))).trans (eu1_1))) (F 1 2) ((((show F22 1 2 = F20 1 2 from (eF22 1 2))).trans ((show F20 1 2 = F 1 2 from (eF20 1 2))))) (F 1 3) ((((show F22 1 3 = F20 1 3 from (eF22 1 3))).trans ((show F20 1 3 = F 1 3 from (eF20 1 3))))) (u1_4) (((((show F22 1 4 = F20 1 4 from (eF22 1 4))).trans ((show F20 1 4 = F 1 4 from (eF20 1 4)))).trans (eu1_4))) (F22 7 0) (rfl) (u7_1) (((((show F22 7 1 = F20 7 1 from (eF22 7 1).trans (hS22 1 1 rfl))).trans ((show F20 7 1 = F 7 1 from (eF20 7 1)))).trans (eu7_1))) (u4_4) (((((show F22 4 4 = F20 4 4 from (eF22 4 4).trans (hS22 4 4 rfl))).trans ((show F20 4 4 = F 4 4 from (eF20 4 4).trans (hS20 3 4 rfl)))).trans (eu4_4))) (w20_1) (((show A22 2 = A20 2 from (eA22 2).trans (funext (hA22 2 rfl)))).trans ((eA20 2).trans ew20_1)) (A22 8) (rfl) (A 16) (((show A22 16 = A20 16 from (eA22 16))).trans ((show A20 16 = A 16 from (eA20 16)))) (show inr (z22) by omega) (show CNT ((w20_1)) ((u7_1)) ((u4_4)) (z22) by assumption) (show (u7_1) ≤ (n2) ∧ (n8) = (u7_1) by have qh0 := HIDe r10; have qh1 := HIDe r4; have qh2 := HIDe r6; omega) (show 0 ≤ (u1_1) ∧ (u1_1) ≤ (n16) ∧ (n16) ≤ 65536 by have qh0 := HIDe r1; have qh1 := HIDe r18; omega) (show 0 ≤ (u1_4) ∧ (u1_4) ≤ 7 by have qh0 := HIDe r2; omega) (fun σ29 D29' N29' F29' A29' c29 s29 H' O' hD29 hN29 hS29 hA29 pm29_6 m29_6 em29_6 y29_1_1 ey29_1_1 y29_1_2 ey29_1_2 y29_1_3 ey29_1_3 y29_1_4 ey29_1_4 y29_2_0 ey29_2_0 w29_5 ew29_5 w29_6 ew29_6 pz29_0 pz29_1 pz29_2 pz29_3 pz29_4 pz29_5 pz29_6 pz29_7 pz29_8 => ⟨rfl, ?_⟩))
  replace pm29_6 := HIDm pm29_6
  replace em29_6 := HIDm em29_6
  replace ey29_1_1 := HIDm ey29_1_1
  replace ey29_1_2 := HIDm ey29_1_2
  replace ey29_1_3 := HIDm ey29_1_3
  replace ey29_1_4 := HIDm ey29_1_4
  replace ey29_2_0 := HIDm ey29_2_0
  refine v_backM (c := (c + c22)) (s := (s + s22)) H (show vsub V154_Row_c21 V148_Row_Share [0, 1, 7, 4, 2, 8, 16] = true by decide +kernel) H' O' hD29 (show vmov V154_Row_c21 [0, 1, 7, 4, 2, 8, 16] [6] = true by decide +kernel) (fun D29 N29 F29 A29 H O' eD29 eN29 eF29 eA29 => ?_)
  have O := OUT_trans O O'
  -- Packer.packShare
  have pe29_3_1 : HID (A29 3 1 = (D29 5 : Int)) := (congrFun ((show A29 3 = A22 3 from (eA29 3))) 1).trans ((pe22_3_1).trans (congrArg (fun q : Nat => (q : Int)) ((show D29 5 = D22 5 from (eD29 5))).symm))
  have pe29_6_1 : HID (A29 6 1 = (D29 7 : Int)) := (congrFun ((show A29 6 = A22 6 from (eA29 6))) 1).trans ((pe22_6_1).trans (congrArg (fun q : Nat => (q : Int)) ((show D29 7 = D22 7 from (eD29 7).trans (hD29 2 rfl))).symm))
  have pf29_0_1 : HID (F29 0 1 = (D29 4 : Int)) := ((show F29 0 1 = F22 0 1 from (eF29 0 1).trans (hS29 0 1 rfl))).trans ((pf22_0_1).trans (congrArg (fun q : Nat => (q : Int)) ((show D29 4 = D22 4 from (eD29 4).trans (hD29 3 rfl))).symm))
  have pf29_0_10 : HID (F29 0 10 = (D29 17 : Int)) := ((show F29 0 10 = F22 0 10 from (eF29 0 10).trans (hS29 0 10 rfl))).trans ((pf22_0_10).trans (congrArg (fun q : Nat => (q : Int)) ((show D29 17 = D22 17 from (eD29 17))).symm))
  have pf29_0_12 : HID (F29 0 12 = (D29 2 : Int)) := ((show F29 0 12 = F22 0 12 from (eF29 0 12).trans (hS29 0 12 rfl))).trans ((pf22_0_12).trans (congrArg (fun q : Nat => (q : Int)) ((show D29 2 = D22 2 from (eD29 2).trans (hD29 4 rfl))).symm))
  have pf29_0_13 : HID (F29 0 13 = (D29 3 : Int)) := ((show F29 0 13 = F22 0 13 from (eF29 0 13).trans (hS29 0 13 rfl))).trans ((pf22_0_13).trans (congrArg (fun q : Nat => (q : Int)) ((show D29 3 = D22 3 from (eD29 3))).symm))
  have pf29_0_4 : HID (F29 0 4 = (D29 6 : Int)) := ((show F29 0 4 = F22 0 4 from (eF29 0 4).trans (hS29 0 4 rfl))).trans ((pf22_0_4).trans (congrArg (fun q : Nat => (q : Int)) ((show D29 6 = D22 6 from (eD29 6))).symm))
  have pf29_1_0 : HID (F29 1 0 = (D29 16 : Int)) := (eF29 1 0).trans (pm29_6.trans (congrArg (fun q : Nat => (q : Int)) (eD29 16).symm))
  have pf29_17_0 : HID (F29 17 0 = (D29 18 : Int)) := ((show F29 17 0 = F22 17 0 from (eF29 17 0))).trans ((pf22_17_0).trans (congrArg (fun q : Nat => (q : Int)) ((show D29 18 = D22 18 from (eD29 18))).symm))
  have pf29_7_2 : HID (F29 7 2 = (D29 8 : Int)) := ((show F29 7 2 = F22 7 2 from (eF29 7 2).trans (hS29 2 2 rfl))).trans ((pf22_7_2).trans (congrArg (fun q : Nat => (q : Int)) ((show D29 8 = D22 8 from (eD29 8).trans (hD29 5 rfl))).symm))
  have pf29_7_3 : HID (F29 7 3 = (D29 9 : Int)) := ((show F29 7 3 = F22 7 3 from (eF29 7 3).trans (hS29 2 3 rfl))).trans ((pf22_7_3).trans (congrArg (fun q : Nat => (q : Int)) ((show D29 9 = D22 9 from (eD29 9))).symm))
  have pf29_7_4 : HID (F29 7 4 = (D29 10 : Int)) := ((show F29 7 4 = F22 7 4 from (eF29 7 4).trans (hS29 2 4 rfl))).trans ((pf22_7_4).trans (congrArg (fun q : Nat => (q : Int)) ((show D29 10 = D22 10 from (eD29 10))).symm))
  have pf29_7_5 : HID (F29 7 5 = (D29 11 : Int)) := ((show F29 7 5 = F22 7 5 from (eF29 7 5).trans (hS29 2 5 rfl))).trans ((pf22_7_5).trans (congrArg (fun q : Nat => (q : Int)) ((show D29 11 = D22 11 from (eD29 11))).symm))
  have pf29_7_6 : HID (F29 7 6 = (D29 12 : Int)) := ((show F29 7 6 = F22 7 6 from (eF29 7 6).trans (hS29 2 6 rfl))).trans ((pf22_7_6).trans (congrArg (fun q : Nat => (q : Int)) ((show D29 12 = D22 12 from (eD29 12))).symm))
  have pf29_7_7 : HID (F29 7 7 = (D29 13 : Int)) := ((show F29 7 7 = F22 7 7 from (eF29 7 7).trans (hS29 2 7 rfl))).trans ((pf22_7_7).trans (congrArg (fun q : Nat => (q : Int)) ((show D29 13 = D22 13 from (eD29 13))).symm))
  have pf29_7_8 : HID (F29 7 8 = (D29 14 : Int)) := ((show F29 7 8 = F22 7 8 from (eF29 7 8).trans (hS29 2 8 rfl))).trans ((pf22_7_8).trans (congrArg (fun q : Nat => (q : Int)) ((show D29 14 = D22 14 from (eD29 14))).symm))
  have pf29_7_9 : HID (F29 7 9 = (D29 15 : Int)) := ((show F29 7 9 = F22 7 9 from (eF29 7 9).trans (hS29 2 9 rfl))).trans ((pf22_7_9).trans (congrArg (fun q : Nat => (q : Int)) ((show D29 15 = D22 15 from (eD29 15))).symm))
  have r30 : HID ((0 : Int) ≤ m29_6 ∧ m29_6 ≤ 1000000) := nrng (H.nle 16 (by decide)) (show (N29 16 : Int) = m29_6 from (congrArg (fun q : Nat => (q : Int)) (eN29 16)).trans em29_6)
  have r31 : HID ((-2147483648 : Int) ≤ y29_1_1 ∧ y29_1_1 ≤ 2147483647) := krg_e (show (-2147483648 : Int) ≤ F29 1 1 ∧ F29 1 1 ≤ 2147483647 from H.krg 1 1 (by decide)) (show F29 1 1 = y29_1_1 from ((eF29 1 1).trans ey29_1_1))
  have r32 : HID ((0 : Int) ≤ y29_1_2 ∧ y29_1_2 ≤ 1) := krg_e (show (0 : Int) ≤ F29 1 2 ∧ F29 1 2 ≤ 1 from H.krg 1 2 (by decide)) (show F29 1 2 = y29_1_2 from ((eF29 1 2).trans ey29_1_2))
  have r33 : HID ((-2147483648 : Int) ≤ y29_1_3 ∧ y29_1_3 ≤ 2147483647) := krg_e (show (-2147483648 : Int) ≤ F29 1 3 ∧ F29 1 3 ≤ 2147483647 from H.krg 1 3 (by decide)) (show F29 1 3 = y29_1_3 from ((eF29 1 3).trans ey29_1_3))
  have r34 : HID ((-2147483648 : Int) ≤ y29_1_4 ∧ y29_1_4 ≤ 2147483647) := krg_e (show (-2147483648 : Int) ≤ F29 1 4 ∧ F29 1 4 ≤ 2147483647 from H.krg 1 4 (by decide)) (show F29 1 4 = y29_1_4 from ((eF29 1 4).trans ey29_1_4))
  have r35 : HID ((-2147483648 : Int) ≤ y29_2_0 ∧ y29_2_0 ≤ 2147483647) := krg_e (show (-2147483648 : Int) ≤ F29 7 0 ∧ F29 7 0 ≤ 2147483647 from H.krg 7 0 (by decide)) (show F29 7 0 = y29_2_0 from ((eF29 7 0).trans ey29_2_0))
  exact w_ret rfl (k _ _ _ _ _ _ _ H O (SD_trans (SD_trans (SD_refl) (SD_glu (ι := [0, 7, 2, 3, 4, 5, 8, 9, 10, 11, 12, 13, 14, 15, 17, 18]) hD22 eD22 (by decide +kernel)) (any_subA (l' := [18]) rfl)) (SD_glu (ι := [0, 1, 7, 4, 2, 8, 16]) hD29 eD29 (by decide +kernel)) (any_subA (l' := [16]) rfl)) (SD_trans (SD_trans (SD_refl) (SD_glu (ι := [0, 7, 2, 3, 4, 5, 8, 9, 10, 11, 12, 13, 14, 15, 17, 18]) hN22 eN22 (by decide +kernel)) (any_subA (l' := [18]) rfl)) (SD_glu (ι := [0, 1, 7, 4, 2, 8, 16]) hN29 eN29 (by decide +kernel)) (any_subA (l' := [16]) rfl)) (SF_trans (SF_trans (SF_trans (SF_refl) (SF_glu (ι := [0, 2, 3, 4, 5]) hS20 eF20 (by decide +kernel)) (any_sub (l' := []) rfl)) (SF_glu (ι := [0, 7, 2, 3, 4, 5, 8, 9, 10, 11, 12, 13, 14, 15, 17, 18]) hS22 eF22 (by decide +kernel)) (any_sub (l' := [(0, 15), (7, 0), (17, 0), (17, 1), (17, 2), (17, 3), (17, 4)]) rfl)) (SF_glu (ι := [0, 1, 7, 4, 2, 8, 16]) hS29 eF29 (by decide +kernel)) (any_sub (l' := [(1, 0), (1, 1), (1, 2), (1, 3), (1, 4), (7, 0)]) rfl)) (SA_trans (SA_trans (SA_trans (SA_refl) (SA_glu (ι := [0, 2, 3, 4, 5]) hA20 eA20 (by decide +kernel)) (any_subA (l' := [2]) rfl)) (SA_glu (ι := [0, 7, 2, 3, 4, 5, 8, 9, 10, 11, 12, 13, 14, 15, 17, 18]) hA22 eA22 (by decide +kernel)) (any_subA (l' := [8, 9, 10, 11, 12, 13, 14, 15, 18]) rfl)) (SA_glu (ι := [0, 1, 7, 4, 2, 8, 16]) hA29 eA29 (by decide +kernel)) (any_subA (l' := [8, 16]) rfl)) (pf29_1_0) (pf29_17_0) (m29_6) ((congrArg (fun q : Nat => (q : Int)) (eN29 16)).trans em29_6) (m22_15) ((congrArg (fun q : Nat => (q : Int)) (show N29 18 = N22 18 from (eN29 18))).trans ((congrArg (fun q : Nat => (q : Int)) (eN22 18)).trans em22_15)) (y29_1_1) (((eF29 1 1).trans ey29_1_1)) (y29_1_4) (((eF29 1 4).trans ey29_1_4)) (y22_14_1) ((((show F29 17 1 = F22 17 1 from (eF29 17 1))).trans ((eF22 17 1).trans ey22_14_1))) (show 0 ≤ (y29_1_1) ∧ (y29_1_1) ≤ (m29_6) ∧ (m29_6) ≤ 65536 by have qh0 := HIDe r30; have qh1 := HIDe r31; omega) (show 0 ≤ (y29_1_4) ∧ (y29_1_4) ≤ 7 by have qh0 := HIDe r34; omega) (show 0 ≤ (y22_14_1) ∧ (y22_14_1) ≤ (m22_15) ∧ (m22_15) ≤ 65536 by have qh0 := HIDe r23; have qh1 := HIDe r25; omega))
abbrev V154_Row_c22 : vV := [(0, 6, [(4, 0), (4, 0), (4, 0), (4, 0), (4, 0), (4, 0), (4, 0), (4, 0), (4, 0), (4, 0), (4, 0), (4, 0), (4, 0), (4, 0), (4, 0), (0, 0), (0, 0), (4, 0), (4, 0)]), (0, 7, [(4, 0), (0, 0), (1, 0), (0, 0), (0, 0)]), (1, 1, []), (1, 7, []), (0, 5, [(4, 0), (4, 0), (4, 0), (4, 0), (0, 0), (0, 0), (0, 0), (4, 0), (4, 0), (0, 0), (0, 0), (0, 0), (0, 0), (0, 0), (0, 0), (0, 0), (0, 0), (0, 0), (0, 0)]), (1, 1, []), (1, 5, []), (0, 8, [(0, 0), (0, 0), (4, 0), (4, 0), (4, 0), (4, 0), (4, 0), (4, 0), (4, 0), (4, 0), (4, 0), (0, 0), (0, 0)]), (1, 1, []), (1, 1, []), (1, 1, []), (1, 1, []), (1, 1, []), (1, 1, []), (1, 1, []), (1, 1, []), (1, 0, []), (0, 7, [(4, 0), (0, 0), (1, 0), (0, 0), (0, 0)]), (1, 0, [])]
set_option maxHeartbeats 16000000 in
/-- Packer.packOwnShare: this, #1, this.symbolCounts, this.symbols, this.finder, this.symbols.2, this.ownTables, this.ownTables.2, this.ownTables.2.points, this.ownTables.2.masses, this.ownTables.2.mostBits, this.ownTables.2.starts, this.ownTables.2.used, this.ownTables.2.symbolAt, this.ownTables.2.numberAt, this.ownTables.2.placeOf, #1.bytes, this.told, this.told.bytes -/
theorem C154_Row_c22 {σE : rS} {D N : Nat → Nat} {F : hF} {A : hA} {d c s : Nat} {Q : wQ} (H : HW V154_Row_c22 σE D N F A) (HT : STC σE)  (pf2 : F 0 12 = (D 2 : Int)) (pf3 : F 0 13 = (D 3 : Int)) (pf4 : F 0 1 = (D 4 : Int)) (pf5 : A 3 2 = (D 5 : Int)) (pf6 : F 0 4 = (D 6 : Int)) (pf7 : A 6 2 = (D 7 : Int)) (pf8 : F 7 2 = (D 8 : Int)) (pf9 : F 7 3 = (D 9 : Int)) (pf10 : F 7 4 = (D 10 : Int)) (pf11 : F 7 5 = (D 11 : Int)) (pf12 : F 7 6 = (D 12 : Int)) (pf13 : F 7 7 = (D 13 : Int)) (pf14 : F 7 8 = (D 14 : Int)) (pf15 : F 7 9 = (D 15 : Int)) (pf16 : F 1 0 = (D 16 : Int)) (pf17 : F 0 10 = (D 17 : Int)) (pf18 : F 17 0 = (D 18 : Int)) (n2 : Int) (en2 : (N 2 : Int) = n2) (n3 : Int) (en3 : (N 3 : Int) = n3) (n5 : Int) (en5 : (N 5 : Int) = n5) (n6 : Int) (en6 : (N 6 : Int) = n6) (n8 : Int) (en8 : (N 8 : Int) = n8) (n9 : Int) (en9 : (N 9 : Int) = n9) (n10 : Int) (en10 : (N 10 : Int) = n10) (n11 : Int) (en11 : (N 11 : Int) = n11) (n12 : Int) (en12 : (N 12 : Int) = n12) (n13 : Int) (en13 : (N 13 : Int) = n13) (n14 : Int) (en14 : (N 14 : Int) = n14) (n15 : Int) (en15 : (N 15 : Int) = n15) (n16 : Int) (en16 : (N 16 : Int) = n16) (n18 : Int) (en18 : (N 18 : Int) = n18) (u1_1 : Int) (eu1_1 : F 1 1 = u1_1) (u1_4 : Int) (eu1_4 : F 1 4 = u1_4) (u4_4 : Int) (eu4_4 : F 4 4 = u4_4) (u7_1 : Int) (eu7_1 : F 7 1 = u7_1) (u17_1 : Int) (eu17_1 : F 17 1 = u17_1) (w5 : Int → Int) (ew5 : A 5 = w5) (h0 : inr (2)) (h1 : (n2) = 53 ∧ (n3) = 3) (h2 : 1 ≤ (u4_4) ∧ (u4_4) ≤ (n5) ∧ (n5) ≤ 65536) (h3 : RNG ((w5)) ((u4_4)) 53) (h4 : SHZD ((n8)) ((n9)) ((n10)) ((n11)) ((n12)) ((n13)) ((n14)) ((n15)) ((u7_1)) 53 512) (h5 : 0 ≤ (u1_1) ∧ (u1_1) ≤ (n16) ∧ (n16) ≤ 65536) (h6 : 0 ≤ (u1_4) ∧ (u1_4) ≤ 7) (h7 : 0 ≤ (u17_1) ∧ (u17_1) ≤ (n18) ∧ (n18) ≤ 65536) (h8 : (n6) = 3) (k : ∀ (σ : rS) (D' N' : Nat → Nat) (F' : hF) (A' : hA) (c' s' : Nat), HW V154_Row_c22 σ D' N' F' A' → OUT (V154_Row_c22).length D N σE c s D' N' σ c' s' → SD [16, 18] D D' → SD [16, 18] N N' → SF [(0, 15), (1, 0), (1, 1), (1, 2), (1, 3), (1, 4), (7, 0), (17, 0), (17, 1), (17, 2), (17, 3), (17, 4)] F F' → SA [2, 8, 9, 10, 11, 12, 13, 14, 15, 16, 18] A A' → F' 1 0 = (D' 16 : Int) → F' 17 0 = (D' 18 : Int) → ∀ m16 : Int, (N' 16 : Int) = m16 → ∀ m18 : Int, (N' 18 : Int) = m18 → ∀ y1_1 : Int, F' 1 1 = y1_1 → ∀ y1_4 : Int, F' 1 4 = y1_4 → ∀ y17_1 : Int, F' 17 1 = y17_1 → (0 ≤ (y1_1) ∧ (y1_1) ≤ (m16) ∧ (m16) ≤ 65536) → (0 ≤ (y1_4) ∧ (y1_4) ≤ 7) → (0 ≤ (y17_1) ∧ (y17_1) ≤ (m18) ∧ (m18) ≤ 65536) → Q none σ c' s') : Ew 154 (d + 4) 0 (rargs 0 [.ref (D 0), .ref (D 1), I 2]) [] σE c s Q := by
  have O := OUT_refl (n := (V154_Row_c22).length) (D := D) (N := N) (σ := σE) (c := c) (s := s)
  have HE := H
  have r1 : HID ((-2147483648 : Int) ≤ u1_1 ∧ u1_1 ≤ 2147483647) := krg_e (show (-2147483648 : Int) ≤ F 1 1 ∧ F 1 1 ≤ 2147483647 from H.krg 1 1 (by decide)) (show F 1 1 = u1_1 from (eu1_1))
  have r2 : HID ((-2147483648 : Int) ≤ u1_4 ∧ u1_4 ≤ 2147483647) := krg_e (show (-2147483648 : Int) ≤ F 1 4 ∧ F 1 4 ≤ 2147483647 from H.krg 1 4 (by decide)) (show F 1 4 = u1_4 from (eu1_4))
  have r3 : HID ((-2147483648 : Int) ≤ u4_4 ∧ u4_4 ≤ 2147483647) := krg_e (show (-2147483648 : Int) ≤ F 4 4 ∧ F 4 4 ≤ 2147483647 from H.krg 4 4 (by decide)) (show F 4 4 = u4_4 from (eu4_4))
  have r4 : HID ((-2147483648 : Int) ≤ u7_1 ∧ u7_1 ≤ 2147483647) := krg_e (show (-2147483648 : Int) ≤ F 7 1 ∧ F 7 1 ≤ 2147483647 from H.krg 7 1 (by decide)) (show F 7 1 = u7_1 from (eu7_1))
  have r5 : HID ((-2147483648 : Int) ≤ u17_1 ∧ u17_1 ≤ 2147483647) := krg_e (show (-2147483648 : Int) ≤ F 17 1 ∧ F 17 1 ≤ 2147483647 from H.krg 17 1 (by decide)) (show F 17 1 = u17_1 from (eu17_1))
  replace pf2 := HIDm pf2
  replace pf3 := HIDm pf3
  replace pf4 := HIDm pf4
  replace pf5 := HIDm pf5
  replace pf6 := HIDm pf6
  replace pf7 := HIDm pf7
  replace pf8 := HIDm pf8
  replace pf9 := HIDm pf9
  replace pf10 := HIDm pf10
  replace pf11 := HIDm pf11
  replace pf12 := HIDm pf12
  replace pf13 := HIDm pf13
  replace pf14 := HIDm pf14
  replace pf15 := HIDm pf15
  replace pf16 := HIDm pf16
  replace pf17 := HIDm pf17
  replace pf18 := HIDm pf18
  replace en2 := HIDm en2
  replace en3 := HIDm en3
  replace en5 := HIDm en5
  replace en6 := HIDm en6
  replace en8 := HIDm en8
  replace en9 := HIDm en9
  replace en10 := HIDm en10
  replace en11 := HIDm en11
  replace en12 := HIDm en12
  replace en13 := HIDm en13
  replace en14 := HIDm en14
  replace en15 := HIDm en15
  replace en16 := HIDm en16
  replace en18 := HIDm en18
  replace eu1_1 := HIDm eu1_1
  replace eu1_4 := HIDm eu1_4
  replace eu4_4 := HIDm eu4_4
  replace eu7_1 := HIDm eu7_1
  replace eu17_1 := HIDm eu17_1
  have r6 : HID ((0 : Int) ≤ n2 ∧ n2 ≤ 1000000) := nrng (H.nle 2 (by decide)) (show (N 2 : Int) = n2 from en2)
  have r7 : HID ((0 : Int) ≤ n3 ∧ n3 ≤ 1000000) := nrng (H.nle 3 (by decide)) (show (N 3 : Int) = n3 from en3)
  have r8 : HID ((0 : Int) ≤ n5 ∧ n5 ≤ 1000000) := nrng (H.nle 5 (by decide)) (show (N 5 : Int) = n5 from en5)
  have r9 : HID ((0 : Int) ≤ n6 ∧ n6 ≤ 1000000) := nrng (H.nle 6 (by decide)) (show (N 6 : Int) = n6 from en6)
  have r10 : HID ((0 : Int) ≤ n8 ∧ n8 ≤ 1000000) := nrng (H.nle 8 (by decide)) (show (N 8 : Int) = n8 from en8)
  have r11 : HID ((0 : Int) ≤ n9 ∧ n9 ≤ 1000000) := nrng (H.nle 9 (by decide)) (show (N 9 : Int) = n9 from en9)
  have r12 : HID ((0 : Int) ≤ n10 ∧ n10 ≤ 1000000) := nrng (H.nle 10 (by decide)) (show (N 10 : Int) = n10 from en10)
  have r13 : HID ((0 : Int) ≤ n11 ∧ n11 ≤ 1000000) := nrng (H.nle 11 (by decide)) (show (N 11 : Int) = n11 from en11)
  have r14 : HID ((0 : Int) ≤ n12 ∧ n12 ≤ 1000000) := nrng (H.nle 12 (by decide)) (show (N 12 : Int) = n12 from en12)
  have r15 : HID ((0 : Int) ≤ n13 ∧ n13 ≤ 1000000) := nrng (H.nle 13 (by decide)) (show (N 13 : Int) = n13 from en13)
  have r16 : HID ((0 : Int) ≤ n14 ∧ n14 ≤ 1000000) := nrng (H.nle 14 (by decide)) (show (N 14 : Int) = n14 from en14)
  have r17 : HID ((0 : Int) ≤ n15 ∧ n15 ≤ 1000000) := nrng (H.nle 15 (by decide)) (show (N 15 : Int) = n15 from en15)
  have r18 : HID ((0 : Int) ≤ n16 ∧ n16 ≤ 1000000) := nrng (H.nle 16 (by decide)) (show (N 16 : Int) = n16 from en16)
  have r19 : HID ((0 : Int) ≤ n18 ∧ n18 ≤ 1000000) := nrng (H.nle 18 (by decide)) (show (N 18 : Int) = n18 from en18)
  have hrg : RNG ((w5)) ((u4_4)) 53 := by assumption
  have hszq : SHZD ((n8)) ((n9)) ((n10)) ((n11)) ((n12)) ((n13)) ((n14)) ((n15)) ((u7_1)) 53 512 := by assumption
  unfold SHZD at hszq
  have hsF : (u7_1) = 53 ∧ (n8) = (u7_1) := by (have qg0 := HIDe r10; have qg1 := HIDe r4; omega)
  clear hszq
  refine Ew_of (pc' := 1) (fun _ => x_aload_n rfl rfl) ?_
  refine Ew_of (pc' := 2) (fun _ => x_iload_n rfl rfl) ?_
  refine v_inv H (o := 0) rfl rfl rfl rfl rfl rfl (by rfl) (C146_c12 (D := pul [0, 2, 3, 4, 5] D) (N := pul [0, 2, 3, 4, 5] N) (HW_sub H (VS_of (show vsub V154_Row_c22 V146_c12 [0, 2, 3, 4, 5] = true by decide +kernel))) (pf2) (pf3) (pf4) (pf5) (n2) (en2) (n3) (en3) (n5) (en5) (u4_4) ((eu4_4)) (A 2) (rfl) (w5) (ew5) (show inr (2) by omega) (show (n2) = 53 ∧ (n3) = 3 by have qh0 := HIDe r6; have qh1 := HIDe r7; omega) (show 0 ≤ (u4_4) ∧ (u4_4) ≤ (n5) ∧ (n5) ≤ 65536 by have qh0 := HIDe r3; have qh1 := HIDe r8; omega) (show RNG ((w5)) ((u4_4)) 53 by assumption) (fun z20 σ20 F20' A20' H' O' hS20 hA20 w20_1 ew20_1 pz20_0 pz20_1 pz20_2 pz20_3 => ⟨rfl, ?_⟩))
  refine v_back (c := c) (s := s) H (show vsub V154_Row_c22 V146_c12 [0, 2, 3, 4, 5] = true by decide +kernel) H' O' (fun F20 A20 H O' eF20 eA20 => ?_)
  have O := OUT_trans O O'
  -- Packer.countSymbols
  have hct : CTN ((w5)) ((w20_1)) ((u4_4)) 53 := pz20_1
  have hps : ((z20) : Int) = su (fun i => pos1 (((w20_1)) i)) 53 := pz20_2
  have hpr := pz20_3
  refine Ew_of (pc' := 6) (fun _ => x_istore_n rfl) ?_
  refine Ew_of (pc' := 7) (fun _ => x_aload_n rfl (rk_o (rfl) rfl rfl)) ?_
  refine Ew_of (pc' := 8) (fun _ => x_aload_n rfl (rk_o (rfl) rfl rfl)) ?_
  refine Ew_of (pc' := 9) (fun _ => x_aload_n rfl (rk_o (rfl) rfl rfl)) ?_
  refine v_g H (o := 0) (v := .ref (D 6)) rfl rfl rfl rfl rfl (vrf ((((show F20 0 4 = F 0 4 from (eF20 0 4).trans (hS20 0 4 rfl)))).trans (pf6))) ?_
  refine Ew_of (pc' := 13) (fun _ => x_iload_n rfl (rk_o (rfl) rfl rfl)) ?_
  refine v_lR H (o := 6) rfl rfl rfl rfl rfl (n := n6) (en6) (show 0 ≤ 2 ∧ 2 < n6 by have qh0 := HIDe r9; omega) (z := ((D 7 : Nat) : Int)) (v := .ref (D 7)) ((congrFun (((show A20 6 = A 6 from (eA20 6)))) 2).trans (pf7)) (vrf rfl) ?_
  refine Ew_of (pc' := 15) (fun _ => x_aload_n rfl (rk_o (rfl) rfl rfl)) ?_
  refine Ew_of (pc' := 16) (fun _ => x_aload_n rfl (rk_o (rfl) rfl rfl)) ?_
  refine v_g H (o := 0) (v := .ref (D 6)) rfl rfl rfl rfl rfl (vrf ((((show F20 0 4 = F 0 4 from (eF20 0 4).trans (hS20 0 4 rfl)))).trans (pf6))) ?_
  refine Ew_of (pc' := 20) (fun _ => x_iload_n rfl (rk_o (rfl) rfl rfl)) ?_
  refine v_lR H (o := 6) rfl rfl rfl rfl rfl (n := n6) (en6) (show 0 ≤ 2 ∧ 2 < n6 by have qh0 := HIDe r9; omega) (z := ((D 7 : Nat) : Int)) (v := .ref (D 7)) ((congrFun (((show A20 6 = A 6 from (eA20 6)))) 2).trans (pf7)) (vrf rfl) ?_
  refine Ew_of (pc' := 22) (fun _ => x_iload_n rfl (rk_o (rfl) rfl rfl)) ?_
  refine Ew_of (pc' := 23) (fun _ => x_iload_n rfl rk_s) ?_
  refine Ew_of (pc' := 26) (fun _ => x_ldc_w (z := 2147483647) rfl (by decide)) ?_
  have r21 : HID ((-2147483648 : Int) ≤ F 0 15 ∧ F 0 15 ≤ 2147483647) := krg_e (show (-2147483648 : Int) ≤ F20 0 15 ∧ F20 0 15 ≤ 2147483647 from H.krg 0 15 (by decide)) (show F20 0 15 = F 0 15 from ((show F20 0 15 = F 0 15 from (eF20 0 15).trans (hS20 0 15 rfl))))
  refine v_inv H (o := 0) rfl rfl rfl rfl rfl rfl (by rfl) (C149_Share_c22 (D := pul [0, 7, 2, 3, 4, 5, 8, 9, 10, 11, 12, 13, 14, 15, 17, 18] D) (N := pul [0, 7, 2, 3, 4, 5, 8, 9, 10, 11, 12, 13, 14, 15, 17, 18] N) (HW_sub H (VS_of (show vsub V154_Row_c22 V149_Share_c22 [0, 7, 2, 3, 4, 5, 8, 9, 10, 11, 12, 13, 14, 15, 17, 18] = true by decide +kernel))) (STC_out HT HE O) ((((show F20 0 12 = F 0 12 from (eF20 0 12).trans (hS20 0 12 rfl)))).trans (pf2)) ((((show F20 0 13 = F 0 13 from (eF20 0 13).trans (hS20 0 13 rfl)))).trans (pf3)) ((((show F20 0 1 = F 0 1 from (eF20 0 1).trans (hS20 0 1 rfl)))).trans (pf4)) ((congrFun (((show A20 3 = A 3 from (eA20 3).trans (funext (hA20 2 rfl))))) 2).trans (pf5)) ((((show F20 7 2 = F 7 2 from (eF20 7 2)))).trans (pf8)) ((((show F20 7 3 = F 7 3 from (eF20 7 3)))).trans (pf9)) ((((show F20 7 4 = F 7 4 from (eF20 7 4)))).trans (pf10)) ((((show F20 7 5 = F 7 5 from (eF20 7 5)))).trans (pf11)) ((((show F20 7 6 = F 7 6 from (eF20 7 6)))).trans (pf12)) ((((show F20 7 7 = F 7 7 from (eF20 7 7)))).trans (pf13)) ((((show F20 7 8 = F 7 8 from (eF20 7 8)))).trans (pf14)) ((((show F20 7 9 = F 7 9 from (eF20 7 9)))).trans (pf15)) ((((show F20 0 10 = F 0 10 from (eF20 0 10).trans (hS20 0 10 rfl)))).trans (pf17)) ((((show F20 17 0 = F 17 0 from (eF20 17 0)))).trans (pf18)) (n2) (en2) (n3) (en3) (n5) (en5) (n8) (en8) (n9) (en9) (n10) (en10) (n11) (en11) (n12) (en12) (n13) (en13) (n14) (en14) (n15) (en15) (n18) (en18) (F 0 15) (((show F20 0 15 = F 0 15 from (eF20 0 15).trans (hS20 0 15 rfl)))) (u7_1) ((((show F20 7 1 = F 7 1 from (eF20 7 1))).trans (eu7_1))) (u4_4) ((((show F20 4 4 = F 4 4 from (eF20 4 4).trans (hS20 3 4 rfl))).trans (eu4_4))) (u17_1) ((((show F20 17 1 = F 17 1 from (eF20 17 1))).trans (eu17_1))) (w20_1) ((eA20 2).trans ew20_1) (w5) (((show A20 5 = A 5 from (eA20 5).trans (funext (hA20 4 rfl)))).trans (ew5)) (show inr (2) by omega) (show inr (z20) by omega) (show inr (2147483647) by omega) (show (n2) = 53 ∧ (n3) = 3 by have qh0 := HIDe r6; have qh1 := HIDe r7; omega) (show 1 ≤ (u4_4) ∧ (u4_4) ≤ (n5) ∧ (n5) ≤ 65536 by have qh0 := HIDe r3; have qh1 := HIDe r8; omega) (show RNG ((w5)) ((u4_4)) 53 by assumption) (show CTN ((w5)) ((w20_1)) ((u4_4)) 53 by assumption) (show (z20) = su (fun i => pos1 (((w20_1)) i)) 53 by assumption) (show 0 ≤ (z20) ∧ (z20) ≤ 53 by omega) (show SHZD ((n8)) ((n9)) ((n10)) ((n11)) ((n12)) ((n13)) ((n14)) ((n15)) ((u7_1)) 53 512 by assumption) (show 0 ≤ (u17_1) ∧ (u17_1) ≤ (n18) ∧ (n18) ≤ 65536 by have qh0 := HIDe r19; have qh1 := HIDe r5; omega) (fun z22 σ22 D22' N22' F22' A22' c22 s22 H' O' hD22 hN22 hS22 hA22 pm22_15 m22_15 em22_15 y22_0_15 ey22_0_15 y22_14_1 ey22_14_1 pz22_0 pz22_1 pz22_2 pz22_3 pz22_4 => ⟨rfl, ?_⟩))
  replace pm22_15 := HIDm pm22_15
  replace em22_15 := HIDm em22_15
  replace ey22_0_15 := HIDm ey22_0_15
  replace ey22_14_1 := HIDm ey22_14_1
  refine v_backM (c := c) (s := s) H (show vsub V154_Row_c22 V149_Share_c22 [0, 7, 2, 3, 4, 5, 8, 9, 10, 11, 12, 13, 14, 15, 17, 18] = true by decide +kernel) H' O' hD22 (show vmov V154_Row_c22 [0, 7, 2, 3, 4, 5, 8, 9, 10, 11, 12, 13, 14, 15, 17, 18] [15] = true by decide +kernel) (fun D22 N22 F22 A22 H O' eD22 eN22 eF22 eA22 => ?_)
  have O := OUT_trans O O'
  -- Packer.bestOrder
  have pe22_3_2 : HID (A22 3 2 = (D22 5 : Int)) := (congrFun ((show A22 3 = A20 3 from (eA22 3).trans (funext (hA22 3 rfl)))) 2).trans (((congrFun (((show A20 3 = A 3 from (eA20 3).trans (funext (hA20 2 rfl))))) 2).trans (pf5)).trans (congrArg (fun q : Nat => (q : Int)) ((show D22 5 = D 5 from (eD22 5).trans (hD22 5 rfl))).symm))
  have pe22_6_2 : HID (A22 6 2 = (D22 7 : Int)) := (congrFun ((show A22 6 = A20 6 from (eA22 6))) 2).trans (((congrFun (((show A20 6 = A 6 from (eA20 6)))) 2).trans (pf7)).trans (congrArg (fun q : Nat => (q : Int)) ((show D22 7 = D 7 from (eD22 7).trans (hD22 1 rfl))).symm))
  have pf22_0_1 : HID (F22 0 1 = (D22 4 : Int)) := ((show F22 0 1 = F20 0 1 from (eF22 0 1).trans (hS22 0 1 rfl))).trans (((((show F20 0 1 = F 0 1 from (eF20 0 1).trans (hS20 0 1 rfl)))).trans (pf4)).trans (congrArg (fun q : Nat => (q : Int)) ((show D22 4 = D 4 from (eD22 4).trans (hD22 4 rfl))).symm))
  have pf22_0_10 : HID (F22 0 10 = (D22 17 : Int)) := ((show F22 0 10 = F20 0 10 from (eF22 0 10).trans (hS22 0 10 rfl))).trans (((((show F20 0 10 = F 0 10 from (eF20 0 10).trans (hS20 0 10 rfl)))).trans (pf17)).trans (congrArg (fun q : Nat => (q : Int)) ((show D22 17 = D 17 from (eD22 17).trans (hD22 14 rfl))).symm))
  have pf22_0_12 : HID (F22 0 12 = (D22 2 : Int)) := ((show F22 0 12 = F20 0 12 from (eF22 0 12).trans (hS22 0 12 rfl))).trans (((((show F20 0 12 = F 0 12 from (eF20 0 12).trans (hS20 0 12 rfl)))).trans (pf2)).trans (congrArg (fun q : Nat => (q : Int)) ((show D22 2 = D 2 from (eD22 2).trans (hD22 2 rfl))).symm))
  have pf22_0_13 : HID (F22 0 13 = (D22 3 : Int)) := ((show F22 0 13 = F20 0 13 from (eF22 0 13).trans (hS22 0 13 rfl))).trans (((((show F20 0 13 = F 0 13 from (eF20 0 13).trans (hS20 0 13 rfl)))).trans (pf3)).trans (congrArg (fun q : Nat => (q : Int)) ((show D22 3 = D 3 from (eD22 3).trans (hD22 3 rfl))).symm))
  have pf22_0_4 : HID (F22 0 4 = (D22 6 : Int)) := ((show F22 0 4 = F20 0 4 from (eF22 0 4).trans (hS22 0 4 rfl))).trans (((((show F20 0 4 = F 0 4 from (eF20 0 4).trans (hS20 0 4 rfl)))).trans (pf6)).trans (congrArg (fun q : Nat => (q : Int)) ((show D22 6 = D 6 from (eD22 6))).symm))
  have pf22_1_0 : HID (F22 1 0 = (D22 16 : Int)) := ((show F22 1 0 = F20 1 0 from (eF22 1 0))).trans (((((show F20 1 0 = F 1 0 from (eF20 1 0)))).trans (pf16)).trans (congrArg (fun q : Nat => (q : Int)) ((show D22 16 = D 16 from (eD22 16))).symm))
  have pf22_17_0 : HID (F22 17 0 = (D22 18 : Int)) := (eF22 17 0).trans (pm22_15.trans (congrArg (fun q : Nat => (q : Int)) (eD22 18).symm))
  have pf22_7_2 : HID (F22 7 2 = (D22 8 : Int)) := ((show F22 7 2 = F20 7 2 from (eF22 7 2).trans (hS22 1 2 rfl))).trans (((((show F20 7 2 = F 7 2 from (eF20 7 2)))).trans (pf8)).trans (congrArg (fun q : Nat => (q : Int)) ((show D22 8 = D 8 from (eD22 8).trans (hD22 6 rfl))).symm))
  have pf22_7_3 : HID (F22 7 3 = (D22 9 : Int)) := ((show F22 7 3 = F20 7 3 from (eF22 7 3).trans (hS22 1 3 rfl))).trans (((((show F20 7 3 = F 7 3 from (eF20 7 3)))).trans (pf9)).trans (congrArg (fun q : Nat => (q : Int)) ((show D22 9 = D 9 from (eD22 9).trans (hD22 7 rfl))).symm))
  have pf22_7_4 : HID (F22 7 4 = (D22 10 : Int)) := ((show F22 7 4 = F20 7 4 from (eF22 7 4).trans (hS22 1 4 rfl))).trans (((((show F20 7 4 = F 7 4 from (eF20 7 4)))).trans (pf10)).trans (congrArg (fun q : Nat => (q : Int)) ((show D22 10 = D 10 from (eD22 10).trans (hD22 8 rfl))).symm))
  have pf22_7_5 : HID (F22 7 5 = (D22 11 : Int)) := ((show F22 7 5 = F20 7 5 from (eF22 7 5).trans (hS22 1 5 rfl))).trans (((((show F20 7 5 = F 7 5 from (eF20 7 5)))).trans (pf11)).trans (congrArg (fun q : Nat => (q : Int)) ((show D22 11 = D 11 from (eD22 11).trans (hD22 9 rfl))).symm))
  have pf22_7_6 : HID (F22 7 6 = (D22 12 : Int)) := ((show F22 7 6 = F20 7 6 from (eF22 7 6).trans (hS22 1 6 rfl))).trans (((((show F20 7 6 = F 7 6 from (eF20 7 6)))).trans (pf12)).trans (congrArg (fun q : Nat => (q : Int)) ((show D22 12 = D 12 from (eD22 12).trans (hD22 10 rfl))).symm))
  have pf22_7_7 : HID (F22 7 7 = (D22 13 : Int)) := ((show F22 7 7 = F20 7 7 from (eF22 7 7).trans (hS22 1 7 rfl))).trans (((((show F20 7 7 = F 7 7 from (eF20 7 7)))).trans (pf13)).trans (congrArg (fun q : Nat => (q : Int)) ((show D22 13 = D 13 from (eD22 13).trans (hD22 11 rfl))).symm))
  have pf22_7_8 : HID (F22 7 8 = (D22 14 : Int)) := ((show F22 7 8 = F20 7 8 from (eF22 7 8).trans (hS22 1 8 rfl))).trans (((((show F20 7 8 = F 7 8 from (eF20 7 8)))).trans (pf14)).trans (congrArg (fun q : Nat => (q : Int)) ((show D22 14 = D 14 from (eD22 14).trans (hD22 12 rfl))).symm))
  have pf22_7_9 : HID (F22 7 9 = (D22 15 : Int)) := ((show F22 7 9 = F20 7 9 from (eF22 7 9).trans (hS22 1 9 rfl))).trans (((((show F20 7 9 = F 7 9 from (eF20 7 9)))).trans (pf15)).trans (congrArg (fun q : Nat => (q : Int)) ((show D22 15 = D 15 from (eD22 15).trans (hD22 13 rfl))).symm))
  have r23 : HID ((0 : Int) ≤ m22_15 ∧ m22_15 ≤ 1000000) := nrng (H.nle 18 (by decide)) (show (N22 18 : Int) = m22_15 from (congrArg (fun q : Nat => (q : Int)) (eN22 18)).trans em22_15)
  have r24 : HID ((-2147483648 : Int) ≤ y22_0_15 ∧ y22_0_15 ≤ 2147483647) := krg_e (show (-2147483648 : Int) ≤ F22 0 15 ∧ F22 0 15 ≤ 2147483647 from H.krg 0 15 (by decide)) (show F22 0 15 = y22_0_15 from ((eF22 0 15).trans ey22_0_15))
  have r25 : HID ((-2147483648 : Int) ≤ y22_14_1 ∧ y22_14_1 ≤ 2147483647) := krg_e (show (-2147483648 : Int) ≤ F22 17 1 ∧ F22 17 1 ≤ 2147483647 from H.krg 17 1 (by decide)) (show F22 17 1 = y22_14_1 from ((eF22 17 1).trans ey22_14_1))
  have hcn : CNT ((w20_1)) ((u7_1)) ((u4_4)) ((z22)) := CTN_CNT hct (by (have qg0 := HIDe r3; have qg1 := HIDe r4; omega)) (by rw [hsF.1]; exact hrg) (by (have qg0 := HIDe r3; have qg1 := HIDe r4; omega)) (by (have qg0 := HIDe r3; have qg1 := HIDe r4; omega)) (by (have qg0 := HIDe r3; have qg1 := HIDe r4; omega)) hps (by (have qg0 := HIDe r3; have qg1 := HIDe r4; omega))
  try clear pz22_1
  try clear pz22_2
  refine Ew_stk (show ([I (z22), .ref (D 7), .ref (D 1), .ref (D 0)] : List Value) = [I (z22), .ref (D22 7), .ref (D22 1), .ref (D22 0)] by rw [show D22 0 = D 0 from ((show D22 0 = D 0 from (eD22 0).trans (hD22 0 rfl))), show D22 1 = D 1 from ((show D22 1 = D 1 from (eD22 1))), show D22 7 = D 7 from ((show D22 7 = D 7 from (eD22 7).trans (hD22 1 rfl)))]) ?_
  have r26 : HID ((0 : Int) ≤ F 1 2 ∧ F 1 2 ≤ 1) := krg_e (show (0 : Int) ≤ F22 1 2 ∧ F22 1 2 ≤ 1 from H.krg 1 2 (by decide)) (show F22 1 2 = F 1 2 from (((show F22 1 2 = F20 1 2 from (eF22 1 2))).trans ((show F20 1 2 = F 1 2 from (eF20 1 2)))))
  have r27 : HID ((-2147483648 : Int) ≤ F 1 3 ∧ F 1 3 ≤ 2147483647) := krg_e (show (-2147483648 : Int) ≤ F22 1 3 ∧ F22 1 3 ≤ 2147483647 from H.krg 1 3 (by decide)) (show F22 1 3 = F 1 3 from (((show F22 1 3 = F20 1 3 from (eF22 1 3))).trans ((show F20 1 3 = F 1 3 from (eF20 1 3)))))
  have r28 : HID ((-2147483648 : Int) ≤ F22 7 0 ∧ F22 7 0 ≤ 2147483647) := krg_e (show (-2147483648 : Int) ≤ F22 7 0 ∧ F22 7 0 ≤ 2147483647 from H.krg 7 0 (by decide)) (show F22 7 0 = F22 7 0 from rfl)
  refine v_inv H (o := 0) rfl rfl rfl rfl rfl rfl (by rfl) (C148_Row_Share (D := pul [0, 1, 7, 4, 2, 8, 16] D22) (N := pul [0, 1, 7, 4, 2, 8, 16] N22) (HW_sub H (VS_of (show vsub V154_Row_c22 V148_Row_Share [0, 1, 7, 4, 2, 8, 16] = true by decide +kernel))) (pf22_0_1) (pf22_0_12) (pf22_7_2) (pf22_1_0) (n2) ((congrArg (fun q : Nat => (q : Int)) (show N22 2 = N 2 from (eN22 2).trans (hN22 2 rfl))).trans (en2)) (n8) ((congrArg (fun q : Nat => (q : Int)) (show N22 8 = N 8 from (eN22 8).trans (hN22 6 rfl))).trans (en8)) (n16) ((congrArg (fun q : Nat => (q : Int)) (show N22 16 = N 16 from (eN22 16))).trans (en16)) (u1_1) (((((show F22 1 1 = F20 1 1 from (eF22 1 1))).trans ((show F20 1 1 = F 1 1 from (eF20 1 1)))).trans (eu1_1))) (F 1 2) ((((show F22 1 2 = F20 1 2 from (eF22 1 2))).trans ((show F20 1 2 = F 1 2 from (eF20 1 2))))) (F 1 3) ((((show F22 1 3 = F20 1 3 from (eF22 1 3))).trans ((show F20 1 3 = F 1 3 from (eF20 1 3))))) (u1_4) (((((show F22 1 4 = F20 1 4 from (eF22 1 4))).trans ((show F20 1 4 = F 1 4 from (eF20 1 4)))).trans (eu1_4))) (F22 7 0) (rfl) (u7_1) (((((show F22 7 1 = F20 7 1 from (eF22 7 1).trans (hS22 1 1 rfl))).trans ((show F20 7 1 = F 7 1 from (eF20 7 1)))).trans (eu7_1))) (u4_4) (((((show F22 4 4 = F20 4 4 from (eF22 4 4).trans (hS22 4 4 rfl))).trans ((show F20 4 4 = F 4 4 from (eF20 4 4).trans (hS20 3 4 rfl)))).trans (eu4_4))) (w20_1) (((show A22 2 = A20 2 from (eA22 2).trans (funext (hA22 2 rfl)))).trans ((eA20 2).trans ew20_1)) (A22 8) (rfl) (A 16) (((show A22 16 = A20 16 from (eA22 16))).trans ((show A20 16 = A 16 from (eA20 16)))) (show inr (z22) by omega) (show CNT ((w20_1)) ((u7_1)) ((u4_4)) (z22) by assumption) (show (u7_1) ≤ (n2) ∧ (n8) = (u7_1) by have qh0 := HIDe r10; have qh1 := HIDe r4; have qh2 := HIDe r6; omega) (show 0 ≤ (u1_1) ∧ (u1_1) ≤ (n16) ∧ (n16) ≤ 65536 by have qh0 := HIDe r1; have qh1 := HIDe r18; omega) (show 0 ≤ (u1_4) ∧ (u1_4) ≤ 7 by have qh0 := HIDe r2; omega) (fun σ29 D29' N29' F29' A29' c29 s29 H' O' hD29 hN29 hS29 hA29 pm29_6 m29_6 em29_6 y29_1_1 ey29_1_1 y29_1_2 ey29_1_2 y29_1_3 ey29_1_3 y29_1_4 ey29_1_4 y29_2_0 ey29_2_0 w29_5 ew29_5 w29_6 ew29_6 pz29_0 pz29_1 pz29_2 pz29_3 pz29_4 pz29_5 pz29_6 pz29_7 pz29_8 => ⟨rfl, ?_⟩))
  replace pm29_6 := HIDm pm29_6
  replace em29_6 := HIDm em29_6
  replace ey29_1_1 := HIDm ey29_1_1
  replace ey29_1_2 := HIDm ey29_1_2
  replace ey29_1_3 := HIDm ey29_1_3
  replace ey29_1_4 := HIDm ey29_1_4
  replace ey29_2_0 := HIDm ey29_2_0
  refine v_backM (c := (c + c22)) (s := (s + s22)) H (show vsub V154_Row_c22 V148_Row_Share [0, 1, 7, 4, 2, 8, 16] = true by decide +kernel) H' O' hD29 (show vmov V154_Row_c22 [0, 1, 7, 4, 2, 8, 16] [6] = true by decide +kernel) (fun D29 N29 F29 A29 H O' eD29 eN29 eF29 eA29 => ?_)
  have O := OUT_trans O O'
  -- Packer.packShare
  have pe29_3_2 : HID (A29 3 2 = (D29 5 : Int)) := (congrFun ((show A29 3 = A22 3 from (eA29 3))) 2).trans ((pe22_3_2).trans (congrArg (fun q : Nat => (q : Int)) ((show D29 5 = D22 5 from (eD29 5))).symm))
  have pe29_6_2 : HID (A29 6 2 = (D29 7 : Int)) := (congrFun ((show A29 6 = A22 6 from (eA29 6))) 2).trans ((pe22_6_2).trans (congrArg (fun q : Nat => (q : Int)) ((show D29 7 = D22 7 from (eD29 7).trans (hD29 2 rfl))).symm))
  have pf29_0_1 : HID (F29 0 1 = (D29 4 : Int)) := ((show F29 0 1 = F22 0 1 from (eF29 0 1).trans (hS29 0 1 rfl))).trans ((pf22_0_1).trans (congrArg (fun q : Nat => (q : Int)) ((show D29 4 = D22 4 from (eD29 4).trans (hD29 3 rfl))).symm))
  have pf29_0_10 : HID (F29 0 10 = (D29 17 : Int)) := ((show F29 0 10 = F22 0 10 from (eF29 0 10).trans (hS29 0 10 rfl))).trans ((pf22_0_10).trans (congrArg (fun q : Nat => (q : Int)) ((show D29 17 = D22 17 from (eD29 17))).symm))
  have pf29_0_12 : HID (F29 0 12 = (D29 2 : Int)) := ((show F29 0 12 = F22 0 12 from (eF29 0 12).trans (hS29 0 12 rfl))).trans ((pf22_0_12).trans (congrArg (fun q : Nat => (q : Int)) ((show D29 2 = D22 2 from (eD29 2).trans (hD29 4 rfl))).symm))
  have pf29_0_13 : HID (F29 0 13 = (D29 3 : Int)) := ((show F29 0 13 = F22 0 13 from (eF29 0 13).trans (hS29 0 13 rfl))).trans ((pf22_0_13).trans (congrArg (fun q : Nat => (q : Int)) ((show D29 3 = D22 3 from (eD29 3))).symm))
  have pf29_0_4 : HID (F29 0 4 = (D29 6 : Int)) := ((show F29 0 4 = F22 0 4 from (eF29 0 4).trans (hS29 0 4 rfl))).trans ((pf22_0_4).trans (congrArg (fun q : Nat => (q : Int)) ((show D29 6 = D22 6 from (eD29 6))).symm))
  have pf29_1_0 : HID (F29 1 0 = (D29 16 : Int)) := (eF29 1 0).trans (pm29_6.trans (congrArg (fun q : Nat => (q : Int)) (eD29 16).symm))
  have pf29_17_0 : HID (F29 17 0 = (D29 18 : Int)) := ((show F29 17 0 = F22 17 0 from (eF29 17 0))).trans ((pf22_17_0).trans (congrArg (fun q : Nat => (q : Int)) ((show D29 18 = D22 18 from (eD29 18))).symm))
  have pf29_7_2 : HID (F29 7 2 = (D29 8 : Int)) := ((show F29 7 2 = F22 7 2 from (eF29 7 2).trans (hS29 2 2 rfl))).trans ((pf22_7_2).trans (congrArg (fun q : Nat => (q : Int)) ((show D29 8 = D22 8 from (eD29 8).trans (hD29 5 rfl))).symm))
  have pf29_7_3 : HID (F29 7 3 = (D29 9 : Int)) := ((show F29 7 3 = F22 7 3 from (eF29 7 3).trans (hS29 2 3 rfl))).trans ((pf22_7_3).trans (congrArg (fun q : Nat => (q : Int)) ((show D29 9 = D22 9 from (eD29 9))).symm))
  have pf29_7_4 : HID (F29 7 4 = (D29 10 : Int)) := ((show F29 7 4 = F22 7 4 from (eF29 7 4).trans (hS29 2 4 rfl))).trans ((pf22_7_4).trans (congrArg (fun q : Nat => (q : Int)) ((show D29 10 = D22 10 from (eD29 10))).symm))
  have pf29_7_5 : HID (F29 7 5 = (D29 11 : Int)) := ((show F29 7 5 = F22 7 5 from (eF29 7 5).trans (hS29 2 5 rfl))).trans ((pf22_7_5).trans (congrArg (fun q : Nat => (q : Int)) ((show D29 11 = D22 11 from (eD29 11))).symm))
  have pf29_7_6 : HID (F29 7 6 = (D29 12 : Int)) := ((show F29 7 6 = F22 7 6 from (eF29 7 6).trans (hS29 2 6 rfl))).trans ((pf22_7_6).trans (congrArg (fun q : Nat => (q : Int)) ((show D29 12 = D22 12 from (eD29 12))).symm))
  have pf29_7_7 : HID (F29 7 7 = (D29 13 : Int)) := ((show F29 7 7 = F22 7 7 from (eF29 7 7).trans (hS29 2 7 rfl))).trans ((pf22_7_7).trans (congrArg (fun q : Nat => (q : Int)) ((show D29 13 = D22 13 from (eD29 13))).symm))
  have pf29_7_8 : HID (F29 7 8 = (D29 14 : Int)) := ((show F29 7 8 = F22 7 8 from (eF29 7 8).trans (hS29 2 8 rfl))).trans ((pf22_7_8).trans (congrArg (fun q : Nat => (q : Int)) ((show D29 14 = D22 14 from (eD29 14))).symm))
  have pf29_7_9 : HID (F29 7 9 = (D29 15 : Int)) := ((show F29 7 9 = F22 7 9 from (eF29 7 9).trans (hS29 2 9 rfl))).trans ((pf22_7_9).trans (congrArg (fun q : Nat => (q : Int)) ((show D29 15 = D22 15 from (eD29 15))).symm))
  have r30 : HID ((0 : Int) ≤ m29_6 ∧ m29_6 ≤ 1000000) := nrng (H.nle 16 (by decide)) (show (N29 16 : Int) = m29_6 from (congrArg (fun q : Nat => (q : Int)) (eN29 16)).trans em29_6)
  have r31 : HID ((-2147483648 : Int) ≤ y29_1_1 ∧ y29_1_1 ≤ 2147483647) := krg_e (show (-2147483648 : Int) ≤ F29 1 1 ∧ F29 1 1 ≤ 2147483647 from H.krg 1 1 (by decide)) (show F29 1 1 = y29_1_1 from ((eF29 1 1).trans ey29_1_1))
  have r32 : HID ((0 : Int) ≤ y29_1_2 ∧ y29_1_2 ≤ 1) := krg_e (show (0 : Int) ≤ F29 1 2 ∧ F29 1 2 ≤ 1 from H.krg 1 2 (by decide)) (show F29 1 2 = y29_1_2 from ((eF29 1 2).trans ey29_1_2))
  have r33 : HID ((-2147483648 : Int) ≤ y29_1_3 ∧ y29_1_3 ≤ 2147483647) := krg_e (show (-2147483648 : Int) ≤ F29 1 3 ∧ F29 1 3 ≤ 2147483647 from H.krg 1 3 (by decide)) (show F29 1 3 = y29_1_3 from ((eF29 1 3).trans ey29_1_3))
  have r34 : HID ((-2147483648 : Int) ≤ y29_1_4 ∧ y29_1_4 ≤ 2147483647) := krg_e (show (-2147483648 : Int) ≤ F29 1 4 ∧ F29 1 4 ≤ 2147483647 from H.krg 1 4 (by decide)) (show F29 1 4 = y29_1_4 from ((eF29 1 4).trans ey29_1_4))
  have r35 : HID ((-2147483648 : Int) ≤ y29_2_0 ∧ y29_2_0 ≤ 2147483647) := krg_e (show (-2147483648 : Int) ≤ F29 7 0 ∧ F29 7 0 ≤ 2147483647 from H.krg 7 0 (by decide)) (show F29 7 0 = y29_2_0 from ((eF29 7 0).trans ey29_2_0))
  exact w_ret rfl (k _ _ _ _ _ _ _ H O (SD_trans (SD_trans (SD_refl) (SD_glu (ι := [0, 7, 2, 3, 4, 5, 8, 9, 10, 11, 12, 13, 14, 15, 17, 18]) hD22 eD22 (by decide +kernel)) (any_subA (l' := [18]) rfl)) (SD_glu (ι := [0, 1, 7, 4, 2, 8, 16]) hD29 eD29 (by decide +kernel)) (any_subA (l' := [16]) rfl)) (SD_trans (SD_trans (SD_refl) (SD_glu (ι := [0, 7, 2, 3, 4, 5, 8, 9, 10, 11, 12, 13, 14, 15, 17, 18]) hN22 eN22 (by decide +kernel)) (any_subA (l' := [18]) rfl)) (SD_glu (ι := [0, 1, 7, 4, 2, 8, 16]) hN29 eN29 (by decide +kernel)) (any_subA (l' := [16]) rfl)) (SF_trans (SF_trans (SF_trans (SF_refl) (SF_glu (ι := [0, 2, 3, 4, 5]) hS20 eF20 (by decide +kernel)) (any_sub (l' := []) rfl)) (SF_glu (ι := [0, 7, 2, 3, 4, 5, 8, 9, 10, 11, 12, 13, 14, 15, 17, 18]) hS22 eF22 (by decide +kernel)) (any_sub (l' := [(0, 15), (7, 0), (17, 0), (17, 1), (17, 2), (17, 3), (17, 4)]) rfl)) (SF_glu (ι := [0, 1, 7, 4, 2, 8, 16]) hS29 eF29 (by decide +kernel)) (any_sub (l' := [(1, 0), (1, 1), (1, 2), (1, 3), (1, 4), (7, 0)]) rfl)) (SA_trans (SA_trans (SA_trans (SA_refl) (SA_glu (ι := [0, 2, 3, 4, 5]) hA20 eA20 (by decide +kernel)) (any_subA (l' := [2]) rfl)) (SA_glu (ι := [0, 7, 2, 3, 4, 5, 8, 9, 10, 11, 12, 13, 14, 15, 17, 18]) hA22 eA22 (by decide +kernel)) (any_subA (l' := [8, 9, 10, 11, 12, 13, 14, 15, 18]) rfl)) (SA_glu (ι := [0, 1, 7, 4, 2, 8, 16]) hA29 eA29 (by decide +kernel)) (any_subA (l' := [8, 16]) rfl)) (pf29_1_0) (pf29_17_0) (m29_6) ((congrArg (fun q : Nat => (q : Int)) (eN29 16)).trans em29_6) (m22_15) ((congrArg (fun q : Nat => (q : Int)) (show N29 18 = N22 18 from (eN29 18))).trans ((congrArg (fun q : Nat => (q : Int)) (eN22 18)).trans em22_15)) (y29_1_1) (((eF29 1 1).trans ey29_1_1)) (y29_1_4) (((eF29 1 4).trans ey29_1_4)) (y22_14_1) ((((show F29 17 1 = F22 17 1 from (eF29 17 1))).trans ((eF22 17 1).trans ey22_14_1))) (show 0 ≤ (y29_1_1) ∧ (y29_1_1) ≤ (m29_6) ∧ (m29_6) ≤ 65536 by have qh0 := HIDe r30; have qh1 := HIDe r31; omega) (show 0 ≤ (y29_1_4) ∧ (y29_1_4) ≤ 7 by have qh0 := HIDe r34; omega) (show 0 ≤ (y22_14_1) ∧ (y22_14_1) ≤ (m22_15) ∧ (m22_15) ≤ 65536 by have qh0 := HIDe r23; have qh1 := HIDe r25; omega))
