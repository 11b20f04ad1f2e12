abbrev V154_Row_c20 : vV := [(0, 6, [(4, 0), (4, 0), (4, 0), (4, 0), (4, 0), (4, 0), (4, 0), (4, 0), (4, 0), (4, 0), (4, 0), (4, 0), (4, 0), (4, 0), (4, 0), (0, 0), (0, 0), (4, 0), (4, 0)]), (0, 7, [(4, 0), (0, 0), (1, 0), (0, 0), (0, 0)]), (1, 1, []), (1, 7, []), (0, 5, [(4, 0), (4, 0), (4, 0), (4, 0), (0, 0), (0, 0), (0, 0), (4, 0), (4, 0), (0, 0), (0, 0), (0, 0), (0, 0), (0, 0), (0, 0), (0, 0), (0, 0), (0, 0), (0, 0)]), (1, 1, []), (1, 5, []), (0, 8, [(0, 0), (0, 0), (4, 0), (4, 0), (4, 0), (4, 0), (4, 0), (4, 0), (4, 0), (4, 0), (4, 0), (0, 0), (0, 0)]), (1, 1, []), (1, 1, []), (1, 1, []), (1, 1, []), (1, 1, []), (1, 1, []), (1, 1, []), (1, 1, []), (1, 0, []), (0, 7, [(4, 0), (0, 0), (1, 0), (0, 0), (0, 0)]), (1, 0, [])]
set_option maxHeartbeats 16000000 in
/-- Packer.packOwnShare: this, #1, this.symbolCounts, this.symbols, this.finder, this.symbols.0, this.ownTables, this.ownTables.0, this.ownTables.0.points, this.ownTables.0.masses, this.ownTables.0.mostBits, this.ownTables.0.starts, this.ownTables.0.used, this.ownTables.0.symbolAt, this.ownTables.0.numberAt, this.ownTables.0.placeOf, #1.bytes, this.told, this.told.bytes -/
theorem C154_Row_c20 {σE : rS} {D N : Nat → Nat} {F : hF} {A : hA} {d c s : Nat} {Q : wQ} (H : HW V154_Row_c20 σE D N F A) (HT : STC σE)  (pf2 : F 0 12 = (D 2 : Int)) (pf3 : F 0 13 = (D 3 : Int)) (pf4 : F 0 1 = (D 4 : Int)) (pf5 : A 3 0 = (D 5 : Int)) (pf6 : F 0 4 = (D 6 : Int)) (pf7 : A 6 0 = (D 7 : Int)) (pf8 : F 7 2 = (D 8 : Int)) (pf9 : F 7 3 = (D 9 : Int)) (pf10 : F 7 4 = (D 10 : Int)) (pf11 : F 7 5 = (D 11 : Int)) (pf12 : F 7 6 = (D 12 : Int)) (pf13 : F 7 7 = (D 13 : Int)) (pf14 : F 7 8 = (D 14 : Int)) (pf15 : F 7 9 = (D 15 : Int)) (pf16 : F 1 0 = (D 16 : Int)) (pf17 : F 0 10 = (D 17 : Int)) (pf18 : F 17 0 = (D 18 : Int)) (n2 : Int) (en2 : (N 2 : Int) = n2) (n3 : Int) (en3 : (N 3 : Int) = n3) (n5 : Int) (en5 : (N 5 : Int) = n5) (n6 : Int) (en6 : (N 6 : Int) = n6) (n8 : Int) (en8 : (N 8 : Int) = n8) (n9 : Int) (en9 : (N 9 : Int) = n9) (n10 : Int) (en10 : (N 10 : Int) = n10) (n11 : Int) (en11 : (N 11 : Int) = n11) (n12 : Int) (en12 : (N 12 : Int) = n12) (n13 : Int) (en13 : (N 13 : Int) = n13) (n14 : Int) (en14 : (N 14 : Int) = n14) (n15 : Int) (en15 : (N 15 : Int) = n15) (n16 : Int) (en16 : (N 16 : Int) = n16) (n18 : Int) (en18 : (N 18 : Int) = n18) (u1_1 : Int) (eu1_1 : F 1 1 = u1_1) (u1_4 : Int) (eu1_4 : F 1 4 = u1_4) (u4_4 : Int) (eu4_4 : F 4 4 = u4_4) (u7_1 : Int) (eu7_1 : F 7 1 = u7_1) (u17_1 : Int) (eu17_1 : F 17 1 = u17_1) (w5 : Int → Int) (ew5 : A 5 = w5) (h0 : inr (0)) (h1 : (n2) = 53 ∧ (n3) = 3) (h2 : 1 ≤ (u4_4) ∧ (u4_4) ≤ (n5) ∧ (n5) ≤ 65536) (h3 : RNG ((w5)) ((u4_4)) 36) (h4 : SHZD ((n8)) ((n9)) ((n10)) ((n11)) ((n12)) ((n13)) ((n14)) ((n15)) ((u7_1)) 36 512) (h5 : 0 ≤ (u1_1) ∧ (u1_1) ≤ (n16) ∧ (n16) ≤ 65536) (h6 : 0 ≤ (u1_4) ∧ (u1_4) ≤ 7) (h7 : 0 ≤ (u17_1) ∧ (u17_1) ≤ (n18) ∧ (n18) ≤ 65536) (h8 : (n6) = 3) (k : ∀ (σ : rS) (Dₚ Nₚ : Nat → Nat) (Fₚ : hF) (Aₚ : hA) (cₚ sₚ : Nat), HW V154_Row_c20 σ Dₚ Nₚ Fₚ Aₚ → OUT (V154_Row_c20).length D N σE c s Dₚ Nₚ σ cₚ sₚ → SD [16, 18] D Dₚ → SD [16, 18] N Nₚ → SF [(0, 15), (1, 0), (1, 1), (1, 2), (1, 3), (1, 4), (7, 0), (17, 0), (17, 1), (17, 2), (17, 3), (17, 4)] F Fₚ → SA [2, 8, 9, 10, 11, 12, 13, 14, 15, 16, 18] A Aₚ → Fₚ 1 0 = (Dₚ 16 : Int) → Fₚ 17 0 = (Dₚ 18 : Int) → ∀ m16 : Int, (Nₚ 16 : Int) = m16 → ∀ m18 : Int, (Nₚ 18 : Int) = m18 → ∀ y1_1 : Int, Fₚ 1 1 = y1_1 → ∀ y1_4 : Int, Fₚ 1 4 = y1_4 → ∀ y17_1 : Int, Fₚ 17 1 = y17_1 → (0 ≤ (y1_1) ∧ (y1_1) ≤ (m16) ∧ (m16) ≤ 65536) → (0 ≤ (y1_4) ∧ (y1_4) ≤ 7) → (0 ≤ (y17_1) ∧ (y17_1) ≤ (m18) ∧ (m18) ≤ 65536) → Q none σ cₚ sₚ) : Ew 154 (d + 4) 0 (rargs 0 [.ref (D 0), .ref (D 1), I 0]) [] σE c s Q := by
  have O := OUT_refl (n := (V154_Row_c20).length) (D := D) (N := N) (σ := σE) (c := c) (s := s)
  have HE := H
  have r1 : HID ((-2147483648 : Int) ≤ u1_1 ∧ u1_1 ≤ 2147483647) := krg_e (show (-2147483648 : Int) ≤ F 1 1 ∧ F 1 1 ≤ 2147483647 from H.krg 1 1 (by decide)) (show F 1 1 = u1_1 from (eu1_1))
  have r2 : HID ((-2147483648 : Int) ≤ u1_4 ∧ u1_4 ≤ 2147483647) := krg_e (show (-2147483648 : Int) ≤ F 1 4 ∧ F 1 4 ≤ 2147483647 from H.krg 1 4 (by decide)) (show F 1 4 = u1_4 from (eu1_4))
  have r3 : HID ((-2147483648 : Int) ≤ u4_4 ∧ u4_4 ≤ 2147483647) := krg_e (show (-2147483648 : Int) ≤ F 4 4 ∧ F 4 4 ≤ 2147483647 from H.krg 4 4 (by decide)) (show F 4 4 = u4_4 from (eu4_4))
  have r4 : HID ((-2147483648 : Int) ≤ u7_1 ∧ u7_1 ≤ 2147483647) := krg_e (show (-2147483648 : Int) ≤ F 7 1 ∧ F 7 1 ≤ 2147483647 from H.krg 7 1 (by decide)) (show F 7 1 = u7_1 from (eu7_1))
  have r5 : HID ((-2147483648 : Int) ≤ u17_1 ∧ u17_1 ≤ 2147483647) := krg_e (show (-2147483648 : Int) ≤ F 17 1 ∧ F 17 1 ≤ 2147483647 from H.krg 17 1 (by decide)) (show F 17 1 = u17_1 from (eu17_1))
  replace pf2 := HIDm pf2
  replace pf3 := HIDm pf3
  replace pf4 := HIDm pf4
  replace pf5 := HIDm pf5
  replace pf6 := HIDm pf6
  replace pf7 := HIDm pf7
  replace pf8 := HIDm pf8
  replace pf9 := HIDm pf9
  replace pf10 := HIDm pf10
  replace pf11 := HIDm pf11
  replace pf12 := HIDm pf12
  replace pf13 := HIDm pf13
  replace pf14 := HIDm pf14
  replace pf15 := HIDm pf15
  replace pf16 := HIDm pf16
  replace pf17 := HIDm pf17
  replace pf18 := HIDm pf18
  replace en2 := HIDm en2
  replace en3 := HIDm en3
  replace en5 := HIDm en5
  replace en6 := HIDm en6
  replace en8 := HIDm en8
  replace en9 := HIDm en9
  replace en10 := HIDm en10
  replace en11 := HIDm en11
  replace en12 := HIDm en12
  replace en13 := HIDm en13
  replace en14 := HIDm en14
  replace en15 := HIDm en15
  replace en16 := HIDm en16
  replace en18 := HIDm en18
  replace eu1_1 := HIDm eu1_1
  replace eu1_4 := HIDm eu1_4
  replace eu4_4 := HIDm eu4_4
  replace eu7_1 := HIDm eu7_1
  replace eu17_1 := HIDm eu17_1
  have r6 : HID ((0 : Int) ≤ n2 ∧ n2 ≤ 1000000) := nrng (H.nle 2 (by decide)) (show (N 2 : Int) = n2 from en2)
  have r7 : HID ((0 : Int) ≤ n3 ∧ n3 ≤ 1000000) := nrng (H.nle 3 (by decide)) (show (N 3 : Int) = n3 from en3)
  have r8 : HID ((0 : Int) ≤ n5 ∧ n5 ≤ 1000000) := nrng (H.nle 5 (by decide)) (show (N 5 : Int) = n5 from en5)
  have r9 : HID ((0 : Int) ≤ n6 ∧ n6 ≤ 1000000) := nrng (H.nle 6 (by decide)) (show (N 6 : Int) = n6 from en6)
  have r10 : HID ((0 : Int) ≤ n8 ∧ n8 ≤ 1000000) := nrng (H.nle 8 (by decide)) (show (N 8 : Int) = n8 from en8)
  have r11 : HID ((0 : Int) ≤ n9 ∧ n9 ≤ 1000000) := nrng (H.nle 9 (by decide)) (show (N 9 : Int) = n9 from en9)
  have r12 : HID ((0 : Int) ≤ n10 ∧ n10 ≤ 1000000) := nrng (H.nle 10 (by decide)) (show (N 10 : Int) = n10 from en10)
  have r13 : HID ((0 : Int) ≤ n11 ∧ n11 ≤ 1000000) := nrng (H.nle 11 (by decide)) (show (N 11 : Int) = n11 from en11)
  have r14 : HID ((0 : Int) ≤ n12 ∧ n12 ≤ 1000000) := nrng (H.nle 12 (by decide)) (show (N 12 : Int) = n12 from en12)
  have r15 : HID ((0 : Int) ≤ n13 ∧ n13 ≤ 1000000) := nrng (H.nle 13 (by decide)) (show (N 13 : Int) = n13 from en13)
  have r16 : HID ((0 : Int) ≤ n14 ∧ n14 ≤ 1000000) := nrng (H.nle 14 (by decide)) (show (N 14 : Int) = n14 from en14)
  have r17 : HID ((0 : Int) ≤ n15 ∧ n15 ≤ 1000000) := nrng (H.nle 15 (by decide)) (show (N 15 : Int) = n15 from en15)
  have r18 : HID ((0 : Int) ≤ n16 ∧ n16 ≤ 1000000) := nrng (H.nle 16 (by decide)) (show (N 16 : Int) = n16 from en16)
  have r19 : HID ((0 : Int) ≤ n18 ∧ n18 ≤ 1000000) := nrng (H.nle 18 (by decide)) (show (N 18 : Int) = n18 from en18)
  have hrg : RNG ((w5)) ((u4_4)) 36 := by assumption
  have hszq : SHZD ((n8)) ((n9)) ((n10)) ((n11)) ((n12)) ((n13)) ((n14)) ((n15)) ((u7_1)) 36 512 := by assumption
  unfold SHZD at hszq
  have hsF : (u7_1) = 36 ∧ (n8) = (u7_1) := by (have qg0 := HIDe r10; have qg1 := HIDe r4; omega)
  clear hszq
  refine Ew_of (pcₚ := 1) (fun _ => x_aload_n rfl rfl) ?_
  refine Ew_of (pcₚ := 2) (fun _ => x_iload_n rfl rfl) ?_
  refine v_inv H (o := 0) rfl rfl rfl rfl rfl rfl (by rfl) (C146_c10 (D := pul [0, 2, 3, 4, 5] D) (N := pul [0, 2, 3, 4, 5] N) (HW_sub H (VS_of (show vsub V154_Row_c20 V146_c10 [0, 2, 3, 4, 5] = true by decide +kernel))) (pf2) (pf3) (pf4) (pf5) (n2) (en2) (n3) (en3) (n5) (en5) (u4_4) ((eu4_4)) (A 2) (rfl) (w5) (ew5) (show inr (0) by omega) (show (n2) = 53 ∧ (n3) = 3 by have qh0 := HIDe r6; have qh1 := HIDe r7; omega) (show 0 ≤ (u4_4) ∧ (u4_4) ≤ (n5) ∧ (n5) ≤ 65536 by have qh0 := HIDe r3; have qh1 := HIDe r8; omega) (show RNG ((w5)) ((u4_4)) 36 by assumption) (fun z20 σ20 F20ₚ A20ₚ Hₚ Oₚ hS20 hA20 w20_1 ew20_1 pz20_0 pz20_1 pz20_2 pz20_3 => ⟨rfl, ?_⟩))
  refine v_back (c := c) (s := s) H (show vsub V154_Row_c20 V146_c10 [0, 2, 3, 4, 5] = true by decide +kernel) Hₚ Oₚ (fun F20 A20 H Oₚ eF20 eA20 => ?_)
  have O := OUT_trans O Oₚ
  -- Packer.countSymbols
  have hct : CTN ((w5)) ((w20_1)) ((u4_4)) 53 := pz20_1
  have hps : ((z20) : Int) = su (fun i => pos1 (((w20_1)) i)) 53 := pz20_2
  have hpr := pz20_3
  refine Ew_of (pcₚ := 6) (fun _ => x_istore_n rfl) ?_
  refine Ew_of (pcₚ := 7) (fun _ => x_aload_n rfl (rk_o (rfl) rfl rfl)) ?_
  refine Ew_of (pcₚ := 8) (fun _ => x_aload_n rfl (rk_o (rfl) rfl rfl)) ?_
  refine Ew_of (pcₚ := 9) (fun _ => x_aload_n rfl (rk_o (rfl) rfl rfl)) ?_
  refine v_g H (o := 0) (v := .ref (D 6)) rfl rfl rfl rfl rfl (vrf ((((show F20 0 4 = F 0 4 from (eF20 0 4).trans (hS20 0 4 rfl)))).trans (pf6))) ?_
  refine Ew_of (pcₚ := 13) (fun _ => x_iload_n rfl (rk_o (rfl) rfl rfl)) ?_
  refine v_lR H (o := 6) rfl rfl rfl rfl rfl (n := n6) (en6) (show 0 ≤ 0 ∧ 0 < n6 by have qh0 := HIDe r9; omega) (z := ((D 7 : Nat) : Int)) (v := .ref (D 7)) ((congrFun (((show A20 6 = A 6 from (eA20 6)))) 0).trans (pf7)) (vrf rfl) ?_
  refine Ew_of (pcₚ := 15) (fun _ => x_aload_n rfl (rk_o (rfl) rfl rfl)) ?_
  refine Ew_of (pcₚ := 16) (fun _ => x_aload_n rfl (rk_o (rfl) rfl rfl)) ?_
  refine v_g H (o := 0) (v := .ref (D 6)) rfl rfl rfl rfl rfl (vrf ((((show F20 0 4 = F 0 4 from (eF20 0 4).trans (hS20 0 4 rfl)))).trans (pf6))) ?_
  refine Ew_of (pcₚ := 20) (fun _ => x_iload_n rfl (rk_o (rfl) rfl rfl)) ?_
  refine v_lR H (o := 6) rfl rfl rfl rfl rfl (n := n6) (en6) (show 0 ≤ 0 ∧ 0 < n6 by have qh0 := HIDe r9; omega) (z := ((D 7 : Nat) : Int)) (v := .ref (D 7)) ((congrFun (((show A20 6 = A 6 from (eA20 6)))) 0).trans (pf7)) (vrf rfl) ?_
  refine Ew_of (pcₚ := 22) (fun _ => x_iload_n rfl (rk_o (rfl) rfl rfl)) ?_
  refine Ew_of (pcₚ := 23) (fun _ => x_iload_n rfl rk_s) ?_
  refine Ew_of (pcₚ := 26) (fun _ => x_ldc_w (z := 2147483647) rfl (by decide)) ?_
  refine v_inv H (o := 0) rfl rfl rfl rfl rfl rfl (by rfl) (C149_Share_c20 (D := pul [0, 7, 2, 3, 4, 5, 8, 9, 10, 11, 12, 13, 14, 15, 17, 18] D) (N := pul [0, 7, 2, 3, 4, 5, 8, 9, 10, 11, 12, 13, 14, 15, 17, 18] N) (HW_sub H (VS_of (show vsub V154_Row_c20 V149_Share_c20 [0, 7, 2, 3, 4, 5, 8, 9, 10, 11, 12, 13, 14, 15, 17, 18] = true by decide +kernel))) (STC_out HT HE O) ((((show F20 0 12 = F 0 12 from (eF20 0 12).trans (hS20 0 12 rfl)))).trans (pf2)) ((((show F20 0 13 = F 0 13 from (eF20 0 13).trans (hS20 0 13 rfl)))).trans (pf3)) ((((show F20 0 1 = F 0 1 from (eF20 0 1).trans (hS20 0 1 rfl)))).trans (pf4)) ((congrFun (((show A20 3 = A 3 from (eA20 3).trans (funext (hA20 2 rfl))))) 0).trans (pf5)) ((((show F20 7 2 = F 7 2 from (eF20 7 2)))).trans (pf8)) ((((show F20 7 3 = F 7 3 from (eF20 7 3)))).trans (pf9)) ((((show F20 7 4 = F 7 4 from (eF20 7 4)))).trans (pf10)) ((((show F20 7 5 = F 7 5 from (eF20 7 5)))).trans (pf11)) ((((show F20 7 6 = F 7 6 from (eF20 7 6)))).trans (pf12)) ((((show F20 7 7 = F 7 7 from (eF20 7 7)))).trans (pf13)) ((((show F20 7 8 = F 7 8 from (eF20 7 8)))).trans (pf14)) ((((show F20 7 9 = F 7 9 from (eF20 7 9)))).trans (pf15)) ((((show F20 0 10 = F 0 10 from (eF20 0 10).trans (hS20 0 10 rfl)))).trans (pf17)) ((((show F20 17 0 = F 17 0 from (eF20 17 0)))).trans (pf18)) (n2) (en2) (n3) (en3) (n5) (en5) (n8) (en8) (n9) (en9) (n10) (en10) (n11) (en11) (n12) (en12) (n13) (en13) (n14) (en14) (n15) (en15) (n18) (en18) (u7_1) ((((show F20 7 1 = F 7 1 from (eF20 7 1))).trans (eu7_1))) (u4_4) ((((show F20 4 4 = F 4 4 from (eF20 4 4).trans (hS20 3 4 rfl))).trans (eu4_4))) (u17_1) ((((show F20 17 1 = F 17 1 from (eF20 17 1))).trans (eu17_1))) (w20_1) ((eA20 2).trans ew20_1) (w5) (((show A20 5 = A 5 from (eA20 5).trans (funext (hA20 4 rfl)))).trans (ew5)) (show inr (0) by omega) (show inr (z20) by omega) (show inr (2147483647) by omega) (show (n2) = 53 ∧ (n3) = 3 by have qh0 := HIDe r6; have qh1 := HIDe r7; omega) (show 1 ≤ (u4_4) ∧ (u4_4) ≤ (n5) ∧ (n5) ≤ 65536 by have qh0 := HIDe r3; have qh1 := HIDe r8; omega) (show RNG ((w5)) ((u4_4)) 36 by assumption) (show CTN ((w5)) ((w20_1)) ((u4_4)) 53 by assumption) (show (z20) = su (fun i => pos1 (((w20_1)) i)) 53 by assumption) (show 0 ≤ (z20) ∧ (z20) ≤ 53 by omega) (show SHZD ((n8)) ((n9)) ((n10)) ((n11)) ((n12)) ((n13)) ((n14)) ((n15)) ((u7_1)) 36 512 by assumption) (show 0 ≤ (u17_1) ∧ (u17_1) ≤ (n18) ∧ (n18) ≤ 65536 by have qh0 := HIDe r19; have qh1 := HIDe r5; omega) (fun z21 σ21 D21ₚ N21ₚ F21ₚ A21ₚ c21 s21 Hₚ Oₚ hD21 hN21 hS21 hA21 pm21_15 m21_15 em21_15 y21_14_1 ey21_14_1 pz21_0 pz21_1 pz21_2 pz21_3 => ⟨rfl, ?_⟩))
  replace pm21_15 := HIDm pm21_15
  replace em21_15 := HIDm em21_15
  replace ey21_14_1 := HIDm ey21_14_1
  refine v_backM (c := c) (s := s) H (show vsub V154_Row_c20 V149_Share_c20 [0, 7, 2, 3, 4, 5, 8, 9, 10, 11, 12, 13, 14, 15, 17, 18] = true by decide +kernel) Hₚ Oₚ hD21 (show vmov V154_Row_c20 [0, 7, 2, 3, 4, 5, 8, 9, 10, 11, 12, 13, 14, 15, 17, 18] [15] = true by decide +kernel) (fun D21 N21 F21 A21 H Oₚ eD21 eN21 eF21 eA21 => ?_)
  have O := OUT_trans O Oₚ
  -- Packer.bestOrder
  have pe21_3_0 : HID (A21 3 0 = (D21 5 : Int)) := (congrFun ((show A21 3 = A20 3 from (eA21 3).trans (funext (hA21 3 rfl)))) 0).trans (((congrFun (((show A20 3 = A 3 from (eA20 3).trans (funext (hA20 2 rfl))))) 0).trans (pf5)).trans (congrArg (fun q : Nat => (q : Int)) ((show D21 5 = D 5 from (eD21 5).trans (hD21 5 rfl))).symm))
  have pe21_6_0 : HID (A21 6 0 = (D21 7 : Int)) := (congrFun ((show A21 6 = A20 6 from (eA21 6))) 0).trans (((congrFun (((show A20 6 = A 6 from (eA20 6)))) 0).trans (pf7)).trans (congrArg (fun q : Nat => (q : Int)) ((show D21 7 = D 7 from (eD21 7).trans (hD21 1 rfl))).symm))
  have pf21_0_1 : HID (F21 0 1 = (D21 4 : Int)) := ((show F21 0 1 = F20 0 1 from (eF21 0 1).trans (hS21 0 1 rfl))).trans (((((show F20 0 1 = F 0 1 from (eF20 0 1).trans (hS20 0 1 rfl)))).trans (pf4)).trans (congrArg (fun q : Nat => (q : Int)) ((show D21 4 = D 4 from (eD21 4).trans (hD21 4 rfl))).symm))
  have pf21_0_10 : HID (F21 0 10 = (D21 17 : Int)) := ((show F21 0 10 = F20 0 10 from (eF21 0 10).trans (hS21 0 10 rfl))).trans (((((show F20 0 10 = F 0 10 from (eF20 0 10).trans (hS20 0 10 rfl)))).trans (pf17)).trans (congrArg (fun q : Nat => (q : Int)) ((show D21 17 = D 17 from (eD21 17).trans (hD21 14 rfl))).symm))
  have pf21_0_12 : HID (F21 0 12 = (D21 2 : Int)) := ((show F21 0 12 = F20 0 12 from (eF21 0 12).trans (hS21 0 12 rfl))).trans (((((show F20 0 12 = F 0 12 from (eF20 0 12).trans (hS20 0 12 rfl)))).trans (pf2)).trans (congrArg (fun q : Nat => (q : Int)) ((show D21 2 = D 2 from (eD21 2).trans (hD21 2 rfl))).symm))
  have pf21_0_13 : HID (F21 0 13 = (D21 3 : Int)) := ((show F21 0 13 = F20 0 13 from (eF21 0 13).trans (hS21 0 13 rfl))).trans (((((show F20 0 13 = F 0 13 from (eF20 0 13).trans (hS20 0 13 rfl)))).trans (pf3)).trans (congrArg (fun q : Nat => (q : Int)) ((show D21 3 = D 3 from (eD21 3).trans (hD21 3 rfl))).symm))
  have pf21_0_4 : HID (F21 0 4 = (D21 6 : Int)) := ((show F21 0 4 = F20 0 4 from (eF21 0 4).trans (hS21 0 4 rfl))).trans (((((show F20 0 4 = F 0 4 from (eF20 0 4).trans (hS20 0 4 rfl)))).trans (pf6)).trans (congrArg (fun q : Nat => (q : Int)) ((show D21 6 = D 6 from (eD21 6))).symm))
  have pf21_1_0 : HID (F21 1 0 = (D21 16 : Int)) := ((show F21 1 0 = F20 1 0 from (eF21 1 0))).trans (((((show F20 1 0 = F 1 0 from (eF20 1 0)))).trans (pf16)).trans (congrArg (fun q : Nat => (q : Int)) ((show D21 16 = D 16 from (eD21 16))).symm))
  have pf21_17_0 : HID (F21 17 0 = (D21 18 : Int)) := (eF21 17 0).trans (pm21_15.trans (congrArg (fun q : Nat => (q : Int)) (eD21 18).symm))
  have pf21_7_2 : HID (F21 7 2 = (D21 8 : Int)) := ((show F21 7 2 = F20 7 2 from (eF21 7 2).trans (hS21 1 2 rfl))).trans (((((show F20 7 2 = F 7 2 from (eF20 7 2)))).trans (pf8)).trans (congrArg (fun q : Nat => (q : Int)) ((show D21 8 = D 8 from (eD21 8).trans (hD21 6 rfl))).symm))
  have pf21_7_3 : HID (F21 7 3 = (D21 9 : Int)) := ((show F21 7 3 = F20 7 3 from (eF21 7 3).trans (hS21 1 3 rfl))).trans (((((show F20 7 3 = F 7 3 from (eF20 7 3)))).trans (pf9)).trans (congrArg (fun q : Nat => (q : Int)) ((show D21 9 = D 9 from (eD21 9).trans (hD21 7 rfl))).symm))
  have pf21_7_4 : HID (F21 7 4 = (D21 10 : Int)) := ((show F21 7 4 = F20 7 4 from (eF21 7 4).trans (hS21 1 4 rfl))).trans (((((show F20 7 4 = F 7 4 from (eF20 7 4)))).trans (pf10)).trans (congrArg (fun q : Nat => (q : Int)) ((show D21 10 = D 10 from (eD21 10).trans (hD21 8 rfl))).symm))
  have pf21_7_5 : HID (F21 7 5 = (D21 11 : Int)) := ((show F21 7 5 = F20 7 5 from (eF21 7 5).trans (hS21 1 5 rfl))).trans (((((show F20 7 5 = F 7 5 from (eF20 7 5)))).trans (pf11)).trans (congrArg (fun q : Nat => (q : Int)) ((show D21 11 = D 11 from (eD21 11).trans (hD21 9 rfl))).symm))
  have pf21_7_6 : HID (F21 7 6 = (D21 12 : Int)) := ((show F21 7 6 = F20 7 6 from (eF21 7 6).trans (hS21 1 6 rfl))).trans (((((show F20 7 6 = F 7 6 from (eF20 7 6)))).trans (pf12)).trans (congrArg (fun q : Nat => (q : Int)) ((show D21 12 = D 12 from (eD21 12).trans (hD21 10 rfl))).symm))
  have pf21_7_7 : HID (F21 7 7 = (D21 13 : Int)) := ((show F21 7 7 = F20 7 7 from (eF21 7 7).trans (hS21 1 7 rfl))).trans (((((show F20 7 7 = F 7 7 from (eF20 7 7)))).trans (pf13)).trans (congrArg (fun q : Nat => (q : Int)) ((show D21 13 = D 13 from (eD21 13).trans (hD21 11 rfl))).symm))
  have pf21_7_8 : HID (F21 7 8 = (D21 14 : Int)) := ((show F21 7 8 = F20 7 8 from (eF21 7 8).trans (hS21 1 8 rfl))).trans (((((show F20 7 8 = F 7 8 from (eF20 7 8)))).trans (pf14)).trans (congrArg (fun q : Nat => (q : Int)) ((show D21 14 = D 14 from (eD21 14).trans (hD21 12 rfl))).symm))
  have pf21_7_9 : HID (F21 7 9 = (D21 15 : Int)) := ((show F21 7 9 = F20 7 9 from (eF21 7 9).trans (hS21 1 9 rfl))).trans (((((show F20 7 9 = F 7 9 from (eF20 7 9)))).trans (pf15)).trans (congrArg (fun q : Nat => (q : Int)) ((show D21 15 = D 15 from (eD21 15).trans (hD21 13 rfl))).symm))
  have r22 : HID ((0 : Int) ≤ m21_15 ∧ m21_15 ≤ 1000000) := nrng (H.nle 18 (by decide)) (show (N21 18 : Int) = m21_15 from (congrArg (fun q : Nat => (q : Int)) (eN21 18)).trans em21_15)
  have r23 : HID ((-2147483648 : Int) ≤ y21_14_1 ∧ y21_14_1 ≤ 2147483647) := krg_e (show (-2147483648 : Int) ≤ F21 17 1 ∧ F21 17 1 ≤ 2147483647 from H.krg 17 1 (by decide)) (show F21 17 1 = y21_14_1 from ((eF21 17 1).trans ey21_14_1))
  have hcn : CNT ((w20_1)) ((u7_1)) ((u4_4)) ((z21)) := CTN_CNT hct (by (have qg0 := HIDe r3; have qg1 := HIDe r4; omega)) (by rw [hsF.1]; exact hrg) (by (have qg0 := HIDe r3; have qg1 := HIDe r4; omega)) (by (have qg0 := HIDe r3; have qg1 := HIDe r4; omega)) (by (have qg0 := HIDe r3; have qg1 := HIDe r4; omega)) hps (by (have qg0 := HIDe r3; have qg1 := HIDe r4; omega))
  try clear pz21_1
  try clear pz21_2
  refine Ew_stk (show ([I (z21), .ref (D 7), .ref (D 1), .ref (D 0)] : List Value) = [I (z21), .ref (D21 7), .ref (D21 1), .ref (D21 0)] by rw [show D21 0 = D 0 from ((show D21 0 = D 0 from (eD21 0).trans (hD21 0 rfl))), show D21 1 = D 1 from ((show D21 1 = D 1 from (eD21 1))), show D21 7 = D 7 from ((show D21 7 = D 7 from (eD21 7).trans (hD21 1 rfl)))]) ?_
  have r24 : HID ((-2147483648 : Int) ≤ F21 7 0 ∧ F21 7 0 ≤ 2147483647) := krg_e (show (-2147483648 : Int) ≤ F21 7 0 ∧ F21 7 0 ≤ 2147483647 from H.krg 7 0 (by decide)) (show F21 7 0 = F21 7 0 from rfl)
  refine v_inv H (o := 0) rfl rfl rfl rfl rfl rfl (by rfl) (C148_Row_Share (D := pul [0, 1, 7, 4, 2, 8, 16] D21) (N := pul [0, 1, 7, 4, 2, 8, 16] N21) (HW_sub H (VS_of (show vsub V154_Row_c20 V148_Row_Share [0, 1, 7, 4, 2, 8, 16] = true by decide +kernel))) (pf21_0_1) (pf21_0_12) (pf21_7_2) (pf21_1_0) (n2) ((congrArg (fun q : Nat => (q : Int)) (show N21 2 = N 2 from (eN21 2).trans (hN21 2 rfl))).trans (en2)) (n8) ((congrArg (fun q : Nat => (q : Int)) (show N21 8 = N 8 from (eN21 8).trans (hN21 6 rfl))).trans (en8)) (n16) ((congrArg (fun q : Nat => (q : Int)) (show N21 16 = N 16 from (eN21 16))).trans (en16)) (u1_1) (((((show F21 1 1 = F20 1 1 from (eF21 1 1))).trans ((show F20 1 1 = F 1 1 from (eF20 1 1)))).trans (eu1_1))) (u1_4) (((((show F21 1 4 = F20 1 4 from (eF21 1 4))).trans ((show F20 1 4 = F 1 4 from (eF20 1 4)))).trans (eu1_4))) (F21 7 0) (rfl) (u7_1) (((((show F21 7 1 = F20 7 1 from (eF21 7 1).trans (hS21 1 1 rfl))).trans ((show F20 7 1 = F 7 1 from (eF20 7 1)))).trans (eu7_1))) (u4_4) (((((show F21 4 4 = F20 4 4 from (eF21 4 4).trans (hS21 4 4 rfl))).trans ((show F20 4 4 = F 4 4 from (eF20 4 4).trans (hS20 3 4 rfl)))).trans (eu4_4))) (w20_1) (((show A21 2 = A20 2 from (eA21 2).trans (funext (hA21 2 rfl)))).trans ((eA20 2).trans ew20_1)) (A21 8) (rfl) (show inr (z21) by omega) (show CNT ((w20_1)) ((u7_1)) ((u4_4)) (z21) by assumption) (show (u7_1) ≤ (n2) ∧ (n8) = (u7_1) by have qh0 := HIDe r10; have qh1 := HIDe r4; have qh2 := HIDe r6; omega) (show 0 ≤ (u1_1) ∧ (u1_1) ≤ (n16) ∧ (n16) ≤ 65536 by have qh0 := HIDe r1; have qh1 := HIDe r18; omega) (show 0 ≤ (u1_4) ∧ (u1_4) ≤ 7 by have qh0 := HIDe r2; omega) (fun σ25 D25ₚ N25ₚ F25ₚ A25ₚ c25 s25 Hₚ Oₚ hD25 hN25 hS25 hA25 pm25_6 m25_6 em25_6 y25_1_1 ey25_1_1 y25_1_4 ey25_1_4 y25_2_0 ey25_2_0 w25_5 ew25_5 pz25_0 pz25_1 pz25_2 pz25_3 pz25_4 pz25_5 => ⟨rfl, ?_⟩))
  replace pm25_6 := HIDm pm25_6
  replace em25_6 := HIDm em25_6
  replace ey25_1_1 := HIDm ey25_1_1
  replace ey25_1_4 := HIDm ey25_1_4
  replace ey25_2_0 := HIDm ey25_2_0
  refine v_backM (c := (c + c21)) (s := (s + s21)) H (show vsub V154_Row_c20 V148_Row_Share [0, 1, 7, 4, 2, 8, 16] = true by decide +kernel) Hₚ Oₚ hD25 (show vmov V154_Row_c20 [0, 1, 7, 4, 2, 8, 16] [6] = true by decide +kernel) (fun D25 N25 F25 A25 H Oₚ eD25 eN25 eF25 eA25 => ?_)
  have O := OUT_trans O Oₚ
  -- Packer.packShare
  have pe25_3_0 : HID (A25 3 0 = (D25 5 : Int)) := (congrFun ((show A25 3 = A21 3 from (eA25 3))) 0).trans ((pe21_3_0).trans (congrArg (fun q : Nat => (q : Int)) ((show D25 5 = D21 5 from (eD25 5))).symm))
  have pe25_6_0 : HID (A25 6 0 = (D25 7 : Int)) := (congrFun ((show A25 6 = A21 6 from (eA25 6))) 0).trans ((pe21_6_0).trans (congrArg (fun q : Nat => (q : Int)) ((show D25 7 = D21 7 from (eD25 7).trans (hD25 2 rfl))).symm))
  have pf25_0_1 : HID (F25 0 1 = (D25 4 : Int)) := ((show F25 0 1 = F21 0 1 from (eF25 0 1).trans (hS25 0 1 rfl))).trans ((pf21_0_1).trans (congrArg (fun q : Nat => (q : Int)) ((show D25 4 = D21 4 from (eD25 4).trans (hD25 3 rfl))).symm))
  have pf25_0_10 : HID (F25 0 10 = (D25 17 : Int)) := ((show F25 0 10 = F21 0 10 from (eF25 0 10).trans (hS25 0 10 rfl))).trans ((pf21_0_10).trans (congrArg (fun q : Nat => (q : Int)) ((show D25 17 = D21 17 from (eD25 17))).symm))
  have pf25_0_12 : HID (F25 0 12 = (D25 2 : Int)) := ((show F25 0 12 = F21 0 12 from (eF25 0 12).trans (hS25 0 12 rfl))).trans ((pf21_0_12).trans (congrArg (fun q : Nat => (q : Int)) ((show D25 2 = D21 2 from (eD25 2).trans (hD25 4 rfl))).symm))
  have pf25_0_13 : HID (F25 0 13 = (D25 3 : Int)) := ((show F25 0 13 = F21 0 13 from (eF25 0 13).trans (hS25 0 13 rfl))).trans ((pf21_0_13).trans (congrArg (fun q : Nat => (q : Int)) ((show D25 3 = D21 3 from (eD25 3))).symm))
  have pf25_0_4 : HID (F25 0 4 = (D25 6 : Int)) := ((show F25 0 4 = F21 0 4 from (eF25 0 4).trans (hS25 0 4 rfl))).trans ((pf21_0_4).trans (congrArg (fun q : Nat => (q : Int)) ((show D25 6 = D21 6 from (eD25 6))).symm))
  have pf25_1_0 : HID (F25 1 0 = (D25 16 : Int)) := (eF25 1 0).trans (pm25_6.trans (congrArg (fun q : Nat => (q : Int)) (eD25 16).symm))
  have pf25_17_0 : HID (F25 17 0 = (D25 18 : Int)) := ((show F25 17 0 = F21 17 0 from (eF25 17 0))).trans ((pf21_17_0).trans (congrArg (fun q : Nat => (q : Int)) ((show D25 18 = D21 18 from (eD25 18))).symm))
  have pf25_7_2 : HID (F25 7 2 = (D25 8 : Int)) := ((show F25 7 2 = F21 7 2 from (eF25 7 2).trans (hS25 2 2 rfl))).trans ((pf21_7_2).trans (congrArg (fun q : Nat => (q : Int)) ((show D25 8 = D21 8 from (eD25 8).trans (hD25 5 rfl))).symm))
  have pf25_7_3 : HID (F25 7 3 = (D25 9 : Int)) := ((show F25 7 3 = F21 7 3 from (eF25 7 3).trans (hS25 2 3 rfl))).trans ((pf21_7_3).trans (congrArg (fun q : Nat => (q : Int)) ((show D25 9 = D21 9 from (eD25 9))).symm))
  have pf25_7_4 : HID (F25 7 4 = (D25 10 : Int)) := ((show F25 7 4 = F21 7 4 from (eF25 7 4).trans (hS25 2 4 rfl))).trans ((pf21_7_4).trans (congrArg (fun q : Nat => (q : Int)) ((show D25 10 = D21 10 from (eD25 10))).symm))
  have pf25_7_5 : HID (F25 7 5 = (D25 11 : Int)) := ((show F25 7 5 = F21 7 5 from (eF25 7 5).trans (hS25 2 5 rfl))).trans ((pf21_7_5).trans (congrArg (fun q : Nat => (q : Int)) ((show D25 11 = D21 11 from (eD25 11))).symm))
  have pf25_7_6 : HID (F25 7 6 = (D25 12 : Int)) := ((show F25 7 6 = F21 7 6 from (eF25 7 6).trans (hS25 2 6 rfl))).trans ((pf21_7_6).trans (congrArg (fun q : Nat => (q : Int)) ((show D25 12 = D21 12 from (eD25 12))).symm))
  have pf25_7_7 : HID (F25 7 7 = (D25 13 : Int)) := ((show F25 7 7 = F21 7 7 from (eF25 7 7).trans (hS25 2 7 rfl))).trans ((pf21_7_7).trans (congrArg (fun q : Nat => (q : Int)) ((show D25 13 = D21 13 from (eD25 13))).symm))
  have pf25_7_8 : HID (F25 7 8 = (D25 14 : Int)) := ((show F25 7 8 = F21 7 8 from (eF25 7 8).trans (hS25 2 8 rfl))).trans ((pf21_7_8).trans (congrArg (fun q : Nat => (q : Int)) ((show D25 14 = D21 14 from (eD25 14))).symm))
  have pf25_7_9 : HID (F25 7 9 = (D25 15 : Int)) := ((show F25 7 9 = F21 7 9 from (eF25 7 9).trans (hS25 2 9 rfl))).trans ((pf21_7_9).trans (congrArg (fun q : Nat => (q : Int)) ((show D25 15 = D21 15 from (eD25 15))).symm))
  have r26 : HID ((0 : Int) ≤ m25_6 ∧ m25_6 ≤ 1000000) := nrng (H.nle 16 (by decide)) (show (N25 16 : Int) = m25_6 from (congrArg (fun q : Nat => (q : Int)) (eN25 16)).trans em25_6)
  have r27 : HID ((-2147483648 : Int) ≤ y25_1_1 ∧ y25_1_1 ≤ 2147483647) := krg_e (show (-2147483648 : Int) ≤ F25 1 1 ∧ F25 1 1 ≤ 2147483647 from H.krg 1 1 (by decide)) (show F25 1 1 = y25_1_1 from ((eF25 1 1).trans ey25_1_1))
  have r28 : HID ((-2147483648 : Int) ≤ y25_1_4 ∧ y25_1_4 ≤ 2147483647) := krg_e (show (-2147483648 : Int) ≤ F25 1 4 ∧ F25 1 4 ≤ 2147483647 from H.krg 1 4 (by decide)) (show F25 1 4 = y25_1_4 from ((eF25 1 4).trans ey25_1_4))
  have r29 : HID ((-2147483648 : Int) ≤ y25_2_0 ∧ y25_2_0 ≤ 2147483647) := krg_e (show (-2147483648 : Int) ≤ F25 7 0 ∧ F25 7 0 ≤ 2147483647 from H.krg 7 0 (by decide)) (show F25 7 0 = y25_2_0 from ((eF25 7 0).trans ey25_2_0))
  exact w_ret rfl (k _ _ _ _ _ _ _ H O (SD_trans (SD_trans (SD_refl) (SD_glu (ι := [0, 7, 2, 3, 4, 5, 8, 9, 10, 11, 12, 13, 14, 15, 17, 18]) hD21 eD21 (by decide +kernel)) (any_subA (lₚ := [18]) rfl)) (SD_glu (ι := [0, 1, 7, 4, 2, 8, 16]) hD25 eD25 (by decide +kernel)) (any_subA (lₚ := [16]) rfl)) (SD_trans (SD_trans (SD_refl) (SD_glu (ι := [0, 7, 2, 3, 4, 5, 8, 9, 10, 11, 12, 13, 14, 15, 17, 18]) hN21 eN21 (by decide +kernel)) (any_subA (lₚ := [18]) rfl)) (SD_glu (ι := [0, 1, 7, 4, 2, 8, 16]) hN25 eN25 (by decide +kernel)) (any_subA (lₚ := [16]) rfl)) (SF_trans (SF_trans (SF_trans (SF_refl) (SF_glu (ι := [0, 2, 3, 4, 5]) hS20 eF20 (by decide +kernel)) (any_sub (lₚ := []) rfl)) (SF_glu (ι := [0, 7, 2, 3, 4, 5, 8, 9, 10, 11, 12, 13, 14, 15, 17, 18]) hS21 eF21 (by decide +kernel)) (any_sub (lₚ := [(0, 15), (7, 0), (17, 0), (17, 1), (17, 2), (17, 3), (17, 4)]) rfl)) (SF_glu (ι := [0, 1, 7, 4, 2, 8, 16]) hS25 eF25 (by decide +kernel)) (any_sub (lₚ := [(1, 0), (1, 1), (1, 2), (1, 3), (1, 4), (7, 0)]) rfl)) (SA_trans (SA_trans (SA_trans (SA_refl) (SA_glu (ι := [0, 2, 3, 4, 5]) hA20 eA20 (by decide +kernel)) (any_subA (lₚ := [2]) rfl)) (SA_glu (ι := [0, 7, 2, 3, 4, 5, 8, 9, 10, 11, 12, 13, 14, 15, 17, 18]) hA21 eA21 (by decide +kernel)) (any_subA (lₚ := [8, 9, 10, 11, 12, 13, 14, 15, 18]) rfl)) (SA_glu (ι := [0, 1, 7, 4, 2, 8, 16]) hA25 eA25 (by decide +kernel)) (any_subA (lₚ := [8, 16]) rfl)) (pf25_1_0) (pf25_17_0) (m25_6) ((congrArg (fun q : Nat => (q : Int)) (eN25 16)).trans em25_6) (m21_15) ((congrArg (fun q : Nat => (q : Int)) (show N25 18 = N21 18 from (eN25 18))).trans ((congrArg (fun q : Nat => (q : Int)) (eN21 18)).trans em21_15)) (y25_1_1) (((eF25 1 1).trans ey25_1_1)) (y25_1_4) (((eF25 1 4).trans ey25_1_4)) (y21_14_1) ((((show F25 17 1 = F21 17 1 from (eF25 17 1))).trans ((eF21 17 1).trans ey21_14_1))) (show 0 ≤ (y25_1_1) ∧ (y25_1_1) ≤ (m25_6) ∧ (m25_6) ≤ 65536 by have qh0 := HIDe r26; have qh1 := HIDe r27; omega) (show 0 ≤ (y25_1_4) ∧ (y25_1_4) ≤ 7 by have qh0 := HIDe r28; omega) (show 0 ≤ (y21_14_1) ∧ (y21_14_1) ≤ (m21_15) ∧ (m21_15) ≤ 65536 by have qh0 := HIDe r22; have qh1 := HIDe r23; omega))
abbrev V154_Row_c21 : vV := [(0, 6, [(4, 0), (4, 0), (4, 0), (4, 0), (4, 0), (4, 0), (4, 0), (4, 0), (4, 0), (4, 0), (4, 0), (4, 0), (4, 0), (4, 0), (4, 0), (0, 0), (0, 0), (4, 0), (4, 0)]), (0, 7, [(4, 0), (0, 0), (1, 0), (0, 0), (0, 0)]), (1, 1, []), (1, 7, []), (0, 5, [(4, 0), (4, 0), (4, 0), (4, 0), (0, 0), (0, 0), (0, 0), (4, 0), (4, 0), (0, 0), (0, 0), (0, 0), (0, 0), (0, 0), (0, 0), (0, 0), (0, 0), (0, 0), (0, 0)]), (1, 1, []), (1, 5, []), (0, 8, [(0, 0), (0, 0), (4, 0), (4, 0), (4, 0), (4, 0), (4, 0), (4, 0), (4, 0), (4, 0), (4, 0), (0, 0), (0, 0)]), (1, 1, []), (1, 1, []), (1, 1, []), (1, 1, []), (1, 1, []), (1, 1, []), (1, 1, []), (1, 1, []), (1, 0, []), (0, 7, [(4, 0), (0, 0), (1, 0), (0, 0), (0, 0)]), (1, 0, [])]
set_option maxHeartbeats 16000000 in
/-- Packer.packOwnShare: this, #1, this.symbolCounts, this.symbols, this.finder, this.symbols.1, this.ownTables, this.ownTables.1, this.ownTables.1.points, this.ownTables.1.masses, this.ownTables.1.mostBits, this.ownTables.1.starts, this.ownTables.1.used, this.ownTables.1.symbolAt, this.ownTables.1.numberAt, this.ownTables.1.placeOf, #1.bytes, this.told, this.told.bytes -/
theorem C154_Row_c21 {σE : rS} {D N : Nat → Nat} {F : hF} {A : hA} {d c s : Nat} {Q : wQ} (H : HW V154_Row_c21 σE D N F A) (HT : STC σE)  (pf2 : F 0 12 = (D 2 : Int)) (pf3 : F 0 13 = (D 3 : Int)) (pf4 : F 0 1 = (D 4 : Int)) (pf5 : A 3 1 = (D 5 : Int)) (pf6 : F 0 4 = (D 6 : Int)) (pf7 : A 6 1 = (D 7 : Int)) (pf8 : F 7 2 = (D 8 : Int)) (pf9 : F 7 3 = (D 9 : Int)) (pf10 : F 7 4 = (D 10 : Int)) (pf11 : F 7 5 = (D 11 : Int)) (pf12 : F 7 6 = (D 12 : Int)) (pf13 : F 7 7 = (D 13 : Int)) (pf14 : F 7 8 = (D 14 : Int)) (pf15 : F 7 9 = (D 15 : Int)) (pf16 : F 1 0 = (D 16 : Int)) (pf17 : F 0 10 = (D 17 : Int)) (pf18 : F 17 0 = (D 18 : Int)) (n2 : Int) (en2 : (N 2 : Int) = n2) (n3 : Int) (en3 : (N 3 : Int) = n3) (n5 : Int) (en5 : (N 5 : Int) = n5) (n6 : Int) (en6 : (N 6 : Int) = n6) (n8 : Int) (en8 : (N 8 : Int) = n8) (n9 : Int) (en9 : (N 9 : Int) = n9) (n10 : Int) (en10 : (N 10 : Int) = n10) (n11 : Int) (en11 : (N 11 : Int) = n11) (n12 : Int) (en12 : (N 12 : Int) = n12) (n13 : Int) (en13 : (N 13 : Int) = n13) (n14 : Int) (en14 : (N 14 : Int) = n14) (n15 : Int) (en15 : (N 15 : Int) = n15) (n16 : Int) (en16 : (N 16 : Int) = n16) (n18 : Int) (en18 : (N 18 : Int) = n18) (u1_1 : Int) (eu1_1 : F 1 1 = u1_1) (u1_4 : Int) (eu1_4 : F 1 4 = u1_4) (u4_4 : Int) (eu4_4 : F 4 4 = u4_4) (u7_1 : Int) (eu7_1 : F 7 1 = u7_1) (u17_1 : Int) (eu17_1 : F 17 1 = u17_1) (w5 : Int → Int) (ew5 : A 5 = w5) (h0 : inr (1)) (h1 : (n2) = 53 ∧ (n3) = 3) (h2 : 1 ≤ (u4_4) ∧ (u4_4) ≤ (n5) ∧ (n5) ≤ 65536) (h3 : RNG ((w5)) ((u4_4)) 32) (h4 : SHZD ((n8)) ((n9)) ((n10)) ((n11)) ((n12)) ((n13)) ((n14)) ((n15)) ((u7_1)) 32 256) (h5 : 0 ≤ (u1_1) ∧ (u1_1) ≤ (n16) ∧ (n16) ≤ 65536) (h6 : 0 ≤ (u1_4) ∧ (u1_4) ≤ 7) (h7 : 0 ≤ (u17_1) ∧ (u17_1) ≤ (n18) ∧ (n18) ≤ 65536) (h8 : (n6) = 3) (k : ∀ (σ : rS) (Dₚ Nₚ : Nat → Nat) (Fₚ : hF) (Aₚ : hA) (cₚ sₚ : Nat), HW V154_Row_c21 σ Dₚ Nₚ Fₚ Aₚ → OUT (V154_Row_c21).length D N σE c s Dₚ Nₚ σ cₚ sₚ → SD [16, 18] D Dₚ → SD [16, 18] N Nₚ → SF [(0, 15), (1, 0), (1, 1), (1, 2), (1, 3), (1, 4), (7, 0), (17, 0), (17, 1), (17, 2), (17, 3), (17, 4)] F Fₚ → SA [2, 8, 9, 10, 11, 12, 13, 14, 15, 16, 18] A Aₚ → Fₚ 1 0 = (Dₚ 16 : Int) → Fₚ 17 0 = (Dₚ 18 : Int) → ∀ m16 : Int, (Nₚ 16 : Int) = m16 → ∀ m18 : Int, (Nₚ 18 : Int) = m18 → ∀ y1_1 : Int, Fₚ 1 1 = y1_1 → ∀ y1_4 : Int, Fₚ 1 4 = y1_4 → ∀ y17_1 : Int, Fₚ 17 1 = y17_1 → (0 ≤ (y1_1) ∧ (y1_1) ≤ (m16) ∧ (m16) ≤ 65536) → (0 ≤ (y1_4) ∧ (y1_4) ≤ 7) → (0 ≤ (y17_1) ∧ (y17_1) ≤ (m18) ∧ (m18) ≤ 65536) → Q none σ cₚ sₚ) : Ew 154 (d + 4) 0 (rargs 0 [.ref (D 0), .ref (D 1), I 1]) [] σE c s Q := by
  have O := OUT_refl (n := (V154_Row_c21).length) (D := D) (N := N) (σ := σE) (c := c) (s := s)
  have HE := H
  have r1 : HID ((-2147483648 : Int) ≤ u1_1 ∧ u1_1 ≤ 2147483647) := krg_e (show (-2147483648 : Int) ≤ F 1 1 ∧ F 1 1 ≤ 2147483647 from H.krg 1 1 (by decide)) (show F 1 1 = u1_1 from (eu1_1))
  have r2 : HID ((-2147483648 : Int) ≤ u1_4 ∧ u1_4 ≤ 2147483647) := krg_e (show (-2147483648 : Int) ≤ F 1 4 ∧ F 1 4 ≤ 2147483647 from H.krg 1 4 (by decide)) (show F 1 4 = u1_4 from (eu1_4))
  have r3 : HID ((-2147483648 : Int) ≤ u4_4 ∧ u4_4 ≤ 2147483647) := krg_e (show (-2147483648 : Int) ≤ F 4 4 ∧ F 4 4 ≤ 2147483647 from H.krg 4 4 (by decide)) (show F 4 4 = u4_4 from (eu4_4))
  have r4 : HID ((-2147483648 : Int) ≤ u7_1 ∧ u7_1 ≤ 2147483647) := krg_e (show (-2147483648 : Int) ≤ F 7 1 ∧ F 7 1 ≤ 2147483647 from H.krg 7 1 (by decide)) (show F 7 1 = u7_1 from (eu7_1))
  have r5 : HID ((-2147483648 : Int) ≤ u17_1 ∧ u17_1 ≤ 2147483647) := krg_e (show (-2147483648 : Int) ≤ F 17 1 ∧ F 17 1 ≤ 2147483647 from H.krg 17 1 (by decide)) (show F 17 1 = u17_1 from (eu17_1))
  replace pf2 := HIDm pf2
  replace pf3 := HIDm pf3
  replace pf4 := HIDm pf4
  replace pf5 := HIDm pf5
  replace pf6 := HIDm pf6
  replace pf7 := HIDm pf7
  replace pf8 := HIDm pf8
  replace pf9 := HIDm pf9
  replace pf10 := HIDm pf10
  replace pf11 := HIDm pf11
  replace pf12 := HIDm pf12
  replace pf13 := HIDm pf13
  replace pf14 := HIDm pf14
  replace pf15 := HIDm pf15
  replace pf16 := HIDm pf16
  replace pf17 := HIDm pf17
  replace pf18 := HIDm pf18
  replace en2 := HIDm en2
  replace en3 := HIDm en3
  replace en5 := HIDm en5
  replace en6 := HIDm en6
  replace en8 := HIDm en8
  replace en9 := HIDm en9
  replace en10 := HIDm en10
  replace en11 := HIDm en11
  replace en12 := HIDm en12
  replace en13 := HIDm en13
  replace en14 := HIDm en14
  replace en15 := HIDm en15
  replace en16 := HIDm en16
  replace en18 := HIDm en18
  replace eu1_1 := HIDm eu1_1
  replace eu1_4 := HIDm eu1_4
  replace eu4_4 := HIDm eu4_4
  replace eu7_1 := HIDm eu7_1
  replace eu17_1 := HIDm eu17_1
  have r6 : HID ((0 : Int) ≤ n2 ∧ n2 ≤ 1000000) := nrng (H.nle 2 (by decide)) (show (N 2 : Int) = n2 from en2)
  have r7 : HID ((0 : Int) ≤ n3 ∧ n3 ≤ 1000000) := nrng (H.nle 3 (by decide)) (show (N 3 : Int) = n3 from en3)
  have r8 : HID ((0 : Int) ≤ n5 ∧ n5 ≤ 1000000) := nrng (H.nle 5 (by decide)) (show (N 5 : Int) = n5 from en5)
  have r9 : HID ((0 : Int) ≤ n6 ∧ n6 ≤ 1000000) := nrng (H.nle 6 (by decide)) (show (N 6 : Int) = n6 from en6)
  have r10 : HID ((0 : Int) ≤ n8 ∧ n8 ≤ 1000000) := nrng (H.nle 8 (by decide)) (show (N 8 : Int) = n8 from en8)
  have r11 : HID ((0 : Int) ≤ n9 ∧ n9 ≤ 1000000) := nrng (H.nle 9 (by decide)) (show (N 9 : Int) = n9 from en9)
  have r12 : HID ((0 : Int) ≤ n10 ∧ n10 ≤ 1000000) := nrng (H.nle 10 (by decide)) (show (N 10 : Int) = n10 from en10)
  have r13 : HID ((0 : Int) ≤ n11 ∧ n11 ≤ 1000000) := nrng (H.nle 11 (by decide)) (show (N 11 : Int) = n11 from en11)
  have r14 : HID ((0 : Int) ≤ n12 ∧ n12 ≤ 1000000) := nrng (H.nle 12 (by decide)) (show (N 12 : Int) = n12 from en12)
  have r15 : HID ((0 : Int) ≤ n13 ∧ n13 ≤ 1000000) := nrng (H.nle 13 (by decide)) (show (N 13 : Int) = n13 from en13)
  have r16 : HID ((0 : Int) ≤ n14 ∧ n14 ≤ 1000000) := nrng (H.nle 14 (by decide)) (show (N 14 : Int) = n14 from en14)
  have r17 : HID ((0 : Int) ≤ n15 ∧ n15 ≤ 1000000) := nrng (H.nle 15 (by decide)) (show (N 15 : Int) = n15 from en15)
  have r18 : HID ((0 : Int) ≤ n16 ∧ n16 ≤ 1000000) := nrng (H.nle 16 (by decide)) (show (N 16 : Int) = n16 from en16)
  have r19 : HID ((0 : Int) ≤ n18 ∧ n18 ≤ 1000000) := nrng (H.nle 18 (by decide)) (show (N 18 : Int) = n18 from en18)
  have hrg : RNG ((w5)) ((u4_4)) 32 := by assumption
  have hszq : SHZD ((n8)) ((n9)) ((n10)) ((n11)) ((n12)) ((n13)) ((n14)) ((n15)) ((u7_1)) 32 256 := by assumption
  unfold SHZD at hszq
  have hsF : (u7_1) = 32 ∧ (n8) = (u7_1) := by (have qg0 := HIDe r10; have qg1 := HIDe r4; omega)
  clear hszq
  refine Ew_of (pcₚ := 1) (fun _ => x_aload_n rfl rfl) ?_
  refine Ew_of (pcₚ := 2) (fun _ => x_iload_n rfl rfl) ?_
  refine v_inv H (o := 0) rfl rfl rfl rfl rfl rfl (by rfl) (C146_c11 (D := pul [0, 2, 3, 4, 5] D) (N := pul [0, 2, 3, 4, 5] N) (HW_sub H (VS_of (show vsub V154_Row_c21 V146_c11 [0, 2, 3, 4, 5] = true by decide +kernel))) (pf2) (pf3) (pf4) (pf5) (n2) (en2) (n3) (en3) (n5) (en5) (u4_4) ((eu4_4)) (A 2) (rfl) (w5) (ew5) (show inr (1) by omega) (show (n2) = 53 ∧ (n3) = 3 by have qh0 := HIDe r6; have qh1 := HIDe r7; omega) (show 0 ≤ (u4_4) ∧ (u4_4) ≤ (n5) ∧ (n5) ≤ 65536 by have qh0 := HIDe r3; have qh1 := HIDe r8; omega) (show RNG ((w5)) ((u4_4)) 32 by assumption) (fun z20 σ20 F20ₚ A20ₚ Hₚ Oₚ hS20 hA20 w20_1 ew20_1 pz20_0 pz20_1 pz20_2 pz20_3 => ⟨rfl, ?_⟩))
  refine v_back (c := c) (s := s) H (show vsub V154_Row_c21 V146_c11 [0, 2, 3, 4, 5] = true by decide +kernel) Hₚ Oₚ (fun F20 A20 H Oₚ eF20 eA20 => ?_)
  have O := OUT_trans O Oₚ
  -- Packer.countSymbols
  have hct : CTN ((w5)) ((w20_1)) ((u4_4)) 53 := pz20_1
  have hps : ((z20) : Int) = su (fun i => pos1 (((w20_1)) i)) 53 := pz20_2
  have hpr := pz20_3
  refine Ew_of (pcₚ := 6) (fun _ => x_istore_n rfl) ?_
  refine Ew_of (pcₚ := 7) (fun _ => x_aload_n rfl (rk_o (rfl) rfl rfl)) ?_
  refine Ew_of (pcₚ := 8) (fun _ => x_aload_n rfl (rk_o (rfl) rfl rfl)) ?_
  refine Ew_of (pcₚ := 9) (fun _ => x_aload_n rfl (rk_o (rfl) rfl rfl)) ?_
  refine v_g H (o := 0) (v := .ref (D 6)) rfl rfl rfl rfl rfl (vrf ((((show F20 0 4 = F 0 4 from (eF20 0 4).trans (hS20 0 4 rfl)))).trans (pf6))) ?_
  refine Ew_of (pcₚ := 13) (fun _ => x_iload_n rfl (rk_o (rfl) rfl rfl)) ?_
  refine v_lR H (o := 6) rfl rfl rfl rfl rfl (n := n6) (en6) (show 0 ≤ 1 ∧ 1 < n6 by have qh0 := HIDe r9; omega) (z := ((D 7 : Nat) : Int)) (v := .ref (D 7)) ((congrFun (((show A20 6 = A 6 from (eA20 6)))) 1).trans (pf7)) (vrf rfl) ?_
  refine Ew_of (pcₚ := 15) (fun _ => x_aload_n rfl (rk_o (rfl) rfl rfl)) ?_
  refine Ew_of (pcₚ := 16) (fun _ => x_aload_n rfl (rk_o (rfl) rfl rfl)) ?_
  refine v_g H (o := 0) (v := .ref (D 6)) rfl rfl rfl rfl rfl (vrf ((((show F20 0 4 = F 0 4 from (eF20 0 4).trans (hS20 0 4 rfl)))).trans (pf6))) ?_
  refine Ew_of (pcₚ := 20) (fun _ => x_iload_n rfl (rk_o (rfl) rfl rfl)) ?_
  refine v_lR H (o := 6) rfl rfl rfl rfl rfl (n := n6) (en6) (show 0 ≤ 1 ∧ 1 < n6 by have qh0 := HIDe r9; omega) (z := ((D 7 : Nat) : Int)) (v := .ref (D 7)) ((congrFun (((show A20 6 = A 6 from (eA20 6)))) 1).trans (pf7)) (vrf rfl) ?_
  refine Ew_of (pcₚ := 22) (fun _ => x_iload_n rfl (rk_o (rfl) rfl rfl)) ?_
  refine Ew_of (pcₚ := 23) (fun _ => x_iload_n rfl rk_s) ?_
  refine Ew_of (pcₚ := 26) (fun _ => x_ldc_w (z := 2147483647) rfl (by decide)) ?_
  refine v_inv H (o := 0) rfl rfl rfl rfl rfl rfl (by rfl) (C149_Share_c21 (D := pul [0, 7, 2, 3, 4, 5, 8, 9, 10, 11, 12, 13, 14, 15, 17, 18] D) (N := pul [0, 7, 2, 3, 4, 5, 8, 9, 10, 11, 12, 13, 14, 15, 17, 18] N) (HW_sub H (VS_of (show vsub V154_Row_c21 V149_Share_c21 [0, 7, 2, 3, 4, 5, 8, 9, 10, 11, 12, 13, 14, 15, 17, 18] = true by decide +kernel))) (STC_out HT HE O) ((((show F20 0 12 = F 0 12 from (eF20 0 12).trans (hS20 0 12 rfl)))).trans (pf2)) ((((show F20 0 13 = F 0 13 from (eF20 0 13).trans (hS20 0 13 rfl)))).trans (pf3)) ((((show F20 0 1 = F 0 1 from (eF20 0 1).trans (hS20 0 1 rfl)))).trans (pf4)) ((congrFun (((show A20 3 = A 3 from (eA20 3).trans (funext (hA20 2 rfl))))) 1).trans (pf5)) ((((show F20 7 2 = F 7 2 from (eF20 7 2)))).trans (pf8)) ((((show F20 7 3 = F 7 3 from (eF20 7 3)))).trans (pf9)) ((((show F20 7 4 = F 7 4 from (eF20 7 4)))).trans (pf10)) ((((show F20 7 5 = F 7 5 from (eF20 7 5)))).trans (pf11)) ((((show F20 7 6 = F 7 6 from (eF20 7 6)))).trans (pf12)) ((((show F20 7 7 = F 7 7 from (eF20 7 7)))).trans (pf13)) ((((show F20 7 8 = F 7 8 from (eF20 7 8)))).trans (pf14)) ((((show F20 7 9 = F 7 9 from (eF20 7 9)))).trans (pf15)) ((((show F20 0 10 = F 0 10 from (eF20 0 10).trans (hS20 0 10 rfl)))).trans (pf17)) ((((show F20 17 0 = F 17 0 from (eF20 17 0)))).trans (pf18)) (n2) (en2) (n3) (en3) (n5) (en5) (n8) (en8) (n9) (en9) (n10) (en10) (n11) (en11) (n12) (en12) (n13) (en13) (n14) (en14) (n15) (en15) (n18) (en18) (u7_1) ((((show F20 7 1 = F 7 1 from (eF20 7 1))).trans (eu7_1))) (u4_4) ((((show F20 4 4 = F 4 4 from (eF20 4 4).trans (hS20 3 4 rfl))).trans (eu4_4))) (u17_1) ((((show F20 17 1 = F 17 1 from (eF20 17 1))).trans (eu17_1))) (w20_1) ((eA20 2).trans ew20_1) (w5) (((show A20 5 = A 5 from (eA20 5).trans (funext (hA20 4 rfl)))).trans (ew5)) (show inr (1) by omega) (show inr (z20) by omega) (show inr (2147483647) by omega) (show (n2) = 53 ∧ (n3) = 3 by have qh0 := HIDe r6; have qh1 := HIDe r7; omega) (show 1 ≤ (u4_4) ∧ (u4_4) ≤ (n5) ∧ (n5) ≤ 65536 by have qh0 := HIDe r3; have qh1 := HIDe r8; omega) (show RNG ((w5)) ((u4_4)) 32 by assumption) (show CTN ((w5)) ((w20_1)) ((u4_4)) 53 by assumption) (show (z20) = su (fun i => pos1 (((w20_1)) i)) 53 by assumption) (show 0 ≤ (z20) ∧ (z20) ≤ 53 by omega) (show SHZD ((n8)) ((n9)) ((n10)) ((n11)) ((n12)) ((n13)) ((n14)) ((n15)) ((u7_1)) 32 256 by assumption) (show 0 ≤ (u17_1) ∧ (u17_1) ≤ (n18) ∧ (n18) ≤ 65536 by have qh0 := HIDe r19; have qh1 := HIDe r5; omega) (fun z21 σ21 D21ₚ N21ₚ F21ₚ A21ₚ c21 s21 Hₚ Oₚ hD21 hN21 hS21 hA21 pm21_15 m21_15 em21_15 y21_14_1 ey21_14_1 pz21_0 pz21_1 pz21_2 pz21_3 => ⟨rfl, ?_⟩))
  replace pm21_15 := HIDm pm21_15
  replace em21_15 := HIDm em21_15
  replace ey21_14_1 := HIDm ey21_14_1
  refine v_backM (c := c) (s := s) H (show vsub V154_Row_c21 V149_Share_c21 [0, 7, 2, 3, 4, 5, 8, 9, 10, 11, 12, 13, 14, 15, 17, 18] = true by decide +kernel) Hₚ Oₚ hD21 (show vmov V154_Row_c21 [0, 7, 2, 3, 4, 5, 8, 9, 10, 11, 12, 13, 14, 15, 17, 18] [15] = true by decide +kernel) (fun D21 N21 F21 A21 H Oₚ eD21 eN21 eF21 eA21 => ?_)
  have O := OUT_trans O Oₚ
  -- Packer.bestOrder
  have pe21_3_1 : HID (A21 3 1 = (D21 5 : Int)) := (congrFun ((show A21 3 = A20 3 from (eA21 3).trans (funext (hA21 3 rfl)))) 1).trans (((congrFun (((show A20 3 = A 3 from (eA20 3).trans (funext (hA20 2 rfl))))) 1).trans (pf5)).trans (congrArg (fun q : Nat => (q : Int)) ((show D21 5 = D 5 from (eD21 5).trans (hD21 5 rfl))).symm))
  have pe21_6_1 : HID (A21 6 1 = (D21 7 : Int)) := (congrFun ((show A21 6 = A20 6 from (eA21 6))) 1).trans (((congrFun (((show A20 6 = A 6 from (eA20 6)))) 1).trans (pf7)).trans (congrArg (fun q : Nat => (q : Int)) ((show D21 7 = D 7 from (eD21 7).trans (hD21 1 rfl))).symm))
  have pf21_0_1 : HID (F21 0 1 = (D21 4 : Int)) := ((show F21 0 1 = F20 0 1 from (eF21 0 1).trans (hS21 0 1 rfl))).trans (((((show F20 0 1 = F 0 1 from (eF20 0 1).trans (hS20 0 1 rfl)))).trans (pf4)).trans (congrArg (fun q : Nat => (q : Int)) ((show D21 4 = D 4 from (eD21 4).trans (hD21 4 rfl))).symm))
  have pf21_0_10 : HID (F21 0 10 = (D21 17 : Int)) := ((show F21 0 10 = F20 0 10 from (eF21 0 10).trans (hS21 0 10 rfl))).trans (((((show F20 0 10 = F 0 10 from (eF20 0 10).trans (hS20 0 10 rfl)))).trans (pf17)).trans (congrArg (fun q : Nat => (q : Int)) ((show D21 17 = D 17 from (eD21 17).trans (hD21 14 rfl))).symm))
  have pf21_0_12 : HID (F21 0 12 = (D21 2 : Int)) := ((show F21 0 12 = F20 0 12 from (eF21 0 12).trans (hS21 0 12 rfl))).trans (((((show F20 0 12 = F 0 12 from (eF20 0 12).trans (hS20 0 12 rfl)))).trans (pf2)).trans (congrArg (fun q : Nat => (q : Int)) ((show D21 2 = D 2 from (eD21 2).trans (hD21 2 rfl))).symm))
  have pf21_0_13 : HID (F21 0 13 = (D21 3 : Int)) := ((show F21 0 13 = F20 0 13 from (eF21 0 13).trans (hS21 0 13 rfl))).trans (((((show F20 0 13 = F 0 13 from (eF20 0 13).trans (hS20 0 13 rfl)))).trans (pf3)).trans (congrArg (fun q : Nat => (q : Int)) ((show D21 3 = D 3 from (eD21 3).trans (hD21 3 rfl))).symm))
  have pf21_0_4 : HID (F21 0 4 = (D21 6 : Int)) := ((show F21 0 4 = F20 0 4 from (eF21 0 4).trans (hS21 0 4 rfl))).trans (((((show F20 0 4 = F 0 4 from (eF20 0 4).trans (hS20 0 4 rfl)))).trans (pf6)).trans (congrArg (fun q : Nat => (q : Int)) ((show D21 6 = D 6 from (eD21 6))).symm))
  have pf21_1_0 : HID (F21 1 0 = (D21 16 : Int)) := ((show F21 1 0 = F20 1 0 from (eF21 1 0))).trans (((((show F20 1 0 = F 1 0 from (eF20 1 0)))).trans (pf16)).trans (congrArg (fun q : Nat => (q : Int)) ((show D21 16 = D 16 from (eD21 16))).symm))
  have pf21_17_0 : HID (F21 17 0 = (D21 18 : Int)) := (eF21 17 0).trans (pm21_15.trans (congrArg (fun q : Nat => (q : Int)) (eD21 18).symm))
  have pf21_7_2 : HID (F21 7 2 = (D21 8 : Int)) := ((show F21 7 2 = F20 7 2 from (eF21 7 2).trans (hS21 1 2 rfl))).trans (((((show F20 7 2 = F 7 2 from (eF20 7 2)))).trans (pf8)).trans (congrArg (fun q : Nat => (q : Int)) ((show D21 8 = D 8 from (eD21 8).trans (hD21 6 rfl))).symm))
  have pf21_7_3 : HID (F21 7 3 = (D21 9 : Int)) := ((show F21 7 3 = F20 7 3 from (eF21 7 3).trans (hS21 1 3 rfl))).trans (((((show F20 7 3 = F 7 3 from (eF20 7 3)))).trans (pf9)).trans (congrArg (fun q : Nat => (q : Int)) ((show D21 9 = D 9 from (eD21 9).trans (hD21 7 rfl))).symm))
  have pf21_7_4 : HID (F21 7 4 = (D21 10 : Int)) := ((show F21 7 4 = F20 7 4 from (eF21 7 4).trans (hS21 1 4 rfl))).trans (((((show F20 7 4 = F 7 4 from (eF20 7 4)))).trans (pf10)).trans (congrArg (fun q : Nat => (q : Int)) ((show D21 10 = D 10 from (eD21 10).trans (hD21 8 rfl))).symm))
  have pf21_7_5 : HID (F21 7 5 = (D21 11 : Int)) := ((show F21 7 5 = F20 7 5 from (eF21 7 5).trans (hS21 1 5 rfl))).trans (((((show F20 7 5 = F 7 5 from (eF20 7 5)))).trans (pf11)).trans (congrArg (fun q : Nat => (q : Int)) ((show D21 11 = D 11 from (eD21 11).trans (hD21 9 rfl))).symm))
  have pf21_7_6 : HID (F21 7 6 = (D21 12 : Int)) := ((show F21 7 6 = F20 7 6 from (eF21 7 6).trans (hS21 1 6 rfl))).trans (((((show F20 7 6 = F 7 6 from (eF20 7 6)))).trans (pf12)).trans (congrArg (fun q : Nat => (q : Int)) ((show D21 12 = D 12 from (eD21 12).trans (hD21 10 rfl))).symm))
  have pf21_7_7 : HID (F21 7 7 = (D21 13 : Int)) := ((show F21 7 7 = F20 7 7 from (eF21 7 7).trans (hS21 1 7 rfl))).trans (((((show F20 7 7 = F 7 7 from (eF20 7 7)))).trans (pf13)).trans (congrArg (fun q : Nat => (q : Int)) ((show D21 13 = D 13 from (eD21 13).trans (hD21 11 rfl))).symm))
  have pf21_7_8 : HID (F21 7 8 = (D21 14 : Int)) := ((show F21 7 8 = F20 7 8 from (eF21 7 8).trans (hS21 1 8 rfl))).trans (((((show F20 7 8 = F 7 8 from (eF20 7 8)))).trans (pf14)).trans (congrArg (fun q : Nat => (q : Int)) ((show D21 14 = D 14 from (eD21 14).trans (hD21 12 rfl))).symm))
  have pf21_7_9 : HID (F21 7 9 = (D21 15 : Int)) := ((show F21 7 9 = F20 7 9 from (eF21 7 9).trans (hS21 1 9 rfl))).trans (((((show F20 7 9 = F 7 9 from (eF20 7 9)))).trans (pf15)).trans (congrArg (fun q : Nat => (q : Int)) ((show D21 15 = D 15 from (eD21 15).trans (hD21 13 rfl))).symm))
  have r22 : HID ((0 : Int) ≤ m21_15 ∧ m21_15 ≤ 1000000) := nrng (H.nle 18 (by decide)) (show (N21 18 : Int) = m21_15 from (congrArg (fun q : Nat => (q : Int)) (eN21 18)).trans em21_15)
  have r23 : HID ((-2147483648 : Int) ≤ y21_14_1 ∧ y21_14_1 ≤ 2147483647) := krg_e (show (-2147483648 : Int) ≤ F21 17 1 ∧ F21 17 1 ≤ 2147483647 from H.krg 17 1 (by decide)) (show F21 17 1 = y21_14_1 from ((eF21 17 1).trans ey21_14_1))
  have hcn : CNT ((w20_1)) ((u7_1)) ((u4_4)) ((z21)) := CTN_CNT hct (by (have qg0 := HIDe r3; have qg1 := HIDe r4; omega)) (by rw [hsF.1]; exact hrg) (by (have qg0 := HIDe r3; have qg1 := HIDe r4; omega)) (by (have qg0 := HIDe r3; have qg1 := HIDe r4; omega)) (by (have qg0 := HIDe r3; have qg1 := HIDe r4; omega)) hps (by (have qg0 := HIDe r3; have qg1 := HIDe r4; omega))
  try clear pz21_1
  try clear pz21_2
  refine Ew_stk (show ([I (z21), .ref (D 7), .ref (D 1), .ref (D 0)] : List Value) = [I (z21), .ref (D21 7), .ref (D21 1), .ref (D21 0)] by rw [show D21 0 = D 0 from ((show D21 0 = D 0 from (eD21 0).trans (hD21 0 rfl))), show D21 1 = D 1 from ((show D21 1 = D 1 from (eD21 1))), show D21 7 = D 7 from ((show D21 7 = D 7 from (eD21 7).trans (hD21 1 rfl)))]) ?_
  have r24 : HID ((-2147483648 : Int) ≤ F21 7 0 ∧ F21 7 0 ≤ 2147483647) := krg_e (show (-2147483648 : Int) ≤ F21 7 0 ∧ F21 7 0 ≤ 2147483647 from H.krg 7 0 (by decide)) (show F21 7 0 = F21 7 0 from rfl)
  refine v_inv H (o := 0) rfl rfl rfl rfl rfl rfl (by rfl) (C148_Row_Share (D := pul [0, 1, 7, 4, 2, 8, 16] D21) (N := pul [0, 1, 7, 4, 2, 8, 16] N21) (HW_sub H (VS_of (show vsub V154_Row_c21 V148_Row_Share [0, 1, 7, 4, 2, 8, 16] = true by decide +kernel))) (pf21_0_1) (pf21_0_12) (pf21_7_2) (pf21_1_0) (n2) ((congrArg (fun q : Nat => (q : Int)) (show N21 2 = N 2 from (eN21 2).trans (hN21 2 rfl))).trans (en2)) (n8) ((congrArg (fun q : Nat => (q : Int)) (show N21 8 = N 8 from (eN21 8).trans (hN21 6 rfl))).trans (en8)) (n16) ((congrArg (fun q : Nat => (q : Int)) (show N21 16 = N 16 from (eN21 16))).trans (en16)) (u1_1) (((((show F21 1 1 = F20 1 1 from (eF21 1 1))).trans ((show F20 1 1 = F 1 1 from (eF20 1 1)))).trans (eu1_1))) (u1_4) (((((show F21 1 4 = F20 1 4 from (eF21 1 4))).trans ((show F20 1 4 = F 1 4 from (eF20 1 4)))).trans (eu1_4))) (F21 7 0) (rfl) (u7_1) (((((show F21 7 1 = F20 7 1 from (eF21 7 1).trans (hS21 1 1 rfl))).trans ((show F20 7 1 = F 7 1 from (eF20 7 1)))).trans (eu7_1))) (u4_4) (((((show F21 4 4 = F20 4 4 from (eF21 4 4).trans (hS21 4 4 rfl))).trans ((show F20 4 4 = F 4 4 from (eF20 4 4).trans (hS20 3 4 rfl)))).trans (eu4_4))) (w20_1) (((show A21 2 = A20 2 from (eA21 2).trans (funext (hA21 2 rfl)))).trans ((eA20 2).trans ew20_1)) (A21 8) (rfl) (show inr (z21) by omega) (show CNT ((w20_1)) ((u7_1)) ((u4_4)) (z21) by assumption) (show (u7_1) ≤ (n2) ∧ (n8) = (u7_1) by have qh0 := HIDe r10; have qh1 := HIDe r4; have qh2 := HIDe r6; omega) (show 0 ≤ (u1_1) ∧ (u1_1) ≤ (n16) ∧ (n16) ≤ 65536 by have qh0 := HIDe r1; have qh1 := HIDe r18; omega) (show 0 ≤ (u1_4) ∧ (u1_4) ≤ 7 by have qh0 := HIDe r2; omega) (fun σ25 D25ₚ N25ₚ F25ₚ A25ₚ c25 s25 Hₚ Oₚ hD25 hN25 hS25 hA25 pm25_6 m25_6 em25_6 y25_1_1 ey25_1_1 y25_1_4 ey25_1_4 y25_2_0 ey25_2_0 w25_5 ew25_5 pz25_0 pz25_1 pz25_2 pz25_3 pz25_4 pz25_5 => ⟨rfl, ?_⟩))
  replace pm25_6 := HIDm pm25_6
  replace em25_6 := HIDm em25_6
  replace ey25_1_1 := HIDm ey25_1_1
  replace ey25_1_4 := HIDm ey25_1_4
  replace ey25_2_0 := HIDm ey25_2_0
  refine v_backM (c := (c + c21)) (s := (s + s21)) H (show vsub V154_Row_c21 V148_Row_Share [0, 1, 7, 4, 2, 8, 16] = true by decide +kernel) Hₚ Oₚ hD25 (show vmov V154_Row_c21 [0, 1, 7, 4, 2, 8, 16] [6] = true by decide +kernel) (fun D25 N25 F25 A25 H Oₚ eD25 eN25 eF25 eA25 => ?_)
  have O := OUT_trans O Oₚ
  -- Packer.packShare
  have pe25_3_1 : HID (A25 3 1 = (D25 5 : Int)) := (congrFun ((show A25 3 = A21 3 from (eA25 3))) 1).trans ((pe21_3_1).trans (congrArg (fun q : Nat => (q : Int)) ((show D25 5 = D21 5 from (eD25 5))).symm))
  have pe25_6_1 : HID (A25 6 1 = (D25 7 : Int)) := (congrFun ((show A25 6 = A21 6 from (eA25 6))) 1).trans ((pe21_6_1).trans (congrArg (fun q : Nat => (q : Int)) ((show D25 7 = D21 7 from (eD25 7).trans (hD25 2 rfl))).symm))
  have pf25_0_1 : HID (F25 0 1 = (D25 4 : Int)) := ((show F25 0 1 = F21 0 1 from (eF25 0 1).trans (hS25 0 1 rfl))).trans ((pf21_0_1).trans (congrArg (fun q : Nat => (q : Int)) ((show D25 4 = D21 4 from (eD25 4).trans (hD25 3 rfl))).symm))
  have pf25_0_10 : HID (F25 0 10 = (D25 17 : Int)) := ((show F25 0 10 = F21 0 10 from (eF25 0 10).trans (hS25 0 10 rfl))).trans ((pf21_0_10).trans (congrArg (fun q : Nat => (q : Int)) ((show D25 17 = D21 17 from (eD25 17))).symm))
  have pf25_0_12 : HID (F25 0 12 = (D25 2 : Int)) := ((show F25 0 12 = F21 0 12 from (eF25 0 12).trans (hS25 0 12 rfl))).trans ((pf21_0_12).trans (congrArg (fun q : Nat => (q : Int)) ((show D25 2 = D21 2 from (eD25 2).trans (hD25 4 rfl))).symm))
  have pf25_0_13 : HID (F25 0 13 = (D25 3 : Int)) := ((show F25 0 13 = F21 0 13 from (eF25 0 13).trans (hS25 0 13 rfl))).trans ((pf21_0_13).trans (congrArg (fun q : Nat => (q : Int)) ((show D25 3 = D21 3 from (eD25 3))).symm))
  have pf25_0_4 : HID (F25 0 4 = (D25 6 : Int)) := ((show F25 0 4 = F21 0 4 from (eF25 0 4).trans (hS25 0 4 rfl))).trans ((pf21_0_4).trans (congrArg (fun q : Nat => (q : Int)) ((show D25 6 = D21 6 from (eD25 6))).symm))
  have pf25_1_0 : HID (F25 1 0 = (D25 16 : Int)) := (eF25 1 0).trans (pm25_6.trans (congrArg (fun q : Nat => (q : Int)) (eD25 16).symm))
  have pf25_17_0 : HID (F25 17 0 = (D25 18 : Int)) := ((show F25 17 0 = F21 17 0 from (eF25 17 0))).trans ((pf21_17_0).trans (congrArg (fun q : Nat => (q : Int)) ((show D25 18 = D21 18 from (eD25 18))).symm))
  have pf25_7_2 : HID (F25 7 2 = (D25 8 : Int)) := ((show F25 7 2 = F21 7 2 from (eF25 7 2).trans (hS25 2 2 rfl))).trans ((pf21_7_2).trans (congrArg (fun q : Nat => (q : Int)) ((show D25 8 = D21 8 from (eD25 8).trans (hD25 5 rfl))).symm))
  have pf25_7_3 : HID (F25 7 3 = (D25 9 : Int)) := ((show F25 7 3 = F21 7 3 from (eF25 7 3).trans (hS25 2 3 rfl))).trans ((pf21_7_3).trans (congrArg (fun q : Nat => (q : Int)) ((show D25 9 = D21 9 from (eD25 9))).symm))
  have pf25_7_4 : HID (F25 7 4 = (D25 10 : Int)) := ((show F25 7 4 = F21 7 4 from (eF25 7 4).trans (hS25 2 4 rfl))).trans ((pf21_7_4).trans (congrArg (fun q : Nat => (q : Int)) ((show D25 10 = D21 10 from (eD25 10))).symm))
  have pf25_7_5 : HID (F25 7 5 = (D25 11 : Int)) := ((show F25 7 5 = F21 7 5 from (eF25 7 5).trans (hS25 2 5 rfl))).trans ((pf21_7_5).trans (congrArg (fun q : Nat => (q : Int)) ((show D25 11 = D21 11 from (eD25 11))).symm))
  have pf25_7_6 : HID (F25 7 6 = (D25 12 : Int)) := ((show F25 7 6 = F21 7 6 from (eF25 7 6).trans (hS25 2 6 rfl))).trans ((pf21_7_6).trans (congrArg (fun q : Nat => (q : Int)) ((show D25 12 = D21 12 from (eD25 12))).symm))
  have pf25_7_7 : HID (F25 7 7 = (D25 13 : Int)) := ((show F25 7 7 = F21 7 7 from (eF25 7 7).trans (hS25 2 7 rfl))).trans ((pf21_7_7).trans (congrArg (fun q : Nat => (q : Int)) ((show D25 13 = D21 13 from (eD25 13))).symm))
  have pf25_7_8 : HID (F25 7 8 = (D25 14 : Int)) := ((show F25 7 8 = F21 7 8 from (eF25 7 8).trans (hS25 2 8 rfl))).trans ((pf21_7_8).trans (congrArg (fun q : Nat => (q : Int)) ((show D25 14 = D21 14 from (eD25 14))).symm))
  have pf25_7_9 : HID (F25 7 9 = (D25 15 : Int)) := ((show F25 7 9 = F21 7 9 from (eF25 7 9).trans (hS25 2 9 rfl))).trans ((pf21_7_9).trans (congrArg (fun q : Nat => (q : Int)) ((show D25 15 = D21 15 from (eD25 15))).symm))
  have r26 : HID ((0 : Int) ≤ m25_6 ∧ m25_6 ≤ 1000000) := nrng (H.nle 16 (by decide)) (show (N25 16 : Int) = m25_6 from (congrArg (fun q : Nat => (q : Int)) (eN25 16)).trans em25_6)
  have r27 : HID ((-2147483648 : Int) ≤ y25_1_1 ∧ y25_1_1 ≤ 2147483647) := krg_e (show (-2147483648 : Int) ≤ F25 1 1 ∧ F25 1 1 ≤ 2147483647 from H.krg 1 1 (by decide)) (show F25 1 1 = y25_1_1 from ((eF25 1 1).trans ey25_1_1))
  have r28 : HID ((-2147483648 : Int) ≤ y25_1_4 ∧ y25_1_4 ≤ 2147483647) := krg_e (show (-2147483648 : Int) ≤ F25 1 4 ∧ F25 1 4 ≤ 2147483647 from H.krg 1 4 (by decide)) (show F25 1 4 = y25_1_4 from ((eF25 1 4).trans ey25_1_4))
  have r29 : HID ((-2147483648 : Int) ≤ y25_2_0 ∧ y25_2_0 ≤ 2147483647) := krg_e (show (-2147483648 : Int) ≤ F25 7 0 ∧ F25 7 0 ≤ 2147483647 from H.krg 7 0 (by decide)) (show F25 7 0 = y25_2_0 from ((eF25 7 0).trans ey25_2_0))
  exact w_ret rfl (k _ _ _ _ _ _ _ H O (SD_trans (SD_trans (SD_refl) (SD_glu (ι := [0, 7, 2, 3, 4, 5, 8, 9, 10, 11, 12, 13, 14, 15, 17, 18]) hD21 eD21 (by decide +kernel)) (any_subA (lₚ := [18]) rfl)) (SD_glu (ι := [0, 1, 7, 4, 2, 8, 16]) hD25 eD25 (by decide +kernel)) (any_subA (lₚ := [16]) rfl)) (SD_trans (SD_trans (SD_refl) (SD_glu (ι := [0, 7, 2, 3, 4, 5, 8, 9, 10, 11, 12, 13, 14, 15, 17, 18]) hN21 eN21 (by decide +kernel)) (any_subA (lₚ := [18]) rfl)) (SD_glu (ι := [0, 1, 7, 4, 2, 8, 16]) hN25 eN25 (by decide +kernel)) (any_subA (lₚ := [16]) rfl)) (SF_trans (SF_trans (SF_trans (SF_refl) (SF_glu (ι := [0, 2, 3, 4, 5]) hS20 eF20 (by decide +kernel)) (any_sub (lₚ := []) rfl)) (SF_glu (ι := [0, 7, 2, 3, 4, 5, 8, 9, 10, 11, 12, 13, 14, 15, 17, 18]) hS21 eF21 (by decide +kernel)) (any_sub (lₚ := [(0, 15), (7, 0), (17, 0), (17, 1), (17, 2), (17, 3), (17, 4)]) rfl)) (SF_glu (ι := [0, 1, 7, 4, 2, 8, 16]) hS25 eF25 (by decide +kernel)) (any_sub (lₚ := [(1, 0), (1, 1), (1, 2), (1, 3), (1, 4), (7, 0)]) rfl)) (SA_trans (SA_trans (SA_trans (SA_refl) (SA_glu (ι := [0, 2, 3, 4, 5]) hA20 eA20 (by decide +kernel)) (any_subA (lₚ := [2]) rfl)) (SA_glu (ι := [0, 7, 2, 3, 4, 5, 8, 9, 10, 11, 12, 13, 14, 15, 17, 18]) hA21 eA21 (by decide +kernel)) (any_subA (lₚ := [8, 9, 10, 11, 12, 13, 14, 15, 18]) rfl)) (SA_glu (ι := [0, 1, 7, 4, 2, 8, 16]) hA25 eA25 (by decide +kernel)) (any_subA (lₚ := [8, 16]) rfl)) (pf25_1_0) (pf25_17_0) (m25_6) ((congrArg (fun q : Nat => (q : Int)) (eN25 16)).trans em25_6) (m21_15) ((congrArg (fun q : Nat => (q : Int)) (show N25 18 = N21 18 from (eN25 18))).trans ((congrArg (fun q : Nat => (q : Int)) (eN21 18)).trans em21_15)) (y25_1_1) (((eF25 1 1).trans ey25_1_1)) (y25_1_4) (((eF25 1 4).trans ey25_1_4)) (y21_14_1) ((((show F25 17 1 = F21 17 1 from (eF25 17 1))).trans ((eF21 17 1).trans ey21_14_1))) (show 0 ≤ (y25_1_1) ∧ (y25_1_1) ≤ (m25_6) ∧ (m25_6) ≤ 65536 by have qh0 := HIDe r26; have qh1 := HIDe r27; omega) (show 0 ≤ (y25_1_4) ∧ (y25_1_4) ≤ 7 by have qh0 := HIDe r28; omega) (show 0 ≤ (y21_14_1) ∧ (y21_14_1) ≤ (m21_15) ∧ (m21_15) ≤ 65536 by have qh0 := HIDe r22; have qh1 := HIDe r23; omega))
abbrev V154_Row_c22 : vV := [(0, 6, [(4, 0), (4, 0), (4, 0), (4, 0), (4, 0), (4, 0), (4, 0), (4, 0), (4, 0), (4, 0), (4, 0), (4, 0), (4, 0), (4, 0), (4, 0), (0, 0), (0, 0), (4, 0), (4, 0)]), (0, 7, [(4, 0), (0, 0), (1, 0), (0, 0), (0, 0)]), (1, 1, []), (1, 7, []), (0, 5, [(4, 0), (4, 0), (4, 0), (4, 0), (0, 0), (0, 0), (0, 0), (4, 0), (4, 0), (0, 0), (0, 0), (0, 0), (0, 0), (0, 0), (0, 0), (0, 0), (0, 0), (0, 0), (0, 0)]), (1, 1, []), (1, 5, []), (0, 8, [(0, 0), (0, 0), (4, 0), (4, 0), (4, 0), (4, 0), (4, 0), (4, 0), (4, 0), (4, 0), (4, 0), (0, 0), (0, 0)]), (1, 1, []), (1, 1, []), (1, 1, []), (1, 1, []), (1, 1, []), (1, 1, []), (1, 1, []), (1, 1, []), (1, 0, []), (0, 7, [(4, 0), (0, 0), (1, 0), (0, 0), (0, 0)]), (1, 0, [])]
set_option maxHeartbeats 16000000 in
/-- Packer.packOwnShare: this, #1, this.symbolCounts, this.symbols, this.finder, this.symbols.2, this.ownTables, this.ownTables.2, this.ownTables.2.points, this.ownTables.2.masses, this.ownTables.2.mostBits, this.ownTables.2.starts, this.ownTables.2.used, this.ownTables.2.symbolAt, this.ownTables.2.numberAt, this.ownTables.2.placeOf, #1.bytes, this.told, this.told.bytes -/
theorem C154_Row_c22 {σE : rS} {D N : Nat → Nat} {F : hF} {A : hA} {d c s : Nat} {Q : wQ} (H : HW V154_Row_c22 σE D N F A) (HT : STC σE)  (pf2 : F 0 12 = (D 2 : Int)) (pf3 : F 0 13 = (D 3 : Int)) (pf4 : F 0 1 = (D 4 : Int)) (pf5 : A 3 2 = (D 5 : Int)) (pf6 : F 0 4 = (D 6 : Int)) (pf7 : A 6 2 = (D 7 : Int)) (pf8 : F 7 2 = (D 8 : Int)) (pf9 : F 7 3 = (D 9 : Int)) (pf10 : F 7 4 = (D 10 : Int)) (pf11 : F 7 5 = (D 11 : Int)) (pf12 : F 7 6 = (D 12 : Int)) (pf13 : F 7 7 = (D 13 : Int)) (pf14 : F 7 8 = (D 14 : Int)) (pf15 : F 7 9 = (D 15 : Int)) (pf16 : F 1 0 = (D 16 : Int)) (pf17 : F 0 10 = (D 17 : Int)) (pf18 : F 17 0 = (D 18 : Int)) (n2 : Int) (en2 : (N 2 : Int) = n2) (n3 : Int) (en3 : (N 3 : Int) = n3) (n5 : Int) (en5 : (N 5 : Int) = n5) (n6 : Int) (en6 : (N 6 : Int) = n6) (n8 : Int) (en8 : (N 8 : Int) = n8) (n9 : Int) (en9 : (N 9 : Int) = n9) (n10 : Int) (en10 : (N 10 : Int) = n10) (n11 : Int) (en11 : (N 11 : Int) = n11) (n12 : Int) (en12 : (N 12 : Int) = n12) (n13 : Int) (en13 : (N 13 : Int) = n13) (n14 : Int) (en14 : (N 14 : Int) = n14) (n15 : Int) (en15 : (N 15 : Int) = n15) (n16 : Int) (en16 : (N 16 : Int) = n16) (n18 : Int) (en18 : (N 18 : Int) = n18) (u1_1 : Int) (eu1_1 : F 1 1 = u1_1) (u1_4 : Int) (eu1_4 : F 1 4 = u1_4) (u4_4 : Int) (eu4_4 : F 4 4 = u4_4) (u7_1 : Int) (eu7_1 : F 7 1 = u7_1) (u17_1 : Int) (eu17_1 : F 17 1 = u17_1) (w5 : Int → Int) (ew5 : A 5 = w5) (h0 : inr (2)) (h1 : (n2) = 53 ∧ (n3) = 3) (h2 : 1 ≤ (u4_4) ∧ (u4_4) ≤ (n5) ∧ (n5) ≤ 65536) (h3 : RNG ((w5)) ((u4_4)) 53) (h4 : SHZD ((n8)) ((n9)) ((n10)) ((n11)) ((n12)) ((n13)) ((n14)) ((n15)) ((u7_1)) 53 512) (h5 : 0 ≤ (u1_1) ∧ (u1_1) ≤ (n16) ∧ (n16) ≤ 65536) (h6 : 0 ≤ (u1_4) ∧ (u1_4) ≤ 7) (h7 : 0 ≤ (u17_1) ∧ (u17_1) ≤ (n18) ∧ (n18) ≤ 65536) (h8 : (n6) = 3) (k : ∀ (σ : rS) (Dₚ Nₚ : Nat → Nat) (Fₚ : hF) (Aₚ : hA) (cₚ sₚ : Nat), HW V154_Row_c22 σ Dₚ Nₚ Fₚ Aₚ → OUT (V154_Row_c22).length D N σE c s Dₚ Nₚ σ cₚ sₚ → SD [16, 18] D Dₚ → SD [16, 18] N Nₚ → SF [(0, 15), (1, 0), (1, 1), (1, 2), (1, 3), (1, 4), (7, 0), (17, 0), (17, 1), (17, 2), (17, 3), (17, 4)] F Fₚ → SA [2, 8, 9, 10, 11, 12, 13, 14, 15, 16, 18] A Aₚ → Fₚ 1 0 = (Dₚ 16 : Int) → Fₚ 17 0 = (Dₚ 18 : Int) → ∀ m16 : Int, (Nₚ 16 : Int) = m16 → ∀ m18 : Int, (Nₚ 18 : Int) = m18 → ∀ y1_1 : Int, Fₚ 1 1 = y1_1 → ∀ y1_4 : Int, Fₚ 1 4 = y1_4 → ∀ y17_1 : Int, Fₚ 17 1 = y17_1 → (0 ≤ (y1_1) ∧ (y1_1) ≤ (m16) ∧ (m16) ≤ 65536) → (0 ≤ (y1_4) ∧ (y1_4) ≤ 7) → (0 ≤ (y17_1) ∧ (y17_1) ≤ (m18) ∧ (m18) ≤ 65536) → Q none σ cₚ sₚ) : Ew 154 (d + 4) 0 (rargs 0 [.ref (D 0), .ref (D 1), I 2]) [] σE c s Q := by
  have O := OUT_refl (n := (V154_Row_c22).length) (D := D) (N := N) (σ := σE) (c := c) (s := s)
  have HE := H
  have r1 : HID ((-2147483648 : Int) ≤ u1_1 ∧ u1_1 ≤ 2147483647) := krg_e (show (-2147483648 : Int) ≤ F 1 1 ∧ F 1 1 ≤ 2147483647 from H.krg 1 1 (by decide)) (show F 1 1 = u1_1 from (eu1_1))
  have r2 : HID ((-2147483648 : Int) ≤ u1_4 ∧ u1_4 ≤ 2147483647) := krg_e (show (-2147483648 : Int) ≤ F 1 4 ∧ F 1 4 ≤ 2147483647 from H.krg 1 4 (by decide)) (show F 1 4 = u1_4 from (eu1_4))
  have r3 : HID ((-2147483648 : Int) ≤ u4_4 ∧ u4_4 ≤ 2147483647) := krg_e (show (-2147483648 : Int) ≤ F 4 4 ∧ F 4 4 ≤ 2147483647 from H.krg 4 4 (by decide)) (show F 4 4 = u4_4 from (eu4_4))
  have r4 : HID ((-2147483648 : Int) ≤ u7_1 ∧ u7_1 ≤ 2147483647) := krg_e (show (-2147483648 : Int) ≤ F 7 1 ∧ F 7 1 ≤ 2147483647 from H.krg 7 1 (by decide)) (show F 7 1 = u7_1 from (eu7_1))
  have r5 : HID ((-2147483648 : Int) ≤ u17_1 ∧ u17_1 ≤ 2147483647) := krg_e (show (-2147483648 : Int) ≤ F 17 1 ∧ F 17 1 ≤ 2147483647 from H.krg 17 1 (by decide)) (show F 17 1 = u17_1 from (eu17_1))
  replace pf2 := HIDm pf2
  replace pf3 := HIDm pf3
  replace pf4 := HIDm pf4
  replace pf5 := HIDm pf5
  replace pf6 := HIDm pf6
  replace pf7 := HIDm pf7
  replace pf8 := HIDm pf8
  replace pf9 := HIDm pf9
  replace pf10 := HIDm pf10
  replace pf11 := HIDm pf11
  replace pf12 := HIDm pf12
  replace pf13 := HIDm pf13
  replace pf14 := HIDm pf14
  replace pf15 := HIDm pf15
  replace pf16 := HIDm pf16
  replace pf17 := HIDm pf17
  replace pf18 := HIDm pf18
  replace en2 := HIDm en2
  replace en3 := HIDm en3
  replace en5 := HIDm en5
  replace en6 := HIDm en6
  replace en8 := HIDm en8
  replace en9 := HIDm en9
  replace en10 := HIDm en10
  replace en11 := HIDm en11
  replace en12 := HIDm en12
  replace en13 := HIDm en13
  replace en14 := HIDm en14
  replace en15 := HIDm en15
  replace en16 := HIDm en16
  replace en18 := HIDm en18
  replace eu1_1 := HIDm eu1_1
  replace eu1_4 := HIDm eu1_4
  replace eu4_4 := HIDm eu4_4
  replace eu7_1 := HIDm eu7_1
  replace eu17_1 := HIDm eu17_1
  have r6 : HID ((0 : Int) ≤ n2 ∧ n2 ≤ 1000000) := nrng (H.nle 2 (by decide)) (show (N 2 : Int) = n2 from en2)
  have r7 : HID ((0 : Int) ≤ n3 ∧ n3 ≤ 1000000) := nrng (H.nle 3 (by decide)) (show (N 3 : Int) = n3 from en3)
  have r8 : HID ((0 : Int) ≤ n5 ∧ n5 ≤ 1000000) := nrng (H.nle 5 (by decide)) (show (N 5 : Int) = n5 from en5)
  have r9 : HID ((0 : Int) ≤ n6 ∧ n6 ≤ 1000000) := nrng (H.nle 6 (by decide)) (show (N 6 : Int) = n6 from en6)
  have r10 : HID ((0 : Int) ≤ n8 ∧ n8 ≤ 1000000) := nrng (H.nle 8 (by decide)) (show (N 8 : Int) = n8 from en8)
  have r11 : HID ((0 : Int) ≤ n9 ∧ n9 ≤ 1000000) := nrng (H.nle 9 (by decide)) (show (N 9 : Int) = n9 from en9)
  have r12 : HID ((0 : Int) ≤ n10 ∧ n10 ≤ 1000000) := nrng (H.nle 10 (by decide)) (show (N 10 : Int) = n10 from en10)
  have r13 : HID ((0 : Int) ≤ n11 ∧ n11 ≤ 1000000) := nrng (H.nle 11 (by decide)) (show (N 11 : Int) = n11 from en11)
  have r14 : HID ((0 : Int) ≤ n12 ∧ n12 ≤ 1000000) := nrng (H.nle 12 (by decide)) (show (N 12 : Int) = n12 from en12)
  have r15 : HID ((0 : Int) ≤ n13 ∧ n13 ≤ 1000000) := nrng (H.nle 13 (by decide)) (show (N 13 : Int) = n13 from en13)
  have r16 : HID ((0 : Int) ≤ n14 ∧ n14 ≤ 1000000) := nrng (H.nle 14 (by decide)) (show (N 14 : Int) = n14 from en14)
  have r17 : HID ((0 : Int) ≤ n15 ∧ n15 ≤ 1000000) := nrng (H.nle 15 (by decide)) (show (N 15 : Int) = n15 from en15)
  have r18 : HID ((0 : Int) ≤ n16 ∧ n16 ≤ 1000000) := nrng (H.nle 16 (by decide)) (show (N 16 : Int) = n16 from en16)
  have r19 : HID ((0 : Int) ≤ n18 ∧ n18 ≤ 1000000) := nrng (H.nle 18 (by decide)) (show (N 18 : Int) = n18 from en18)
  have hrg : RNG ((w5)) ((u4_4)) 53 := by assumption
  have hszq : SHZD ((n8)) ((n9)) ((n10)) ((n11)) ((n12)) ((n13)) ((n14)) ((n15)) ((u7_1)) 53 512 := by assumption
  unfold SHZD at hszq
  have hsF : (u7_1) = 53 ∧ (n8) = (u7_1) := by (have qg0 := HIDe r10; have qg1 := HIDe r4; omega)
  clear hszq
  refine Ew_of (pcₚ := 1) (fun _ => x_aload_n rfl rfl) ?_
  refine Ew_of (pcₚ := 2) (fun _ => x_iload_n rfl rfl) ?_
  refine v_inv H (o := 0) rfl rfl rfl rfl rfl rfl (by rfl) (C146_c12 (D := pul [0, 2, 3, 4, 5] D) (N := pul [0, 2, 3, 4, 5] N) (HW_sub H (VS_of (show vsub V154_Row_c22 V146_c12 [0, 2, 3, 4, 5] = true by decide +kernel))) (pf2) (pf3) (pf4) (pf5) (n2) (en2) (n3) (en3) (n5) (en5) (u4_4) ((eu4_4)) (A 2) (rfl) (w5) (ew5) (show inr (2) by omega) (show (n2) = 53 ∧ (n3) = 3 by have qh0 := HIDe r6; have qh1 := HIDe r7; omega) (show 0 ≤ (u4_4) ∧ (u4_4) ≤ (n5) ∧ (n5) ≤ 65536 by have qh0 := HIDe r3; have qh1 := HIDe r8; omega) (show RNG ((w5)) ((u4_4)) 53 by assumption) (fun z20 σ20 F20ₚ A20ₚ Hₚ Oₚ hS20 hA20 w20_1 ew20_1 pz20_0 pz20_1 pz20_2 pz20_3 => ⟨rfl, ?_⟩))
  refine v_back (c := c) (s := s) H (show vsub V154_Row_c22 V146_c12 [0, 2, 3, 4, 5] = true by decide +kernel) Hₚ Oₚ (fun F20 A20 H Oₚ eF20 eA20 => ?_)
  have O := OUT_trans O Oₚ
  -- Packer.countSymbols
  have hct : CTN ((w5)) ((w20_1)) ((u4_4)) 53 := pz20_1
  have hps : ((z20) : Int) = su (fun i => pos1 (((w20_1)) i)) 53 := pz20_2
  have hpr := pz20_3
  refine Ew_of (pcₚ := 6) (fun _ => x_istore_n rfl) ?_
  refine Ew_of (pcₚ := 7) (fun _ => x_aload_n rfl (rk_o (rfl) rfl rfl)) ?_
  refine Ew_of (pcₚ := 8) (fun _ => x_aload_n rfl (rk_o (rfl) rfl rfl)) ?_
  refine Ew_of (pcₚ := 9) (fun _ => x_aload_n rfl (rk_o (rfl) rfl rfl)) ?_
  refine v_g H (o := 0) (v := .ref (D 6)) rfl rfl rfl rfl rfl (vrf ((((show F20 0 4 = F 0 4 from (eF20 0 4).trans (hS20 0 4 rfl)))).trans (pf6))) ?_
  refine Ew_of (pcₚ := 13) (fun _ => x_iload_n rfl (rk_o (rfl) rfl rfl)) ?_
  refine v_lR H (o := 6) rfl rfl rfl rfl rfl (n := n6) (en6) (show 0 ≤ 2 ∧ 2 < n6 by have qh0 := HIDe r9; omega) (z := ((D 7 : Nat) : Int)) (v := .ref (D 7)) ((congrFun (((show A20 6 = A 6 from (eA20 6)))) 2).trans (pf7)) (vrf rfl) ?_
  refine Ew_of (pcₚ := 15) (fun _ => x_aload_n rfl (rk_o (rfl) rfl rfl)) ?_
  refine Ew_of (pcₚ := 16) (fun _ => x_aload_n rfl (rk_o (rfl) rfl rfl)) ?_
  refine v_g H (o := 0) (v := .ref (D 6)) rfl rfl rfl rfl rfl (vrf ((((show F20 0 4 = F 0 4 from (eF20 0 4).trans (hS20 0 4 rfl)))).trans (pf6))) ?_
  refine Ew_of (pcₚ := 20) (fun _ => x_iload_n rfl (rk_o (rfl) rfl rfl)) ?_
  refine v_lR H (o := 6) rfl rfl rfl rfl rfl (n := n6) (en6) (show 0 ≤ 2 ∧ 2 < n6 by have qh0 := HIDe r9; omega) (z := ((D 7 : Nat) : Int)) (v := .ref (D 7)) ((congrFun (((show A20 6 = A 6 from (eA20 6)))) 2).trans (pf7)) (vrf rfl) ?_
  refine Ew_of (pcₚ := 22) (fun _ => x_iload_n rfl (rk_o (rfl) rfl rfl)) ?_
  refine Ew_of (pcₚ := 23) (fun _ => x_iload_n rfl rk_s) ?_
  refine Ew_of (pcₚ := 26) (fun _ => x_ldc_w (z := 2147483647) rfl (by decide)) ?_
  refine v_inv H (o := 0) rfl rfl rfl rfl rfl rfl (by rfl) (C149_Share_c22 (D := pul [0, 7, 2, 3, 4, 5, 8, 9, 10, 11, 12, 13, 14, 15, 17, 18] D) (N := pul [0, 7, 2, 3, 4, 5, 8, 9, 10, 11, 12, 13, 14, 15, 17, 18] N) (HW_sub H (VS_of (show vsub V154_Row_c22 V149_Share_c22 [0, 7, 2, 3, 4, 5, 8, 9, 10, 11, 12, 13, 14, 15, 17, 18] = true by decide +kernel))) (STC_out HT HE O) ((((show F20 0 12 = F 0 12 from (eF20 0 12).trans (hS20 0 12 rfl)))).trans (pf2)) ((((show F20 0 13 = F 0 13 from (eF20 0 13).trans (hS20 0 13 rfl)))).trans (pf3)) ((((show F20 0 1 = F 0 1 from (eF20 0 1).trans (hS20 0 1 rfl)))).trans (pf4)) ((congrFun (((show A20 3 = A 3 from (eA20 3).trans (funext (hA20 2 rfl))))) 2).trans (pf5)) ((((show F20 7 2 = F 7 2 from (eF20 7 2)))).trans (pf8)) ((((show F20 7 3 = F 7 3 from (eF20 7 3)))).trans (pf9)) ((((show F20 7 4 = F 7 4 from (eF20 7 4)))).trans (pf10)) ((((show F20 7 5 = F 7 5 from (eF20 7 5)))).trans (pf11)) ((((show F20 7 6 = F 7 6 from (eF20 7 6)))).trans (pf12)) ((((show F20 7 7 = F 7 7 from (eF20 7 7)))).trans (pf13)) ((((show F20 7 8 = F 7 8 from (eF20 7 8)))).trans (pf14)) ((((show F20 7 9 = F 7 9 from (eF20 7 9)))).trans (pf15)) ((((show F20 0 10 = F 0 10 from (eF20 0 10).trans (hS20 0 10 rfl)))).trans (pf17)) ((((show F20 17 0 = F 17 0 from (eF20 17 0)))).trans (pf18)) (n2) (en2) (n3) (en3) (n5) (en5) (n8) (en8) (n9) (en9) (n10) (en10) (n11) (en11) (n12) (en12) (n13) (en13) (n14) (en14) (n15) (en15) (n18) (en18) (u7_1) ((((show F20 7 1 = F 7 1 from (eF20 7 1))).trans (eu7_1))) (u4_4) ((((show F20 4 4 = F 4 4 from (eF20 4 4).trans (hS20 3 4 rfl))).trans (eu4_4))) (u17_1) ((((show F20 17 1 = F 17 1 from (eF20 17 1))).trans (eu17_1))) (w20_1) ((eA20 2).trans ew20_1) (w5) (((show A20 5 = A 5 from (eA20 5).trans (funext (hA20 4 rfl)))).trans (ew5)) (show inr (2) by omega) (show inr (z20) by omega) (show inr (2147483647) by omega) (show (n2) = 53 ∧ (n3) = 3 by have qh0 := HIDe r6; have qh1 := HIDe r7; omega) (show 1 ≤ (u4_4) ∧ (u4_4) ≤ (n5) ∧ (n5) ≤ 65536 by have qh0 := HIDe r3; have qh1 := HIDe r8; omega) (show RNG ((w5)) ((u4_4)) 53 by assumption) (show CTN ((w5)) ((w20_1)) ((u4_4)) 53 by assumption) (show (z20) = su (fun i => pos1 (((w20_1)) i)) 53 by assumption) (show 0 ≤ (z20) ∧ (z20) ≤ 53 by omega) (show SHZD ((n8)) ((n9)) ((n10)) ((n11)) ((n12)) ((n13)) ((n14)) ((n15)) ((u7_1)) 53 512 by assumption) (show 0 ≤ (u17_1) ∧ (u17_1) ≤ (n18) ∧ (n18) ≤ 65536 by have qh0 := HIDe r19; have qh1 := HIDe r5; omega) (fun z21 σ21 D21ₚ N21ₚ F21ₚ A21ₚ c21 s21 Hₚ Oₚ hD21 hN21 hS21 hA21 pm21_15 m21_15 em21_15 y21_14_1 ey21_14_1 pz21_0 pz21_1 pz21_2 pz21_3 => ⟨rfl, ?_⟩))
  replace pm21_15 := HIDm pm21_15
  replace em21_15 := HIDm em21_15
  replace ey21_14_1 := HIDm ey21_14_1
  refine v_backM (c := c) (s := s) H (show vsub V154_Row_c22 V149_Share_c22 [0, 7, 2, 3, 4, 5, 8, 9, 10, 11, 12, 13, 14, 15, 17, 18] = true by decide +kernel) Hₚ Oₚ hD21 (show vmov V154_Row_c22 [0, 7, 2, 3, 4, 5, 8, 9, 10, 11, 12, 13, 14, 15, 17, 18] [15] = true by decide +kernel) (fun D21 N21 F21 A21 H Oₚ eD21 eN21 eF21 eA21 => ?_)
  have O := OUT_trans O Oₚ
  -- Packer.bestOrder
  have pe21_3_2 : HID (A21 3 2 = (D21 5 : Int)) := (congrFun ((show A21 3 = A20 3 from (eA21 3).trans (funext (hA21 3 rfl)))) 2).trans (((congrFun (((show A20 3 = A 3 from (eA20 3).trans (funext (hA20 2 rfl))))) 2).trans (pf5)).trans (congrArg (fun q : Nat => (q : Int)) ((show D21 5 = D 5 from (eD21 5).trans (hD21 5 rfl))).symm))
  have pe21_6_2 : HID (A21 6 2 = (D21 7 : Int)) := (congrFun ((show A21 6 = A20 6 from (eA21 6))) 2).trans (((congrFun (((show A20 6 = A 6 from (eA20 6)))) 2).trans (pf7)).trans (congrArg (fun q : Nat => (q : Int)) ((show D21 7 = D 7 from (eD21 7).trans (hD21 1 rfl))).symm))
  have pf21_0_1 : HID (F21 0 1 = (D21 4 : Int)) := ((show F21 0 1 = F20 0 1 from (eF21 0 1).trans (hS21 0 1 rfl))).trans (((((show F20 0 1 = F 0 1 from (eF20 0 1).trans (hS20 0 1 rfl)))).trans (pf4)).trans (congrArg (fun q : Nat => (q : Int)) ((show D21 4 = D 4 from (eD21 4).trans (hD21 4 rfl))).symm))
  have pf21_0_10 : HID (F21 0 10 = (D21 17 : Int)) := ((show F21 0 10 = F20 0 10 from (eF21 0 10).trans (hS21 0 10 rfl))).trans (((((show F20 0 10 = F 0 10 from (eF20 0 10).trans (hS20 0 10 rfl)))).trans (pf17)).trans (congrArg (fun q : Nat => (q : Int)) ((show D21 17 = D 17 from (eD21 17).trans (hD21 14 rfl))).symm))
  have pf21_0_12 : HID (F21 0 12 = (D21 2 : Int)) := ((show F21 0 12 = F20 0 12 from (eF21 0 12).trans (hS21 0 12 rfl))).trans (((((show F20 0 12 = F 0 12 from (eF20 0 12).trans (hS20 0 12 rfl)))).trans (pf2)).trans (congrArg (fun q : Nat => (q : Int)) ((show D21 2 = D 2 from (eD21 2).trans (hD21 2 rfl))).symm))
  have pf21_0_13 : HID (F21 0 13 = (D21 3 : Int)) := ((show F21 0 13 = F20 0 13 from (eF21 0 13).trans (hS21 0 13 rfl))).trans (((((show F20 0 13 = F 0 13 from (eF20 0 13).trans (hS20 0 13 rfl)))).trans (pf3)).trans (congrArg (fun q : Nat => (q : Int)) ((show D21 3 = D 3 from (eD21 3).trans (hD21 3 rfl))).symm))
  have pf21_0_4 : HID (F21 0 4 = (D21 6 : Int)) := ((show F21 0 4 = F20 0 4 from (eF21 0 4).trans (hS21 0 4 rfl))).trans (((((show F20 0 4 = F 0 4 from (eF20 0 4).trans (hS20 0 4 rfl)))).trans (pf6)).trans (congrArg (fun q : Nat => (q : Int)) ((show D21 6 = D 6 from (eD21 6))).symm))
  have pf21_1_0 : HID (F21 1 0 = (D21 16 : Int)) := ((show F21 1 0 = F20 1 0 from (eF21 1 0))).trans (((((show F20 1 0 = F 1 0 from (eF20 1 0)))).trans (pf16)).trans (congrArg (fun q : Nat => (q : Int)) ((show D21 16 = D 16 from (eD21 16))).symm))
  have pf21_17_0 : HID (F21 17 0 = (D21 18 : Int)) := (eF21 17 0).trans (pm21_15.trans (congrArg (fun q : Nat => (q : Int)) (eD21 18).symm))
  have pf21_7_2 : HID (F21 7 2 = (D21 8 : Int)) := ((show F21 7 2 = F20 7 2 from (eF21 7 2).trans (hS21 1 2 rfl))).trans (((((show F20 7 2 = F 7 2 from (eF20 7 2)))).trans (pf8)).trans (congrArg (fun q : Nat => (q : Int)) ((show D21 8 = D 8 from (eD21 8).trans (hD21 6 rfl))).symm))
  have pf21_7_3 : HID (F21 7 3 = (D21 9 : Int)) := ((show F21 7 3 = F20 7 3 from (eF21 7 3).trans (hS21 1 3 rfl))).trans (((((show F20 7 3 = F 7 3 from (eF20 7 3)))).trans (pf9)).trans (congrArg (fun q : Nat => (q : Int)) ((show D21 9 = D 9 from (eD21 9).trans (hD21 7 rfl))).symm))
  have pf21_7_4 : HID (F21 7 4 = (D21 10 : Int)) := ((show F21 7 4 = F20 7 4 from (eF21 7 4).trans (hS21 1 4 rfl))).trans (((((show F20 7 4 = F 7 4 from (eF20 7 4)))).trans (pf10)).trans (congrArg (fun q : Nat => (q : Int)) ((show D21 10 = D 10 from (eD21 10).trans (hD21 8 rfl))).symm))
  have pf21_7_5 : HID (F21 7 5 = (D21 11 : Int)) := ((show F21 7 5 = F20 7 5 from (eF21 7 5).trans (hS21 1 5 rfl))).trans (((((show F20 7 5 = F 7 5 from (eF20 7 5)))).trans (pf11)).trans (congrArg (fun q : Nat => (q : Int)) ((show D21 11 = D 11 from (eD21 11).trans (hD21 9 rfl))).symm))
  have pf21_7_6 : HID (F21 7 6 = (D21 12 : Int)) := ((show F21 7 6 = F20 7 6 from (eF21 7 6).trans (hS21 1 6 rfl))).trans (((((show F20 7 6 = F 7 6 from (eF20 7 6)))).trans (pf12)).trans (congrArg (fun q : Nat => (q : Int)) ((show D21 12 = D 12 from (eD21 12).trans (hD21 10 rfl))).symm))
  have pf21_7_7 : HID (F21 7 7 = (D21 13 : Int)) := ((show F21 7 7 = F20 7 7 from (eF21 7 7).trans (hS21 1 7 rfl))).trans (((((show F20 7 7 = F 7 7 from (eF20 7 7)))).trans (pf13)).trans (congrArg (fun q : Nat => (q : Int)) ((show D21 13 = D 13 from (eD21 13).trans (hD21 11 rfl))).symm))
  have pf21_7_8 : HID (F21 7 8 = (D21 14 : Int)) := ((show F21 7 8 = F20 7 8 from (eF21 7 8).trans (hS21 1 8 rfl))).trans (((((show F20 7 8 = F 7 8 from (eF20 7 8)))).trans (pf14)).trans (congrArg (fun q : Nat => (q : Int)) ((show D21 14 = D 14 from (eD21 14).trans (hD21 12 rfl))).symm))
  have pf21_7_9 : HID (F21 7 9 = (D21 15 : Int)) := ((show F21 7 9 = F20 7 9 from (eF21 7 9).trans (hS21 1 9 rfl))).trans (((((show F20 7 9 = F 7 9 from (eF20 7 9)))).trans (pf15)).trans (congrArg (fun q : Nat => (q : Int)) ((show D21 15 = D 15 from (eD21 15).trans (hD21 13 rfl))).symm))
  have r22 : HID ((0 : Int) ≤ m21_15 ∧ m21_15 ≤ 1000000) := nrng (H.nle 18 (by decide)) (show (N21 18 : Int) = m21_15 from (congrArg (fun q : Nat => (q : Int)) (eN21 18)).trans em21_15)
  have r23 : HID ((-2147483648 : Int) ≤ y21_14_1 ∧ y21_14_1 ≤ 2147483647) := krg_e (show (-2147483648 : Int) ≤ F21 17 1 ∧ F21 17 1 ≤ 2147483647 from H.krg 17 1 (by decide)) (show F21 17 1 = y21_14_1 from ((eF21 17 1).trans ey21_14_1))
  have hcn : CNT ((w20_1)) ((u7_1)) ((u4_4)) ((z21)) := CTN_CNT hct (by (have qg0 := HIDe r3; have qg1 := HIDe r4; omega)) (by rw [hsF.1]; exact hrg) (by (have qg0 := HIDe r3; have qg1 := HIDe r4; omega)) (by (have qg0 := HIDe r3; have qg1 := HIDe r4; omega)) (by (have qg0 := HIDe r3; have qg1 := HIDe r4; omega)) hps (by (have qg0 := HIDe r3; have qg1 := HIDe r4; omega))
  try clear pz21_1
  try clear pz21_2
  refine Ew_stk (show ([I (z21), .ref (D 7), .ref (D 1), .ref (D 0)] : List Value) = [I (z21), .ref (D21 7), .ref (D21 1), .ref (D21 0)] by rw [show D21 0 = D 0 from ((show D21 0 = D 0 from (eD21 0).trans (hD21 0 rfl))), show D21 1 = D 1 from ((show D21 1 = D 1 from (eD21 1))), show D21 7 = D 7 from ((show D21 7 = D 7 from (eD21 7).trans (hD21 1 rfl)))]) ?_
  have r24 : HID ((-2147483648 : Int) ≤ F21 7 0 ∧ F21 7 0 ≤ 2147483647) := krg_e (show (-2147483648 : Int) ≤ F21 7 0 ∧ F21 7 0 ≤ 2147483647 from H.krg 7 0 (by decide)) (show F21 7 0 = F21 7 0 from rfl)
  refine v_inv H (o := 0) rfl rfl rfl rfl rfl rfl (by rfl) (C148_Row_Share (D := pul [0, 1, 7, 4, 2, 8, 16] D21) (N := pul [0, 1, 7, 4, 2, 8, 16] N21) (HW_sub H (VS_of (show vsub V154_Row_c22 V148_Row_Share [0, 1, 7, 4, 2, 8, 16] = true by decide +kernel))) (pf21_0_1) (pf21_0_12) (pf21_7_2) (pf21_1_0) (n2) ((congrArg (fun q : Nat => (q : Int)) (show N21 2 = N 2 from (eN21 2).trans (hN21 2 rfl))).trans (en2)) (n8) ((congrArg (fun q : Nat => (q : Int)) (show N21 8 = N 8 from (eN21 8).trans (hN21 6 rfl))).trans (en8)) (n16) ((congrArg (fun q : Nat => (q : Int)) (show N21 16 = N 16 from (eN21 16))).trans (en16)) (u1_1) (((((show F21 1 1 = F20 1 1 from (eF21 1 1))).trans ((show F20 1 1 = F 1 1 from (eF20 1 1)))).trans (eu1_1))) (u1_4) (((((show F21 1 4 = F20 1 4 from (eF21 1 4))).trans ((show F20 1 4 = F 1 4 from (eF20 1 4)))).trans (eu1_4))) (F21 7 0) (rfl) (u7_1) (((((show F21 7 1 = F20 7 1 from (eF21 7 1).trans (hS21 1 1 rfl))).trans ((show F20 7 1 = F 7 1 from (eF20 7 1)))).trans (eu7_1))) (u4_4) (((((show F21 4 4 = F20 4 4 from (eF21 4 4).trans (hS21 4 4 rfl))).trans ((show F20 4 4 = F 4 4 from (eF20 4 4).trans (hS20 3 4 rfl)))).trans (eu4_4))) (w20_1) (((show A21 2 = A20 2 from (eA21 2).trans (funext (hA21 2 rfl)))).trans ((eA20 2).trans ew20_1)) (A21 8) (rfl) (show inr (z21) by omega) (show CNT ((w20_1)) ((u7_1)) ((u4_4)) (z21) by assumption) (show (u7_1) ≤ (n2) ∧ (n8) = (u7_1) by have qh0 := HIDe r10; have qh1 := HIDe r4; have qh2 := HIDe r6; omega) (show 0 ≤ (u1_1) ∧ (u1_1) ≤ (n16) ∧ (n16) ≤ 65536 by have qh0 := HIDe r1; have qh1 := HIDe r18; omega) (show 0 ≤ (u1_4) ∧ (u1_4) ≤ 7 by have qh0 := HIDe r2; omega) (fun σ25 D25ₚ N25ₚ F25ₚ A25ₚ c25 s25 Hₚ Oₚ hD25 hN25 hS25 hA25 pm25_6 m25_6 em25_6 y25_1_1 ey25_1_1 y25_1_4 ey25_1_4 y25_2_0 ey25_2_0 w25_5 ew25_5 pz25_0 pz25_1 pz25_2 pz25_3 pz25_4 pz25_5 => ⟨rfl, ?_⟩))
  replace pm25_6 := HIDm pm25_6
  replace em25_6 := HIDm em25_6
  replace ey25_1_1 := HIDm ey25_1_1
  replace ey25_1_4 := HIDm ey25_1_4
  replace ey25_2_0 := HIDm ey25_2_0
  refine v_backM (c := (c + c21)) (s := (s + s21)) H (show vsub V154_Row_c22 V148_Row_Share [0, 1, 7, 4, 2, 8, 16] = true by decide +kernel) Hₚ Oₚ hD25 (show vmov V154_Row_c22 [0, 1, 7, 4, 2, 8, 16] [6] = true by decide +kernel) (fun D25 N25 F25 A25 H Oₚ eD25 eN25 eF25 eA25 => ?_)
  have O := OUT_trans O Oₚ
  -- Packer.packShare
  have pe25_3_2 : HID (A25 3 2 = (D25 5 : Int)) := (congrFun ((show A25 3 = A21 3 from (eA25 3))) 2).trans ((pe21_3_2).trans (congrArg (fun q : Nat => (q : Int)) ((show D25 5 = D21 5 from (eD25 5))).symm))
  have pe25_6_2 : HID (A25 6 2 = (D25 7 : Int)) := (congrFun ((show A25 6 = A21 6 from (eA25 6))) 2).trans ((pe21_6_2).trans (congrArg (fun q : Nat => (q : Int)) ((show D25 7 = D21 7 from (eD25 7).trans (hD25 2 rfl))).symm))
  have pf25_0_1 : HID (F25 0 1 = (D25 4 : Int)) := ((show F25 0 1 = F21 0 1 from (eF25 0 1).trans (hS25 0 1 rfl))).trans ((pf21_0_1).trans (congrArg (fun q : Nat => (q : Int)) ((show D25 4 = D21 4 from (eD25 4).trans (hD25 3 rfl))).symm))
  have pf25_0_10 : HID (F25 0 10 = (D25 17 : Int)) := ((show F25 0 10 = F21 0 10 from (eF25 0 10).trans (hS25 0 10 rfl))).trans ((pf21_0_10).trans (congrArg (fun q : Nat => (q : Int)) ((show D25 17 = D21 17 from (eD25 17))).symm))
  have pf25_0_12 : HID (F25 0 12 = (D25 2 : Int)) := ((show F25 0 12 = F21 0 12 from (eF25 0 12).trans (hS25 0 12 rfl))).trans ((pf21_0_12).trans (congrArg (fun q : Nat => (q : Int)) ((show D25 2 = D21 2 from (eD25 2).trans (hD25 4 rfl))).symm))
  have pf25_0_13 : HID (F25 0 13 = (D25 3 : Int)) := ((show F25 0 13 = F21 0 13 from (eF25 0 13).trans (hS25 0 13 rfl))).trans ((pf21_0_13).trans (congrArg (fun q : Nat => (q : Int)) ((show D25 3 = D21 3 from (eD25 3))).symm))
  have pf25_0_4 : HID (F25 0 4 = (D25 6 : Int)) := ((show F25 0 4 = F21 0 4 from (eF25 0 4).trans (hS25 0 4 rfl))).trans ((pf21_0_4).trans (congrArg (fun q : Nat => (q : Int)) ((show D25 6 = D21 6 from (eD25 6))).symm))
  have pf25_1_0 : HID (F25 1 0 = (D25 16 : Int)) := (eF25 1 0).trans (pm25_6.trans (congrArg (fun q : Nat => (q : Int)) (eD25 16).symm))
  have pf25_17_0 : HID (F25 17 0 = (D25 18 : Int)) := ((show F25 17 0 = F21 17 0 from (eF25 17 0))).trans ((pf21_17_0).trans (congrArg (fun q : Nat => (q : Int)) ((show D25 18 = D21 18 from (eD25 18))).symm))
  have pf25_7_2 : HID (F25 7 2 = (D25 8 : Int)) := ((show F25 7 2 = F21 7 2 from (eF25 7 2).trans (hS25 2 2 rfl))).trans ((pf21_7_2).trans (congrArg (fun q : Nat => (q : Int)) ((show D25 8 = D21 8 from (eD25 8).trans (hD25 5 rfl))).symm))
  have pf25_7_3 : HID (F25 7 3 = (D25 9 : Int)) := ((show F25 7 3 = F21 7 3 from (eF25 7 3).trans (hS25 2 3 rfl))).trans ((pf21_7_3).trans (congrArg (fun q : Nat => (q : Int)) ((show D25 9 = D21 9 from (eD25 9))).symm))
  have pf25_7_4 : HID (F25 7 4 = (D25 10 : Int)) := ((show F25 7 4 = F21 7 4 from (eF25 7 4).trans (hS25 2 4 rfl))).trans ((pf21_7_4).trans (congrArg (fun q : Nat => (q : Int)) ((show D25 10 = D21 10 from (eD25 10))).symm))
  have pf25_7_5 : HID (F25 7 5 = (D25 11 : Int)) := ((show F25 7 5 = F21 7 5 from (eF25 7 5).trans (hS25 2 5 rfl))).trans ((pf21_7_5).trans (congrArg (fun q : Nat => (q : Int)) ((show D25 11 = D21 11 from (eD25 11))).symm))
  have pf25_7_6 : HID (F25 7 6 = (D25 12 : Int)) := ((show F25 7 6 = F21 7 6 from (eF25 7 6).trans (hS25 2 6 rfl))).trans ((pf21_7_6).trans (congrArg (fun q : Nat => (q : Int)) ((show D25 12 = D21 12 from (eD25 12))).symm))
  have pf25_7_7 : HID (F25 7 7 = (D25 13 : Int)) := ((show F25 7 7 = F21 7 7 from (eF25 7 7).trans (hS25 2 7 rfl))).trans ((pf21_7_7).trans (congrArg (fun q : Nat => (q : Int)) ((show D25 13 = D21 13 from (eD25 13))).symm))
  have pf25_7_8 : HID (F25 7 8 = (D25 14 : Int)) := ((show F25 7 8 = F21 7 8 from (eF25 7 8).trans (hS25 2 8 rfl))).trans ((pf21_7_8).trans (congrArg (fun q : Nat => (q : Int)) ((show D25 14 = D21 14 from (eD25 14))).symm))
  have pf25_7_9 : HID (F25 7 9 = (D25 15 : Int)) := ((show F25 7 9 = F21 7 9 from (eF25 7 9).trans (hS25 2 9 rfl))).trans ((pf21_7_9).trans (congrArg (fun q : Nat => (q : Int)) ((show D25 15 = D21 15 from (eD25 15))).symm))
  have r26 : HID ((0 : Int) ≤ m25_6 ∧ m25_6 ≤ 1000000) := nrng (H.nle 16 (by decide)) (show (N25 16 : Int) = m25_6 from (congrArg (fun q : Nat => (q : Int)) (eN25 16)).trans em25_6)
  have r27 : HID ((-2147483648 : Int) ≤ y25_1_1 ∧ y25_1_1 ≤ 2147483647) := krg_e (show (-2147483648 : Int) ≤ F25 1 1 ∧ F25 1 1 ≤ 2147483647 from H.krg 1 1 (by decide)) (show F25 1 1 = y25_1_1 from ((eF25 1 1).trans ey25_1_1))
  have r28 : HID ((-2147483648 : Int) ≤ y25_1_4 ∧ y25_1_4 ≤ 2147483647) := krg_e (show (-2147483648 : Int) ≤ F25 1 4 ∧ F25 1 4 ≤ 2147483647 from H.krg 1 4 (by decide)) (show F25 1 4 = y25_1_4 from ((eF25 1 4).trans ey25_1_4))
  have r29 : HID ((-2147483648 : Int) ≤ y25_2_0 ∧ y25_2_0 ≤ 2147483647) := krg_e (show (-2147483648 : Int) ≤ F25 7 0 ∧ F25 7 0 ≤ 2147483647 from H.krg 7 0 (by decide)) (show F25 7 0 = y25_2_0 from ((eF25 7 0).trans ey25_2_0))
  exact w_ret rfl (k _ _ _ _ _ _ _ H O (SD_trans (SD_trans (SD_refl) (SD_glu (ι := [0, 7, 2, 3, 4, 5, 8, 9, 10, 11, 12, 13, 14, 15, 17, 18]) hD21 eD21 (by decide +kernel)) (any_subA (lₚ := [18]) rfl)) (SD_glu (ι := [0, 1, 7, 4, 2, 8, 16]) hD25 eD25 (by decide +kernel)) (any_subA (lₚ := [16]) rfl)) (SD_trans (SD_trans (SD_refl) (SD_glu (ι := [0, 7, 2, 3, 4, 5, 8, 9, 10, 11, 12, 13, 14, 15, 17, 18]) hN21 eN21 (by decide +kernel)) (any_subA (lₚ := [18]) rfl)) (SD_glu (ι := [0, 1, 7, 4, 2, 8, 16]) hN25 eN25 (by decide +kernel)) (any_subA (lₚ := [16]) rfl)) (SF_trans (SF_trans (SF_trans (SF_refl) (SF_glu (ι := [0, 2, 3, 4, 5]) hS20 eF20 (by decide +kernel)) (any_sub (lₚ := []) rfl)) (SF_glu (ι := [0, 7, 2, 3, 4, 5, 8, 9, 10, 11, 12, 13, 14, 15, 17, 18]) hS21 eF21 (by decide +kernel)) (any_sub (lₚ := [(0, 15), (7, 0), (17, 0), (17, 1), (17, 2), (17, 3), (17, 4)]) rfl)) (SF_glu (ι := [0, 1, 7, 4, 2, 8, 16]) hS25 eF25 (by decide +kernel)) (any_sub (lₚ := [(1, 0), (1, 1), (1, 2), (1, 3), (1, 4), (7, 0)]) rfl)) (SA_trans (SA_trans (SA_trans (SA_refl) (SA_glu (ι := [0, 2, 3, 4, 5]) hA20 eA20 (by decide +kernel)) (any_subA (lₚ := [2]) rfl)) (SA_glu (ι := [0, 7, 2, 3, 4, 5, 8, 9, 10, 11, 12, 13, 14, 15, 17, 18]) hA21 eA21 (by decide +kernel)) (any_subA (lₚ := [8, 9, 10, 11, 12, 13, 14, 15, 18]) rfl)) (SA_glu (ι := [0, 1, 7, 4, 2, 8, 16]) hA25 eA25 (by decide +kernel)) (any_subA (lₚ := [8, 16]) rfl)) (pf25_1_0) (pf25_17_0) (m25_6) ((congrArg (fun q : Nat => (q : Int)) (eN25 16)).trans em25_6) (m21_15) ((congrArg (fun q : Nat => (q : Int)) (show N25 18 = N21 18 from (eN25 18))).trans ((congrArg (fun q : Nat => (q : Int)) (eN21 18)).trans em21_15)) (y25_1_1) (((eF25 1 1).trans ey25_1_1)) (y25_1_4) (((eF25 1 4).trans ey25_1_4)) (y21_14_1) ((((show F25 17 1 = F21 17 1 from (eF25 17 1))).trans ((eF21 17 1).trans ey21_14_1))) (show 0 ≤ (y25_1_1) ∧ (y25_1_1) ≤ (m25_6) ∧ (m25_6) ≤ 65536 by have qh0 := HIDe r26; have qh1 := HIDe r27; omega) (show 0 ≤ (y25_1_4) ∧ (y25_1_4) ≤ 7 by have qh0 := HIDe r28; omega) (show 0 ≤ (y21_14_1) ∧ (y21_14_1) ≤ (m21_15) ∧ (m21_15) ≤ 65536 by have qh0 := HIDe r22; have qh1 := HIDe r23; omega))
