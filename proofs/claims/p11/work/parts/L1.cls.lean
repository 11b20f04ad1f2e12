abbrev V139 : vV := [(0, 6, [(4, 0), (4, 0), (4, 0), (4, 0), (4, 0), (4, 0), (4, 0), (4, 0), (4, 0), (4, 0), (4, 0), (4, 0), (4, 0), (4, 0), (4, 0), (0, 0), (0, 0), (4, 0), (4, 0)]), (0, 5, [(4, 0), (4, 0), (4, 0), (4, 0), (0, 0), (0, 0), (0, 0), (4, 0), (4, 0), (0, 0), (0, 0), (0, 0), (0, 0), (0, 0), (0, 0), (0, 0), (0, 0), (0, 0), (0, 0)]), (0, 7, [(4, 0), (0, 0), (1, 0), (0, 0), (0, 0)]), (1, 0, []), (1, 1, []), (1, 1, []), (1, 1, []), (1, 1, []), (1, 1, []), (1, 1, []), (0, 7, [(4, 0), (0, 0), (1, 0), (0, 0), (0, 0)]), (1, 0, []), (1, 1, [])]
set_option maxHeartbeats 16000000 in
/-- Packer.findSequences: this, this.finder, this.finder.data, this.finder.data.bytes, this.finder.back, this.finder.heads, this.finder.literals, this.finder.lengths, this.finder.distances, this.settings, this.literals, this.literals.bytes, this.byteCounts -/
theorem C139 {σE : rS} {D N : Nat → Nat} {F : hF} {A : hA} {d c s : Nat} {Q : wQ} (H : HW V139 σE D N F A) {a1 a2 : Int} (pf1 : F 0 1 = (D 1 : Int)) (pf2 : F 1 0 = (D 2 : Int)) (pf3 : F 2 0 = (D 3 : Int)) (pf4 : F 1 8 = (D 4 : Int)) (pf5 : F 1 7 = (D 5 : Int)) (pf6 : F 1 1 = (D 6 : Int)) (pf7 : F 1 2 = (D 7 : Int)) (pf8 : F 1 3 = (D 8 : Int)) (pf9 : F 0 0 = (D 9 : Int)) (pf10 : F 0 9 = (D 10 : Int)) (pf11 : F 10 0 = (D 11 : Int)) (pf12 : F 0 11 = (D 12 : Int)) (n3 : Int) (en3 : (N 3 : Int) = n3) (n4 : Int) (en4 : (N 4 : Int) = n4) (n5 : Int) (en5 : (N 5 : Int) = n5) (n6 : Int) (en6 : (N 6 : Int) = n6) (n7 : Int) (en7 : (N 7 : Int) = n7) (n8 : Int) (en8 : (N 8 : Int) = n8) (n9 : Int) (en9 : (N 9 : Int) = n9) (n11 : Int) (en11 : (N 11 : Int) = n11) (n12 : Int) (en12 : (N 12 : Int) = n12) (u1_4 : Int) (eu1_4 : F 1 4 = u1_4) (u1_6 : Int) (eu1_6 : F 1 6 = u1_6) (u1_10 : Int) (eu1_10 : F 1 10 = u1_10) (u2_1 : Int) (eu2_1 : F 2 1 = u2_1) (u10_1 : Int) (eu10_1 : F 10 1 = u10_1) (w3 : Int → Int) (ew3 : A 3 = w3) (w4 : Int → Int) (ew4 : A 4 = w4) (w5 : Int → Int) (ew5 : A 5 = w5) (w8 : Int → Int) (ew8 : A 8 = w8) (w9 : Int → Int) (ew9 : A 9 = w9) (w11 : Int → Int) (ew11 : A 11 = w11) (w12 : Int → Int) (ew12 : A 12 = w12) (h0 : inr (a1)) (h1 : inr (a2)) (h2 : 0 ≤ (u2_1) ∧ (u2_1) ≤ (n3) ∧ (n3) ≤ 65536 ∧ (u2_1) ≤ 16384) (h3 : 1 ≤ (u1_10) ∧ (u1_10) ≤ 8) (h4 : BKI ((w3)) ((w4)) ((u1_10)) ((u1_6))) (h5 : HDI ((w3)) ((w5)) ((u1_10)) ((u1_6))) (h6 : (n5) = 2048) (h7 : 0 ≤ (u1_6) ∧ (u1_6) ≤ (n4) ∧ (n4) ≤ 16384) (h8 : (n6) = (n7) ∧ (n8) = (n7) ∧ (n7) ≤ 65536 ∧ ((n7) = 0 ∨ 64 ≤ (n7)) ∧ lgq ((n7)) = 0) (h9 : (u1_10) = ((w9)) 1) (h10 : 0 ≤ (a1) ∧ (a1) ≤ (a2) ∧ (a2) ≤ (u2_1)) (h11 : (n9) = 10) (h12 : 0 ≤ (u10_1) ∧ (u10_1) ≤ (n11) ∧ (n11) ≤ 65536) (h13 : (n12) = 256) (k : ∀ (σ : rS) (Dₚ Nₚ : Nat → Nat) (Fₚ : hF) (Aₚ : hA) (cₚ sₚ : Nat), HW V139 σ Dₚ Nₚ Fₚ Aₚ → OUT (V139).length D N σE c s Dₚ Nₚ σ cₚ sₚ → SD [4, 6, 7, 8, 11] D Dₚ → SD [4, 6, 7, 8, 11] N Nₚ → SF [(1, 1), (1, 2), (1, 3), (1, 4), (1, 5), (1, 6), (1, 8), (1, 12), (1, 13), (1, 14), (1, 15), (1, 16), (1, 17), (1, 18), (10, 0), (10, 1), (10, 2), (10, 3), (10, 4)] F Fₚ → SA [4, 5, 6, 7, 8, 11, 12] A Aₚ → Fₚ 1 8 = (Dₚ 4 : Int) → Fₚ 1 1 = (Dₚ 6 : Int) → Fₚ 1 2 = (Dₚ 7 : Int) → Fₚ 1 3 = (Dₚ 8 : Int) → Fₚ 10 0 = (Dₚ 11 : Int) → ∀ m4 : Int, (Nₚ 4 : Int) = m4 → ∀ m6 : Int, (Nₚ 6 : Int) = m6 → ∀ m7 : Int, (Nₚ 7 : Int) = m7 → ∀ m8 : Int, (Nₚ 8 : Int) = m8 → ∀ m11 : Int, (Nₚ 11 : Int) = m11 → ∀ y1_4 : Int, Fₚ 1 4 = y1_4 → ∀ y1_6 : Int, Fₚ 1 6 = y1_6 → ∀ y10_1 : Int, Fₚ 10 1 = y10_1 → ∀ v4 : Int → Int, Aₚ 4 = v4 → ∀ v5 : Int → Int, Aₚ 5 = v5 → ∀ v8 : Int → Int, Aₚ 8 = v8 → ∀ v11 : Int → Int, Aₚ 11 = v11 → ∀ v12 : Int → Int, Aₚ 12 = v12 → (0 ≤ (y1_6) ∧ (u1_6) ≤ (y1_6) ∧ (y1_6) ≤ (m4) ∧ (m4) ≤ 16384) → ((m6) = (m7) ∧ (m8) = (m7) ∧ (m7) ≤ 65536 ∧ ((m7) = 0 ∨ 64 ≤ (m7)) ∧ lgq ((m7)) = 0) → (BKI ((w3)) ((v4)) ((u1_10)) ((y1_6))) → (HDI ((w3)) ((v5)) ((u1_10)) ((y1_6))) → (0 ≤ (y1_4) ∧ (y1_4) ≤ (m7) ∧ (y1_4) ≤ (a2) - (a1)) → (DSI ((v8)) ((y1_4))) → (0 ≤ (y10_1) ∧ (y10_1) ≤ (m11) ∧ (m11) ≤ 65536) → (CTN (ub ((v11))) ((v12)) ((y10_1)) 256) → Q none σ cₚ sₚ) : Ew 139 (d + 4) 0 (rargs 0 [.ref (D 0), I a1, I a2]) [] σE c s Q := by
  have O := OUT_refl (n := (V139).length) (D := D) (N := N) (σ := σE) (c := c) (s := s)
  have HE := H
  have r1 : HID ((-2147483648 : Int) ≤ u1_4 ∧ u1_4 ≤ 2147483647) := krg_e (show (-2147483648 : Int) ≤ F 1 4 ∧ F 1 4 ≤ 2147483647 from H.krg 1 4 (by decide)) (show F 1 4 = u1_4 from (eu1_4))
  have r2 : HID ((-2147483648 : Int) ≤ u1_6 ∧ u1_6 ≤ 2147483647) := krg_e (show (-2147483648 : Int) ≤ F 1 6 ∧ F 1 6 ≤ 2147483647 from H.krg 1 6 (by decide)) (show F 1 6 = u1_6 from (eu1_6))
  have r3 : HID ((-2147483648 : Int) ≤ u1_10 ∧ u1_10 ≤ 2147483647) := krg_e (show (-2147483648 : Int) ≤ F 1 10 ∧ F 1 10 ≤ 2147483647 from H.krg 1 10 (by decide)) (show F 1 10 = u1_10 from (eu1_10))
  have r4 : HID ((-2147483648 : Int) ≤ u2_1 ∧ u2_1 ≤ 2147483647) := krg_e (show (-2147483648 : Int) ≤ F 2 1 ∧ F 2 1 ≤ 2147483647 from H.krg 2 1 (by decide)) (show F 2 1 = u2_1 from (eu2_1))
  have r5 : HID ((-2147483648 : Int) ≤ u10_1 ∧ u10_1 ≤ 2147483647) := krg_e (show (-2147483648 : Int) ≤ F 10 1 ∧ F 10 1 ≤ 2147483647 from H.krg 10 1 (by decide)) (show F 10 1 = u10_1 from (eu10_1))
  replace pf1 := HIDm pf1
  replace pf2 := HIDm pf2
  replace pf3 := HIDm pf3
  replace pf4 := HIDm pf4
  replace pf5 := HIDm pf5
  replace pf6 := HIDm pf6
  replace pf7 := HIDm pf7
  replace pf8 := HIDm pf8
  replace pf9 := HIDm pf9
  replace pf10 := HIDm pf10
  replace pf11 := HIDm pf11
  replace pf12 := HIDm pf12
  replace en3 := HIDm en3
  replace en4 := HIDm en4
  replace en5 := HIDm en5
  replace en6 := HIDm en6
  replace en7 := HIDm en7
  replace en8 := HIDm en8
  replace en9 := HIDm en9
  replace en11 := HIDm en11
  replace en12 := HIDm en12
  replace eu1_4 := HIDm eu1_4
  replace eu1_6 := HIDm eu1_6
  replace eu1_10 := HIDm eu1_10
  replace eu2_1 := HIDm eu2_1
  replace eu10_1 := HIDm eu10_1
  have r6 : HID ((0 : Int) ≤ n3 ∧ n3 ≤ 1000000) := nrng (H.nle 3 (by decide)) (show (N 3 : Int) = n3 from en3)
  have r7 : HID ((0 : Int) ≤ n4 ∧ n4 ≤ 1000000) := nrng (H.nle 4 (by decide)) (show (N 4 : Int) = n4 from en4)
  have r8 : HID ((0 : Int) ≤ n5 ∧ n5 ≤ 1000000) := nrng (H.nle 5 (by decide)) (show (N 5 : Int) = n5 from en5)
  have r9 : HID ((0 : Int) ≤ n6 ∧ n6 ≤ 1000000) := nrng (H.nle 6 (by decide)) (show (N 6 : Int) = n6 from en6)
  have r10 : HID ((0 : Int) ≤ n7 ∧ n7 ≤ 1000000) := nrng (H.nle 7 (by decide)) (show (N 7 : Int) = n7 from en7)
  have r11 : HID ((0 : Int) ≤ n8 ∧ n8 ≤ 1000000) := nrng (H.nle 8 (by decide)) (show (N 8 : Int) = n8 from en8)
  have r12 : HID ((0 : Int) ≤ n9 ∧ n9 ≤ 1000000) := nrng (H.nle 9 (by decide)) (show (N 9 : Int) = n9 from en9)
  have r13 : HID ((0 : Int) ≤ n11 ∧ n11 ≤ 1000000) := nrng (H.nle 11 (by decide)) (show (N 11 : Int) = n11 from en11)
  have r14 : HID ((0 : Int) ≤ n12 ∧ n12 ≤ 1000000) := nrng (H.nle 12 (by decide)) (show (N 12 : Int) = n12 from en12)
  refine Ew_of (pcₚ := 1) (fun _ => x_aload_n rfl rfl) ?_
  refine v_g H (o := 0) (v := .ref (D 1)) rfl rfl rfl rfl rfl (vrf (pf1)) ?_
  refine Ew_of (pcₚ := 5) (fun _ => x_iload_n rfl rfl) ?_
  refine v_inv H (o := 1) rfl rfl rfl rfl rfl rfl (by rfl) (C123 (D := pul [1, 2, 3, 4, 5] D) (N := pul [1, 2, 3, 4, 5] N) (HW_sub H (VS_of (show vsub V139 V123 [1, 2, 3, 4, 5] = true by decide +kernel))) (pf2) (pf3) (pf4) (pf5) (n3) (en3) (n4) (en4) (n5) (en5) (u1_6) ((eu1_6)) (u1_10) ((eu1_10)) (u2_1) ((eu2_1)) (w3) (ew3) (w4) (ew4) (w5) (ew5) (show inr (a2) by omega) (show 0 ≤ (u2_1) ∧ (u2_1) ≤ (n3) ∧ (n3) ≤ 65536 ∧ (u2_1) ≤ 16384 by have qh0 := HIDe r4; have qh1 := HIDe r6; omega) (show 1 ≤ (u1_10) ∧ (u1_10) ≤ 8 by have qh0 := HIDe r3; omega) (show 0 ≤ (a2) ∧ (a2) ≤ (u2_1) by have qh0 := HIDe r4; omega) (show BKI ((w3)) ((w4)) ((u1_10)) ((u1_6)) by assumption) (show HDI ((w3)) ((w5)) ((u1_10)) ((u1_6)) by assumption) (show (n5) = 2048 by have qh0 := HIDe r8; omega) (show 0 ≤ (u1_6) ∧ (u1_6) ≤ (n4) ∧ (n4) ≤ 16384 by have qh0 := HIDe r2; have qh1 := HIDe r7; omega) (fun σ15 D15ₚ N15ₚ F15ₚ A15ₚ c15 s15 Hₚ Oₚ hD15 hN15 hS15 hA15 pm15_3 m15_3 em15_3 y15_0_6 ey15_0_6 w15_3 ew15_3 w15_4 ew15_4 pz15_0 pz15_1 pz15_2 pz15_3 pz15_4 => ⟨rfl, ?_⟩))
  replace pm15_3 := HIDm pm15_3
  replace em15_3 := HIDm em15_3
  replace ey15_0_6 := HIDm ey15_0_6
  refine v_backM (c := c) (s := s) H (show vsub V139 V123 [1, 2, 3, 4, 5] = true by decide +kernel) Hₚ Oₚ hD15 (show vmov V139 [1, 2, 3, 4, 5] [3] = true by decide +kernel) (fun D15 N15 F15 A15 H Oₚ eD15 eN15 eF15 eA15 => ?_)
  have O := OUT_trans O Oₚ
  -- Finder.lay
  have pf15_0_0 : HID (F15 0 0 = (D15 9 : Int)) := ((show F15 0 0 = F 0 0 from (eF15 0 0))).trans ((pf9).trans (congrArg (fun q : Nat => (q : Int)) ((show D15 9 = D 9 from (eD15 9))).symm))
  have pf15_0_1 : HID (F15 0 1 = (D15 1 : Int)) := ((show F15 0 1 = F 0 1 from (eF15 0 1))).trans ((pf1).trans (congrArg (fun q : Nat => (q : Int)) ((show D15 1 = D 1 from (eD15 1).trans (hD15 0 rfl))).symm))
  have pf15_0_11 : HID (F15 0 11 = (D15 12 : Int)) := ((show F15 0 11 = F 0 11 from (eF15 0 11))).trans ((pf12).trans (congrArg (fun q : Nat => (q : Int)) ((show D15 12 = D 12 from (eD15 12))).symm))
  have pf15_0_9 : HID (F15 0 9 = (D15 10 : Int)) := ((show F15 0 9 = F 0 9 from (eF15 0 9))).trans ((pf10).trans (congrArg (fun q : Nat => (q : Int)) ((show D15 10 = D 10 from (eD15 10))).symm))
  have pf15_1_0 : HID (F15 1 0 = (D15 2 : Int)) := ((show F15 1 0 = F 1 0 from (eF15 1 0).trans (hS15 0 0 rfl))).trans ((pf2).trans (congrArg (fun q : Nat => (q : Int)) ((show D15 2 = D 2 from (eD15 2).trans (hD15 1 rfl))).symm))
  have pf15_1_1 : HID (F15 1 1 = (D15 6 : Int)) := ((show F15 1 1 = F 1 1 from (eF15 1 1).trans (hS15 0 1 rfl))).trans ((pf6).trans (congrArg (fun q : Nat => (q : Int)) ((show D15 6 = D 6 from (eD15 6))).symm))
  have pf15_1_2 : HID (F15 1 2 = (D15 7 : Int)) := ((show F15 1 2 = F 1 2 from (eF15 1 2).trans (hS15 0 2 rfl))).trans ((pf7).trans (congrArg (fun q : Nat => (q : Int)) ((show D15 7 = D 7 from (eD15 7))).symm))
  have pf15_1_3 : HID (F15 1 3 = (D15 8 : Int)) := ((show F15 1 3 = F 1 3 from (eF15 1 3).trans (hS15 0 3 rfl))).trans ((pf8).trans (congrArg (fun q : Nat => (q : Int)) ((show D15 8 = D 8 from (eD15 8))).symm))
  have pf15_1_7 : HID (F15 1 7 = (D15 5 : Int)) := ((show F15 1 7 = F 1 7 from (eF15 1 7).trans (hS15 0 7 rfl))).trans ((pf5).trans (congrArg (fun q : Nat => (q : Int)) ((show D15 5 = D 5 from (eD15 5).trans (hD15 4 rfl))).symm))
  have pf15_1_8 : HID (F15 1 8 = (D15 4 : Int)) := (eF15 1 8).trans (pm15_3.trans (congrArg (fun q : Nat => (q : Int)) (eD15 4).symm))
  have pf15_10_0 : HID (F15 10 0 = (D15 11 : Int)) := ((show F15 10 0 = F 10 0 from (eF15 10 0))).trans ((pf11).trans (congrArg (fun q : Nat => (q : Int)) ((show D15 11 = D 11 from (eD15 11))).symm))
  have pf15_2_0 : HID (F15 2 0 = (D15 3 : Int)) := ((show F15 2 0 = F 2 0 from (eF15 2 0).trans (hS15 1 0 rfl))).trans ((pf3).trans (congrArg (fun q : Nat => (q : Int)) ((show D15 3 = D 3 from (eD15 3).trans (hD15 2 rfl))).symm))
  have r16 : HID ((0 : Int) ≤ m15_3 ∧ m15_3 ≤ 1000000) := nrng (H.nle 4 (by decide)) (show (N15 4 : Int) = m15_3 from (congrArg (fun q : Nat => (q : Int)) (eN15 4)).trans em15_3)
  have r17 : HID ((-2147483648 : Int) ≤ y15_0_6 ∧ y15_0_6 ≤ 2147483647) := krg_e (show (-2147483648 : Int) ≤ F15 1 6 ∧ F15 1 6 ≤ 2147483647 from H.krg 1 6 (by decide)) (show F15 1 6 = y15_0_6 from ((eF15 1 6).trans ey15_0_6))
  refine Ew_of (pcₚ := 9) (fun _ => x_aload_n rfl rfl) ?_
  refine Ew_stk (show ([.ref (D 0)] : List Value) = [.ref (D15 0)] by rw [show D15 0 = D 0 from ((show D15 0 = D 0 from (eD15 0)))]) ?_
  refine v_g H (o := 0) (v := .ref (D15 1)) rfl rfl rfl rfl rfl (vrf (pf15_0_1)) ?_
  refine Ew_of (pcₚ := 13) (fun _ => x_iload_n rfl rfl) ?_
  refine Ew_of (pcₚ := 14) (fun _ => x_iload_n rfl rfl) ?_
  refine Ew_of (pcₚ := 15) (fun _ => x_iload_n rfl rfl) ?_
  refine Ew_of (pcₚ := 16) (fun _ => x_iload_n rfl rfl) ?_
  refine Ew_of (pcₚ := 17) (fun _ => x_aload_n rfl rfl) ?_
  refine Ew_stk (show ([.ref (D 0), I (a2), I (a2), I (a2), I (a1), .ref (D15 1)] : List Value) = [.ref (D15 0), I (a2), I (a2), I (a2), I (a1), .ref (D15 1)] by rw [show D15 0 = D 0 from ((show D15 0 = D 0 from (eD15 0)))]) ?_
  refine v_g H (o := 0) (v := .ref (D15 9)) rfl rfl rfl rfl rfl (vrf (pf15_0_0)) ?_
  refine Ew_of (pcₚ := 21) (fun _ => x_iconst rfl) ?_
  refine v_lI H (o := 9) rfl rfl rfl rfl (n := n9) ((congrArg (fun q : Nat => (q : Int)) (show N15 9 = N 9 from (eN15 9))).trans (en9)) (show 0 ≤ 1 ∧ 1 < n9 by have qh0 := HIDe r12; omega) (fun v18 ev18 qv18 => ?_)
  replace qv18 := HIDm qv18
  have ev18 : (w9) (1) = v18 := (congrFun (((show A15 9 = A 9 from (eA15 9))).trans (ew9)) (1)).symm.trans ev18
  have hsl := ev18
  refine w_isub rfl ?_
  have r19 : HID ((-2147483648 : Int) ≤ F 1 5 ∧ F 1 5 ≤ 2147483647) := krg_e (show (-2147483648 : Int) ≤ F15 1 5 ∧ F15 1 5 ≤ 2147483647 from H.krg 1 5 (by decide)) (show F15 1 5 = F 1 5 from ((show F15 1 5 = F 1 5 from (eF15 1 5).trans (hS15 0 5 rfl))))
  refine v_inv H (o := 1) rfl rfl rfl rfl rfl rfl (by rfl) (C125 (D := pul [1, 2, 3, 4, 6, 7, 8] D15) (N := pul [1, 2, 3, 4, 6, 7, 8] N15) (HW_sub H (VS_of (show vsub V139 V125 [1, 2, 3, 4, 6, 7, 8] = true by decide +kernel))) (pf15_1_0) (pf15_2_0) (pf15_1_8) (pf15_1_1) (pf15_1_2) (pf15_1_3) (n3) ((congrArg (fun q : Nat => (q : Int)) (show N15 3 = N 3 from (eN15 3).trans (hN15 2 rfl))).trans (en3)) (m15_3) ((congrArg (fun q : Nat => (q : Int)) (eN15 4)).trans em15_3) (n6) ((congrArg (fun q : Nat => (q : Int)) (show N15 6 = N 6 from (eN15 6))).trans (en6)) (n7) ((congrArg (fun q : Nat => (q : Int)) (show N15 7 = N 7 from (eN15 7))).trans (en7)) (n8) ((congrArg (fun q : Nat => (q : Int)) (show N15 8 = N 8 from (eN15 8))).trans (en8)) (u1_4) ((((show F15 1 4 = F 1 4 from (eF15 1 4).trans (hS15 0 4 rfl))).trans (eu1_4))) (F 1 5) (((show F15 1 5 = F 1 5 from (eF15 1 5).trans (hS15 0 5 rfl)))) (y15_0_6) (((eF15 1 6).trans ey15_0_6)) (u1_10) ((((show F15 1 10 = F 1 10 from (eF15 1 10).trans (hS15 0 10 rfl))).trans (eu1_10))) (u2_1) ((((show F15 2 1 = F 2 1 from (eF15 2 1).trans (hS15 1 1 rfl))).trans (eu2_1))) (w3) (((show A15 3 = A 3 from (eA15 3).trans (funext (hA15 2 rfl)))).trans (ew3)) (w15_3) ((eA15 4).trans ew15_3) (A 6) ((show A15 6 = A 6 from (eA15 6))) (A 7) ((show A15 7 = A 7 from (eA15 7))) (w8) (((show A15 8 = A 8 from (eA15 8))).trans (ew8)) (show inr (a1) by omega) (show inr (a2) by omega) (show inr (a2) by omega) (show inr ((a2 - v18)) by have qh0 := HIDe qv18; omega) (show 0 ≤ (u2_1) ∧ (u2_1) ≤ (n3) ∧ (n3) ≤ 65536 ∧ (u2_1) ≤ 16384 by have qh0 := HIDe r4; have qh1 := HIDe r6; omega) (show 1 ≤ (u1_10) ∧ (u1_10) ≤ 8 by have qh0 := HIDe r3; omega) (show 0 ≤ (a1) ∧ (a1) ≤ (a2) ∧ (a2) ≤ (u2_1) by have qh0 := HIDe r4; omega) (show (a2) ≤ (a2) ∧ ((a2 - v18)) < (a2) ∧ ((a2 - v18)) < (y15_0_6) by have qh0 := HIDe qv18; have qh1 := HIDe r17; omega) (show 0 ≤ (y15_0_6) ∧ (y15_0_6) ≤ (m15_3) ∧ (m15_3) ≤ 16384 by have qh0 := HIDe r16; have qh1 := HIDe r17; omega) (show BKI ((w3)) ((w15_3)) ((u1_10)) ((y15_0_6)) by assumption) (show (n6) = (n7) ∧ (n8) = (n7) ∧ (n7) ≤ 65536 ∧ ((n7) = 0 ∨ 64 ≤ (n7)) ∧ lgq ((n7)) = 0 by have qh0 := HIDe r10; have qh1 := HIDe r11; have qh2 := HIDe r9; omega) (fun σ20 D20ₚ N20ₚ F20ₚ A20ₚ c20 s20 Hₚ Oₚ hD20 hN20 hS20 hA20 pm20_4 pm20_5 pm20_6 m20_4 em20_4 m20_5 em20_5 m20_6 em20_6 y20_0_4 ey20_0_4 y20_0_5 ey20_0_5 w20_4 ew20_4 w20_5 ew20_5 w20_6 ew20_6 pz20_0 pz20_1 pz20_2 pz20_3 => ⟨rfl, ?_⟩))
  replace pm20_4 := HIDm pm20_4
  replace pm20_5 := HIDm pm20_5
  replace pm20_6 := HIDm pm20_6
  replace em20_4 := HIDm em20_4
  replace em20_5 := HIDm em20_5
  replace em20_6 := HIDm em20_6
  replace ey20_0_4 := HIDm ey20_0_4
  replace ey20_0_5 := HIDm ey20_0_5
  refine v_backM (c := (c + c15)) (s := (s + s15)) H (show vsub V139 V125 [1, 2, 3, 4, 6, 7, 8] = true by decide +kernel) Hₚ Oₚ hD20 (show vmov V139 [1, 2, 3, 4, 6, 7, 8] [4, 5, 6] = true by decide +kernel) (fun D20 N20 F20 A20 H Oₚ eD20 eN20 eF20 eA20 => ?_)
  have O := OUT_trans O Oₚ
  -- Finder.go
  have pf20_0_0 : HID (F20 0 0 = (D20 9 : Int)) := ((show F20 0 0 = F15 0 0 from (eF20 0 0))).trans ((pf15_0_0).trans (congrArg (fun q : Nat => (q : Int)) ((show D20 9 = D15 9 from (eD20 9))).symm))
  have pf20_0_1 : HID (F20 0 1 = (D20 1 : Int)) := ((show F20 0 1 = F15 0 1 from (eF20 0 1))).trans ((pf15_0_1).trans (congrArg (fun q : Nat => (q : Int)) ((show D20 1 = D15 1 from (eD20 1).trans (hD20 0 rfl))).symm))
  have pf20_0_11 : HID (F20 0 11 = (D20 12 : Int)) := ((show F20 0 11 = F15 0 11 from (eF20 0 11))).trans ((pf15_0_11).trans (congrArg (fun q : Nat => (q : Int)) ((show D20 12 = D15 12 from (eD20 12))).symm))
  have pf20_0_9 : HID (F20 0 9 = (D20 10 : Int)) := ((show F20 0 9 = F15 0 9 from (eF20 0 9))).trans ((pf15_0_9).trans (congrArg (fun q : Nat => (q : Int)) ((show D20 10 = D15 10 from (eD20 10))).symm))
  have pf20_1_0 : HID (F20 1 0 = (D20 2 : Int)) := ((show F20 1 0 = F15 1 0 from (eF20 1 0).trans (hS20 0 0 rfl))).trans ((pf15_1_0).trans (congrArg (fun q : Nat => (q : Int)) ((show D20 2 = D15 2 from (eD20 2).trans (hD20 1 rfl))).symm))
  have pf20_1_1 : HID (F20 1 1 = (D20 6 : Int)) := (eF20 1 1).trans (pm20_4.trans (congrArg (fun q : Nat => (q : Int)) (eD20 6).symm))
  have pf20_1_2 : HID (F20 1 2 = (D20 7 : Int)) := (eF20 1 2).trans (pm20_5.trans (congrArg (fun q : Nat => (q : Int)) (eD20 7).symm))
  have pf20_1_3 : HID (F20 1 3 = (D20 8 : Int)) := (eF20 1 3).trans (pm20_6.trans (congrArg (fun q : Nat => (q : Int)) (eD20 8).symm))
  have pf20_1_7 : HID (F20 1 7 = (D20 5 : Int)) := ((show F20 1 7 = F15 1 7 from (eF20 1 7).trans (hS20 0 7 rfl))).trans ((pf15_1_7).trans (congrArg (fun q : Nat => (q : Int)) ((show D20 5 = D15 5 from (eD20 5))).symm))
  have pf20_1_8 : HID (F20 1 8 = (D20 4 : Int)) := ((show F20 1 8 = F15 1 8 from (eF20 1 8).trans (hS20 0 8 rfl))).trans ((pf15_1_8).trans (congrArg (fun q : Nat => (q : Int)) ((show D20 4 = D15 4 from (eD20 4).trans (hD20 3 rfl))).symm))
  have pf20_10_0 : HID (F20 10 0 = (D20 11 : Int)) := ((show F20 10 0 = F15 10 0 from (eF20 10 0))).trans ((pf15_10_0).trans (congrArg (fun q : Nat => (q : Int)) ((show D20 11 = D15 11 from (eD20 11))).symm))
  have pf20_2_0 : HID (F20 2 0 = (D20 3 : Int)) := ((show F20 2 0 = F15 2 0 from (eF20 2 0).trans (hS20 1 0 rfl))).trans ((pf15_2_0).trans (congrArg (fun q : Nat => (q : Int)) ((show D20 3 = D15 3 from (eD20 3).trans (hD20 2 rfl))).symm))
  have r21 : HID ((0 : Int) ≤ m20_4 ∧ m20_4 ≤ 1000000) := nrng (H.nle 6 (by decide)) (show (N20 6 : Int) = m20_4 from (congrArg (fun q : Nat => (q : Int)) (eN20 6)).trans em20_4)
  have r22 : HID ((0 : Int) ≤ m20_5 ∧ m20_5 ≤ 1000000) := nrng (H.nle 7 (by decide)) (show (N20 7 : Int) = m20_5 from (congrArg (fun q : Nat => (q : Int)) (eN20 7)).trans em20_5)
  have r23 : HID ((0 : Int) ≤ m20_6 ∧ m20_6 ≤ 1000000) := nrng (H.nle 8 (by decide)) (show (N20 8 : Int) = m20_6 from (congrArg (fun q : Nat => (q : Int)) (eN20 8)).trans em20_6)
  have r24 : HID ((-2147483648 : Int) ≤ y20_0_4 ∧ y20_0_4 ≤ 2147483647) := krg_e (show (-2147483648 : Int) ≤ F20 1 4 ∧ F20 1 4 ≤ 2147483647 from H.krg 1 4 (by decide)) (show F20 1 4 = y20_0_4 from ((eF20 1 4).trans ey20_0_4))
  have r25 : HID ((-2147483648 : Int) ≤ y20_0_5 ∧ y20_0_5 ≤ 2147483647) := krg_e (show (-2147483648 : Int) ≤ F20 1 5 ∧ F20 1 5 ≤ 2147483647 from H.krg 1 5 (by decide)) (show F20 1 5 = y20_0_5 from ((eF20 1 5).trans ey20_0_5))
  have hlnq : (m20_4) = (m20_5) ∧ (m20_6) = (m20_5) ∧ (m20_5) ≤ 65536 ∧ ((m20_5) = 0 ∨ 64 ≤ (m20_5)) ∧ lgq ((m20_5)) = 0 := by (have qg0 := HIDe r21; have qg1 := HIDe r22; have qg2 := HIDe r23; omega)
  refine Ew_of (pcₚ := 27) (fun _ => x_aload_n rfl rfl) ?_
  refine Ew_stk (show ([.ref (D 0)] : List Value) = [.ref (D20 0)] by rw [show D20 0 = D 0 from (((show D20 0 = D15 0 from (eD20 0))).trans ((show D15 0 = D 0 from (eD15 0))))]) ?_
  refine v_g H (o := 0) (v := .ref (D20 10)) rfl rfl rfl rfl rfl (vrf (pf20_0_9)) ?_
  have r26 : HID ((0 : Int) ≤ F 10 2 ∧ F 10 2 ≤ 1) := krg_e (show (0 : Int) ≤ F20 10 2 ∧ F20 10 2 ≤ 1 from H.krg 10 2 (by decide)) (show F20 10 2 = F 10 2 from (((show F20 10 2 = F15 10 2 from (eF20 10 2))).trans ((show F15 10 2 = F 10 2 from (eF15 10 2)))))
  have r27 : HID ((-2147483648 : Int) ≤ F 10 4 ∧ F 10 4 ≤ 2147483647) := krg_e (show (-2147483648 : Int) ≤ F20 10 4 ∧ F20 10 4 ≤ 2147483647 from H.krg 10 4 (by decide)) (show F20 10 4 = F 10 4 from (((show F20 10 4 = F15 10 4 from (eF20 10 4))).trans ((show F15 10 4 = F 10 4 from (eF15 10 4)))))
  refine v_inv H (o := 10) rfl rfl rfl rfl rfl rfl (by rfl) (C156h (D := pul [10] D20) (N := pul [10] N20) (HW_sub H (VS_of (show vsub V139 V156 [10] = true by decide +kernel))) (u10_1) (((((show F20 10 1 = F15 10 1 from (eF20 10 1))).trans ((show F15 10 1 = F 10 1 from (eF15 10 1)))).trans (eu10_1))) (F 10 2) ((((show F20 10 2 = F15 10 2 from (eF20 10 2))).trans ((show F15 10 2 = F 10 2 from (eF15 10 2))))) (F 10 4) ((((show F20 10 4 = F15 10 4 from (eF20 10 4))).trans ((show F15 10 4 = F 10 4 from (eF15 10 4)))))  (fun σ28 F28ₚ A28ₚ Hₚ Oₚ hS28 hA28 y28_0_1 ey28_0_1 y28_0_2 ey28_0_2 y28_0_4 ey28_0_4 pz28_0 => ⟨rfl, ?_⟩))
  replace ey28_0_1 := HIDm ey28_0_1
  replace ey28_0_2 := HIDm ey28_0_2
  replace ey28_0_4 := HIDm ey28_0_4
  refine v_back (c := ((c + c15) + c20)) (s := ((s + s15) + s20)) H (show vsub V139 V156 [10] = true by decide +kernel) Hₚ Oₚ (fun F28 A28 H Oₚ eF28 eA28 => ?_)
  have O := OUT_trans O Oₚ
  -- Row.clear
  have r29 : HID ((-2147483648 : Int) ≤ y28_0_1 ∧ y28_0_1 ≤ 2147483647) := krg_e (show (-2147483648 : Int) ≤ F28 10 1 ∧ F28 10 1 ≤ 2147483647 from H.krg 10 1 (by decide)) (show F28 10 1 = y28_0_1 from ((eF28 10 1).trans ey28_0_1))
  have r30 : HID ((0 : Int) ≤ y28_0_2 ∧ y28_0_2 ≤ 1) := krg_e (show (0 : Int) ≤ F28 10 2 ∧ F28 10 2 ≤ 1 from H.krg 10 2 (by decide)) (show F28 10 2 = y28_0_2 from ((eF28 10 2).trans ey28_0_2))
  have r31 : HID ((-2147483648 : Int) ≤ y28_0_4 ∧ y28_0_4 ≤ 2147483647) := krg_e (show (-2147483648 : Int) ≤ F28 10 4 ∧ F28 10 4 ≤ 2147483647 from H.krg 10 4 (by decide)) (show F28 10 4 = y28_0_4 from ((eF28 10 4).trans ey28_0_4))
  refine Ew_of (pcₚ := 34) (fun _ => x_iload_n rfl rfl) ?_
  refine Ew_of (pcₚ := 35) (fun _ => x_istore_n rfl) ?_
  refine Ew_of (pcₚ := 36) (fun _ => x_iconst rfl) ?_
  refine Ew_of (pcₚ := 38) (fun _ => x_istore rfl) ?_
  have : su (fun j => ((w20_4)) j + ((w20_5)) j) (0 : Int).toNat = 0 := rfl
  have hfd : FDI ((w20_4)) ((w20_5)) ((w20_6)) ((y20_0_4)) ((a2) - (a1) - (y20_0_5)) ((u1_10)) := pz20_3
  have hds : DSI ((w20_6)) ((y20_0_4)) := fun j p q => (hfd.1 j p q).2.2
  suffices hl38 : ∀ (m : Nat), ∀ (ls : rO) (σ : rS) (D_38 N_38 : Nat → Nat) (c_38 s_38 : Nat) (F_38 : hF) (A_38 : hA) (x38_3 : Int) (x38_4 : Int), rlook ls 0 = some (.ref (D_38 0)) → rlook ls 3 = some (I (x38_3)) → rlook ls 4 = some (I (x38_4)) → HW V139 σ D_38 N_38 F_38 A_38 → OUT (V139).length D N σE c s D_38 N_38 σ c_38 s_38 → SD [11] D20 D_38 → SD [11] N20 N_38 → SF [(10, 0), (10, 1), (10, 2)] F28 F_38 → SA [11] A28 A_38 → F_38 10 0 = (D_38 11 : Int) → ∀ m38_11 : Int, (N_38 11 : Int) = m38_11 → ∀ y38_10_1 : Int, F_38 10 1 = y38_10_1 → (inr (x38_3)) → (inr (x38_4)) → ((0) ≤ (x38_4)) → ((x38_4) ≤ (0) ∨ (x38_4) ≤ ((y20_0_4))) → (0 ≤ (y38_10_1) ∧ (y38_10_1) ≤ (m38_11) ∧ (m38_11) ≤ 65536) → ((x38_3) = (a1) + su (fun j => ((w20_4)) j + ((w20_5)) j) ((x38_4) : Int).toNat) → (((y20_0_4)) - (x38_4)).toNat = m → Ew 139 (d + 4) 38 ls [] σ c_38 s_38 Q from
    hl38 _ _ _ _ _ _ _ _ _ (a1) (0) ((rk_o (rk_o (rfl) rfl rfl) rfl rfl).trans (congrArg (fun q : Nat => some (Value.ref q)) ((((show D20 0 = D15 0 from (eD20 0))).trans ((show D15 0 = D 0 from (eD15 0))))).symm)) (rk_o (rk_s) rfl rfl) (rk_s) H O (SD_refl) (SD_refl) (SF_refl) (SA_refl) ((((show F28 10 0 = F20 10 0 from (eF28 10 0).trans (hS28 0 0 rfl)))).trans (pf20_10_0)) (n11) ((congrArg (fun q : Nat => (q : Int)) (show N20 11 = N15 11 from (eN20 11))).trans ((congrArg (fun q : Nat => (q : Int)) (show N15 11 = N 11 from (eN15 11))).trans (en11))) (y28_0_1) (((eF28 10 1).trans ey28_0_1))  (show inr (a1) by omega) (show inr (0) by omega) (show (0) ≤ (0) by omega) (show (0) ≤ (0) ∨ (0) ≤ ((y20_0_4)) by have qh0 := HIDe r24; omega) (show 0 ≤ (y28_0_1) ∧ (y28_0_1) ≤ (n11) ∧ (n11) ≤ 65536 by have qh0 := HIDe r13; have qh1 := HIDe r29; omega) (show (a1) = (a1) + su (fun j => ((w20_4)) j + ((w20_5)) j) ((0) : Int).toNat by omega) rfl
  as_aux_lemma =>
  intro m
  induction m using Nat.strongRecOn with
  | _ m ih38 =>
    intro ls σ D_38 N_38 c_38 s_38 F_38 A_38 x38_3 x38_4 l38_0 l38_3 l38_4 H O hD_38 hN_38 hS_38 hA_38 pm38_11 m38_11 em38_11 y38_10_1 ey38_10_1  j38_0 j38_1 j38_2 j38_3 j38_4 j38_5 hm38
    replace pm38_11 := HIDm pm38_11
    replace em38_11 := HIDm em38_11
    replace ey38_10_1 := HIDm ey38_10_1
    try clear pz15_2
    try clear pz20_0
    have pf_38_0_0 : HID (F_38 0 0 = (D_38 9 : Int)) := (hS_38 0 0 rfl).trans (((((show F28 0 0 = F20 0 0 from (eF28 0 0)))).trans (pf20_0_0)).trans (congrArg (fun q : Nat => (q : Int)) (hD_38 9 rfl).symm))
    have pf_38_0_1 : HID (F_38 0 1 = (D_38 1 : Int)) := (hS_38 0 1 rfl).trans (((((show F28 0 1 = F20 0 1 from (eF28 0 1)))).trans (pf20_0_1)).trans (congrArg (fun q : Nat => (q : Int)) (hD_38 1 rfl).symm))
    have pf_38_0_11 : HID (F_38 0 11 = (D_38 12 : Int)) := (hS_38 0 11 rfl).trans (((((show F28 0 11 = F20 0 11 from (eF28 0 11)))).trans (pf20_0_11)).trans (congrArg (fun q : Nat => (q : Int)) (hD_38 12 rfl).symm))
    have pf_38_0_9 : HID (F_38 0 9 = (D_38 10 : Int)) := (hS_38 0 9 rfl).trans (((((show F28 0 9 = F20 0 9 from (eF28 0 9)))).trans (pf20_0_9)).trans (congrArg (fun q : Nat => (q : Int)) (hD_38 10 rfl).symm))
    have pf_38_1_0 : HID (F_38 1 0 = (D_38 2 : Int)) := (hS_38 1 0 rfl).trans (((((show F28 1 0 = F20 1 0 from (eF28 1 0)))).trans (pf20_1_0)).trans (congrArg (fun q : Nat => (q : Int)) (hD_38 2 rfl).symm))
    have pf_38_1_1 : HID (F_38 1 1 = (D_38 6 : Int)) := (hS_38 1 1 rfl).trans (((((show F28 1 1 = F20 1 1 from (eF28 1 1)))).trans (pf20_1_1)).trans (congrArg (fun q : Nat => (q : Int)) (hD_38 6 rfl).symm))
    have pf_38_1_2 : HID (F_38 1 2 = (D_38 7 : Int)) := (hS_38 1 2 rfl).trans (((((show F28 1 2 = F20 1 2 from (eF28 1 2)))).trans (pf20_1_2)).trans (congrArg (fun q : Nat => (q : Int)) (hD_38 7 rfl).symm))
    have pf_38_1_3 : HID (F_38 1 3 = (D_38 8 : Int)) := (hS_38 1 3 rfl).trans (((((show F28 1 3 = F20 1 3 from (eF28 1 3)))).trans (pf20_1_3)).trans (congrArg (fun q : Nat => (q : Int)) (hD_38 8 rfl).symm))
    have pf_38_1_7 : HID (F_38 1 7 = (D_38 5 : Int)) := (hS_38 1 7 rfl).trans (((((show F28 1 7 = F20 1 7 from (eF28 1 7)))).trans (pf20_1_7)).trans (congrArg (fun q : Nat => (q : Int)) (hD_38 5 rfl).symm))
    have pf_38_1_8 : HID (F_38 1 8 = (D_38 4 : Int)) := (hS_38 1 8 rfl).trans (((((show F28 1 8 = F20 1 8 from (eF28 1 8)))).trans (pf20_1_8)).trans (congrArg (fun q : Nat => (q : Int)) (hD_38 4 rfl).symm))
    have pf_38_2_0 : HID (F_38 2 0 = (D_38 3 : Int)) := (hS_38 2 0 rfl).trans (((((show F28 2 0 = F20 2 0 from (eF28 2 0)))).trans (pf20_2_0)).trans (congrArg (fun q : Nat => (q : Int)) (hD_38 3 rfl).symm))
    have r32 : HID ((0 : Int) ≤ m38_11 ∧ m38_11 ≤ 1000000) := nrng (H.nle 11 (by decide)) (show (N_38 11 : Int) = m38_11 from em38_11)
    have r33 : HID ((-2147483648 : Int) ≤ y38_10_1 ∧ y38_10_1 ≤ 2147483647) := krg_e (show (-2147483648 : Int) ≤ F_38 10 1 ∧ F_38 10 1 ≤ 2147483647 from H.krg 10 1 (by decide)) (show F_38 10 1 = y38_10_1 from (ey38_10_1))
    refine Ew_of (pcₚ := 40) (fun _ => x_iload rfl l38_4) ?_
    refine Ew_of (pcₚ := 41) (fun _ => x_aload_n rfl l38_0) ?_
    refine v_g H (o := 0) (v := .ref (D_38 1)) rfl rfl rfl rfl rfl (vrf (pf_38_0_1)) ?_
    refine v_g H (o := 1) (v := I (y20_0_4)) rfl rfl rfl rfl rfl (congrArg (fun z : Int => I z) ((((hS_38 1 4 rfl).trans ((show F28 1 4 = F20 1 4 from (eF28 1 4)))).trans ((eF20 1 4).trans ey20_0_4)) : F_38 1 4 = y20_0_4)) ?_
    refine w_icmpge (t := 108) rfl rfl (show inr (x38_4) by omega) (show inr (y20_0_4) by have qh0 := HIDe r24; omega) (fun b34 => ?_) (fun b34 => ?_)
    · refine Ew_of (pcₚ := 109) (fun _ => x_aload_n rfl l38_0) ?_
      refine v_g H (o := 0) (v := .ref (D_38 10)) rfl rfl rfl rfl rfl (vrf (pf_38_0_9)) ?_
      have hle : (x38_4) = (y20_0_4) := by (have qg0 := HIDe r24; omega)
      have hst : su (fun j => ((w20_4)) j + ((w20_5)) j) ((x38_4) : Int).toNat = (a2) - (a1) - (y20_0_5) := by rw [hle]; exact hfd.2
      refine Ew_of (pcₚ := 113) (fun _ => x_aload_n rfl l38_0) ?_
      refine v_g H (o := 0) (v := .ref (D_38 1)) rfl rfl rfl rfl rfl (vrf (pf_38_0_1)) ?_
      refine v_g H (o := 1) (v := .ref (D_38 2)) rfl rfl rfl rfl rfl (vrf (pf_38_1_0)) ?_
      refine v_g H (o := 2) (v := .ref (D_38 3)) rfl rfl rfl rfl rfl (vrf (pf_38_2_0)) ?_
      refine Ew_of (pcₚ := 123) (fun _ => x_iload_n rfl l38_3) ?_
      refine Ew_of (pcₚ := 124) (fun _ => x_aload_n rfl l38_0) ?_
      refine v_g H (o := 0) (v := .ref (D_38 1)) rfl rfl rfl rfl rfl (vrf (pf_38_0_1)) ?_
      refine v_g H (o := 1) (v := I (y20_0_5)) rfl rfl rfl rfl rfl (congrArg (fun z : Int => I z) ((((hS_38 1 5 rfl).trans ((show F28 1 5 = F20 1 5 from (eF28 1 5)))).trans ((eF20 1 5).trans ey20_0_5)) : F_38 1 5 = y20_0_5)) ?_
      refine v_inv H (o := 10) rfl rfl rfl rfl rfl rfl (by rfl) (C161_Br (D := pul [10, 3, 11] D_38) (N := pul [10, 3, 11] N_38) (HW_sub H (VS_of (show vsub V139 V161_Br [10, 3, 11] = true by decide +kernel))) (pm38_11) (n3) ((congrArg (fun q : Nat => (q : Int)) (hN_38 3 rfl)).trans ((congrArg (fun q : Nat => (q : Int)) (show N20 3 = N15 3 from (eN20 3).trans (hN20 2 rfl))).trans ((congrArg (fun q : Nat => (q : Int)) (show N15 3 = N 3 from (eN15 3).trans (hN15 2 rfl))).trans (en3)))) (m38_11) (em38_11) (y38_10_1) ((ey38_10_1)) (A_38 11) (rfl) (show inr (x38_3) by omega) (show inr (y20_0_5) by have qh0 := HIDe r25; omega) (show 0 ≤ (y38_10_1) ∧ (y38_10_1) ≤ (m38_11) ∧ (m38_11) ≤ 65536 by have qh0 := HIDe r32; have qh1 := HIDe r33; omega) (show (y20_0_5) < 0 ∨ 0 ≤ (x38_3) ∧ (x38_3) + (y20_0_5) ≤ (n3) by have qh0 := HIDe r25; have qh1 := HIDe r6; omega) (fun σ35 D35ₚ N35ₚ F35ₚ A35ₚ c35 s35 Hₚ Oₚ hD35 hN35 hS35 hA35 pm35_2 m35_2 em35_2 y35_0_1 ey35_0_1 w35_2 ew35_2 pz35_0 pz35_1 pz35_2 => ⟨rfl, ?_⟩))
      replace pm35_2 := HIDm pm35_2
      replace em35_2 := HIDm em35_2
      replace ey35_0_1 := HIDm ey35_0_1
      refine v_backM (c := c_38) (s := s_38) H (show vsub V139 V161_Br [10, 3, 11] = true by decide +kernel) Hₚ Oₚ hD35 (show vmov V139 [10, 3, 11] [2] = true by decide +kernel) (fun D35 N35 F35 A35 H Oₚ eD35 eN35 eF35 eA35 => ?_)
      have O := OUT_trans O Oₚ
      -- Row.addPart
      have pf35_0_0 : HID (F35 0 0 = (D35 9 : Int)) := ((show F35 0 0 = F_38 0 0 from (eF35 0 0))).trans ((pf_38_0_0).trans (congrArg (fun q : Nat => (q : Int)) ((show D35 9 = D_38 9 from (eD35 9))).symm))
      have pf35_0_1 : HID (F35 0 1 = (D35 1 : Int)) := ((show F35 0 1 = F_38 0 1 from (eF35 0 1))).trans ((pf_38_0_1).trans (congrArg (fun q : Nat => (q : Int)) ((show D35 1 = D_38 1 from (eD35 1))).symm))
      have pf35_0_11 : HID (F35 0 11 = (D35 12 : Int)) := ((show F35 0 11 = F_38 0 11 from (eF35 0 11))).trans ((pf_38_0_11).trans (congrArg (fun q : Nat => (q : Int)) ((show D35 12 = D_38 12 from (eD35 12))).symm))
      have pf35_0_9 : HID (F35 0 9 = (D35 10 : Int)) := ((show F35 0 9 = F_38 0 9 from (eF35 0 9))).trans ((pf_38_0_9).trans (congrArg (fun q : Nat => (q : Int)) ((show D35 10 = D_38 10 from (eD35 10).trans (hD35 0 rfl))).symm))
      have pf35_1_0 : HID (F35 1 0 = (D35 2 : Int)) := ((show F35 1 0 = F_38 1 0 from (eF35 1 0))).trans ((pf_38_1_0).trans (congrArg (fun q : Nat => (q : Int)) ((show D35 2 = D_38 2 from (eD35 2))).symm))
      have pf35_1_1 : HID (F35 1 1 = (D35 6 : Int)) := ((show F35 1 1 = F_38 1 1 from (eF35 1 1))).trans ((pf_38_1_1).trans (congrArg (fun q : Nat => (q : Int)) ((show D35 6 = D_38 6 from (eD35 6))).symm))
      have pf35_1_2 : HID (F35 1 2 = (D35 7 : Int)) := ((show F35 1 2 = F_38 1 2 from (eF35 1 2))).trans ((pf_38_1_2).trans (congrArg (fun q : Nat => (q : Int)) ((show D35 7 = D_38 7 from (eD35 7))).symm))
      have pf35_1_3 : HID (F35 1 3 = (D35 8 : Int)) := ((show F35 1 3 = F_38 1 3 from (eF35 1 3))).trans ((pf_38_1_3).trans (congrArg (fun q : Nat => (q : Int)) ((show D35 8 = D_38 8 from (eD35 8))).symm))
      have pf35_1_7 : HID (F35 1 7 = (D35 5 : Int)) := ((show F35 1 7 = F_38 1 7 from (eF35 1 7))).trans ((pf_38_1_7).trans (congrArg (fun q : Nat => (q : Int)) ((show D35 5 = D_38 5 from (eD35 5))).symm))
      have pf35_1_8 : HID (F35 1 8 = (D35 4 : Int)) := ((show F35 1 8 = F_38 1 8 from (eF35 1 8))).trans ((pf_38_1_8).trans (congrArg (fun q : Nat => (q : Int)) ((show D35 4 = D_38 4 from (eD35 4))).symm))
      have pf35_10_0 : HID (F35 10 0 = (D35 11 : Int)) := (eF35 10 0).trans (pm35_2.trans (congrArg (fun q : Nat => (q : Int)) (eD35 11).symm))
      have pf35_2_0 : HID (F35 2 0 = (D35 3 : Int)) := ((show F35 2 0 = F_38 2 0 from (eF35 2 0))).trans ((pf_38_2_0).trans (congrArg (fun q : Nat => (q : Int)) ((show D35 3 = D_38 3 from (eD35 3).trans (hD35 1 rfl))).symm))
      have r36 : HID ((0 : Int) ≤ m35_2 ∧ m35_2 ≤ 1000000) := nrng (H.nle 11 (by decide)) (show (N35 11 : Int) = m35_2 from (congrArg (fun q : Nat => (q : Int)) (eN35 11)).trans em35_2)
      have r37 : HID ((-2147483648 : Int) ≤ y35_0_1 ∧ y35_0_1 ≤ 2147483647) := krg_e (show (-2147483648 : Int) ≤ F35 10 1 ∧ F35 10 1 ≤ 2147483647 from H.krg 10 1 (by decide)) (show F35 10 1 = y35_0_1 from ((eF35 10 1).trans ey35_0_1))
      refine Ew_of (pcₚ := 134) (fun _ => x_aload_n rfl l38_0) ?_
      refine Ew_stk (show ([.ref (D_38 0)] : List Value) = [.ref (D35 0)] by rw [show D35 0 = D_38 0 from ((show D35 0 = D_38 0 from (eD35 0)))]) ?_
      refine v_g H (o := 0) (v := .ref (D35 12)) rfl rfl rfl rfl rfl (vrf (pf35_0_11)) ?_
      refine Ew_of (pcₚ := 138) (fun _ => x_iconst rfl) ?_
      refine v_fil H (t := 12) (v := 0) rfl rfl rfl rfl rfl (show inr (0) by omega) (fun σ A38 H Oₚ hA38 ga38 => ?_)
      have O := OUT_trans O Oₚ
      refine Ew_of (pcₚ := 142) (fun _ => x_iconst rfl) ?_
      refine Ew_of (pcₚ := 144) (fun _ => x_istore rfl) ?_
      have hb0 : CTN (ub ((w35_2))) ((A38 12)) (0) 256 := CTN_0 ga38
      suffices hl144 : ∀ (m : Nat), ∀ (ls : rO) (σ : rS) (F_144 : hF) (A_144 : hA) (x144_4 : Int), rlook ls 0 = some (.ref (D35 0)) → rlook ls 4 = some (I (x144_4)) → HW V139 σ D35 N35 F_144 A_144 → OUT (V139).length D N σE c s D35 N35 σ (c_38 + c35) (s_38 + s35) → SF [] F35 F_144 → SA [12] A38 A_144 → ∀ w144_12 : Int → Int, A_144 12 = w144_12 → (inr (x144_4)) → ((0) ≤ (x144_4)) → ((x144_4) ≤ (0) ∨ (x144_4) ≤ ((y35_0_1))) → (CTN (ub ((w35_2))) ((w144_12)) ((x144_4)) 256) → (((y35_0_1)) - (x144_4)).toNat = m → Ew 139 (d + 4) 144 ls [] σ (c_38 + c35) (s_38 + s35) Q from
        hl144 _ _ _ _ _ (0) ((rk_o (l38_0) rfl rfl).trans (congrArg (fun q : Nat => some (Value.ref q)) (((show D35 0 = D_38 0 from (eD35 0)))).symm)) (rk_s) H O (SF_refl) (SA_refl)    (A38 12) (rfl) (show inr (0) by omega) (show (0) ≤ (0) by omega) (show (0) ≤ (0) ∨ (0) ≤ ((y35_0_1)) by have qh0 := HIDe r37; omega) (show CTN (ub ((w35_2))) ((A38 12)) ((0)) 256 by assumption) rfl
      as_aux_lemma =>
      intro m
      induction m using Nat.strongRecOn with
      | _ m ih144 =>
        intro ls σ F_144 A_144 x144_4 l144_0 l144_4 H O hS_144 hA_144    w144_12 ew144_12 j144_0 j144_1 j144_2 j144_3 hm144
        try clear pz35_1
        have hct : CTN (ub ((w35_2))) ((w144_12)) ((x144_4)) 256 := by assumption
        refine Ew_of (pcₚ := 146) (fun _ => x_iload rfl l144_4) ?_
        refine Ew_of (pcₚ := 147) (fun _ => x_aload_n rfl l144_0) ?_
        refine v_g H (o := 0) (v := .ref (D35 10)) rfl rfl rfl rfl rfl (vrf (((hS_144 0 9 rfl)).trans (pf35_0_9))) ?_
        refine v_g H (o := 10) (v := I (y35_0_1)) rfl rfl rfl rfl rfl (congrArg (fun z : Int => I z) (((hS_144 10 1 rfl).trans ((eF35 10 1).trans ey35_0_1)) : F_144 10 1 = y35_0_1)) ?_
        refine w_icmpge (t := 185) rfl rfl (show inr (x144_4) by omega) (show inr (y35_0_1) by have qh0 := HIDe r37; omega) (fun b39 => ?_) (fun b39 => ?_)
        · have hl4 : (x144_4) = (y35_0_1) := by (have qg0 := HIDe r37; omega)
          have hct2 : CTN (ub ((w35_2))) ((w144_12)) ((y35_0_1)) 256 := by rw [← hl4]; assumption
          exact w_ret rfl (k _ _ _ _ _ _ _ H O (SD_trans (SD_trans (SD_trans (SD_trans (SD_refl) (SD_glu (ι := [1, 2, 3, 4, 5]) hD15 eD15 (by decide +kernel)) (any_subA (lₚ := [4]) rfl)) (SD_glu (ι := [1, 2, 3, 4, 6, 7, 8]) hD20 eD20 (by decide +kernel)) (any_subA (lₚ := [6, 7, 8]) rfl)) hD_38 (any_subA rfl)) (SD_glu (ι := [10, 3, 11]) hD35 eD35 (by decide +kernel)) (any_subA (lₚ := [11]) rfl)) (SD_trans (SD_trans (SD_trans (SD_trans (SD_refl) (SD_glu (ι := [1, 2, 3, 4, 5]) hN15 eN15 (by decide +kernel)) (any_subA (lₚ := [4]) rfl)) (SD_glu (ι := [1, 2, 3, 4, 6, 7, 8]) hN20 eN20 (by decide +kernel)) (any_subA (lₚ := [6, 7, 8]) rfl)) hN_38 (any_subA rfl)) (SD_glu (ι := [10, 3, 11]) hN35 eN35 (by decide +kernel)) (any_subA (lₚ := [11]) rfl)) (SF_trans (SF_trans (SF_trans (SF_trans (SF_trans (SF_trans (SF_refl) (SF_glu (ι := [1, 2, 3, 4, 5]) hS15 eF15 (by decide +kernel)) (any_sub (lₚ := [(1, 6), (1, 8)]) rfl)) (SF_glu (ι := [1, 2, 3, 4, 6, 7, 8]) hS20 eF20 (by decide +kernel)) (any_sub (lₚ := [(1, 1), (1, 2), (1, 3), (1, 4), (1, 5), (1, 12), (1, 13), (1, 14), (1, 15), (1, 16), (1, 17), (1, 18)]) rfl)) (SF_glu (ι := [10]) hS28 eF28 (by decide +kernel)) (any_sub (lₚ := [(10, 1), (10, 2), (10, 3), (10, 4)]) rfl)) hS_38 (any_sub rfl)) (SF_glu (ι := [10, 3, 11]) hS35 eF35 (by decide +kernel)) (any_sub (lₚ := [(10, 0), (10, 1), (10, 2)]) rfl)) hS_144 (any_sub rfl)) (SA_trans (SA_trans (SA_trans (SA_trans (SA_trans (SA_trans (SA_trans (SA_refl) (SA_glu (ι := [1, 2, 3, 4, 5]) hA15 eA15 (by decide +kernel)) (any_subA (lₚ := [4, 5]) rfl)) (SA_glu (ι := [1, 2, 3, 4, 6, 7, 8]) hA20 eA20 (by decide +kernel)) (any_subA (lₚ := [6, 7, 8]) rfl)) (SA_glu (ι := [10]) hA28 eA28 (by decide +kernel)) (any_subA (lₚ := []) rfl)) hA_38 (any_subA rfl)) (SA_glu (ι := [10, 3, 11]) hA35 eA35 (by decide +kernel)) (any_subA (lₚ := [11]) rfl)) hA38 (any_subA rfl)) hA_144 (any_subA rfl)) (((hS_144 1 8 rfl)).trans (pf35_1_8)) (((hS_144 1 1 rfl)).trans (pf35_1_1)) (((hS_144 1 2 rfl)).trans (pf35_1_2)) (((hS_144 1 3 rfl)).trans (pf35_1_3)) (((hS_144 10 0 rfl)).trans (pf35_10_0)) (m15_3) ((congrArg (fun q : Nat => (q : Int)) (show N35 4 = N_38 4 from (eN35 4))).trans ((congrArg (fun q : Nat => (q : Int)) (hN_38 4 rfl)).trans ((congrArg (fun q : Nat => (q : Int)) (show N20 4 = N15 4 from (eN20 4).trans (hN20 3 rfl))).trans ((congrArg (fun q : Nat => (q : Int)) (eN15 4)).trans em15_3)))) (m20_4) ((congrArg (fun q : Nat => (q : Int)) (show N35 6 = N_38 6 from (eN35 6))).trans ((congrArg (fun q : Nat => (q : Int)) (hN_38 6 rfl)).trans ((congrArg (fun q : Nat => (q : Int)) (eN20 6)).trans em20_4))) (m20_5) ((congrArg (fun q : Nat => (q : Int)) (show N35 7 = N_38 7 from (eN35 7))).trans ((congrArg (fun q : Nat => (q : Int)) (hN_38 7 rfl)).trans ((congrArg (fun q : Nat => (q : Int)) (eN20 7)).trans em20_5))) (m20_6) ((congrArg (fun q : Nat => (q : Int)) (show N35 8 = N_38 8 from (eN35 8))).trans ((congrArg (fun q : Nat => (q : Int)) (hN_38 8 rfl)).trans ((congrArg (fun q : Nat => (q : Int)) (eN20 8)).trans em20_6))) (m35_2) ((congrArg (fun q : Nat => (q : Int)) (eN35 11)).trans em35_2) (y20_0_4) ((((((hS_144 1 4 rfl).trans ((show F35 1 4 = F_38 1 4 from (eF35 1 4)))).trans (hS_38 1 4 rfl)).trans ((show F28 1 4 = F20 1 4 from (eF28 1 4)))).trans ((eF20 1 4).trans ey20_0_4))) (y15_0_6) (((((((hS_144 1 6 rfl).trans ((show F35 1 6 = F_38 1 6 from (eF35 1 6)))).trans (hS_38 1 6 rfl)).trans ((show F28 1 6 = F20 1 6 from (eF28 1 6)))).trans ((show F20 1 6 = F15 1 6 from (eF20 1 6).trans (hS20 0 6 rfl)))).trans ((eF15 1 6).trans ey15_0_6))) (y35_0_1) (((hS_144 10 1 rfl).trans ((eF35 10 1).trans ey35_0_1))) (w15_3) ((funext (hA_144 4 rfl)).trans ((funext (hA38 4 rfl)).trans (((show A35 4 = A_38 4 from (eA35 4))).trans ((funext (hA_38 4 rfl)).trans (((show A28 4 = A20 4 from (eA28 4))).trans (((show A20 4 = A15 4 from (eA20 4).trans (funext (hA20 3 rfl)))).trans ((eA15 4).trans ew15_3))))))) (w15_4) ((funext (hA_144 5 rfl)).trans ((funext (hA38 5 rfl)).trans (((show A35 5 = A_38 5 from (eA35 5))).trans ((funext (hA_38 5 rfl)).trans (((show A28 5 = A20 5 from (eA28 5))).trans (((show A20 5 = A15 5 from (eA20 5))).trans ((eA15 5).trans ew15_4))))))) (w20_6) ((funext (hA_144 8 rfl)).trans ((funext (hA38 8 rfl)).trans (((show A35 8 = A_38 8 from (eA35 8))).trans ((funext (hA_38 8 rfl)).trans (((show A28 8 = A20 8 from (eA28 8))).trans ((eA20 8).trans ew20_6)))))) (w35_2) ((funext (hA_144 11 rfl)).trans ((funext (hA38 11 rfl)).trans ((eA35 11).trans ew35_2))) (w144_12) (ew144_12) (show 0 ≤ (y15_0_6) ∧ (u1_6) ≤ (y15_0_6) ∧ (y15_0_6) ≤ (m15_3) ∧ (m15_3) ≤ 16384 by have qh0 := HIDe r16; have qh1 := HIDe r17; have qh2 := HIDe r2; omega) (show (m20_4) = (m20_5) ∧ (m20_6) = (m20_5) ∧ (m20_5) ≤ 65536 ∧ ((m20_5) = 0 ∨ 64 ≤ (m20_5)) ∧ lgq ((m20_5)) = 0 by have qh0 := HIDe r21; have qh1 := HIDe r22; have qh2 := HIDe r23; omega) (show BKI ((w3)) ((w15_3)) ((u1_10)) ((y15_0_6)) by assumption) (show HDI ((w3)) ((w15_4)) ((u1_10)) ((y15_0_6)) by assumption) (show 0 ≤ (y20_0_4) ∧ (y20_0_4) ≤ (m20_5) ∧ (y20_0_4) ≤ a2 - a1 by have qh0 := HIDe r22; have qh1 := HIDe r24; omega) (show DSI ((w20_6)) ((y20_0_4)) by assumption) (show 0 ≤ (y35_0_1) ∧ (y35_0_1) ≤ (m35_2) ∧ (m35_2) ≤ 65536 by have qh0 := HIDe r36; have qh1 := HIDe r37; omega) (show CTN (ub ((w35_2))) ((w144_12)) ((y35_0_1)) 256 by assumption))
        · refine Ew_of (pcₚ := 157) (fun _ => x_aload_n rfl l144_0) ?_
          refine v_g H (o := 0) (v := .ref (D35 12)) rfl rfl rfl rfl rfl (vrf (((hS_144 0 11 rfl)).trans (pf35_0_11))) ?_
          refine Ew_of (pcₚ := 161) (fun _ => x_aload_n rfl l144_0) ?_
          refine v_g H (o := 0) (v := .ref (D35 10)) rfl rfl rfl rfl rfl (vrf (((hS_144 0 9 rfl)).trans (pf35_0_9))) ?_
          refine v_g H (o := 10) (v := .ref (D35 11)) rfl rfl rfl rfl rfl (vrf (((hS_144 10 0 rfl)).trans (pf35_10_0))) ?_
          refine Ew_of (pcₚ := 169) (fun _ => x_iload rfl l144_4) ?_
          refine v_lB H (o := 11) rfl rfl rfl rfl (n := m35_2) ((congrArg (fun q : Nat => (q : Int)) (eN35 11)).trans em35_2) (show 0 ≤ x144_4 ∧ x144_4 < m35_2 by have qh0 := HIDe r36; omega) (fun v40 ev40 qv40 => ?_)
          replace qv40 := HIDm qv40
          have ev40 : (w35_2) (x144_4) = v40 := (congrFun ((funext (hA_144 11 rfl)).trans ((funext (hA38 11 rfl)).trans ((eA35 11).trans ew35_2))) (x144_4)).symm.trans ev40
          have hbv := ev40
          refine Ew_of (pcₚ := 173) (fun _ => x_sipush (z := 255) rfl (by decide)) ?_
          refine v_and255 rfl ?_
          have hub : ub ((w35_2)) ((x144_4)) = (((v40 % 256)) : Int) := by unfold ub; (have qg0 := HIDe qv40; omega)
          refine Ew_of (pcₚ := 175) (fun _ => x_dup2 rfl rfl rfl) ?_
          refine v_lI H (o := 12) rfl rfl rfl rfl (n := n12) ((congrArg (fun q : Nat => (q : Int)) (show N35 12 = N_38 12 from (eN35 12))).trans ((congrArg (fun q : Nat => (q : Int)) (hN_38 12 rfl)).trans ((congrArg (fun q : Nat => (q : Int)) (show N20 12 = N15 12 from (eN20 12))).trans ((congrArg (fun q : Nat => (q : Int)) (show N15 12 = N 12 from (eN15 12))).trans (en12))))) (show 0 ≤ (v40 % 256) ∧ (v40 % 256) < n12 by have qh0 := HIDe qv40; have qh1 := HIDe r14; omega) (fun v41 ev41 qv41 => ?_)
          replace qv41 := HIDm qv41
          have ev41 : (w144_12) ((v40 % 256)) = v41 := (congrFun (ew144_12) ((v40 % 256))).symm.trans ev41
          have hcv := ev41
          have hcl := CTN_le hct (s := ((v40 % 256))) (by (have qg0 := HIDe qv40; omega)) (by (have qg0 := HIDe qv40; omega)) (by (have qg0 := HIDe qv40; omega))
          rw [hcv] at hcl
          refine Ew_of (pcₚ := 177) (fun _ => x_iconst rfl) ?_
          refine w_iadd rfl ?_
          refine v_sI H (o := 12) (z := (v41 + 1)) rfl rfl rfl rfl (n := n12) ((congrArg (fun q : Nat => (q : Int)) (show N35 12 = N_38 12 from (eN35 12))).trans ((congrArg (fun q : Nat => (q : Int)) (hN_38 12 rfl)).trans ((congrArg (fun q : Nat => (q : Int)) (show N20 12 = N15 12 from (eN20 12))).trans ((congrArg (fun q : Nat => (q : Int)) (show N15 12 = N 12 from (eN15 12))).trans (en12))))) (show 0 ≤ (v40 % 256) ∧ (v40 % 256) < n12 by have qh0 := HIDe qv40; have qh1 := HIDe r14; omega) (show inr ((v41 + 1)) by have qh0 := HIDe qv41; omega) (fun σ H Oₚ => ?_)
          have O := OUT_trans O Oₚ
          refine Ew_of (pcₚ := 182) (fun _ => x_iinc (len := 3) rfl (l144_4)) ?_
          refine Ew_of (pcₚ := 144) (fun _ => x_goto rfl rfl) ?_
          have hcs : CTN (ub ((w35_2))) ((upd1 (w144_12) ((v40 % 256)) ((v41 + 1)))) (((x144_4 + 1))) 256 := CTN_s hct (by (have qg0 := HIDe qv40; have qg1 := HIDe qv41; omega)) rfl hub (by (have qg0 := HIDe qv40; have qg1 := HIDe qv41; omega))
          exact ih144 _ (by omega) _ _ _ _ ((x144_4 + 1)) (rk_o (l144_0) rfl rfl) (rk_s) H O (hS_144) (SA_upd (hA_144) rfl)    (upd1 (w144_12) ((v40 % 256)) ((v41 + 1))) (congrArg (fun q => upd1 q ((v40 % 256)) ((v41 + 1))) (ew144_12)) (show inr ((x144_4 + 1)) by omega) (show (0) ≤ ((x144_4 + 1)) by omega) (show ((x144_4 + 1)) ≤ (0) ∨ ((x144_4 + 1)) ≤ ((y35_0_1)) by have qh0 := HIDe r37; omega) (show CTN (ub ((w35_2))) ((upd1 (w144_12) ((v40 % 256)) ((v41 + 1)))) (((x144_4 + 1))) 256 by assumption) rfl
    · refine Ew_of (pcₚ := 51) (fun _ => x_aload_n rfl l38_0) ?_
      have hfp := FDI_part (i := (x38_4)) hfd (by omega) (by omega) (by omega)
      have hfj := hfd.1 ((x38_4)) (by omega) (by omega)
      refine v_g H (o := 0) (v := .ref (D_38 10)) rfl rfl rfl rfl rfl (vrf (pf_38_0_9)) ?_
      refine Ew_of (pcₚ := 55) (fun _ => x_aload_n rfl l38_0) ?_
      refine v_g H (o := 0) (v := .ref (D_38 1)) rfl rfl rfl rfl rfl (vrf (pf_38_0_1)) ?_
      refine v_g H (o := 1) (v := .ref (D_38 2)) rfl rfl rfl rfl rfl (vrf (pf_38_1_0)) ?_
      refine v_g H (o := 2) (v := .ref (D_38 3)) rfl rfl rfl rfl rfl (vrf (pf_38_2_0)) ?_
      refine Ew_of (pcₚ := 65) (fun _ => x_iload_n rfl l38_3) ?_
      refine Ew_of (pcₚ := 66) (fun _ => x_aload_n rfl l38_0) ?_
      refine v_g H (o := 0) (v := .ref (D_38 1)) rfl rfl rfl rfl rfl (vrf (pf_38_0_1)) ?_
      refine v_g H (o := 1) (v := .ref (D_38 6)) rfl rfl rfl rfl rfl (vrf (pf_38_1_1)) ?_
      refine Ew_of (pcₚ := 74) (fun _ => x_iload rfl l38_4) ?_
      refine v_lI H (o := 6) rfl rfl rfl rfl (n := m20_4) ((congrArg (fun q : Nat => (q : Int)) (hN_38 6 rfl)).trans ((congrArg (fun q : Nat => (q : Int)) (eN20 6)).trans em20_4)) (show 0 ≤ x38_4 ∧ x38_4 < m20_4 by have qh0 := HIDe r21; omega) (fun v42 ev42 qv42 => ?_)
      replace qv42 := HIDm qv42
      have ev42 : (w20_4) (x38_4) = v42 := (congrFun ((funext (hA_38 6 rfl)).trans (((show A28 6 = A20 6 from (eA28 6))).trans ((eA20 6).trans ew20_4))) (x38_4)).symm.trans ev42
      have hse := ev42
      refine v_inv H (o := 10) rfl rfl rfl rfl rfl rfl (by rfl) (C161_Br (D := pul [10, 3, 11] D_38) (N := pul [10, 3, 11] N_38) (HW_sub H (VS_of (show vsub V139 V161_Br [10, 3, 11] = true by decide +kernel))) (pm38_11) (n3) ((congrArg (fun q : Nat => (q : Int)) (hN_38 3 rfl)).trans ((congrArg (fun q : Nat => (q : Int)) (show N20 3 = N15 3 from (eN20 3).trans (hN20 2 rfl))).trans ((congrArg (fun q : Nat => (q : Int)) (show N15 3 = N 3 from (eN15 3).trans (hN15 2 rfl))).trans (en3)))) (m38_11) (em38_11) (y38_10_1) ((ey38_10_1)) (A_38 11) (rfl) (show inr (x38_3) by omega) (show inr (v42) by have qh0 := HIDe qv42; omega) (show 0 ≤ (y38_10_1) ∧ (y38_10_1) ≤ (m38_11) ∧ (m38_11) ≤ 65536 by have qh0 := HIDe r32; have qh1 := HIDe r33; omega) (show (v42) < 0 ∨ 0 ≤ (x38_3) ∧ (x38_3) + (v42) ≤ (n3) by have qh0 := HIDe qv42; have qh1 := HIDe r6; omega) (fun σ43 D43ₚ N43ₚ F43ₚ A43ₚ c43 s43 Hₚ Oₚ hD43 hN43 hS43 hA43 pm43_2 m43_2 em43_2 y43_0_1 ey43_0_1 w43_2 ew43_2 pz43_0 pz43_1 pz43_2 => ⟨rfl, ?_⟩))
      replace pm43_2 := HIDm pm43_2
      replace em43_2 := HIDm em43_2
      replace ey43_0_1 := HIDm ey43_0_1
      refine v_backM (c := c_38) (s := s_38) H (show vsub V139 V161_Br [10, 3, 11] = true by decide +kernel) Hₚ Oₚ hD43 (show vmov V139 [10, 3, 11] [2] = true by decide +kernel) (fun D43 N43 F43 A43 H Oₚ eD43 eN43 eF43 eA43 => ?_)
      have O := OUT_trans O Oₚ
      -- Row.addPart
      have pf43_0_0 : HID (F43 0 0 = (D43 9 : Int)) := ((show F43 0 0 = F_38 0 0 from (eF43 0 0))).trans ((pf_38_0_0).trans (congrArg (fun q : Nat => (q : Int)) ((show D43 9 = D_38 9 from (eD43 9))).symm))
      have pf43_0_1 : HID (F43 0 1 = (D43 1 : Int)) := ((show F43 0 1 = F_38 0 1 from (eF43 0 1))).trans ((pf_38_0_1).trans (congrArg (fun q : Nat => (q : Int)) ((show D43 1 = D_38 1 from (eD43 1))).symm))
      have pf43_0_11 : HID (F43 0 11 = (D43 12 : Int)) := ((show F43 0 11 = F_38 0 11 from (eF43 0 11))).trans ((pf_38_0_11).trans (congrArg (fun q : Nat => (q : Int)) ((show D43 12 = D_38 12 from (eD43 12))).symm))
      have pf43_0_9 : HID (F43 0 9 = (D43 10 : Int)) := ((show F43 0 9 = F_38 0 9 from (eF43 0 9))).trans ((pf_38_0_9).trans (congrArg (fun q : Nat => (q : Int)) ((show D43 10 = D_38 10 from (eD43 10).trans (hD43 0 rfl))).symm))
      have pf43_1_0 : HID (F43 1 0 = (D43 2 : Int)) := ((show F43 1 0 = F_38 1 0 from (eF43 1 0))).trans ((pf_38_1_0).trans (congrArg (fun q : Nat => (q : Int)) ((show D43 2 = D_38 2 from (eD43 2))).symm))
      have pf43_1_1 : HID (F43 1 1 = (D43 6 : Int)) := ((show F43 1 1 = F_38 1 1 from (eF43 1 1))).trans ((pf_38_1_1).trans (congrArg (fun q : Nat => (q : Int)) ((show D43 6 = D_38 6 from (eD43 6))).symm))
      have pf43_1_2 : HID (F43 1 2 = (D43 7 : Int)) := ((show F43 1 2 = F_38 1 2 from (eF43 1 2))).trans ((pf_38_1_2).trans (congrArg (fun q : Nat => (q : Int)) ((show D43 7 = D_38 7 from (eD43 7))).symm))
      have pf43_1_3 : HID (F43 1 3 = (D43 8 : Int)) := ((show F43 1 3 = F_38 1 3 from (eF43 1 3))).trans ((pf_38_1_3).trans (congrArg (fun q : Nat => (q : Int)) ((show D43 8 = D_38 8 from (eD43 8))).symm))
      have pf43_1_7 : HID (F43 1 7 = (D43 5 : Int)) := ((show F43 1 7 = F_38 1 7 from (eF43 1 7))).trans ((pf_38_1_7).trans (congrArg (fun q : Nat => (q : Int)) ((show D43 5 = D_38 5 from (eD43 5))).symm))
      have pf43_1_8 : HID (F43 1 8 = (D43 4 : Int)) := ((show F43 1 8 = F_38 1 8 from (eF43 1 8))).trans ((pf_38_1_8).trans (congrArg (fun q : Nat => (q : Int)) ((show D43 4 = D_38 4 from (eD43 4))).symm))
      have pf43_10_0 : HID (F43 10 0 = (D43 11 : Int)) := (eF43 10 0).trans (pm43_2.trans (congrArg (fun q : Nat => (q : Int)) (eD43 11).symm))
      have pf43_2_0 : HID (F43 2 0 = (D43 3 : Int)) := ((show F43 2 0 = F_38 2 0 from (eF43 2 0))).trans ((pf_38_2_0).trans (congrArg (fun q : Nat => (q : Int)) ((show D43 3 = D_38 3 from (eD43 3).trans (hD43 1 rfl))).symm))
      have r44 : HID ((0 : Int) ≤ m43_2 ∧ m43_2 ≤ 1000000) := nrng (H.nle 11 (by decide)) (show (N43 11 : Int) = m43_2 from (congrArg (fun q : Nat => (q : Int)) (eN43 11)).trans em43_2)
      have r45 : HID ((-2147483648 : Int) ≤ y43_0_1 ∧ y43_0_1 ≤ 2147483647) := krg_e (show (-2147483648 : Int) ≤ F43 10 1 ∧ F43 10 1 ≤ 2147483647 from H.krg 10 1 (by decide)) (show F43 10 1 = y43_0_1 from ((eF43 10 1).trans ey43_0_1))
      refine Ew_of (pcₚ := 79) (fun _ => x_iload_n rfl l38_3) ?_
      refine Ew_of (pcₚ := 80) (fun _ => x_aload_n rfl l38_0) ?_
      refine Ew_stk (show ([.ref (D_38 0), I (x38_3)] : List Value) = [.ref (D43 0), I (x38_3)] by rw [show D43 0 = D_38 0 from ((show D43 0 = D_38 0 from (eD43 0)))]) ?_
      refine v_g H (o := 0) (v := .ref (D43 1)) rfl rfl rfl rfl rfl (vrf (pf43_0_1)) ?_
      refine v_g H (o := 1) (v := .ref (D43 6)) rfl rfl rfl rfl rfl (vrf (pf43_1_1)) ?_
      refine Ew_of (pcₚ := 88) (fun _ => x_iload rfl l38_4) ?_
      refine v_lI H (o := 6) rfl rfl rfl rfl (n := m20_4) ((congrArg (fun q : Nat => (q : Int)) (show N43 6 = N_38 6 from (eN43 6))).trans ((congrArg (fun q : Nat => (q : Int)) (hN_38 6 rfl)).trans ((congrArg (fun q : Nat => (q : Int)) (eN20 6)).trans em20_4))) (show 0 ≤ x38_4 ∧ x38_4 < m20_4 by have qh0 := HIDe r21; omega) (fun v46 ev46 qv46 => ?_)
      replace qv46 := HIDm qv46
      have ev46 : (w20_4) (x38_4) = v46 := (congrFun (((show A43 6 = A_38 6 from (eA43 6))).trans ((funext (hA_38 6 rfl)).trans (((show A28 6 = A20 6 from (eA28 6))).trans ((eA20 6).trans ew20_4)))) (x38_4)).symm.trans ev46
      have hsf := ev46
      refine Ew_of (pcₚ := 90) (fun _ => x_aload_n rfl l38_0) ?_
      refine Ew_stk (show ([.ref (D_38 0), I (v46), I (x38_3)] : List Value) = [.ref (D43 0), I (v46), I (x38_3)] by rw [show D43 0 = D_38 0 from ((show D43 0 = D_38 0 from (eD43 0)))]) ?_
      refine v_g H (o := 0) (v := .ref (D43 1)) rfl rfl rfl rfl rfl (vrf (pf43_0_1)) ?_
      refine v_g H (o := 1) (v := .ref (D43 7)) rfl rfl rfl rfl rfl (vrf (pf43_1_2)) ?_
      refine Ew_of (pcₚ := 98) (fun _ => x_iload rfl l38_4) ?_
      refine v_lI H (o := 7) rfl rfl rfl rfl (n := m20_5) ((congrArg (fun q : Nat => (q : Int)) (show N43 7 = N_38 7 from (eN43 7))).trans ((congrArg (fun q : Nat => (q : Int)) (hN_38 7 rfl)).trans ((congrArg (fun q : Nat => (q : Int)) (eN20 7)).trans em20_5))) (show 0 ≤ x38_4 ∧ x38_4 < m20_5 by have qh0 := HIDe r22; omega) (fun v47 ev47 qv47 => ?_)
      replace qv47 := HIDm qv47
      have ev47 : (w20_5) (x38_4) = v47 := (congrFun (((show A43 7 = A_38 7 from (eA43 7))).trans ((funext (hA_38 7 rfl)).trans (((show A28 7 = A20 7 from (eA28 7))).trans ((eA20 7).trans ew20_5)))) (x38_4)).symm.trans ev47
      have hsg := ev47
      refine w_iadd rfl ?_
      refine w_iadd rfl ?_
      refine Ew_of (pcₚ := 102) (fun _ => x_istore_n rfl) ?_
      refine Ew_of (pcₚ := 105) (fun _ => x_iinc (len := 3) rfl (rk_o (l38_4) rfl rfl)) ?_
      refine Ew_of (pcₚ := 38) (fun _ => x_goto rfl rfl) ?_
      exact ih38 _ (by omega) _ _ _ _ _ _ _ _ ((x38_3 + (v46 + v47))) ((x38_4 + 1)) ((rk_o (rk_o (l38_0) rfl rfl) rfl rfl).trans (congrArg (fun q : Nat => some (Value.ref q)) (((show D43 0 = D_38 0 from (eD43 0)))).symm)) (rk_o (rk_s) rfl rfl) (rk_s) H O (SD_trans (hD_38) (SD_glu (ι := [10, 3, 11]) hD43 eD43 (by decide +kernel)) (any_subA (lₚ := [11]) rfl)) (SD_trans (hN_38) (SD_glu (ι := [10, 3, 11]) hN43 eN43 (by decide +kernel)) (any_subA (lₚ := [11]) rfl)) (SF_trans (hS_38) (SF_glu (ι := [10, 3, 11]) hS43 eF43 (by decide +kernel)) (any_sub (lₚ := [(10, 0), (10, 1), (10, 2)]) rfl)) (SA_trans (hA_38) (SA_glu (ι := [10, 3, 11]) hA43 eA43 (by decide +kernel)) (any_subA (lₚ := [11]) rfl)) (pf43_10_0) (m43_2) ((congrArg (fun q : Nat => (q : Int)) (eN43 11)).trans em43_2) (y43_0_1) (((eF43 10 1).trans ey43_0_1))  (show inr ((x38_3 + (v46 + v47))) by have qh0 := HIDe qv46; have qh1 := HIDe qv47; omega) (show inr ((x38_4 + 1)) by omega) (show (0) ≤ ((x38_4 + 1)) by omega) (show ((x38_4 + 1)) ≤ (0) ∨ ((x38_4 + 1)) ≤ ((y20_0_4)) by have qh0 := HIDe r24; omega) (show 0 ≤ (y43_0_1) ∧ (y43_0_1) ≤ (m43_2) ∧ (m43_2) ≤ 65536 by have qh0 := HIDe r44; have qh1 := HIDe r45; omega) (show ((x38_3 + (v46 + v47))) = (a1) + su (fun j => ((w20_4)) j + ((w20_5)) j) (((x38_4 + 1)) : Int).toNat by have qh0 := HIDe qv46; have qh1 := HIDe qv47; omega) rfl
