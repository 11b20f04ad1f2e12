abbrev V139 : vV := [(0, 6, [(4, 0), (4, 0), (4, 0), (4, 0), (4, 0), (4, 0), (4, 0), (4, 0), (4, 0), (4, 0), (4, 0), (4, 0), (4, 0), (4, 0), (4, 0), (0, 0), (0, 0), (4, 0), (4, 0)]), (0, 5, [(4, 0), (4, 0), (4, 0), (4, 0), (0, 0), (0, 0), (0, 0), (4, 0), (4, 0), (0, 0), (0, 0), (0, 0), (0, 0), (0, 0), (0, 0), (0, 0), (0, 0), (0, 0), (0, 0)]), (0, 7, [(4, 0), (0, 0), (1, 0), (0, 0), (0, 0)]), (1, 0, []), (1, 1, []), (1, 1, []), (1, 1, []), (1, 1, []), (1, 1, []), (1, 1, []), (0, 7, [(4, 0), (0, 0), (1, 0), (0, 0), (0, 0)]), (1, 0, []), (1, 1, [])]
set_option maxHeartbeats 16000000 in
/-- Packer.findSequences: this, this.finder, this.finder.data, this.finder.data.bytes, this.finder.back, this.finder.heads, this.finder.literals, this.finder.lengths, this.finder.distances, this.settings, this.literals, this.literals.bytes, this.byteCounts -/
theorem C139 {σE : rS} {D N : Nat → Nat} {F : hF} {A : hA} {d c s : Nat} {Q : wQ} (H : HW V139 σE D N F A) {a1 a2 : Int} (pf1 : F 0 1 = (D 1 : Int)) (pf2 : F 1 0 = (D 2 : Int)) (pf3 : F 2 0 = (D 3 : Int)) (pf4 : F 1 8 = (D 4 : Int)) (pf5 : F 1 7 = (D 5 : Int)) (pf6 : F 1 1 = (D 6 : Int)) (pf7 : F 1 2 = (D 7 : Int)) (pf8 : F 1 3 = (D 8 : Int)) (pf9 : F 0 0 = (D 9 : Int)) (pf10 : F 0 9 = (D 10 : Int)) (pf11 : F 10 0 = (D 11 : Int)) (pf12 : F 0 11 = (D 12 : Int)) (n3 : Int) (en3 : (N 3 : Int) = n3) (n4 : Int) (en4 : (N 4 : Int) = n4) (n5 : Int) (en5 : (N 5 : Int) = n5) (n6 : Int) (en6 : (N 6 : Int) = n6) (n7 : Int) (en7 : (N 7 : Int) = n7) (n8 : Int) (en8 : (N 8 : Int) = n8) (n9 : Int) (en9 : (N 9 : Int) = n9) (n11 : Int) (en11 : (N 11 : Int) = n11) (n12 : Int) (en12 : (N 12 : Int) = n12) (u1_4 : Int) (eu1_4 : F 1 4 = u1_4) (u1_6 : Int) (eu1_6 : F 1 6 = u1_6) (u1_10 : Int) (eu1_10 : F 1 10 = u1_10) (u2_1 : Int) (eu2_1 : F 2 1 = u2_1) (u10_1 : Int) (eu10_1 : F 10 1 = u10_1) (w3 : Int → Int) (ew3 : A 3 = w3) (w4 : Int → Int) (ew4 : A 4 = w4) (w5 : Int → Int) (ew5 : A 5 = w5) (w8 : Int → Int) (ew8 : A 8 = w8) (w9 : Int → Int) (ew9 : A 9 = w9) (w11 : Int → Int) (ew11 : A 11 = w11) (w12 : Int → Int) (ew12 : A 12 = w12) (h0 : inr (a1)) (h1 : inr (a2)) (h2 : 0 ≤ (u2_1) ∧ (u2_1) ≤ (n3) ∧ (n3) ≤ 65536 ∧ (u2_1) ≤ 16384) (h3 : 1 ≤ (u1_10) ∧ (u1_10) ≤ 8) (h4 : BKI ((w3)) ((w4)) ((u1_10)) ((u1_6))) (h5 : HDI ((w3)) ((w5)) ((u1_10)) ((u1_6))) (h6 : (n5) = 2048) (h7 : 0 ≤ (u1_6) ∧ (u1_6) ≤ (n4) ∧ (n4) ≤ 16384) (h8 : (n6) = (n7) ∧ (n8) = (n7) ∧ (n7) ≤ 65536 ∧ ((n7) = 0 ∨ 64 ≤ (n7)) ∧ lgq ((n7)) = 0) (h9 : (u1_10) = ((w9)) 1) (h10 : 0 ≤ (a1) ∧ (a1) ≤ (a2) ∧ (a2) ≤ (u2_1)) (h11 : (n9) = 10) (h12 : 0 ≤ (u10_1) ∧ (u10_1) ≤ (n11) ∧ (n11) ≤ 65536) (h13 : (n12) = 256) (k : ∀ (σ : rS) (D' N' : Nat → Nat) (F' : hF) (A' : hA) (c' s' : Nat), HW V139 σ D' N' F' A' → OUT (V139).length D N σE c s D' N' σ c' s' → SD [4, 6, 7, 8, 11] D D' → SD [4, 6, 7, 8, 11] N N' → SF [(1, 1), (1, 2), (1, 3), (1, 4), (1, 5), (1, 6), (1, 8), (1, 12), (1, 13), (1, 14), (1, 15), (1, 16), (1, 17), (1, 18), (10, 0), (10, 1), (10, 2), (10, 3), (10, 4)] F F' → SA [4, 5, 6, 7, 8, 11, 12] A A' → F' 1 8 = (D' 4 : Int) → F' 1 1 = (D' 6 : Int) → F' 1 2 = (D' 7 : Int) → F' 1 3 = (D' 8 : Int) → F' 10 0 = (D' 11 : Int) → ∀ m4 : Int, (N' 4 : Int) = m4 → ∀ m6 : Int, (N' 6 : Int) = m6 → ∀ m7 : Int, (N' 7 : Int) = m7 → ∀ m8 : Int, (N' 8 : Int) = m8 → ∀ m11 : Int, (N' 11 : Int) = m11 → ∀ y1_4 : Int, F' 1 4 = y1_4 → ∀ y1_6 : Int, F' 1 6 = y1_6 → ∀ y10_1 : Int, F' 10 1 = y10_1 → ∀ v4 : Int → Int, A' 4 = v4 → ∀ v5 : Int → Int, A' 5 = v5 → ∀ v8 : Int → Int, A' 8 = v8 → ∀ v11 : Int → Int, A' 11 = v11 → ∀ v12 : Int → Int, A' 12 = v12 → (0 ≤ (y1_6) ∧ (u1_6) ≤ (y1_6) ∧ (y1_6) ≤ (m4) ∧ (m4) ≤ 16384) → ((m6) = (m7) ∧ (m8) = (m7) ∧ (m7) ≤ 65536 ∧ ((m7) = 0 ∨ 64 ≤ (m7)) ∧ lgq ((m7)) = 0) → (BKI ((w3)) ((v4)) ((u1_10)) ((y1_6))) → (HDI ((w3)) ((v5)) ((u1_10)) ((y1_6))) → (0 ≤ (y1_4) ∧ (y1_4) ≤ (m7) ∧ (y1_4) ≤ (a2) - (a1)) → (DSI ((v8)) ((y1_4))) → (0 ≤ (y10_1) ∧ (y10_1) ≤ (m11) ∧ (m11) ≤ 65536) → (CTN (ub ((v11))) ((v12)) ((y10_1)) 256) → Q none σ c' s') : Ew 139 (d + 4) 0 (rargs 0 [.ref (D 0), I a1, I a2]) [] σE c s Q := by
  have O := OUT_refl (n := (V139).length) (D := D) (N := N) (σ := σE) (c := c) (s := s)
  have HE := H
  have r1 : HID ((-2147483648 : Int) ≤ u1_4 ∧ u1_4 ≤ 2147483647) := krg_e (show (-2147483648 : Int) ≤ F 1 4 ∧ F 1 4 ≤ 2147483647 from H.krg 1 4 (by decide)) (show F 1 4 = u1_4 from (eu1_4))
  have r2 : HID ((-2147483648 : Int) ≤ u1_6 ∧ u1_6 ≤ 2147483647) := krg_e (show (-2147483648 : Int) ≤ F 1 6 ∧ F 1 6 ≤ 2147483647 from H.krg 1 6 (by decide)) (show F 1 6 = u1_6 from (eu1_6))
  have r3 : HID ((-2147483648 : Int) ≤ u1_10 ∧ u1_10 ≤ 2147483647) := krg_e (show (-2147483648 : Int) ≤ F 1 10 ∧ F 1 10 ≤ 2147483647 from H.krg 1 10 (by decide)) (show F 1 10 = u1_10 from (eu1_10))
  have r4 : HID ((-2147483648 : Int) ≤ u2_1 ∧ u2_1 ≤ 2147483647) := krg_e (show (-2147483648 : Int) ≤ F 2 1 ∧ F 2 1 ≤ 2147483647 from H.krg 2 1 (by decide)) (show F 2 1 = u2_1 from (eu2_1))
  have r5 : HID ((-2147483648 : Int) ≤ u10_1 ∧ u10_1 ≤ 2147483647) := krg_e (show (-2147483648 : Int) ≤ F 10 1 ∧ F 10 1 ≤ 2147483647 from H.krg 10 1 (by decide)) (show F 10 1 = u10_1 from (eu10_1))
  replace pf1 := HIDm pf1
  replace pf2 := HIDm pf2
  replace pf3 := HIDm pf3
  replace pf4 := HIDm pf4
  replace pf5 := HIDm pf5
  replace pf6 := HIDm pf6
  replace pf7 := HIDm pf7
  replace pf8 := HIDm pf8
  replace pf9 := HIDm pf9
  replace pf10 := HIDm pf10
  replace pf11 := HIDm pf11
  replace pf12 := HIDm pf12
  replace en3 := HIDm en3
  replace en4 := HIDm en4
  replace en5 := HIDm en5
  replace en6 := HIDm en6
  replace en7 := HIDm en7
  replace en8 := HIDm en8
  replace en9 := HIDm en9
  replace en11 := HIDm en11
  replace en12 := HIDm en12
  replace eu1_4 := HIDm eu1_4
  replace eu1_6 := HIDm eu1_6
  replace eu1_10 := HIDm eu1_10
  replace eu2_1 := HIDm eu2_1
  replace eu10_1 := HIDm eu10_1
  have r6 : HID ((0 : Int) ≤ n3 ∧ n3 ≤ 1000000) := nrng (H.nle 3 (by decide)) (show (N 3 : Int) = n3 from en3)
  have r7 : HID ((0 : Int) ≤ n4 ∧ n4 ≤ 1000000) := nrng (H.nle 4 (by decide)) (show (N 4 : Int) = n4 from en4)
  have r8 : HID ((0 : Int) ≤ n5 ∧ n5 ≤ 1000000) := nrng (H.nle 5 (by decide)) (show (N 5 : Int) = n5 from en5)
  have r9 : HID ((0 : Int) ≤ n6 ∧ n6 ≤ 1000000) := nrng (H.nle 6 (by decide)) (show (N 6 : Int) = n6 from en6)
  have r10 : HID ((0 : Int) ≤ n7 ∧ n7 ≤ 1000000) := nrng (H.nle 7 (by decide)) (show (N 7 : Int) = n7 from en7)
  have r11 : HID ((0 : Int) ≤ n8 ∧ n8 ≤ 1000000) := nrng (H.nle 8 (by decide)) (show (N 8 : Int) = n8 from en8)
  have r12 : HID ((0 : Int) ≤ n9 ∧ n9 ≤ 1000000) := nrng (H.nle 9 (by decide)) (show (N 9 : Int) = n9 from en9)
  have r13 : HID ((0 : Int) ≤ n11 ∧ n11 ≤ 1000000) := nrng (H.nle 11 (by decide)) (show (N 11 : Int) = n11 from en11)
  have r14 : HID ((0 : Int) ≤ n12 ∧ n12 ≤ 1000000) := nrng (H.nle 12 (by decide)) (show (N 12 : Int) = n12 from en12)
  refine Ew_of (pc' := 1) (fun _ => x_aload_n rfl rfl) ?_
  refine v_g H (o := 0) (v := .ref (D 1)) rfl rfl rfl rfl rfl (vrf (pf1)) ?_
  refine Ew_of (pc' := 5) (fun _ => x_iload_n rfl rfl) ?_
  refine v_inv H (o := 1) rfl rfl rfl rfl rfl rfl (by rfl) (C123 (D := pul [1, 2, 3, 4, 5] D) (N := pul [1, 2, 3, 4, 5] N) (HW_sub H (VS_of (show vsub V139 V123 [1, 2, 3, 4, 5] = true by decide +kernel))) (pf2) (pf3) (pf4) (pf5) (n3) (en3) (n4) (en4) (n5) (en5) (u1_6) ((eu1_6)) (u1_10) ((eu1_10)) (u2_1) ((eu2_1)) (w3) (ew3) (w4) (ew4) (w5) (ew5) (show inr (a2) by omega) (show 0 ≤ (u2_1) ∧ (u2_1) ≤ (n3) ∧ (n3) ≤ 65536 ∧ (u2_1) ≤ 16384 by have qh0 := HIDe r4; have qh1 := HIDe r6; omega) (show 1 ≤ (u1_10) ∧ (u1_10) ≤ 8 by have qh0 := HIDe r3; omega) (show 0 ≤ (a2) ∧ (a2) ≤ (u2_1) by have qh0 := HIDe r4; omega) (show BKI ((w3)) ((w4)) ((u1_10)) ((u1_6)) by assumption) (show HDI ((w3)) ((w5)) ((u1_10)) ((u1_6)) by assumption) (show (n5) = 2048 by have qh0 := HIDe r8; omega) (show 0 ≤ (u1_6) ∧ (u1_6) ≤ (n4) ∧ (n4) ≤ 16384 by have qh0 := HIDe r2; have qh1 := HIDe r7; omega) (fun σ15 D15' N15' F15' A15' c15 s15 H' O' hD15 hN15 hS15 hA15 pm15_3 m15_3 em15_3 y15_0_6 ey15_0_6 w15_3 ew15_3 w15_4 ew15_4 pz15_0 pz15_1 pz15_2 pz15_3 pz15_4 => ⟨rfl, ?_⟩))
  replace pm15_3 := HIDm pm15_3
  replace em15_3 := HIDm em15_3
  replace ey15_0_6 := HIDm ey15_0_6
  refine v_backM (c := c) (s := s) H (show vsub V139 V123 [1, 2, 3, 4, 5] = true by decide +kernel) H' O' hD15 (show vmov V139 [1, 2, 3, 4, 5] [3] = true by decide +kernel) (fun D15 N15 F15 A15 H O' eD15 eN15 eF15 eA15 => ?_)
  have O := OUT_trans O O'
  -- Finder.lay
  have pf15_0_0 : HID (F15 0 0 = (D15 9 : Int)) := ((show F15 0 0 = F 0 0 from (eF15 0 0))).trans ((pf9).trans (congrArg (fun q : Nat => (q : Int)) ((show D15 9 = D 9 from (eD15 9))).symm))
  have pf15_0_1 : HID (F15 0 1 = (D15 1 : Int)) := ((show F15 0 1 = F 0 1 from (eF15 0 1))).trans ((pf1).trans (congrArg (fun q : Nat => (q : Int)) ((show D15 1 = D 1 from (eD15 1).trans (hD15 0 rfl))).symm))
  have pf15_0_11 : HID (F15 0 11 = (D15 12 : Int)) := ((show F15 0 11 = F 0 11 from (eF15 0 11))).trans ((pf12).trans (congrArg (fun q : Nat => (q : Int)) ((show D15 12 = D 12 from (eD15 12))).symm))
  have pf15_0_9 : HID (F15 0 9 = (D15 10 : Int)) := ((show F15 0 9 = F 0 9 from (eF15 0 9))).trans ((pf10).trans (congrArg (fun q : Nat => (q : Int)) ((show D15 10 = D 10 from (eD15 10))).symm))
  have pf15_1_0 : HID (F15 1 0 = (D15 2 : Int)) := ((show F15 1 0 = F 1 0 from (eF15 1 0).trans (hS15 0 0 rfl))).trans ((pf2).trans (congrArg (fun q : Nat => (q : Int)) ((show D15 2 = D 2 from (eD15 2).trans (hD15 1 rfl))).symm))
  have pf15_1_1 : HID (F15 1 1 = (D15 6 : Int)) := ((show F15 1 1 = F 1 1 from (eF15 1 1).trans (hS15 0 1 rfl))).trans ((pf6).trans (congrArg (fun q : Nat => (q : Int)) ((show D15 6 = D 6 from (eD15 6))).symm))
  have pf15_1_2 : HID (F15 1 2 = (D15 7 : Int)) := ((show F15 1 2 = F 1 2 from (eF15 1 2).trans (hS15 0 2 rfl))).trans ((pf7).trans (congrArg (fun q : Nat => (q : Int)) ((show D15 7 = D 7 from (eD15 7))).symm))
  have pf15_1_3 : HID (F15 1 3 = (D15 8 : Int)) := ((show F15 1 3 = F 1 3 from (eF15 1 3).trans (hS15 0 3 rfl))).trans ((pf8).trans (congrArg (fun q : Nat => (q : Int)) ((show D15 8 = D 8 from (eD15 8))).symm))
  have pf15_1_7 : HID (F15 1 7 = (D15 5 : Int)) := ((show F15 1 7 = F 1 7 from (eF15 1 7).trans (hS15 0 7 rfl))).trans ((pf5).trans (congrArg (fun q : Nat => (q : Int)) ((show D15 5 = D 5 from (eD15 5).trans (hD15 4 rfl))).symm))
  have pf15_1_8 : HID (F15 1 8 = (D15 4 : Int)) := (eF15 1 8).trans (pm15_3.trans (congrArg (fun q : Nat => (q : Int)) (eD15 4).symm))
  have pf15_10_0 : HID (F15 10 0 = (D15 11 : Int)) := ((show F15 10 0 = F 10 0 from (eF15 10 0))).trans ((pf11).trans (congrArg (fun q : Nat => (q : Int)) ((show D15 11 = D 11 from (eD15 11))).symm))
  have pf15_2_0 : HID (F15 2 0 = (D15 3 : Int)) := ((show F15 2 0 = F 2 0 from (eF15 2 0).trans (hS15 1 0 rfl))).trans ((pf3).trans (congrArg (fun q : Nat => (q : Int)) ((show D15 3 = D 3 from (eD15 3).trans (hD15 2 rfl))).symm))
  have r16 : HID ((0 : Int) ≤ m15_3 ∧ m15_3 ≤ 1000000) := nrng (H.nle 4 (by decide)) (show (N15 4 : Int) = m15_3 from (congrArg (fun q : Nat => (q : Int)) (eN15 4)).trans em15_3)
  have r17 : HID ((-2147483648 : Int) ≤ y15_0_6 ∧ y15_0_6 ≤ 2147483647) := krg_e (show (-2147483648 : Int) ≤ F15 1 6 ∧ F15 1 6 ≤ 2147483647 from H.krg 1 6 (by decide)) (show F15 1 6 = y15_0_6 from ((eF15 1 6).trans ey15_0_6))
  refine Ew_of (pc' := 9) (fun _ => x_aload_n rfl rfl) ?_
  refine Ew_stk (show ([.ref (D 0)] : List Value) = [.ref (D15 0)] by rw [show D15 0 = D 0 from ((show D15 0 = D 0 from (eD15 0)))]) ?_
  refine v_g H (o := 0) (v := .ref (D15 1)) rfl rfl rfl rfl rfl (vrf (pf15_0_1)) ?_
  refine Ew_of (pc' := 13) (fun _ => x_iload_n rfl rfl) ?_
  refine Ew_of (pc' := 14) (fun _ => x_iload_n rfl rfl) ?_
  refine Ew_of (pc' := 15) (fun _ => x_iload_n rfl rfl) ?_
  refine Ew_of (pc' := 16) (fun _ => x_iload_n rfl rfl) ?_
  refine Ew_of (pc' := 17) (fun _ => x_aload_n rfl rfl) ?_
  refine Ew_stk (show ([.ref (D 0), I (a2), I (a2), I (a2), I (a1), .ref (D15 1)] : List Value) = [.ref (D15 0), I (a2), I (a2), I (a2), I (a1), .ref (D15 1)] by rw [show D15 0 = D 0 from ((show D15 0 = D 0 from (eD15 0)))]) ?_
  refine v_g H (o := 0) (v := .ref (D15 9)) rfl rfl rfl rfl rfl (vrf (pf15_0_0)) ?_
  refine Ew_of (pc' := 21) (fun _ => x_iconst rfl) ?_
  refine v_lI H (o := 9) rfl rfl rfl rfl (n := n9) ((congrArg (fun q : Nat => (q : Int)) (show N15 9 = N 9 from (eN15 9))).trans (en9)) (show 0 ≤ 1 ∧ 1 < n9 by have qh0 := HIDe r12; omega) (fun v18 ev18 qv18 => ?_)
  replace qv18 := HIDm qv18
  have ev18 : (w9) (1) = v18 := (congrFun (((show A15 9 = A 9 from (eA15 9))).trans (ew9)) (1)).symm.trans ev18
  have hsl := ev18
  refine w_isub rfl ?_
  have r19 : HID ((-2147483648 : Int) ≤ F 1 5 ∧ F 1 5 ≤ 2147483647) := krg_e (show (-2147483648 : Int) ≤ F15 1 5 ∧ F15 1 5 ≤ 2147483647 from H.krg 1 5 (by decide)) (show F15 1 5 = F 1 5 from ((show F15 1 5 = F 1 5 from (eF15 1 5).trans (hS15 0 5 rfl))))
  have r20 : HID ((-2147483648 : Int) ≤ F 1 9 ∧ F 1 9 ≤ 2147483647) := krg_e (show (-2147483648 : Int) ≤ F15 1 9 ∧ F15 1 9 ≤ 2147483647 from H.krg 1 9 (by decide)) (show F15 1 9 = F 1 9 from ((show F15 1 9 = F 1 9 from (eF15 1 9).trans (hS15 0 9 rfl))))
  have r21 : HID ((-2147483648 : Int) ≤ F 1 11 ∧ F 1 11 ≤ 2147483647) := krg_e (show (-2147483648 : Int) ≤ F15 1 11 ∧ F15 1 11 ≤ 2147483647 from H.krg 1 11 (by decide)) (show F15 1 11 = F 1 11 from ((show F15 1 11 = F 1 11 from (eF15 1 11).trans (hS15 0 11 rfl))))
  refine v_inv H (o := 1) rfl rfl rfl rfl rfl rfl (by rfl) (C125 (D := pul [1, 2, 3, 4, 6, 7, 8] D15) (N := pul [1, 2, 3, 4, 6, 7, 8] N15) (HW_sub H (VS_of (show vsub V139 V125 [1, 2, 3, 4, 6, 7, 8] = true by decide +kernel))) (pf15_1_0) (pf15_2_0) (pf15_1_8) (pf15_1_1) (pf15_1_2) (pf15_1_3) (n3) ((congrArg (fun q : Nat => (q : Int)) (show N15 3 = N 3 from (eN15 3).trans (hN15 2 rfl))).trans (en3)) (m15_3) ((congrArg (fun q : Nat => (q : Int)) (eN15 4)).trans em15_3) (n6) ((congrArg (fun q : Nat => (q : Int)) (show N15 6 = N 6 from (eN15 6))).trans (en6)) (n7) ((congrArg (fun q : Nat => (q : Int)) (show N15 7 = N 7 from (eN15 7))).trans (en7)) (n8) ((congrArg (fun q : Nat => (q : Int)) (show N15 8 = N 8 from (eN15 8))).trans (en8)) (u1_4) ((((show F15 1 4 = F 1 4 from (eF15 1 4).trans (hS15 0 4 rfl))).trans (eu1_4))) (F 1 5) (((show F15 1 5 = F 1 5 from (eF15 1 5).trans (hS15 0 5 rfl)))) (y15_0_6) (((eF15 1 6).trans ey15_0_6)) (F 1 9) (((show F15 1 9 = F 1 9 from (eF15 1 9).trans (hS15 0 9 rfl)))) (u1_10) ((((show F15 1 10 = F 1 10 from (eF15 1 10).trans (hS15 0 10 rfl))).trans (eu1_10))) (F 1 11) (((show F15 1 11 = F 1 11 from (eF15 1 11).trans (hS15 0 11 rfl)))) (u2_1) ((((show F15 2 1 = F 2 1 from (eF15 2 1).trans (hS15 1 1 rfl))).trans (eu2_1))) (w3) (((show A15 3 = A 3 from (eA15 3).trans (funext (hA15 2 rfl)))).trans (ew3)) (w15_3) ((eA15 4).trans ew15_3) (A 6) ((show A15 6 = A 6 from (eA15 6))) (A 7) ((show A15 7 = A 7 from (eA15 7))) (w8) (((show A15 8 = A 8 from (eA15 8))).trans (ew8)) (show inr (a1) by omega) (show inr (a2) by omega) (show inr (a2) by omega) (show inr ((a2 - v18)) by have qh0 := HIDe qv18; omega) (show 0 ≤ (u2_1) ∧ (u2_1) ≤ (n3) ∧ (n3) ≤ 65536 ∧ (u2_1) ≤ 16384 by have qh0 := HIDe r4; have qh1 := HIDe r6; omega) (show 1 ≤ (u1_10) ∧ (u1_10) ≤ 8 by have qh0 := HIDe r3; omega) (show 0 ≤ (a1) ∧ (a1) ≤ (a2) ∧ (a2) ≤ (u2_1) by have qh0 := HIDe r4; omega) (show (a2) ≤ (a2) ∧ ((a2 - v18)) < (a2) ∧ ((a2 - v18)) < (y15_0_6) by have qh0 := HIDe qv18; have qh1 := HIDe r17; omega) (show 0 ≤ (y15_0_6) ∧ (y15_0_6) ≤ (m15_3) ∧ (m15_3) ≤ 16384 by have qh0 := HIDe r16; have qh1 := HIDe r17; omega) (show BKI ((w3)) ((w15_3)) ((u1_10)) ((y15_0_6)) by assumption) (show (n6) = (n7) ∧ (n8) = (n7) ∧ (n7) ≤ 65536 ∧ ((n7) = 0 ∨ 64 ≤ (n7)) ∧ lgq ((n7)) = 0 by have qh0 := HIDe r10; have qh1 := HIDe r11; have qh2 := HIDe r9; omega) (fun σ22 D22' N22' F22' A22' c22 s22 H' O' hD22 hN22 hS22 hA22 pm22_4 pm22_5 pm22_6 m22_4 em22_4 m22_5 em22_5 m22_6 em22_6 y22_0_4 ey22_0_4 y22_0_5 ey22_0_5 w22_4 ew22_4 w22_5 ew22_5 w22_6 ew22_6 pz22_0 pz22_1 pz22_2 pz22_3 pz22_4 => ⟨rfl, ?_⟩))
  replace pm22_4 := HIDm pm22_4
  replace pm22_5 := HIDm pm22_5
  replace pm22_6 := HIDm pm22_6
  replace em22_4 := HIDm em22_4
  replace em22_5 := HIDm em22_5
  replace em22_6 := HIDm em22_6
  replace ey22_0_4 := HIDm ey22_0_4
  replace ey22_0_5 := HIDm ey22_0_5
  refine v_backM (c := (c + c15)) (s := (s + s15)) H (show vsub V139 V125 [1, 2, 3, 4, 6, 7, 8] = true by decide +kernel) H' O' hD22 (show vmov V139 [1, 2, 3, 4, 6, 7, 8] [4, 5, 6] = true by decide +kernel) (fun D22 N22 F22 A22 H O' eD22 eN22 eF22 eA22 => ?_)
  have O := OUT_trans O O'
  -- Finder.go
  have pf22_0_0 : HID (F22 0 0 = (D22 9 : Int)) := ((show F22 0 0 = F15 0 0 from (eF22 0 0))).trans ((pf15_0_0).trans (congrArg (fun q : Nat => (q : Int)) ((show D22 9 = D15 9 from (eD22 9))).symm))
  have pf22_0_1 : HID (F22 0 1 = (D22 1 : Int)) := ((show F22 0 1 = F15 0 1 from (eF22 0 1))).trans ((pf15_0_1).trans (congrArg (fun q : Nat => (q : Int)) ((show D22 1 = D15 1 from (eD22 1).trans (hD22 0 rfl))).symm))
  have pf22_0_11 : HID (F22 0 11 = (D22 12 : Int)) := ((show F22 0 11 = F15 0 11 from (eF22 0 11))).trans ((pf15_0_11).trans (congrArg (fun q : Nat => (q : Int)) ((show D22 12 = D15 12 from (eD22 12))).symm))
  have pf22_0_9 : HID (F22 0 9 = (D22 10 : Int)) := ((show F22 0 9 = F15 0 9 from (eF22 0 9))).trans ((pf15_0_9).trans (congrArg (fun q : Nat => (q : Int)) ((show D22 10 = D15 10 from (eD22 10))).symm))
  have pf22_1_0 : HID (F22 1 0 = (D22 2 : Int)) := ((show F22 1 0 = F15 1 0 from (eF22 1 0).trans (hS22 0 0 rfl))).trans ((pf15_1_0).trans (congrArg (fun q : Nat => (q : Int)) ((show D22 2 = D15 2 from (eD22 2).trans (hD22 1 rfl))).symm))
  have pf22_1_1 : HID (F22 1 1 = (D22 6 : Int)) := (eF22 1 1).trans (pm22_4.trans (congrArg (fun q : Nat => (q : Int)) (eD22 6).symm))
  have pf22_1_2 : HID (F22 1 2 = (D22 7 : Int)) := (eF22 1 2).trans (pm22_5.trans (congrArg (fun q : Nat => (q : Int)) (eD22 7).symm))
  have pf22_1_3 : HID (F22 1 3 = (D22 8 : Int)) := (eF22 1 3).trans (pm22_6.trans (congrArg (fun q : Nat => (q : Int)) (eD22 8).symm))
  have pf22_1_7 : HID (F22 1 7 = (D22 5 : Int)) := ((show F22 1 7 = F15 1 7 from (eF22 1 7).trans (hS22 0 7 rfl))).trans ((pf15_1_7).trans (congrArg (fun q : Nat => (q : Int)) ((show D22 5 = D15 5 from (eD22 5))).symm))
  have pf22_1_8 : HID (F22 1 8 = (D22 4 : Int)) := ((show F22 1 8 = F15 1 8 from (eF22 1 8).trans (hS22 0 8 rfl))).trans ((pf15_1_8).trans (congrArg (fun q : Nat => (q : Int)) ((show D22 4 = D15 4 from (eD22 4).trans (hD22 3 rfl))).symm))
  have pf22_10_0 : HID (F22 10 0 = (D22 11 : Int)) := ((show F22 10 0 = F15 10 0 from (eF22 10 0))).trans ((pf15_10_0).trans (congrArg (fun q : Nat => (q : Int)) ((show D22 11 = D15 11 from (eD22 11))).symm))
  have pf22_2_0 : HID (F22 2 0 = (D22 3 : Int)) := ((show F22 2 0 = F15 2 0 from (eF22 2 0).trans (hS22 1 0 rfl))).trans ((pf15_2_0).trans (congrArg (fun q : Nat => (q : Int)) ((show D22 3 = D15 3 from (eD22 3).trans (hD22 2 rfl))).symm))
  have r23 : HID ((0 : Int) ≤ m22_4 ∧ m22_4 ≤ 1000000) := nrng (H.nle 6 (by decide)) (show (N22 6 : Int) = m22_4 from (congrArg (fun q : Nat => (q : Int)) (eN22 6)).trans em22_4)
  have r24 : HID ((0 : Int) ≤ m22_5 ∧ m22_5 ≤ 1000000) := nrng (H.nle 7 (by decide)) (show (N22 7 : Int) = m22_5 from (congrArg (fun q : Nat => (q : Int)) (eN22 7)).trans em22_5)
  have r25 : HID ((0 : Int) ≤ m22_6 ∧ m22_6 ≤ 1000000) := nrng (H.nle 8 (by decide)) (show (N22 8 : Int) = m22_6 from (congrArg (fun q : Nat => (q : Int)) (eN22 8)).trans em22_6)
  have r26 : HID ((-2147483648 : Int) ≤ y22_0_4 ∧ y22_0_4 ≤ 2147483647) := krg_e (show (-2147483648 : Int) ≤ F22 1 4 ∧ F22 1 4 ≤ 2147483647 from H.krg 1 4 (by decide)) (show F22 1 4 = y22_0_4 from ((eF22 1 4).trans ey22_0_4))
  have r27 : HID ((-2147483648 : Int) ≤ y22_0_5 ∧ y22_0_5 ≤ 2147483647) := krg_e (show (-2147483648 : Int) ≤ F22 1 5 ∧ F22 1 5 ≤ 2147483647 from H.krg 1 5 (by decide)) (show F22 1 5 = y22_0_5 from ((eF22 1 5).trans ey22_0_5))
  have hlnq : (m22_4) = (m22_5) ∧ (m22_6) = (m22_5) ∧ (m22_5) ≤ 65536 ∧ ((m22_5) = 0 ∨ 64 ≤ (m22_5)) ∧ lgq ((m22_5)) = 0 := by (have qg0 := HIDe r23; have qg1 := HIDe r24; have qg2 := HIDe r25; omega)
  refine Ew_of (pc' := 27) (fun _ => x_aload_n rfl rfl) ?_
  refine Ew_stk (show ([.ref (D 0)] : List Value) = [.ref (D22 0)] by rw [show D22 0 = D 0 from (((show D22 0 = D15 0 from (eD22 0))).trans ((show D15 0 = D 0 from (eD15 0))))]) ?_
  refine v_g H (o := 0) (v := .ref (D22 10)) rfl rfl rfl rfl rfl (vrf (pf22_0_9)) ?_
  have r28 : HID ((0 : Int) ≤ F 10 2 ∧ F 10 2 ≤ 1) := krg_e (show (0 : Int) ≤ F22 10 2 ∧ F22 10 2 ≤ 1 from H.krg 10 2 (by decide)) (show F22 10 2 = F 10 2 from (((show F22 10 2 = F15 10 2 from (eF22 10 2))).trans ((show F15 10 2 = F 10 2 from (eF15 10 2)))))
  have r29 : HID ((-2147483648 : Int) ≤ F 10 3 ∧ F 10 3 ≤ 2147483647) := krg_e (show (-2147483648 : Int) ≤ F22 10 3 ∧ F22 10 3 ≤ 2147483647 from H.krg 10 3 (by decide)) (show F22 10 3 = F 10 3 from (((show F22 10 3 = F15 10 3 from (eF22 10 3))).trans ((show F15 10 3 = F 10 3 from (eF15 10 3)))))
  have r30 : HID ((-2147483648 : Int) ≤ F 10 4 ∧ F 10 4 ≤ 2147483647) := krg_e (show (-2147483648 : Int) ≤ F22 10 4 ∧ F22 10 4 ≤ 2147483647 from H.krg 10 4 (by decide)) (show F22 10 4 = F 10 4 from (((show F22 10 4 = F15 10 4 from (eF22 10 4))).trans ((show F15 10 4 = F 10 4 from (eF15 10 4)))))
  refine v_inv H (o := 10) rfl rfl rfl rfl rfl rfl (by rfl) (C156h (D := pul [10] D22) (N := pul [10] N22) (HW_sub H (VS_of (show vsub V139 V156 [10] = true by decide +kernel))) (u10_1) (((((show F22 10 1 = F15 10 1 from (eF22 10 1))).trans ((show F15 10 1 = F 10 1 from (eF15 10 1)))).trans (eu10_1))) (F 10 2) ((((show F22 10 2 = F15 10 2 from (eF22 10 2))).trans ((show F15 10 2 = F 10 2 from (eF15 10 2))))) (F 10 3) ((((show F22 10 3 = F15 10 3 from (eF22 10 3))).trans ((show F15 10 3 = F 10 3 from (eF15 10 3))))) (F 10 4) ((((show F22 10 4 = F15 10 4 from (eF22 10 4))).trans ((show F15 10 4 = F 10 4 from (eF15 10 4)))))  (fun σ31 F31' A31' H' O' hS31 hA31 y31_0_1 ey31_0_1 y31_0_2 ey31_0_2 y31_0_3 ey31_0_3 y31_0_4 ey31_0_4 pz31_0 pz31_1 => ⟨rfl, ?_⟩))
  replace ey31_0_1 := HIDm ey31_0_1
  replace ey31_0_2 := HIDm ey31_0_2
  replace ey31_0_3 := HIDm ey31_0_3
  replace ey31_0_4 := HIDm ey31_0_4
  refine v_back (c := ((c + c15) + c22)) (s := ((s + s15) + s22)) H (show vsub V139 V156 [10] = true by decide +kernel) H' O' (fun F31 A31 H O' eF31 eA31 => ?_)
  have O := OUT_trans O O'
  -- Row.clear
  have r32 : HID ((-2147483648 : Int) ≤ y31_0_1 ∧ y31_0_1 ≤ 2147483647) := krg_e (show (-2147483648 : Int) ≤ F31 10 1 ∧ F31 10 1 ≤ 2147483647 from H.krg 10 1 (by decide)) (show F31 10 1 = y31_0_1 from ((eF31 10 1).trans ey31_0_1))
  have r33 : HID ((0 : Int) ≤ y31_0_2 ∧ y31_0_2 ≤ 1) := krg_e (show (0 : Int) ≤ F31 10 2 ∧ F31 10 2 ≤ 1 from H.krg 10 2 (by decide)) (show F31 10 2 = y31_0_2 from ((eF31 10 2).trans ey31_0_2))
  have r34 : HID ((-2147483648 : Int) ≤ y31_0_3 ∧ y31_0_3 ≤ 2147483647) := krg_e (show (-2147483648 : Int) ≤ F31 10 3 ∧ F31 10 3 ≤ 2147483647 from H.krg 10 3 (by decide)) (show F31 10 3 = y31_0_3 from ((eF31 10 3).trans ey31_0_3))
  have r35 : HID ((-2147483648 : Int) ≤ y31_0_4 ∧ y31_0_4 ≤ 2147483647) := krg_e (show (-2147483648 : Int) ≤ F31 10 4 ∧ F31 10 4 ≤ 2147483647 from H.krg 10 4 (by decide)) (show F31 10 4 = y31_0_4 from ((eF31 10 4).trans ey31_0_4))
  refine Ew_of (pc' := 34) (fun _ => x_iload_n rfl rfl) ?_
  refine Ew_of (pc' := 35) (fun _ => x_istore_n rfl) ?_
  refine Ew_of (pc' := 36) (fun _ => x_iconst rfl) ?_
  refine Ew_of (pc' := 38) (fun _ => x_istore rfl) ?_
  have : su (fun j => ((w22_4)) j + ((w22_5)) j) (0 : Int).toNat = 0 := rfl
  have hfd : FDI ((w22_4)) ((w22_5)) ((w22_6)) ((y22_0_4)) ((a2) - (a1) - (y22_0_5)) ((u1_10)) := pz22_3
  have hds : DSI ((w22_6)) ((y22_0_4)) := fun j p q => (hfd.1 j p q).2.2
  suffices hl38 : ∀ (m : Nat), ∀ (ls : rO) (σ : rS) (D_38 N_38 : Nat → Nat) (c_38 s_38 : Nat) (F_38 : hF) (A_38 : hA) (x38_3 : Int) (x38_4 : Int), rlook ls 0 = some (.ref (D_38 0)) → rlook ls 3 = some (I (x38_3)) → rlook ls 4 = some (I (x38_4)) → HW V139 σ D_38 N_38 F_38 A_38 → OUT (V139).length D N σE c s D_38 N_38 σ c_38 s_38 → SD [11] D22 D_38 → SD [11] N22 N_38 → SF [(10, 0), (10, 1), (10, 2)] F31 F_38 → SA [11] A31 A_38 → F_38 10 0 = (D_38 11 : Int) → ∀ m38_11 : Int, (N_38 11 : Int) = m38_11 → ∀ y38_10_1 : Int, F_38 10 1 = y38_10_1 → (inr (x38_3)) → (inr (x38_4)) → ((0) ≤ (x38_4)) → ((x38_4) ≤ (0) ∨ (x38_4) ≤ ((y22_0_4))) → (0 ≤ (y38_10_1) ∧ (y38_10_1) ≤ (m38_11) ∧ (m38_11) ≤ 65536) → ((x38_3) = (a1) + su (fun j => ((w22_4)) j + ((w22_5)) j) ((x38_4) : Int).toNat) → (((y22_0_4)) - (x38_4)).toNat = m → Ew 139 (d + 4) 38 ls [] σ c_38 s_38 Q from
    hl38 _ _ _ _ _ _ _ _ _ (a1) (0) ((rk_o (rk_o (rfl) rfl rfl) rfl rfl).trans (congrArg (fun q : Nat => some (Value.ref q)) ((((show D22 0 = D15 0 from (eD22 0))).trans ((show D15 0 = D 0 from (eD15 0))))).symm)) (rk_o (rk_s) rfl rfl) (rk_s) H O (SD_refl) (SD_refl) (SF_refl) (SA_refl) ((((show F31 10 0 = F22 10 0 from (eF31 10 0).trans (hS31 0 0 rfl)))).trans (pf22_10_0)) (n11) ((congrArg (fun q : Nat => (q : Int)) (show N22 11 = N15 11 from (eN22 11))).trans ((congrArg (fun q : Nat => (q : Int)) (show N15 11 = N 11 from (eN15 11))).trans (en11))) (y31_0_1) (((eF31 10 1).trans ey31_0_1))  (show inr (a1) by omega) (show inr (0) by omega) (show (0) ≤ (0) by omega) (show (0) ≤ (0) ∨ (0) ≤ ((y22_0_4)) by have qh0 := HIDe r26; omega) (show 0 ≤ (y31_0_1) ∧ (y31_0_1) ≤ (n11) ∧ (n11) ≤ 65536 by have qh0 := HIDe r13; have qh1 := HIDe r32; omega) (show (a1) = (a1) + su (fun j => ((w22_4)) j + ((w22_5)) j) ((0) : Int).toNat by omega) rfl
  as_aux_lemma =>
  intro m
  induction m using Nat.strongRecOn with
  | _ m ih38 =>
    intro ls σ D_38 N_38 c_38 s_38 F_38 A_38 x38_3 x38_4 l38_0 l38_3 l38_4 H O hD_38 hN_38 hS_38 hA_38 pm38_11 m38_11 em38_11 y38_10_1 ey38_10_1  j38_0 j38_1 j38_2 j38_3 j38_4 j38_5 hm38
    replace pm38_11 := HIDm pm38_11
    replace em38_11 := HIDm em38_11
    replace ey38_10_1 := HIDm ey38_10_1
    try clear pz15_2
    try clear pz22_0
    have pf_38_0_0 : HID (F_38 0 0 = (D_38 9 : Int)) := (hS_38 0 0 rfl).trans (((((show F31 0 0 = F22 0 0 from (eF31 0 0)))).trans (pf22_0_0)).trans (congrArg (fun q : Nat => (q : Int)) (hD_38 9 rfl).symm))
    have pf_38_0_1 : HID (F_38 0 1 = (D_38 1 : Int)) := (hS_38 0 1 rfl).trans (((((show F31 0 1 = F22 0 1 from (eF31 0 1)))).trans (pf22_0_1)).trans (congrArg (fun q : Nat => (q : Int)) (hD_38 1 rfl).symm))
    have pf_38_0_11 : HID (F_38 0 11 = (D_38 12 : Int)) := (hS_38 0 11 rfl).trans (((((show F31 0 11 = F22 0 11 from (eF31 0 11)))).trans (pf22_0_11)).trans (congrArg (fun q : Nat => (q : Int)) (hD_38 12 rfl).symm))
    have pf_38_0_9 : HID (F_38 0 9 = (D_38 10 : Int)) := (hS_38 0 9 rfl).trans (((((show F31 0 9 = F22 0 9 from (eF31 0 9)))).trans (pf22_0_9)).trans (congrArg (fun q : Nat => (q : Int)) (hD_38 10 rfl).symm))
    have pf_38_1_0 : HID (F_38 1 0 = (D_38 2 : Int)) := (hS_38 1 0 rfl).trans (((((show F31 1 0 = F22 1 0 from (eF31 1 0)))).trans (pf22_1_0)).trans (congrArg (fun q : Nat => (q : Int)) (hD_38 2 rfl).symm))
    have pf_38_1_1 : HID (F_38 1 1 = (D_38 6 : Int)) := (hS_38 1 1 rfl).trans (((((show F31 1 1 = F22 1 1 from (eF31 1 1)))).trans (pf22_1_1)).trans (congrArg (fun q : Nat => (q : Int)) (hD_38 6 rfl).symm))
    have pf_38_1_2 : HID (F_38 1 2 = (D_38 7 : Int)) := (hS_38 1 2 rfl).trans (((((show F31 1 2 = F22 1 2 from (eF31 1 2)))).trans (pf22_1_2)).trans (congrArg (fun q : Nat => (q : Int)) (hD_38 7 rfl).symm))
    have pf_38_1_3 : HID (F_38 1 3 = (D_38 8 : Int)) := (hS_38 1 3 rfl).trans (((((show F31 1 3 = F22 1 3 from (eF31 1 3)))).trans (pf22_1_3)).trans (congrArg (fun q : Nat => (q : Int)) (hD_38 8 rfl).symm))
    have pf_38_1_7 : HID (F_38 1 7 = (D_38 5 : Int)) := (hS_38 1 7 rfl).trans (((((show F31 1 7 = F22 1 7 from (eF31 1 7)))).trans (pf22_1_7)).trans (congrArg (fun q : Nat => (q : Int)) (hD_38 5 rfl).symm))
    have pf_38_1_8 : HID (F_38 1 8 = (D_38 4 : Int)) := (hS_38 1 8 rfl).trans (((((show F31 1 8 = F22 1 8 from (eF31 1 8)))).trans (pf22_1_8)).trans (congrArg (fun q : Nat => (q : Int)) (hD_38 4 rfl).symm))
    have pf_38_2_0 : HID (F_38 2 0 = (D_38 3 : Int)) := (hS_38 2 0 rfl).trans (((((show F31 2 0 = F22 2 0 from (eF31 2 0)))).trans (pf22_2_0)).trans (congrArg (fun q : Nat => (q : Int)) (hD_38 3 rfl).symm))
    have r36 : HID ((0 : Int) ≤ m38_11 ∧ m38_11 ≤ 1000000) := nrng (H.nle 11 (by decide)) (show (N_38 11 : Int) = m38_11 from em38_11)
    have r37 : HID ((-2147483648 : Int) ≤ y38_10_1 ∧ y38_10_1 ≤ 2147483647) := krg_e (show (-2147483648 : Int) ≤ F_38 10 1 ∧ F_38 10 1 ≤ 2147483647 from H.krg 10 1 (by decide)) (show F_38 10 1 = y38_10_1 from (ey38_10_1))
    refine Ew_of (pc' := 40) (fun _ => x_iload rfl l38_4) ?_
    refine Ew_of (pc' := 41) (fun _ => x_aload_n rfl l38_0) ?_
    refine v_g H (o := 0) (v := .ref (D_38 1)) rfl rfl rfl rfl rfl (vrf (pf_38_0_1)) ?_
    refine v_g H (o := 1) (v := I (y22_0_4)) rfl rfl rfl rfl rfl (congrArg (fun z : Int => I z) ((((hS_38 1 4 rfl).trans ((show F31 1 4 = F22 1 4 from (eF31 1 4)))).trans ((eF22 1 4).trans ey22_0_4)) : F_38 1 4 = y22_0_4)) ?_
    refine w_icmpge (t := 108) rfl rfl (show inr (x38_4) by omega) (show inr (y22_0_4) by have qh0 := HIDe r26; omega) (fun b38 => ?_) (fun b38 => ?_)
    · refine Ew_of (pc' := 109) (fun _ => x_aload_n rfl l38_0) ?_
      refine v_g H (o := 0) (v := .ref (D_38 10)) rfl rfl rfl rfl rfl (vrf (pf_38_0_9)) ?_
      have hle : (x38_4) = (y22_0_4) := by (have qg0 := HIDe r26; omega)
      have hst : su (fun j => ((w22_4)) j + ((w22_5)) j) ((x38_4) : Int).toNat = (a2) - (a1) - (y22_0_5) := by rw [hle]; exact hfd.2
      refine Ew_of (pc' := 113) (fun _ => x_aload_n rfl l38_0) ?_
      refine v_g H (o := 0) (v := .ref (D_38 1)) rfl rfl rfl rfl rfl (vrf (pf_38_0_1)) ?_
      refine v_g H (o := 1) (v := .ref (D_38 2)) rfl rfl rfl rfl rfl (vrf (pf_38_1_0)) ?_
      refine v_g H (o := 2) (v := .ref (D_38 3)) rfl rfl rfl rfl rfl (vrf (pf_38_2_0)) ?_
      refine Ew_of (pc' := 123) (fun _ => x_iload_n rfl l38_3) ?_
      refine Ew_of (pc' := 124) (fun _ => x_aload_n rfl l38_0) ?_
      refine v_g H (o := 0) (v := .ref (D_38 1)) rfl rfl rfl rfl rfl (vrf (pf_38_0_1)) ?_
      refine v_g H (o := 1) (v := I (y22_0_5)) rfl rfl rfl rfl rfl (congrArg (fun z : Int => I z) ((((hS_38 1 5 rfl).trans ((show F31 1 5 = F22 1 5 from (eF31 1 5)))).trans ((eF22 1 5).trans ey22_0_5)) : F_38 1 5 = y22_0_5)) ?_
      have r39 : HID ((0 : Int) ≤ F_38 10 2 ∧ F_38 10 2 ≤ 1) := krg_e (show (0 : Int) ≤ F_38 10 2 ∧ F_38 10 2 ≤ 1 from H.krg 10 2 (by decide)) (show F_38 10 2 = F_38 10 2 from rfl)
      refine v_inv H (o := 10) rfl rfl rfl rfl rfl rfl (by rfl) (C161_Br (D := pul [10, 3, 11] D_38) (N := pul [10, 3, 11] N_38) (HW_sub H (VS_of (show vsub V139 V161_Br [10, 3, 11] = true by decide +kernel))) (pm38_11) (n3) ((congrArg (fun q : Nat => (q : Int)) (hN_38 3 rfl)).trans ((congrArg (fun q : Nat => (q : Int)) (show N22 3 = N15 3 from (eN22 3).trans (hN22 2 rfl))).trans ((congrArg (fun q : Nat => (q : Int)) (show N15 3 = N 3 from (eN15 3).trans (hN15 2 rfl))).trans (en3)))) (m38_11) (em38_11) (y38_10_1) ((ey38_10_1)) (F_38 10 2) (rfl) (w3) ((funext (hA_38 3 rfl)).trans (((show A31 3 = A22 3 from (eA31 3))).trans (((show A22 3 = A15 3 from (eA22 3).trans (funext (hA22 2 rfl)))).trans (((show A15 3 = A 3 from (eA15 3).trans (funext (hA15 2 rfl)))).trans (ew3))))) (A_38 11) (rfl) (show inr (x38_3) by omega) (show inr (y22_0_5) by have qh0 := HIDe r27; omega) (show 0 ≤ (y38_10_1) ∧ (y38_10_1) ≤ (m38_11) ∧ (m38_11) ≤ 65536 by have qh0 := HIDe r36; have qh1 := HIDe r37; omega) (show (y22_0_5) < 0 ∨ 0 ≤ (x38_3) ∧ (x38_3) + (y22_0_5) ≤ (n3) by have qh0 := HIDe r27; have qh1 := HIDe r6; omega) (fun σ40 D40' N40' F40' A40' c40 s40 H' O' hD40 hN40 hS40 hA40 pm40_2 m40_2 em40_2 y40_0_1 ey40_0_1 y40_0_2 ey40_0_2 w40_2 ew40_2 pz40_0 pz40_1 pz40_2 pz40_3 => ⟨rfl, ?_⟩))
      replace pm40_2 := HIDm pm40_2
      replace em40_2 := HIDm em40_2
      replace ey40_0_1 := HIDm ey40_0_1
      replace ey40_0_2 := HIDm ey40_0_2
      refine v_backM (c := c_38) (s := s_38) H (show vsub V139 V161_Br [10, 3, 11] = true by decide +kernel) H' O' hD40 (show vmov V139 [10, 3, 11] [2] = true by decide +kernel) (fun D40 N40 F40 A40 H O' eD40 eN40 eF40 eA40 => ?_)
      have O := OUT_trans O O'
      -- Row.addPart
      have pf40_0_0 : HID (F40 0 0 = (D40 9 : Int)) := ((show F40 0 0 = F_38 0 0 from (eF40 0 0))).trans ((pf_38_0_0).trans (congrArg (fun q : Nat => (q : Int)) ((show D40 9 = D_38 9 from (eD40 9))).symm))
      have pf40_0_1 : HID (F40 0 1 = (D40 1 : Int)) := ((show F40 0 1 = F_38 0 1 from (eF40 0 1))).trans ((pf_38_0_1).trans (congrArg (fun q : Nat => (q : Int)) ((show D40 1 = D_38 1 from (eD40 1))).symm))
      have pf40_0_11 : HID (F40 0 11 = (D40 12 : Int)) := ((show F40 0 11 = F_38 0 11 from (eF40 0 11))).trans ((pf_38_0_11).trans (congrArg (fun q : Nat => (q : Int)) ((show D40 12 = D_38 12 from (eD40 12))).symm))
      have pf40_0_9 : HID (F40 0 9 = (D40 10 : Int)) := ((show F40 0 9 = F_38 0 9 from (eF40 0 9))).trans ((pf_38_0_9).trans (congrArg (fun q : Nat => (q : Int)) ((show D40 10 = D_38 10 from (eD40 10).trans (hD40 0 rfl))).symm))
      have pf40_1_0 : HID (F40 1 0 = (D40 2 : Int)) := ((show F40 1 0 = F_38 1 0 from (eF40 1 0))).trans ((pf_38_1_0).trans (congrArg (fun q : Nat => (q : Int)) ((show D40 2 = D_38 2 from (eD40 2))).symm))
      have pf40_1_1 : HID (F40 1 1 = (D40 6 : Int)) := ((show F40 1 1 = F_38 1 1 from (eF40 1 1))).trans ((pf_38_1_1).trans (congrArg (fun q : Nat => (q : Int)) ((show D40 6 = D_38 6 from (eD40 6))).symm))
      have pf40_1_2 : HID (F40 1 2 = (D40 7 : Int)) := ((show F40 1 2 = F_38 1 2 from (eF40 1 2))).trans ((pf_38_1_2).trans (congrArg (fun q : Nat => (q : Int)) ((show D40 7 = D_38 7 from (eD40 7))).symm))
      have pf40_1_3 : HID (F40 1 3 = (D40 8 : Int)) := ((show F40 1 3 = F_38 1 3 from (eF40 1 3))).trans ((pf_38_1_3).trans (congrArg (fun q : Nat => (q : Int)) ((show D40 8 = D_38 8 from (eD40 8))).symm))
      have pf40_1_7 : HID (F40 1 7 = (D40 5 : Int)) := ((show F40 1 7 = F_38 1 7 from (eF40 1 7))).trans ((pf_38_1_7).trans (congrArg (fun q : Nat => (q : Int)) ((show D40 5 = D_38 5 from (eD40 5))).symm))
      have pf40_1_8 : HID (F40 1 8 = (D40 4 : Int)) := ((show F40 1 8 = F_38 1 8 from (eF40 1 8))).trans ((pf_38_1_8).trans (congrArg (fun q : Nat => (q : Int)) ((show D40 4 = D_38 4 from (eD40 4))).symm))
      have pf40_10_0 : HID (F40 10 0 = (D40 11 : Int)) := (eF40 10 0).trans (pm40_2.trans (congrArg (fun q : Nat => (q : Int)) (eD40 11).symm))
      have pf40_2_0 : HID (F40 2 0 = (D40 3 : Int)) := ((show F40 2 0 = F_38 2 0 from (eF40 2 0))).trans ((pf_38_2_0).trans (congrArg (fun q : Nat => (q : Int)) ((show D40 3 = D_38 3 from (eD40 3).trans (hD40 1 rfl))).symm))
      have r41 : HID ((0 : Int) ≤ m40_2 ∧ m40_2 ≤ 1000000) := nrng (H.nle 11 (by decide)) (show (N40 11 : Int) = m40_2 from (congrArg (fun q : Nat => (q : Int)) (eN40 11)).trans em40_2)
      have r42 : HID ((-2147483648 : Int) ≤ y40_0_1 ∧ y40_0_1 ≤ 2147483647) := krg_e (show (-2147483648 : Int) ≤ F40 10 1 ∧ F40 10 1 ≤ 2147483647 from H.krg 10 1 (by decide)) (show F40 10 1 = y40_0_1 from ((eF40 10 1).trans ey40_0_1))
      have r43 : HID ((0 : Int) ≤ y40_0_2 ∧ y40_0_2 ≤ 1) := krg_e (show (0 : Int) ≤ F40 10 2 ∧ F40 10 2 ≤ 1 from H.krg 10 2 (by decide)) (show F40 10 2 = y40_0_2 from ((eF40 10 2).trans ey40_0_2))
      refine Ew_of (pc' := 134) (fun _ => x_aload_n rfl l38_0) ?_
      refine Ew_stk (show ([.ref (D_38 0)] : List Value) = [.ref (D40 0)] by rw [show D40 0 = D_38 0 from ((show D40 0 = D_38 0 from (eD40 0)))]) ?_
      refine v_g H (o := 0) (v := .ref (D40 12)) rfl rfl rfl rfl rfl (vrf (pf40_0_11)) ?_
      refine Ew_of (pc' := 138) (fun _ => x_iconst rfl) ?_
      refine v_fil H (t := 12) (v := 0) rfl rfl rfl rfl rfl (show inr (0) by omega) (fun σ A44 H O' hA44 ga44 => ?_)
      have O := OUT_trans O O'
      refine Ew_of (pc' := 142) (fun _ => x_iconst rfl) ?_
      refine Ew_of (pc' := 144) (fun _ => x_istore rfl) ?_
      have hb0 : CTN (ub ((w40_2))) ((A44 12)) (0) 256 := CTN_0 ga44
      suffices hl144 : ∀ (m : Nat), ∀ (ls : rO) (σ : rS) (F_144 : hF) (A_144 : hA) (x144_4 : Int), rlook ls 0 = some (.ref (D40 0)) → rlook ls 4 = some (I (x144_4)) → HW V139 σ D40 N40 F_144 A_144 → OUT (V139).length D N σE c s D40 N40 σ (c_38 + c40) (s_38 + s40) → SF [] F40 F_144 → SA [12] A44 A_144 → ∀ w144_12 : Int → Int, A_144 12 = w144_12 → (inr (x144_4)) → ((0) ≤ (x144_4)) → ((x144_4) ≤ (0) ∨ (x144_4) ≤ ((y40_0_1))) → (CTN (ub ((w40_2))) ((w144_12)) ((x144_4)) 256) → (((y40_0_1)) - (x144_4)).toNat = m → Ew 139 (d + 4) 144 ls [] σ (c_38 + c40) (s_38 + s40) Q from
        hl144 _ _ _ _ _ (0) ((rk_o (l38_0) rfl rfl).trans (congrArg (fun q : Nat => some (Value.ref q)) (((show D40 0 = D_38 0 from (eD40 0)))).symm)) (rk_s) H O (SF_refl) (SA_refl)    (A44 12) (rfl) (show inr (0) by omega) (show (0) ≤ (0) by omega) (show (0) ≤ (0) ∨ (0) ≤ ((y40_0_1)) by have qh0 := HIDe r42; omega) (show CTN (ub ((w40_2))) ((A44 12)) ((0)) 256 by assumption) rfl
      as_aux_lemma =>
      intro m
      induction m using Nat.strongRecOn with
      | _ m ih144 =>
        intro ls σ F_144 A_144 x144_4 l144_0 l144_4 H O hS_144 hA_144    w144_12 ew144_12 j144_0 j144_1 j144_2 j144_3 hm144
        try clear pz40_1
        have hct : CTN (ub ((w40_2))) ((w144_12)) ((x144_4)) 256 := by assumption
        refine Ew_of (pc' := 146) (fun _ => x_iload rfl l144_4) ?_
        refine Ew_of (pc' := 147) (fun _ => x_aload_n rfl l144_0) ?_
        refine v_g H (o := 0) (v := .ref (D40 10)) rfl rfl rfl rfl rfl (vrf (((hS_144 0 9 rfl)).trans (pf40_0_9))) ?_
        refine v_g H (o := 10) (v := I (y40_0_1)) rfl rfl rfl rfl rfl (congrArg (fun z : Int => I z) (((hS_144 10 1 rfl).trans ((eF40 10 1).trans ey40_0_1)) : F_144 10 1 = y40_0_1)) ?_
        refine w_icmpge (t := 185) rfl rfl (show inr (x144_4) by omega) (show inr (y40_0_1) by have qh0 := HIDe r42; omega) (fun b45 => ?_) (fun b45 => ?_)
        · have hl4 : (x144_4) = (y40_0_1) := by (have qg0 := HIDe r42; omega)
          have hct2 : CTN (ub ((w40_2))) ((w144_12)) ((y40_0_1)) 256 := by rw [← hl4]; assumption
          exact w_ret rfl (k _ _ _ _ _ _ _ H O (SD_trans (SD_trans (SD_trans (SD_trans (SD_refl) (SD_glu (ι := [1, 2, 3, 4, 5]) hD15 eD15 (by decide +kernel)) (any_subA (l' := [4]) rfl)) (SD_glu (ι := [1, 2, 3, 4, 6, 7, 8]) hD22 eD22 (by decide +kernel)) (any_subA (l' := [6, 7, 8]) rfl)) hD_38 (any_subA rfl)) (SD_glu (ι := [10, 3, 11]) hD40 eD40 (by decide +kernel)) (any_subA (l' := [11]) rfl)) (SD_trans (SD_trans (SD_trans (SD_trans (SD_refl) (SD_glu (ι := [1, 2, 3, 4, 5]) hN15 eN15 (by decide +kernel)) (any_subA (l' := [4]) rfl)) (SD_glu (ι := [1, 2, 3, 4, 6, 7, 8]) hN22 eN22 (by decide +kernel)) (any_subA (l' := [6, 7, 8]) rfl)) hN_38 (any_subA rfl)) (SD_glu (ι := [10, 3, 11]) hN40 eN40 (by decide +kernel)) (any_subA (l' := [11]) rfl)) (SF_trans (SF_trans (SF_trans (SF_trans (SF_trans (SF_trans (SF_refl) (SF_glu (ι := [1, 2, 3, 4, 5]) hS15 eF15 (by decide +kernel)) (any_sub (l' := [(1, 6), (1, 8)]) rfl)) (SF_glu (ι := [1, 2, 3, 4, 6, 7, 8]) hS22 eF22 (by decide +kernel)) (any_sub (l' := [(1, 1), (1, 2), (1, 3), (1, 4), (1, 5), (1, 12), (1, 13), (1, 14), (1, 15), (1, 16), (1, 17), (1, 18)]) rfl)) (SF_glu (ι := [10]) hS31 eF31 (by decide +kernel)) (any_sub (l' := [(10, 1), (10, 2), (10, 3), (10, 4)]) rfl)) hS_38 (any_sub rfl)) (SF_glu (ι := [10, 3, 11]) hS40 eF40 (by decide +kernel)) (any_sub (l' := [(10, 0), (10, 1), (10, 2)]) rfl)) hS_144 (any_sub rfl)) (SA_trans (SA_trans (SA_trans (SA_trans (SA_trans (SA_trans (SA_trans (SA_refl) (SA_glu (ι := [1, 2, 3, 4, 5]) hA15 eA15 (by decide +kernel)) (any_subA (l' := [4, 5]) rfl)) (SA_glu (ι := [1, 2, 3, 4, 6, 7, 8]) hA22 eA22 (by decide +kernel)) (any_subA (l' := [6, 7, 8]) rfl)) (SA_glu (ι := [10]) hA31 eA31 (by decide +kernel)) (any_subA (l' := []) rfl)) hA_38 (any_subA rfl)) (SA_glu (ι := [10, 3, 11]) hA40 eA40 (by decide +kernel)) (any_subA (l' := [11]) rfl)) hA44 (any_subA rfl)) hA_144 (any_subA rfl)) (((hS_144 1 8 rfl)).trans (pf40_1_8)) (((hS_144 1 1 rfl)).trans (pf40_1_1)) (((hS_144 1 2 rfl)).trans (pf40_1_2)) (((hS_144 1 3 rfl)).trans (pf40_1_3)) (((hS_144 10 0 rfl)).trans (pf40_10_0)) (m15_3) ((congrArg (fun q : Nat => (q : Int)) (show N40 4 = N_38 4 from (eN40 4))).trans ((congrArg (fun q : Nat => (q : Int)) (hN_38 4 rfl)).trans ((congrArg (fun q : Nat => (q : Int)) (show N22 4 = N15 4 from (eN22 4).trans (hN22 3 rfl))).trans ((congrArg (fun q : Nat => (q : Int)) (eN15 4)).trans em15_3)))) (m22_4) ((congrArg (fun q : Nat => (q : Int)) (show N40 6 = N_38 6 from (eN40 6))).trans ((congrArg (fun q : Nat => (q : Int)) (hN_38 6 rfl)).trans ((congrArg (fun q : Nat => (q : Int)) (eN22 6)).trans em22_4))) (m22_5) ((congrArg (fun q : Nat => (q : Int)) (show N40 7 = N_38 7 from (eN40 7))).trans ((congrArg (fun q : Nat => (q : Int)) (hN_38 7 rfl)).trans ((congrArg (fun q : Nat => (q : Int)) (eN22 7)).trans em22_5))) (m22_6) ((congrArg (fun q : Nat => (q : Int)) (show N40 8 = N_38 8 from (eN40 8))).trans ((congrArg (fun q : Nat => (q : Int)) (hN_38 8 rfl)).trans ((congrArg (fun q : Nat => (q : Int)) (eN22 8)).trans em22_6))) (m40_2) ((congrArg (fun q : Nat => (q : Int)) (eN40 11)).trans em40_2) (y22_0_4) ((((((hS_144 1 4 rfl).trans ((show F40 1 4 = F_38 1 4 from (eF40 1 4)))).trans (hS_38 1 4 rfl)).trans ((show F31 1 4 = F22 1 4 from (eF31 1 4)))).trans ((eF22 1 4).trans ey22_0_4))) (y15_0_6) (((((((hS_144 1 6 rfl).trans ((show F40 1 6 = F_38 1 6 from (eF40 1 6)))).trans (hS_38 1 6 rfl)).trans ((show F31 1 6 = F22 1 6 from (eF31 1 6)))).trans ((show F22 1 6 = F15 1 6 from (eF22 1 6).trans (hS22 0 6 rfl)))).trans ((eF15 1 6).trans ey15_0_6))) (y40_0_1) (((hS_144 10 1 rfl).trans ((eF40 10 1).trans ey40_0_1))) (w15_3) ((funext (hA_144 4 rfl)).trans ((funext (hA44 4 rfl)).trans (((show A40 4 = A_38 4 from (eA40 4))).trans ((funext (hA_38 4 rfl)).trans (((show A31 4 = A22 4 from (eA31 4))).trans (((show A22 4 = A15 4 from (eA22 4).trans (funext (hA22 3 rfl)))).trans ((eA15 4).trans ew15_3))))))) (w15_4) ((funext (hA_144 5 rfl)).trans ((funext (hA44 5 rfl)).trans (((show A40 5 = A_38 5 from (eA40 5))).trans ((funext (hA_38 5 rfl)).trans (((show A31 5 = A22 5 from (eA31 5))).trans (((show A22 5 = A15 5 from (eA22 5))).trans ((eA15 5).trans ew15_4))))))) (w22_6) ((funext (hA_144 8 rfl)).trans ((funext (hA44 8 rfl)).trans (((show A40 8 = A_38 8 from (eA40 8))).trans ((funext (hA_38 8 rfl)).trans (((show A31 8 = A22 8 from (eA31 8))).trans ((eA22 8).trans ew22_6)))))) (w40_2) ((funext (hA_144 11 rfl)).trans ((funext (hA44 11 rfl)).trans ((eA40 11).trans ew40_2))) (w144_12) (ew144_12) (show 0 ≤ (y15_0_6) ∧ (u1_6) ≤ (y15_0_6) ∧ (y15_0_6) ≤ (m15_3) ∧ (m15_3) ≤ 16384 by have qh0 := HIDe r16; have qh1 := HIDe r17; have qh2 := HIDe r2; omega) (show (m22_4) = (m22_5) ∧ (m22_6) = (m22_5) ∧ (m22_5) ≤ 65536 ∧ ((m22_5) = 0 ∨ 64 ≤ (m22_5)) ∧ lgq ((m22_5)) = 0 by have qh0 := HIDe r23; have qh1 := HIDe r24; have qh2 := HIDe r25; omega) (show BKI ((w3)) ((w15_3)) ((u1_10)) ((y15_0_6)) by assumption) (show HDI ((w3)) ((w15_4)) ((u1_10)) ((y15_0_6)) by assumption) (show 0 ≤ (y22_0_4) ∧ (y22_0_4) ≤ (m22_5) ∧ (y22_0_4) ≤ a2 - a1 by have qh0 := HIDe r24; have qh1 := HIDe r26; omega) (show DSI ((w22_6)) ((y22_0_4)) by assumption) (show 0 ≤ (y40_0_1) ∧ (y40_0_1) ≤ (m40_2) ∧ (m40_2) ≤ 65536 by have qh0 := HIDe r41; have qh1 := HIDe r42; omega) (show CTN (ub ((w40_2))) ((w144_12)) ((y40_0_1)) 256 by assumption))
        · refine Ew_of (pc' := 157) (fun _ => x_aload_n rfl l144_0) ?_
          refine v_g H (o := 0) (v := .ref (D40 12)) rfl rfl rfl rfl rfl (vrf (((hS_144 0 11 rfl)).trans (pf40_0_11))) ?_
          refine Ew_of (pc' := 161) (fun _ => x_aload_n rfl l144_0) ?_
          refine v_g H (o := 0) (v := .ref (D40 10)) rfl rfl rfl rfl rfl (vrf (((hS_144 0 9 rfl)).trans (pf40_0_9))) ?_
          refine v_g H (o := 10) (v := .ref (D40 11)) rfl rfl rfl rfl rfl (vrf (((hS_144 10 0 rfl)).trans (pf40_10_0))) ?_
          refine Ew_of (pc' := 169) (fun _ => x_iload rfl l144_4) ?_
          refine v_lB H (o := 11) rfl rfl rfl rfl (n := m40_2) ((congrArg (fun q : Nat => (q : Int)) (eN40 11)).trans em40_2) (show 0 ≤ x144_4 ∧ x144_4 < m40_2 by have qh0 := HIDe r41; omega) (fun v46 ev46 qv46 => ?_)
          replace qv46 := HIDm qv46
          have ev46 : (w40_2) (x144_4) = v46 := (congrFun ((funext (hA_144 11 rfl)).trans ((funext (hA44 11 rfl)).trans ((eA40 11).trans ew40_2))) (x144_4)).symm.trans ev46
          have hbv := ev46
          refine Ew_of (pc' := 173) (fun _ => x_sipush (z := 255) rfl (by decide)) ?_
          refine v_and255 rfl ?_
          have hub : ub ((w40_2)) ((x144_4)) = (((v46 % 256)) : Int) := by unfold ub; (have qg0 := HIDe qv46; omega)
          refine Ew_of (pc' := 175) (fun _ => x_dup2 rfl rfl rfl) ?_
          refine v_lI H (o := 12) rfl rfl rfl rfl (n := n12) ((congrArg (fun q : Nat => (q : Int)) (show N40 12 = N_38 12 from (eN40 12))).trans ((congrArg (fun q : Nat => (q : Int)) (hN_38 12 rfl)).trans ((congrArg (fun q : Nat => (q : Int)) (show N22 12 = N15 12 from (eN22 12))).trans ((congrArg (fun q : Nat => (q : Int)) (show N15 12 = N 12 from (eN15 12))).trans (en12))))) (show 0 ≤ (v46 % 256) ∧ (v46 % 256) < n12 by have qh0 := HIDe qv46; have qh1 := HIDe r14; omega) (fun v47 ev47 qv47 => ?_)
          replace qv47 := HIDm qv47
          have ev47 : (w144_12) ((v46 % 256)) = v47 := (congrFun (ew144_12) ((v46 % 256))).symm.trans ev47
          have hcv := ev47
          have hcl := CTN_le hct (s := ((v46 % 256))) (by (have qg0 := HIDe qv46; omega)) (by (have qg0 := HIDe qv46; omega)) (by (have qg0 := HIDe qv46; omega))
          rw [hcv] at hcl
          refine Ew_of (pc' := 177) (fun _ => x_iconst rfl) ?_
          refine w_iadd rfl ?_
          refine v_sI H (o := 12) (z := (v47 + 1)) rfl rfl rfl rfl (n := n12) ((congrArg (fun q : Nat => (q : Int)) (show N40 12 = N_38 12 from (eN40 12))).trans ((congrArg (fun q : Nat => (q : Int)) (hN_38 12 rfl)).trans ((congrArg (fun q : Nat => (q : Int)) (show N22 12 = N15 12 from (eN22 12))).trans ((congrArg (fun q : Nat => (q : Int)) (show N15 12 = N 12 from (eN15 12))).trans (en12))))) (show 0 ≤ (v46 % 256) ∧ (v46 % 256) < n12 by have qh0 := HIDe qv46; have qh1 := HIDe r14; omega) (show inr ((v47 + 1)) by have qh0 := HIDe qv47; omega) (fun σ H O' => ?_)
          have O := OUT_trans O O'
          refine Ew_of (pc' := 182) (fun _ => x_iinc (len := 3) rfl (l144_4)) ?_
          refine Ew_of (pc' := 144) (fun _ => x_goto rfl rfl) ?_
          have hcs : CTN (ub ((w40_2))) ((upd1 (w144_12) ((v46 % 256)) ((v47 + 1)))) (((x144_4 + 1))) 256 := CTN_s hct (by (have qg0 := HIDe qv46; have qg1 := HIDe qv47; omega)) rfl hub (by (have qg0 := HIDe qv46; have qg1 := HIDe qv47; omega))
          exact ih144 _ (by omega) _ _ _ _ ((x144_4 + 1)) (rk_o (l144_0) rfl rfl) (rk_s) H O (hS_144) (SA_upd (hA_144) rfl)    (upd1 (w144_12) ((v46 % 256)) ((v47 + 1))) (congrArg (fun q => upd1 q ((v46 % 256)) ((v47 + 1))) (ew144_12)) (show inr ((x144_4 + 1)) by omega) (show (0) ≤ ((x144_4 + 1)) by omega) (show ((x144_4 + 1)) ≤ (0) ∨ ((x144_4 + 1)) ≤ ((y40_0_1)) by have qh0 := HIDe r42; omega) (show CTN (ub ((w40_2))) ((upd1 (w144_12) ((v46 % 256)) ((v47 + 1)))) (((x144_4 + 1))) 256 by assumption) rfl
    · refine Ew_of (pc' := 51) (fun _ => x_aload_n rfl l38_0) ?_
      have hfp := FDI_part (i := (x38_4)) hfd (by omega) (by omega) (by omega)
      have hfj := hfd.1 ((x38_4)) (by omega) (by omega)
      refine v_g H (o := 0) (v := .ref (D_38 10)) rfl rfl rfl rfl rfl (vrf (pf_38_0_9)) ?_
      refine Ew_of (pc' := 55) (fun _ => x_aload_n rfl l38_0) ?_
      refine v_g H (o := 0) (v := .ref (D_38 1)) rfl rfl rfl rfl rfl (vrf (pf_38_0_1)) ?_
      refine v_g H (o := 1) (v := .ref (D_38 2)) rfl rfl rfl rfl rfl (vrf (pf_38_1_0)) ?_
      refine v_g H (o := 2) (v := .ref (D_38 3)) rfl rfl rfl rfl rfl (vrf (pf_38_2_0)) ?_
      refine Ew_of (pc' := 65) (fun _ => x_iload_n rfl l38_3) ?_
      refine Ew_of (pc' := 66) (fun _ => x_aload_n rfl l38_0) ?_
      refine v_g H (o := 0) (v := .ref (D_38 1)) rfl rfl rfl rfl rfl (vrf (pf_38_0_1)) ?_
      refine v_g H (o := 1) (v := .ref (D_38 6)) rfl rfl rfl rfl rfl (vrf (pf_38_1_1)) ?_
      refine Ew_of (pc' := 74) (fun _ => x_iload rfl l38_4) ?_
      refine v_lI H (o := 6) rfl rfl rfl rfl (n := m22_4) ((congrArg (fun q : Nat => (q : Int)) (hN_38 6 rfl)).trans ((congrArg (fun q : Nat => (q : Int)) (eN22 6)).trans em22_4)) (show 0 ≤ x38_4 ∧ x38_4 < m22_4 by have qh0 := HIDe r23; omega) (fun v48 ev48 qv48 => ?_)
      replace qv48 := HIDm qv48
      have ev48 : (w22_4) (x38_4) = v48 := (congrFun ((funext (hA_38 6 rfl)).trans (((show A31 6 = A22 6 from (eA31 6))).trans ((eA22 6).trans ew22_4))) (x38_4)).symm.trans ev48
      have hse := ev48
      have r49 : HID ((0 : Int) ≤ F_38 10 2 ∧ F_38 10 2 ≤ 1) := krg_e (show (0 : Int) ≤ F_38 10 2 ∧ F_38 10 2 ≤ 1 from H.krg 10 2 (by decide)) (show F_38 10 2 = F_38 10 2 from rfl)
      refine v_inv H (o := 10) rfl rfl rfl rfl rfl rfl (by rfl) (C161_Br (D := pul [10, 3, 11] D_38) (N := pul [10, 3, 11] N_38) (HW_sub H (VS_of (show vsub V139 V161_Br [10, 3, 11] = true by decide +kernel))) (pm38_11) (n3) ((congrArg (fun q : Nat => (q : Int)) (hN_38 3 rfl)).trans ((congrArg (fun q : Nat => (q : Int)) (show N22 3 = N15 3 from (eN22 3).trans (hN22 2 rfl))).trans ((congrArg (fun q : Nat => (q : Int)) (show N15 3 = N 3 from (eN15 3).trans (hN15 2 rfl))).trans (en3)))) (m38_11) (em38_11) (y38_10_1) ((ey38_10_1)) (F_38 10 2) (rfl) (w3) ((funext (hA_38 3 rfl)).trans (((show A31 3 = A22 3 from (eA31 3))).trans (((show A22 3 = A15 3 from (eA22 3).trans (funext (hA22 2 rfl)))).trans (((show A15 3 = A 3 from (eA15 3).trans (funext (hA15 2 rfl)))).trans (ew3))))) (A_38 11) (rfl) (show inr (x38_3) by omega) (show inr (v48) by have qh0 := HIDe qv48; omega) (show 0 ≤ (y38_10_1) ∧ (y38_10_1) ≤ (m38_11) ∧ (m38_11) ≤ 65536 by have qh0 := HIDe r36; have qh1 := HIDe r37; omega) (show (v48) < 0 ∨ 0 ≤ (x38_3) ∧ (x38_3) + (v48) ≤ (n3) by have qh0 := HIDe qv48; have qh1 := HIDe r6; omega) (fun σ50 D50' N50' F50' A50' c50 s50 H' O' hD50 hN50 hS50 hA50 pm50_2 m50_2 em50_2 y50_0_1 ey50_0_1 y50_0_2 ey50_0_2 w50_2 ew50_2 pz50_0 pz50_1 pz50_2 pz50_3 => ⟨rfl, ?_⟩))
      replace pm50_2 := HIDm pm50_2
      replace em50_2 := HIDm em50_2
      replace ey50_0_1 := HIDm ey50_0_1
      replace ey50_0_2 := HIDm ey50_0_2
      refine v_backM (c := c_38) (s := s_38) H (show vsub V139 V161_Br [10, 3, 11] = true by decide +kernel) H' O' hD50 (show vmov V139 [10, 3, 11] [2] = true by decide +kernel) (fun D50 N50 F50 A50 H O' eD50 eN50 eF50 eA50 => ?_)
      have O := OUT_trans O O'
      -- Row.addPart
      have pf50_0_0 : HID (F50 0 0 = (D50 9 : Int)) := ((show F50 0 0 = F_38 0 0 from (eF50 0 0))).trans ((pf_38_0_0).trans (congrArg (fun q : Nat => (q : Int)) ((show D50 9 = D_38 9 from (eD50 9))).symm))
      have pf50_0_1 : HID (F50 0 1 = (D50 1 : Int)) := ((show F50 0 1 = F_38 0 1 from (eF50 0 1))).trans ((pf_38_0_1).trans (congrArg (fun q : Nat => (q : Int)) ((show D50 1 = D_38 1 from (eD50 1))).symm))
      have pf50_0_11 : HID (F50 0 11 = (D50 12 : Int)) := ((show F50 0 11 = F_38 0 11 from (eF50 0 11))).trans ((pf_38_0_11).trans (congrArg (fun q : Nat => (q : Int)) ((show D50 12 = D_38 12 from (eD50 12))).symm))
      have pf50_0_9 : HID (F50 0 9 = (D50 10 : Int)) := ((show F50 0 9 = F_38 0 9 from (eF50 0 9))).trans ((pf_38_0_9).trans (congrArg (fun q : Nat => (q : Int)) ((show D50 10 = D_38 10 from (eD50 10).trans (hD50 0 rfl))).symm))
      have pf50_1_0 : HID (F50 1 0 = (D50 2 : Int)) := ((show F50 1 0 = F_38 1 0 from (eF50 1 0))).trans ((pf_38_1_0).trans (congrArg (fun q : Nat => (q : Int)) ((show D50 2 = D_38 2 from (eD50 2))).symm))
      have pf50_1_1 : HID (F50 1 1 = (D50 6 : Int)) := ((show F50 1 1 = F_38 1 1 from (eF50 1 1))).trans ((pf_38_1_1).trans (congrArg (fun q : Nat => (q : Int)) ((show D50 6 = D_38 6 from (eD50 6))).symm))
      have pf50_1_2 : HID (F50 1 2 = (D50 7 : Int)) := ((show F50 1 2 = F_38 1 2 from (eF50 1 2))).trans ((pf_38_1_2).trans (congrArg (fun q : Nat => (q : Int)) ((show D50 7 = D_38 7 from (eD50 7))).symm))
      have pf50_1_3 : HID (F50 1 3 = (D50 8 : Int)) := ((show F50 1 3 = F_38 1 3 from (eF50 1 3))).trans ((pf_38_1_3).trans (congrArg (fun q : Nat => (q : Int)) ((show D50 8 = D_38 8 from (eD50 8))).symm))
      have pf50_1_7 : HID (F50 1 7 = (D50 5 : Int)) := ((show F50 1 7 = F_38 1 7 from (eF50 1 7))).trans ((pf_38_1_7).trans (congrArg (fun q : Nat => (q : Int)) ((show D50 5 = D_38 5 from (eD50 5))).symm))
      have pf50_1_8 : HID (F50 1 8 = (D50 4 : Int)) := ((show F50 1 8 = F_38 1 8 from (eF50 1 8))).trans ((pf_38_1_8).trans (congrArg (fun q : Nat => (q : Int)) ((show D50 4 = D_38 4 from (eD50 4))).symm))
      have pf50_10_0 : HID (F50 10 0 = (D50 11 : Int)) := (eF50 10 0).trans (pm50_2.trans (congrArg (fun q : Nat => (q : Int)) (eD50 11).symm))
      have pf50_2_0 : HID (F50 2 0 = (D50 3 : Int)) := ((show F50 2 0 = F_38 2 0 from (eF50 2 0))).trans ((pf_38_2_0).trans (congrArg (fun q : Nat => (q : Int)) ((show D50 3 = D_38 3 from (eD50 3).trans (hD50 1 rfl))).symm))
      have r51 : HID ((0 : Int) ≤ m50_2 ∧ m50_2 ≤ 1000000) := nrng (H.nle 11 (by decide)) (show (N50 11 : Int) = m50_2 from (congrArg (fun q : Nat => (q : Int)) (eN50 11)).trans em50_2)
      have r52 : HID ((-2147483648 : Int) ≤ y50_0_1 ∧ y50_0_1 ≤ 2147483647) := krg_e (show (-2147483648 : Int) ≤ F50 10 1 ∧ F50 10 1 ≤ 2147483647 from H.krg 10 1 (by decide)) (show F50 10 1 = y50_0_1 from ((eF50 10 1).trans ey50_0_1))
      have r53 : HID ((0 : Int) ≤ y50_0_2 ∧ y50_0_2 ≤ 1) := krg_e (show (0 : Int) ≤ F50 10 2 ∧ F50 10 2 ≤ 1 from H.krg 10 2 (by decide)) (show F50 10 2 = y50_0_2 from ((eF50 10 2).trans ey50_0_2))
      refine Ew_of (pc' := 79) (fun _ => x_iload_n rfl l38_3) ?_
      refine Ew_of (pc' := 80) (fun _ => x_aload_n rfl l38_0) ?_
      refine Ew_stk (show ([.ref (D_38 0), I (x38_3)] : List Value) = [.ref (D50 0), I (x38_3)] by rw [show D50 0 = D_38 0 from ((show D50 0 = D_38 0 from (eD50 0)))]) ?_
      refine v_g H (o := 0) (v := .ref (D50 1)) rfl rfl rfl rfl rfl (vrf (pf50_0_1)) ?_
      refine v_g H (o := 1) (v := .ref (D50 6)) rfl rfl rfl rfl rfl (vrf (pf50_1_1)) ?_
      refine Ew_of (pc' := 88) (fun _ => x_iload rfl l38_4) ?_
      refine v_lI H (o := 6) rfl rfl rfl rfl (n := m22_4) ((congrArg (fun q : Nat => (q : Int)) (show N50 6 = N_38 6 from (eN50 6))).trans ((congrArg (fun q : Nat => (q : Int)) (hN_38 6 rfl)).trans ((congrArg (fun q : Nat => (q : Int)) (eN22 6)).trans em22_4))) (show 0 ≤ x38_4 ∧ x38_4 < m22_4 by have qh0 := HIDe r23; omega) (fun v54 ev54 qv54 => ?_)
      replace qv54 := HIDm qv54
      have ev54 : (w22_4) (x38_4) = v54 := (congrFun (((show A50 6 = A_38 6 from (eA50 6))).trans ((funext (hA_38 6 rfl)).trans (((show A31 6 = A22 6 from (eA31 6))).trans ((eA22 6).trans ew22_4)))) (x38_4)).symm.trans ev54
      have hsf := ev54
      refine Ew_of (pc' := 90) (fun _ => x_aload_n rfl l38_0) ?_
      refine Ew_stk (show ([.ref (D_38 0), I (v54), I (x38_3)] : List Value) = [.ref (D50 0), I (v54), I (x38_3)] by rw [show D50 0 = D_38 0 from ((show D50 0 = D_38 0 from (eD50 0)))]) ?_
      refine v_g H (o := 0) (v := .ref (D50 1)) rfl rfl rfl rfl rfl (vrf (pf50_0_1)) ?_
      refine v_g H (o := 1) (v := .ref (D50 7)) rfl rfl rfl rfl rfl (vrf (pf50_1_2)) ?_
      refine Ew_of (pc' := 98) (fun _ => x_iload rfl l38_4) ?_
      refine v_lI H (o := 7) rfl rfl rfl rfl (n := m22_5) ((congrArg (fun q : Nat => (q : Int)) (show N50 7 = N_38 7 from (eN50 7))).trans ((congrArg (fun q : Nat => (q : Int)) (hN_38 7 rfl)).trans ((congrArg (fun q : Nat => (q : Int)) (eN22 7)).trans em22_5))) (show 0 ≤ x38_4 ∧ x38_4 < m22_5 by have qh0 := HIDe r24; omega) (fun v55 ev55 qv55 => ?_)
      replace qv55 := HIDm qv55
      have ev55 : (w22_5) (x38_4) = v55 := (congrFun (((show A50 7 = A_38 7 from (eA50 7))).trans ((funext (hA_38 7 rfl)).trans (((show A31 7 = A22 7 from (eA31 7))).trans ((eA22 7).trans ew22_5)))) (x38_4)).symm.trans ev55
      have hsg := ev55
      refine w_iadd rfl ?_
      refine w_iadd rfl ?_
      refine Ew_of (pc' := 102) (fun _ => x_istore_n rfl) ?_
      refine Ew_of (pc' := 105) (fun _ => x_iinc (len := 3) rfl (rk_o (l38_4) rfl rfl)) ?_
      refine Ew_of (pc' := 38) (fun _ => x_goto rfl rfl) ?_
      exact ih38 _ (by omega) _ _ _ _ _ _ _ _ ((x38_3 + (v54 + v55))) ((x38_4 + 1)) ((rk_o (rk_o (l38_0) rfl rfl) rfl rfl).trans (congrArg (fun q : Nat => some (Value.ref q)) (((show D50 0 = D_38 0 from (eD50 0)))).symm)) (rk_o (rk_s) rfl rfl) (rk_s) H O (SD_trans (hD_38) (SD_glu (ι := [10, 3, 11]) hD50 eD50 (by decide +kernel)) (any_subA (l' := [11]) rfl)) (SD_trans (hN_38) (SD_glu (ι := [10, 3, 11]) hN50 eN50 (by decide +kernel)) (any_subA (l' := [11]) rfl)) (SF_trans (hS_38) (SF_glu (ι := [10, 3, 11]) hS50 eF50 (by decide +kernel)) (any_sub (l' := [(10, 0), (10, 1), (10, 2)]) rfl)) (SA_trans (hA_38) (SA_glu (ι := [10, 3, 11]) hA50 eA50 (by decide +kernel)) (any_subA (l' := [11]) rfl)) (pf50_10_0) (m50_2) ((congrArg (fun q : Nat => (q : Int)) (eN50 11)).trans em50_2) (y50_0_1) (((eF50 10 1).trans ey50_0_1))  (show inr ((x38_3 + (v54 + v55))) by have qh0 := HIDe qv54; have qh1 := HIDe qv55; omega) (show inr ((x38_4 + 1)) by omega) (show (0) ≤ ((x38_4 + 1)) by omega) (show ((x38_4 + 1)) ≤ (0) ∨ ((x38_4 + 1)) ≤ ((y22_0_4)) by have qh0 := HIDe r26; omega) (show 0 ≤ (y50_0_1) ∧ (y50_0_1) ≤ (m50_2) ∧ (m50_2) ≤ 65536 by have qh0 := HIDe r51; have qh1 := HIDe r52; omega) (show ((x38_3 + (v54 + v55))) = (a1) + su (fun j => ((w22_4)) j + ((w22_5)) j) (((x38_4 + 1)) : Int).toNat by have qh0 := HIDe qv54; have qh1 := HIDe qv55; omega) rfl
