abbrev V139 : vV := [(0, 6, [(4, 0), (4, 0), (4, 0), (4, 0), (4, 0), (4, 0), (4, 0), (4, 0), (4, 0), (4, 0), (4, 0), (4, 0), (4, 0), (4, 0), (4, 0), (0, 0), (0, 0), (4, 0), (4, 0)]), (0, 5, [(4, 0), (4, 0), (4, 0), (4, 0), (0, 0), (0, 0), (0, 0), (4, 0), (4, 0), (0, 0), (0, 0), (0, 0), (0, 0), (0, 0), (0, 0), (0, 0), (0, 0), (0, 0), (0, 0)]), (0, 7, [(4, 0), (0, 0), (1, 0), (0, 0), (0, 0)]), (1, 0, []), (1, 1, []), (1, 1, []), (1, 1, []), (1, 1, []), (1, 1, []), (1, 1, []), (0, 7, [(4, 0), (0, 0), (1, 0), (0, 0), (0, 0)]), (1, 0, []), (1, 1, [])]
set_option maxHeartbeats 16000000 in
/-- Packer.findSequences: this, this.finder, this.finder.data, this.finder.data.bytes, this.finder.back, this.finder.heads, this.finder.literals, this.finder.lengths, this.finder.distances, this.settings, this.literals, this.literals.bytes, this.byteCounts -/
theorem C139 {σE : rS} {D N : Nat → Nat} {F : hF} {A : hA} {d c s : Nat} {Q : wQ} (H : HW V139 σE D N F A) {a1 a2 : Int} (pf1 : F 0 1 = (D 1 : Int)) (pf2 : F 1 0 = (D 2 : Int)) (pf3 : F 2 0 = (D 3 : Int)) (pf4 : F 1 8 = (D 4 : Int)) (pf5 : F 1 7 = (D 5 : Int)) (pf6 : F 1 1 = (D 6 : Int)) (pf7 : F 1 2 = (D 7 : Int)) (pf8 : F 1 3 = (D 8 : Int)) (pf9 : F 0 0 = (D 9 : Int)) (pf10 : F 0 9 = (D 10 : Int)) (pf11 : F 10 0 = (D 11 : Int)) (pf12 : F 0 11 = (D 12 : Int)) (n3 : Int) (en3 : (N 3 : Int) = n3) (n4 : Int) (en4 : (N 4 : Int) = n4) (n5 : Int) (en5 : (N 5 : Int) = n5) (n6 : Int) (en6 : (N 6 : Int) = n6) (n7 : Int) (en7 : (N 7 : Int) = n7) (n8 : Int) (en8 : (N 8 : Int) = n8) (n9 : Int) (en9 : (N 9 : Int) = n9) (n11 : Int) (en11 : (N 11 : Int) = n11) (n12 : Int) (en12 : (N 12 : Int) = n12) (u1_4 : Int) (eu1_4 : F 1 4 = u1_4) (u1_6 : Int) (eu1_6 : F 1 6 = u1_6) (u1_9 : Int) (eu1_9 : F 1 9 = u1_9) (u1_10 : Int) (eu1_10 : F 1 10 = u1_10) (u1_11 : Int) (eu1_11 : F 1 11 = u1_11) (u2_1 : Int) (eu2_1 : F 2 1 = u2_1) (u10_1 : Int) (eu10_1 : F 10 1 = u10_1) (u10_2 : Int) (eu10_2 : F 10 2 = u10_2) (w3 : Int → Int) (ew3 : A 3 = w3) (w4 : Int → Int) (ew4 : A 4 = w4) (w5 : Int → Int) (ew5 : A 5 = w5) (w6 : Int → Int) (ew6 : A 6 = w6) (w7 : Int → Int) (ew7 : A 7 = w7) (w8 : Int → Int) (ew8 : A 8 = w8) (w9 : Int → Int) (ew9 : A 9 = w9) (w11 : Int → Int) (ew11 : A 11 = w11) (w12 : Int → Int) (ew12 : A 12 = w12) (h0 : inr (a1)) (h1 : inr (a2)) (h2 : 0 ≤ (u2_1) ∧ (u2_1) ≤ (n3) ∧ (n3) ≤ 65536 ∧ (u2_1) ≤ 16384) (h3 : 1 ≤ (u1_10) ∧ (u1_10) ≤ 8) (h4 : BKI ((w3)) ((w4)) ((u1_10)) ((u1_6))) (h5 : HDI ((w3)) ((w5)) ((u1_10)) ((u1_6))) (h6 : (n5) = 2048) (h7 : 0 ≤ (u1_6) ∧ (u1_6) ≤ (n4) ∧ (n4) ≤ 16384) (h8 : (n6) = (n7) ∧ (n8) = (n7) ∧ (n7) ≤ 65536 ∧ ((n7) = 0 ∨ 64 ≤ (n7)) ∧ lgq ((n7)) = 0) (h9 : (u1_10) = ((w9)) 1) (h10 : 0 ≤ (a1) ∧ (a1) ≤ (a2) ∧ (a2) ≤ (u2_1)) (h11 : (n9) = 10) (h12 : 0 ≤ (u10_1) ∧ (u10_1) ≤ (n11) ∧ (n11) ≤ 65536) (h13 : (n12) = 256) (k : ∀ (σ : rS) (D' N' : Nat → Nat) (F' : hF) (A' : hA) (c' s' : Nat), HW V139 σ D' N' F' A' → OUT (V139).length D N σE c s D' N' σ c' s' → SD [4, 6, 7, 8, 11] D D' → SD [4, 6, 7, 8, 11] N N' → SF [(1, 1), (1, 2), (1, 3), (1, 4), (1, 5), (1, 6), (1, 8), (1, 12), (1, 13), (1, 14), (1, 15), (1, 16), (1, 17), (1, 18), (10, 0), (10, 1), (10, 2), (10, 3), (10, 4)] F F' → SA [4, 5, 6, 7, 8, 11, 12] A A' → F' 1 8 = (D' 4 : Int) → F' 1 1 = (D' 6 : Int) → F' 1 2 = (D' 7 : Int) → F' 1 3 = (D' 8 : Int) → F' 10 0 = (D' 11 : Int) → ∀ m4 : Int, (N' 4 : Int) = m4 → ∀ m6 : Int, (N' 6 : Int) = m6 → ∀ m7 : Int, (N' 7 : Int) = m7 → ∀ m8 : Int, (N' 8 : Int) = m8 → ∀ m11 : Int, (N' 11 : Int) = m11 → ∀ y1_4 : Int, F' 1 4 = y1_4 → ∀ y1_6 : Int, F' 1 6 = y1_6 → ∀ y10_1 : Int, F' 10 1 = y10_1 → ∀ y10_2 : Int, F' 10 2 = y10_2 → ∀ v4 : Int → Int, A' 4 = v4 → ∀ v5 : Int → Int, A' 5 = v5 → ∀ v6 : Int → Int, A' 6 = v6 → ∀ v7 : Int → Int, A' 7 = v7 → ∀ v8 : Int → Int, A' 8 = v8 → ∀ v11 : Int → Int, A' 11 = v11 → ∀ v12 : Int → Int, A' 12 = v12 → (0 ≤ (y1_6) ∧ (u1_6) ≤ (y1_6) ∧ (y1_6) ≤ (m4) ∧ (m4) ≤ 16384) → ((m6) = (m7) ∧ (m8) = (m7) ∧ (m7) ≤ 65536 ∧ ((m7) = 0 ∨ 64 ≤ (m7)) ∧ lgq ((m7)) = 0) → (BKI ((w3)) ((v4)) ((u1_10)) ((y1_6))) → (HDI ((w3)) ((v5)) ((u1_10)) ((y1_6))) → (0 ≤ (y1_4) ∧ (y1_4) ≤ (m7) ∧ (y1_4) ≤ (a2) - (a1)) → (DSI ((v8)) ((y1_4))) → (0 ≤ (y10_1) ∧ (y10_1) ≤ (m11) ∧ (m11) ≤ 65536) → (CTN (ub ((v11))) ((v12)) ((y10_1)) 256) → ((y10_2) = 0 ∧ (y10_1) ≤ (a2) - (a1)) → (GOR (MTL ((w3)) ((a2)) ((u1_11)) ((u1_10)) ((u1_9)) ((a2) - (u1_10))) ((w3)) ((a2)) ((a1)) ((v6)) ((v7)) ((v8)) ((y1_4)) ((v11)) ((y10_1))) → Q none σ c' s') : Ew 139 (d + 4) 0 (rargs 0 [.ref (D 0), I a1, I a2]) [] σE c s Q := by
  have O := OUT_refl (n := (V139).length) (D := D) (N := N) (σ := σE) (c := c) (s := s)
  have HE := H
  have r1 : HID ((-2147483648 : Int) ≤ u1_4 ∧ u1_4 ≤ 2147483647) := krg_e (show (-2147483648 : Int) ≤ F 1 4 ∧ F 1 4 ≤ 2147483647 from H.krg 1 4 (by decide)) (show F 1 4 = u1_4 from (eu1_4))
  have r2 : HID ((-2147483648 : Int) ≤ u1_6 ∧ u1_6 ≤ 2147483647) := krg_e (show (-2147483648 : Int) ≤ F 1 6 ∧ F 1 6 ≤ 2147483647 from H.krg 1 6 (by decide)) (show F 1 6 = u1_6 from (eu1_6))
  have r3 : HID ((-2147483648 : Int) ≤ u1_9 ∧ u1_9 ≤ 2147483647) := krg_e (show (-2147483648 : Int) ≤ F 1 9 ∧ F 1 9 ≤ 2147483647 from H.krg 1 9 (by decide)) (show F 1 9 = u1_9 from (eu1_9))
  have r4 : HID ((-2147483648 : Int) ≤ u1_10 ∧ u1_10 ≤ 2147483647) := krg_e (show (-2147483648 : Int) ≤ F 1 10 ∧ F 1 10 ≤ 2147483647 from H.krg 1 10 (by decide)) (show F 1 10 = u1_10 from (eu1_10))
  have r5 : HID ((-2147483648 : Int) ≤ u1_11 ∧ u1_11 ≤ 2147483647) := krg_e (show (-2147483648 : Int) ≤ F 1 11 ∧ F 1 11 ≤ 2147483647 from H.krg 1 11 (by decide)) (show F 1 11 = u1_11 from (eu1_11))
  have r6 : HID ((-2147483648 : Int) ≤ u2_1 ∧ u2_1 ≤ 2147483647) := krg_e (show (-2147483648 : Int) ≤ F 2 1 ∧ F 2 1 ≤ 2147483647 from H.krg 2 1 (by decide)) (show F 2 1 = u2_1 from (eu2_1))
  have r7 : HID ((-2147483648 : Int) ≤ u10_1 ∧ u10_1 ≤ 2147483647) := krg_e (show (-2147483648 : Int) ≤ F 10 1 ∧ F 10 1 ≤ 2147483647 from H.krg 10 1 (by decide)) (show F 10 1 = u10_1 from (eu10_1))
  have r8 : HID ((0 : Int) ≤ u10_2 ∧ u10_2 ≤ 1) := krg_e (show (0 : Int) ≤ F 10 2 ∧ F 10 2 ≤ 1 from H.krg 10 2 (by decide)) (show F 10 2 = u10_2 from (eu10_2))
  replace pf1 := HIDm pf1
  replace pf2 := HIDm pf2
  replace pf3 := HIDm pf3
  replace pf4 := HIDm pf4
  replace pf5 := HIDm pf5
  replace pf6 := HIDm pf6
  replace pf7 := HIDm pf7
  replace pf8 := HIDm pf8
  replace pf9 := HIDm pf9
  replace pf10 := HIDm pf10
  replace pf11 := HIDm pf11
  replace pf12 := HIDm pf12
  replace en3 := HIDm en3
  replace en4 := HIDm en4
  replace en5 := HIDm en5
  replace en6 := HIDm en6
  replace en7 := HIDm en7
  replace en8 := HIDm en8
  replace en9 := HIDm en9
  replace en11 := HIDm en11
  replace en12 := HIDm en12
  replace eu1_4 := HIDm eu1_4
  replace eu1_6 := HIDm eu1_6
  replace eu1_9 := HIDm eu1_9
  replace eu1_10 := HIDm eu1_10
  replace eu1_11 := HIDm eu1_11
  replace eu2_1 := HIDm eu2_1
  replace eu10_1 := HIDm eu10_1
  replace eu10_2 := HIDm eu10_2
  have r9 : HID ((0 : Int) ≤ n3 ∧ n3 ≤ 1000000) := nrng (H.nle 3 (by decide)) (show (N 3 : Int) = n3 from en3)
  have r10 : HID ((0 : Int) ≤ n4 ∧ n4 ≤ 1000000) := nrng (H.nle 4 (by decide)) (show (N 4 : Int) = n4 from en4)
  have r11 : HID ((0 : Int) ≤ n5 ∧ n5 ≤ 1000000) := nrng (H.nle 5 (by decide)) (show (N 5 : Int) = n5 from en5)
  have r12 : HID ((0 : Int) ≤ n6 ∧ n6 ≤ 1000000) := nrng (H.nle 6 (by decide)) (show (N 6 : Int) = n6 from en6)
  have r13 : HID ((0 : Int) ≤ n7 ∧ n7 ≤ 1000000) := nrng (H.nle 7 (by decide)) (show (N 7 : Int) = n7 from en7)
  have r14 : HID ((0 : Int) ≤ n8 ∧ n8 ≤ 1000000) := nrng (H.nle 8 (by decide)) (show (N 8 : Int) = n8 from en8)
  have r15 : HID ((0 : Int) ≤ n9 ∧ n9 ≤ 1000000) := nrng (H.nle 9 (by decide)) (show (N 9 : Int) = n9 from en9)
  have r16 : HID ((0 : Int) ≤ n11 ∧ n11 ≤ 1000000) := nrng (H.nle 11 (by decide)) (show (N 11 : Int) = n11 from en11)
  have r17 : HID ((0 : Int) ≤ n12 ∧ n12 ≤ 1000000) := nrng (H.nle 12 (by decide)) (show (N 12 : Int) = n12 from en12)
  refine Ew_of (pc' := 1) (fun _ => x_aload_n rfl rfl) ?_
  refine v_g H (o := 0) (v := .ref (D 1)) rfl rfl rfl rfl rfl (vrf (pf1)) ?_
  refine Ew_of (pc' := 5) (fun _ => x_iload_n rfl rfl) ?_
  refine v_inv H (o := 1) rfl rfl rfl rfl rfl rfl (by rfl) (C123 (D := pul [1, 2, 3, 4, 5] D) (N := pul [1, 2, 3, 4, 5] N) (HW_sub H (VS_of (show vsub V139 V123 [1, 2, 3, 4, 5] = true by decide +kernel))) (pf2) (pf3) (pf4) (pf5) (n3) (en3) (n4) (en4) (n5) (en5) (u1_6) ((eu1_6)) (u1_10) ((eu1_10)) (u2_1) ((eu2_1)) (w3) (ew3) (w4) (ew4) (w5) (ew5) (show inr (a2) by omega) (show 0 ≤ (u2_1) ∧ (u2_1) ≤ (n3) ∧ (n3) ≤ 65536 ∧ (u2_1) ≤ 16384 by have qh0 := HIDe r6; have qh1 := HIDe r9; omega) (show 1 ≤ (u1_10) ∧ (u1_10) ≤ 8 by have qh0 := HIDe r4; omega) (show 0 ≤ (a2) ∧ (a2) ≤ (u2_1) by have qh0 := HIDe r6; omega) (show BKI ((w3)) ((w4)) ((u1_10)) ((u1_6)) by assumption) (show HDI ((w3)) ((w5)) ((u1_10)) ((u1_6)) by assumption) (show (n5) = 2048 by have qh0 := HIDe r11; omega) (show 0 ≤ (u1_6) ∧ (u1_6) ≤ (n4) ∧ (n4) ≤ 16384 by have qh0 := HIDe r10; have qh1 := HIDe r2; omega) (fun σ18 D18' N18' F18' A18' c18 s18 H' O' hD18 hN18 hS18 hA18 pm18_3 m18_3 em18_3 y18_0_6 ey18_0_6 w18_3 ew18_3 w18_4 ew18_4 pz18_0 pz18_1 pz18_2 pz18_3 pz18_4 => ⟨rfl, ?_⟩))
  replace pm18_3 := HIDm pm18_3
  replace em18_3 := HIDm em18_3
  replace ey18_0_6 := HIDm ey18_0_6
  refine v_backM (c := c) (s := s) H (show vsub V139 V123 [1, 2, 3, 4, 5] = true by decide +kernel) H' O' hD18 (show vmov V139 [1, 2, 3, 4, 5] [3] = true by decide +kernel) (fun D18 N18 F18 A18 H O' eD18 eN18 eF18 eA18 => ?_)
  have O := OUT_trans O O'
  -- Finder.lay
  have pf18_0_0 : HID (F18 0 0 = (D18 9 : Int)) := ((show F18 0 0 = F 0 0 from (eF18 0 0))).trans ((pf9).trans (congrArg (fun q : Nat => (q : Int)) ((show D18 9 = D 9 from (eD18 9))).symm))
  have pf18_0_1 : HID (F18 0 1 = (D18 1 : Int)) := ((show F18 0 1 = F 0 1 from (eF18 0 1))).trans ((pf1).trans (congrArg (fun q : Nat => (q : Int)) ((show D18 1 = D 1 from (eD18 1).trans (hD18 0 rfl))).symm))
  have pf18_0_11 : HID (F18 0 11 = (D18 12 : Int)) := ((show F18 0 11 = F 0 11 from (eF18 0 11))).trans ((pf12).trans (congrArg (fun q : Nat => (q : Int)) ((show D18 12 = D 12 from (eD18 12))).symm))
  have pf18_0_9 : HID (F18 0 9 = (D18 10 : Int)) := ((show F18 0 9 = F 0 9 from (eF18 0 9))).trans ((pf10).trans (congrArg (fun q : Nat => (q : Int)) ((show D18 10 = D 10 from (eD18 10))).symm))
  have pf18_1_0 : HID (F18 1 0 = (D18 2 : Int)) := ((show F18 1 0 = F 1 0 from (eF18 1 0).trans (hS18 0 0 rfl))).trans ((pf2).trans (congrArg (fun q : Nat => (q : Int)) ((show D18 2 = D 2 from (eD18 2).trans (hD18 1 rfl))).symm))
  have pf18_1_1 : HID (F18 1 1 = (D18 6 : Int)) := ((show F18 1 1 = F 1 1 from (eF18 1 1).trans (hS18 0 1 rfl))).trans ((pf6).trans (congrArg (fun q : Nat => (q : Int)) ((show D18 6 = D 6 from (eD18 6))).symm))
  have pf18_1_2 : HID (F18 1 2 = (D18 7 : Int)) := ((show F18 1 2 = F 1 2 from (eF18 1 2).trans (hS18 0 2 rfl))).trans ((pf7).trans (congrArg (fun q : Nat => (q : Int)) ((show D18 7 = D 7 from (eD18 7))).symm))
  have pf18_1_3 : HID (F18 1 3 = (D18 8 : Int)) := ((show F18 1 3 = F 1 3 from (eF18 1 3).trans (hS18 0 3 rfl))).trans ((pf8).trans (congrArg (fun q : Nat => (q : Int)) ((show D18 8 = D 8 from (eD18 8))).symm))
  have pf18_1_7 : HID (F18 1 7 = (D18 5 : Int)) := ((show F18 1 7 = F 1 7 from (eF18 1 7).trans (hS18 0 7 rfl))).trans ((pf5).trans (congrArg (fun q : Nat => (q : Int)) ((show D18 5 = D 5 from (eD18 5).trans (hD18 4 rfl))).symm))
  have pf18_1_8 : HID (F18 1 8 = (D18 4 : Int)) := (eF18 1 8).trans (pm18_3.trans (congrArg (fun q : Nat => (q : Int)) (eD18 4).symm))
  have pf18_10_0 : HID (F18 10 0 = (D18 11 : Int)) := ((show F18 10 0 = F 10 0 from (eF18 10 0))).trans ((pf11).trans (congrArg (fun q : Nat => (q : Int)) ((show D18 11 = D 11 from (eD18 11))).symm))
  have pf18_2_0 : HID (F18 2 0 = (D18 3 : Int)) := ((show F18 2 0 = F 2 0 from (eF18 2 0).trans (hS18 1 0 rfl))).trans ((pf3).trans (congrArg (fun q : Nat => (q : Int)) ((show D18 3 = D 3 from (eD18 3).trans (hD18 2 rfl))).symm))
  have r19 : HID ((0 : Int) ≤ m18_3 ∧ m18_3 ≤ 1000000) := nrng (H.nle 4 (by decide)) (show (N18 4 : Int) = m18_3 from (congrArg (fun q : Nat => (q : Int)) (eN18 4)).trans em18_3)
  have r20 : HID ((-2147483648 : Int) ≤ y18_0_6 ∧ y18_0_6 ≤ 2147483647) := krg_e (show (-2147483648 : Int) ≤ F18 1 6 ∧ F18 1 6 ≤ 2147483647 from H.krg 1 6 (by decide)) (show F18 1 6 = y18_0_6 from ((eF18 1 6).trans ey18_0_6))
  refine Ew_of (pc' := 9) (fun _ => x_aload_n rfl rfl) ?_
  refine Ew_stk (show ([.ref (D 0)] : List Value) = [.ref (D18 0)] by rw [show D18 0 = D 0 from ((show D18 0 = D 0 from (eD18 0)))]) ?_
  refine v_g H (o := 0) (v := .ref (D18 1)) rfl rfl rfl rfl rfl (vrf (pf18_0_1)) ?_
  refine Ew_of (pc' := 13) (fun _ => x_iload_n rfl rfl) ?_
  refine Ew_of (pc' := 14) (fun _ => x_iload_n rfl rfl) ?_
  refine Ew_of (pc' := 15) (fun _ => x_iload_n rfl rfl) ?_
  refine Ew_of (pc' := 16) (fun _ => x_iload_n rfl rfl) ?_
  refine Ew_of (pc' := 17) (fun _ => x_aload_n rfl rfl) ?_
  refine Ew_stk (show ([.ref (D 0), I (a2), I (a2), I (a2), I (a1), .ref (D18 1)] : List Value) = [.ref (D18 0), I (a2), I (a2), I (a2), I (a1), .ref (D18 1)] by rw [show D18 0 = D 0 from ((show D18 0 = D 0 from (eD18 0)))]) ?_
  refine v_g H (o := 0) (v := .ref (D18 9)) rfl rfl rfl rfl rfl (vrf (pf18_0_0)) ?_
  refine Ew_of (pc' := 21) (fun _ => x_iconst rfl) ?_
  refine v_lI H (o := 9) rfl rfl rfl rfl (n := n9) ((congrArg (fun q : Nat => (q : Int)) (show N18 9 = N 9 from (eN18 9))).trans (en9)) (show 0 ≤ 1 ∧ 1 < n9 by have qh0 := HIDe r15; omega) (fun v21 ev21 qv21 => ?_)
  replace qv21 := HIDm qv21
  have ev21 : (w9) (1) = v21 := (congrFun (((show A18 9 = A 9 from (eA18 9))).trans (ew9)) (1)).symm.trans ev21
  have hsl := ev21
  refine w_isub rfl ?_
  obtain ⟨qls, hqls⟩ : ∃ q : Int, q = ((a2 - v21)) := ⟨_, rfl⟩
  have hql2 : qls = (a2) - (u1_10) := by (have qg0 := HIDe r4; omega)
  have r22 : HID ((-2147483648 : Int) ≤ F 1 5 ∧ F 1 5 ≤ 2147483647) := krg_e (show (-2147483648 : Int) ≤ F18 1 5 ∧ F18 1 5 ≤ 2147483647 from H.krg 1 5 (by decide)) (show F18 1 5 = F 1 5 from ((show F18 1 5 = F 1 5 from (eF18 1 5).trans (hS18 0 5 rfl))))
  refine v_inv H (o := 1) rfl rfl rfl rfl rfl rfl (by rfl) (C125 (D := pul [1, 2, 3, 4, 6, 7, 8] D18) (N := pul [1, 2, 3, 4, 6, 7, 8] N18) (HW_sub H (VS_of (show vsub V139 V125 [1, 2, 3, 4, 6, 7, 8] = true by decide +kernel))) (pf18_1_0) (pf18_2_0) (pf18_1_8) (pf18_1_1) (pf18_1_2) (pf18_1_3) (n3) ((congrArg (fun q : Nat => (q : Int)) (show N18 3 = N 3 from (eN18 3).trans (hN18 2 rfl))).trans (en3)) (m18_3) ((congrArg (fun q : Nat => (q : Int)) (eN18 4)).trans em18_3) (n6) ((congrArg (fun q : Nat => (q : Int)) (show N18 6 = N 6 from (eN18 6))).trans (en6)) (n7) ((congrArg (fun q : Nat => (q : Int)) (show N18 7 = N 7 from (eN18 7))).trans (en7)) (n8) ((congrArg (fun q : Nat => (q : Int)) (show N18 8 = N 8 from (eN18 8))).trans (en8)) (u1_4) ((((show F18 1 4 = F 1 4 from (eF18 1 4).trans (hS18 0 4 rfl))).trans (eu1_4))) (F 1 5) (((show F18 1 5 = F 1 5 from (eF18 1 5).trans (hS18 0 5 rfl)))) (y18_0_6) (((eF18 1 6).trans ey18_0_6)) (u1_9) ((((show F18 1 9 = F 1 9 from (eF18 1 9).trans (hS18 0 9 rfl))).trans (eu1_9))) (u1_10) ((((show F18 1 10 = F 1 10 from (eF18 1 10).trans (hS18 0 10 rfl))).trans (eu1_10))) (u1_11) ((((show F18 1 11 = F 1 11 from (eF18 1 11).trans (hS18 0 11 rfl))).trans (eu1_11))) (u2_1) ((((show F18 2 1 = F 2 1 from (eF18 2 1).trans (hS18 1 1 rfl))).trans (eu2_1))) (w3) (((show A18 3 = A 3 from (eA18 3).trans (funext (hA18 2 rfl)))).trans (ew3)) (w18_3) ((eA18 4).trans ew18_3) (w6) (((show A18 6 = A 6 from (eA18 6))).trans (ew6)) (w7) (((show A18 7 = A 7 from (eA18 7))).trans (ew7)) (w8) (((show A18 8 = A 8 from (eA18 8))).trans (ew8)) (show inr (a1) by omega) (show inr (a2) by omega) (show inr (a2) by omega) (show inr ((a2 - v21)) by have qh0 := HIDe qv21; omega) (show 0 ≤ (u2_1) ∧ (u2_1) ≤ (n3) ∧ (n3) ≤ 65536 ∧ (u2_1) ≤ 16384 by have qh0 := HIDe r6; have qh1 := HIDe r9; omega) (show 1 ≤ (u1_10) ∧ (u1_10) ≤ 8 by have qh0 := HIDe r4; omega) (show 0 ≤ (a1) ∧ (a1) ≤ (a2) ∧ (a2) ≤ (u2_1) by have qh0 := HIDe r6; omega) (show (a2) ≤ (a2) ∧ ((a2 - v21)) < (a2) ∧ ((a2 - v21)) < (y18_0_6) by have qh0 := HIDe qv21; have qh1 := HIDe r20; omega) (show 0 ≤ (y18_0_6) ∧ (y18_0_6) ≤ (m18_3) ∧ (m18_3) ≤ 16384 by have qh0 := HIDe r19; have qh1 := HIDe r20; omega) (show BKI ((w3)) ((w18_3)) ((u1_10)) ((y18_0_6)) by assumption) (show (n6) = (n7) ∧ (n8) = (n7) ∧ (n7) ≤ 65536 ∧ ((n7) = 0 ∨ 64 ≤ (n7)) ∧ lgq ((n7)) = 0 by have qh0 := HIDe r12; have qh1 := HIDe r13; have qh2 := HIDe r14; omega) (fun σ23 D23' N23' F23' A23' c23 s23 H' O' hD23 hN23 hS23 hA23 pm23_4 pm23_5 pm23_6 m23_4 em23_4 m23_5 em23_5 m23_6 em23_6 y23_0_4 ey23_0_4 y23_0_5 ey23_0_5 w23_4 ew23_4 w23_5 ew23_5 w23_6 ew23_6 pz23_0 pz23_1 pz23_2 pz23_3 pz23_4 => ⟨rfl, ?_⟩))
  replace pm23_4 := HIDm pm23_4
  replace pm23_5 := HIDm pm23_5
  replace pm23_6 := HIDm pm23_6
  replace em23_4 := HIDm em23_4
  replace em23_5 := HIDm em23_5
  replace em23_6 := HIDm em23_6
  replace ey23_0_4 := HIDm ey23_0_4
  replace ey23_0_5 := HIDm ey23_0_5
  refine v_backM (c := (c + c18)) (s := (s + s18)) H (show vsub V139 V125 [1, 2, 3, 4, 6, 7, 8] = true by decide +kernel) H' O' hD23 (show vmov V139 [1, 2, 3, 4, 6, 7, 8] [4, 5, 6] = true by decide +kernel) (fun D23 N23 F23 A23 H O' eD23 eN23 eF23 eA23 => ?_)
  have O := OUT_trans O O'
  -- Finder.go
  have pf23_0_0 : HID (F23 0 0 = (D23 9 : Int)) := ((show F23 0 0 = F18 0 0 from (eF23 0 0))).trans ((pf18_0_0).trans (congrArg (fun q : Nat => (q : Int)) ((show D23 9 = D18 9 from (eD23 9))).symm))
  have pf23_0_1 : HID (F23 0 1 = (D23 1 : Int)) := ((show F23 0 1 = F18 0 1 from (eF23 0 1))).trans ((pf18_0_1).trans (congrArg (fun q : Nat => (q : Int)) ((show D23 1 = D18 1 from (eD23 1).trans (hD23 0 rfl))).symm))
  have pf23_0_11 : HID (F23 0 11 = (D23 12 : Int)) := ((show F23 0 11 = F18 0 11 from (eF23 0 11))).trans ((pf18_0_11).trans (congrArg (fun q : Nat => (q : Int)) ((show D23 12 = D18 12 from (eD23 12))).symm))
  have pf23_0_9 : HID (F23 0 9 = (D23 10 : Int)) := ((show F23 0 9 = F18 0 9 from (eF23 0 9))).trans ((pf18_0_9).trans (congrArg (fun q : Nat => (q : Int)) ((show D23 10 = D18 10 from (eD23 10))).symm))
  have pf23_1_0 : HID (F23 1 0 = (D23 2 : Int)) := ((show F23 1 0 = F18 1 0 from (eF23 1 0).trans (hS23 0 0 rfl))).trans ((pf18_1_0).trans (congrArg (fun q : Nat => (q : Int)) ((show D23 2 = D18 2 from (eD23 2).trans (hD23 1 rfl))).symm))
  have pf23_1_1 : HID (F23 1 1 = (D23 6 : Int)) := (eF23 1 1).trans (pm23_4.trans (congrArg (fun q : Nat => (q : Int)) (eD23 6).symm))
  have pf23_1_2 : HID (F23 1 2 = (D23 7 : Int)) := (eF23 1 2).trans (pm23_5.trans (congrArg (fun q : Nat => (q : Int)) (eD23 7).symm))
  have pf23_1_3 : HID (F23 1 3 = (D23 8 : Int)) := (eF23 1 3).trans (pm23_6.trans (congrArg (fun q : Nat => (q : Int)) (eD23 8).symm))
  have pf23_1_7 : HID (F23 1 7 = (D23 5 : Int)) := ((show F23 1 7 = F18 1 7 from (eF23 1 7).trans (hS23 0 7 rfl))).trans ((pf18_1_7).trans (congrArg (fun q : Nat => (q : Int)) ((show D23 5 = D18 5 from (eD23 5))).symm))
  have pf23_1_8 : HID (F23 1 8 = (D23 4 : Int)) := ((show F23 1 8 = F18 1 8 from (eF23 1 8).trans (hS23 0 8 rfl))).trans ((pf18_1_8).trans (congrArg (fun q : Nat => (q : Int)) ((show D23 4 = D18 4 from (eD23 4).trans (hD23 3 rfl))).symm))
  have pf23_10_0 : HID (F23 10 0 = (D23 11 : Int)) := ((show F23 10 0 = F18 10 0 from (eF23 10 0))).trans ((pf18_10_0).trans (congrArg (fun q : Nat => (q : Int)) ((show D23 11 = D18 11 from (eD23 11))).symm))
  have pf23_2_0 : HID (F23 2 0 = (D23 3 : Int)) := ((show F23 2 0 = F18 2 0 from (eF23 2 0).trans (hS23 1 0 rfl))).trans ((pf18_2_0).trans (congrArg (fun q : Nat => (q : Int)) ((show D23 3 = D18 3 from (eD23 3).trans (hD23 2 rfl))).symm))
  have r24 : HID ((0 : Int) ≤ m23_4 ∧ m23_4 ≤ 1000000) := nrng (H.nle 6 (by decide)) (show (N23 6 : Int) = m23_4 from (congrArg (fun q : Nat => (q : Int)) (eN23 6)).trans em23_4)
  have r25 : HID ((0 : Int) ≤ m23_5 ∧ m23_5 ≤ 1000000) := nrng (H.nle 7 (by decide)) (show (N23 7 : Int) = m23_5 from (congrArg (fun q : Nat => (q : Int)) (eN23 7)).trans em23_5)
  have r26 : HID ((0 : Int) ≤ m23_6 ∧ m23_6 ≤ 1000000) := nrng (H.nle 8 (by decide)) (show (N23 8 : Int) = m23_6 from (congrArg (fun q : Nat => (q : Int)) (eN23 8)).trans em23_6)
  have r27 : HID ((-2147483648 : Int) ≤ y23_0_4 ∧ y23_0_4 ≤ 2147483647) := krg_e (show (-2147483648 : Int) ≤ F23 1 4 ∧ F23 1 4 ≤ 2147483647 from H.krg 1 4 (by decide)) (show F23 1 4 = y23_0_4 from ((eF23 1 4).trans ey23_0_4))
  have r28 : HID ((-2147483648 : Int) ≤ y23_0_5 ∧ y23_0_5 ≤ 2147483647) := krg_e (show (-2147483648 : Int) ≤ F23 1 5 ∧ F23 1 5 ≤ 2147483647 from H.krg 1 5 (by decide)) (show F23 1 5 = y23_0_5 from ((eF23 1 5).trans ey23_0_5))
  have hgs : GOS (MTL ((w3)) ((a2)) ((u1_11)) ((u1_10)) ((u1_9)) ((a2) - (u1_10))) ((a2)) ((a1)) ((a1)) (sq ((w23_4)) ((w23_5)) ((w23_6)) ((y23_0_4))) ((y23_0_5)) := by have h := pz23_4; rw [← hqls, hql2] at h; exact h
  have hlnq : (m23_4) = (m23_5) ∧ (m23_6) = (m23_5) ∧ (m23_5) ≤ 65536 ∧ ((m23_5) = 0 ∨ 64 ≤ (m23_5)) ∧ lgq ((m23_5)) = 0 := by (have qg0 := HIDe r24; have qg1 := HIDe r25; have qg2 := HIDe r26; omega)
  refine Ew_of (pc' := 27) (fun _ => x_aload_n rfl rfl) ?_
  refine Ew_stk (show ([.ref (D 0)] : List Value) = [.ref (D23 0)] by rw [show D23 0 = D 0 from (((show D23 0 = D18 0 from (eD23 0))).trans ((show D18 0 = D 0 from (eD18 0))))]) ?_
  refine v_g H (o := 0) (v := .ref (D23 10)) rfl rfl rfl rfl rfl (vrf (pf23_0_9)) ?_
  have r29 : HID ((-2147483648 : Int) ≤ F 10 3 ∧ F 10 3 ≤ 2147483647) := krg_e (show (-2147483648 : Int) ≤ F23 10 3 ∧ F23 10 3 ≤ 2147483647 from H.krg 10 3 (by decide)) (show F23 10 3 = F 10 3 from (((show F23 10 3 = F18 10 3 from (eF23 10 3))).trans ((show F18 10 3 = F 10 3 from (eF18 10 3)))))
  have r30 : HID ((-2147483648 : Int) ≤ F 10 4 ∧ F 10 4 ≤ 2147483647) := krg_e (show (-2147483648 : Int) ≤ F23 10 4 ∧ F23 10 4 ≤ 2147483647 from H.krg 10 4 (by decide)) (show F23 10 4 = F 10 4 from (((show F23 10 4 = F18 10 4 from (eF23 10 4))).trans ((show F18 10 4 = F 10 4 from (eF18 10 4)))))
  refine v_inv H (o := 10) rfl rfl rfl rfl rfl rfl (by rfl) (C156h (D := pul [10] D23) (N := pul [10] N23) (HW_sub H (VS_of (show vsub V139 V156 [10] = true by decide +kernel))) (u10_1) (((((show F23 10 1 = F18 10 1 from (eF23 10 1))).trans ((show F18 10 1 = F 10 1 from (eF18 10 1)))).trans (eu10_1))) (u10_2) (((((show F23 10 2 = F18 10 2 from (eF23 10 2))).trans ((show F18 10 2 = F 10 2 from (eF18 10 2)))).trans (eu10_2))) (F 10 3) ((((show F23 10 3 = F18 10 3 from (eF23 10 3))).trans ((show F18 10 3 = F 10 3 from (eF18 10 3))))) (F 10 4) ((((show F23 10 4 = F18 10 4 from (eF23 10 4))).trans ((show F18 10 4 = F 10 4 from (eF18 10 4)))))  (fun σ31 F31' A31' H' O' hS31 hA31 y31_0_1 ey31_0_1 y31_0_2 ey31_0_2 y31_0_3 ey31_0_3 y31_0_4 ey31_0_4 pz31_0 pz31_1 => ⟨rfl, ?_⟩))
  replace ey31_0_1 := HIDm ey31_0_1
  replace ey31_0_2 := HIDm ey31_0_2
  replace ey31_0_3 := HIDm ey31_0_3
  replace ey31_0_4 := HIDm ey31_0_4
  refine v_back (c := ((c + c18) + c23)) (s := ((s + s18) + s23)) H (show vsub V139 V156 [10] = true by decide +kernel) H' O' (fun F31 A31 H O' eF31 eA31 => ?_)
  have O := OUT_trans O O'
  -- Row.clear
  have r32 : HID ((-2147483648 : Int) ≤ y31_0_1 ∧ y31_0_1 ≤ 2147483647) := krg_e (show (-2147483648 : Int) ≤ F31 10 1 ∧ F31 10 1 ≤ 2147483647 from H.krg 10 1 (by decide)) (show F31 10 1 = y31_0_1 from ((eF31 10 1).trans ey31_0_1))
  have r33 : HID ((0 : Int) ≤ y31_0_2 ∧ y31_0_2 ≤ 1) := krg_e (show (0 : Int) ≤ F31 10 2 ∧ F31 10 2 ≤ 1 from H.krg 10 2 (by decide)) (show F31 10 2 = y31_0_2 from ((eF31 10 2).trans ey31_0_2))
  have r34 : HID ((-2147483648 : Int) ≤ y31_0_3 ∧ y31_0_3 ≤ 2147483647) := krg_e (show (-2147483648 : Int) ≤ F31 10 3 ∧ F31 10 3 ≤ 2147483647 from H.krg 10 3 (by decide)) (show F31 10 3 = y31_0_3 from ((eF31 10 3).trans ey31_0_3))
  have r35 : HID ((-2147483648 : Int) ≤ y31_0_4 ∧ y31_0_4 ≤ 2147483647) := krg_e (show (-2147483648 : Int) ≤ F31 10 4 ∧ F31 10 4 ≤ 2147483647 from H.krg 10 4 (by decide)) (show F31 10 4 = y31_0_4 from ((eF31 10 4).trans ey31_0_4))
  refine Ew_of (pc' := 34) (fun _ => x_iload_n rfl rfl) ?_
  refine Ew_of (pc' := 35) (fun _ => x_istore_n rfl) ?_
  refine Ew_of (pc' := 36) (fun _ => x_iconst rfl) ?_
  refine Ew_of (pc' := 38) (fun _ => x_istore rfl) ?_
  have : sc ((w11)) 0 ((y31_0_1)) = LTS ((w3)) ((a1)) (sq ((w23_4)) ((w23_5)) ((w23_6)) 0) 0 := by rw [sc_nil (by (have qg0 := HIDe r32; omega))]; show [] = sc ((w3)) ((a1)) ((a1) + 0); rw [sc_nil (by (have qg0 := HIDe r32; omega))]
  have : (a1) = enp ((a1)) (sq ((w23_4)) ((w23_5)) ((w23_6)) 0) := rfl
  have : su (fun j => ((w23_4)) j + ((w23_5)) j) (0 : Int).toNat = 0 := rfl
  have hfd : FDI ((w23_4)) ((w23_5)) ((w23_6)) ((y23_0_4)) ((a2) - (a1) - (y23_0_5)) ((u1_10)) := pz23_3
  have hds : DSI ((w23_6)) ((y23_0_4)) := fun j p q => (hfd.1 j p q).2.2
  suffices hl38 : ∀ (m : Nat), ∀ (ls : rO) (σ : rS) (D_38 N_38 : Nat → Nat) (c_38 s_38 : Nat) (F_38 : hF) (A_38 : hA) (x38_3 : Int) (x38_4 : Int), rlook ls 0 = some (.ref (D_38 0)) → rlook ls 3 = some (I (x38_3)) → rlook ls 4 = some (I (x38_4)) → HW V139 σ D_38 N_38 F_38 A_38 → OUT (V139).length D N σE c s D_38 N_38 σ c_38 s_38 → SD [11] D23 D_38 → SD [11] N23 N_38 → SF [(10, 0), (10, 1), (10, 2)] F31 F_38 → SA [11] A31 A_38 → F_38 10 0 = (D_38 11 : Int) → ∀ m38_11 : Int, (N_38 11 : Int) = m38_11 → ∀ y38_10_1 : Int, F_38 10 1 = y38_10_1 → ∀ y38_10_2 : Int, F_38 10 2 = y38_10_2 → ∀ w38_11 : Int → Int, A_38 11 = w38_11 → (inr (x38_3)) → (inr (x38_4)) → ((0) ≤ (x38_4)) → ((x38_4) ≤ (0) ∨ (x38_4) ≤ ((y23_0_4))) → (0 ≤ (y38_10_1) ∧ (y38_10_1) ≤ (m38_11) ∧ (m38_11) ≤ 65536) → ((x38_3) = (a1) + su (fun j => ((w23_4)) j + ((w23_5)) j) ((x38_4) : Int).toNat) → ((y38_10_2) = 0 ∧ (y38_10_1) ≤ (x38_3) - (a1)) → (sc ((w38_11)) 0 ((y38_10_1)) = LTS ((w3)) ((a1)) (sq ((w23_4)) ((w23_5)) ((w23_6)) ((x38_4))) 0) → ((x38_3) = enp ((a1)) (sq ((w23_4)) ((w23_5)) ((w23_6)) ((x38_4)))) → (((y23_0_4)) - (x38_4)).toNat = m → Ew 139 (d + 4) 38 ls [] σ c_38 s_38 Q from
    hl38 _ _ _ _ _ _ _ _ _ (a1) (0) ((rk_o (rk_o (rfl) rfl rfl) rfl rfl).trans (congrArg (fun q : Nat => some (Value.ref q)) ((((show D23 0 = D18 0 from (eD23 0))).trans ((show D18 0 = D 0 from (eD18 0))))).symm)) (rk_o (rk_s) rfl rfl) (rk_s) H O (SD_refl) (SD_refl) (SF_refl) (SA_refl) ((((show F31 10 0 = F23 10 0 from (eF31 10 0).trans (hS31 0 0 rfl)))).trans (pf23_10_0)) (n11) ((congrArg (fun q : Nat => (q : Int)) (show N23 11 = N18 11 from (eN23 11))).trans ((congrArg (fun q : Nat => (q : Int)) (show N18 11 = N 11 from (eN18 11))).trans (en11))) (y31_0_1) (((eF31 10 1).trans ey31_0_1)) (y31_0_2) (((eF31 10 2).trans ey31_0_2)) (w11) (((show A31 11 = A23 11 from (eA31 11))).trans (((show A23 11 = A18 11 from (eA23 11))).trans (((show A18 11 = A 11 from (eA18 11))).trans (ew11)))) (show inr (a1) by omega) (show inr (0) by omega) (show (0) ≤ (0) by omega) (show (0) ≤ (0) ∨ (0) ≤ ((y23_0_4)) by have qh0 := HIDe r27; omega) (show 0 ≤ (y31_0_1) ∧ (y31_0_1) ≤ (n11) ∧ (n11) ≤ 65536 by have qh0 := HIDe r16; have qh1 := HIDe r32; omega) (show (a1) = (a1) + su (fun j => ((w23_4)) j + ((w23_5)) j) ((0) : Int).toNat by omega) (show (y31_0_2) = 0 ∧ (y31_0_1) ≤ (a1) - (a1) by have qh0 := HIDe r32; have qh1 := HIDe r33; omega) (show sc ((w11)) 0 ((y31_0_1)) = LTS ((w3)) ((a1)) (sq ((w23_4)) ((w23_5)) ((w23_6)) ((0))) 0 by assumption) (show (a1) = enp ((a1)) (sq ((w23_4)) ((w23_5)) ((w23_6)) ((0))) by assumption) rfl
  as_aux_lemma =>
  intro m
  induction m using Nat.strongRecOn with
  | _ m ih38 =>
    intro ls σ D_38 N_38 c_38 s_38 F_38 A_38 x38_3 x38_4 l38_0 l38_3 l38_4 H O hD_38 hN_38 hS_38 hA_38 pm38_11 m38_11 em38_11 y38_10_1 ey38_10_1 y38_10_2 ey38_10_2 w38_11 ew38_11 j38_0 j38_1 j38_2 j38_3 j38_4 j38_5 j38_6 j38_7 j38_8 hm38
    replace pm38_11 := HIDm pm38_11
    replace em38_11 := HIDm em38_11
    replace ey38_10_1 := HIDm ey38_10_1
    replace ey38_10_2 := HIDm ey38_10_2
    try clear pz18_2
    try clear pz23_0
    have pf_38_0_0 : HID (F_38 0 0 = (D_38 9 : Int)) := (hS_38 0 0 rfl).trans (((((show F31 0 0 = F23 0 0 from (eF31 0 0)))).trans (pf23_0_0)).trans (congrArg (fun q : Nat => (q : Int)) (hD_38 9 rfl).symm))
    have pf_38_0_1 : HID (F_38 0 1 = (D_38 1 : Int)) := (hS_38 0 1 rfl).trans (((((show F31 0 1 = F23 0 1 from (eF31 0 1)))).trans (pf23_0_1)).trans (congrArg (fun q : Nat => (q : Int)) (hD_38 1 rfl).symm))
    have pf_38_0_11 : HID (F_38 0 11 = (D_38 12 : Int)) := (hS_38 0 11 rfl).trans (((((show F31 0 11 = F23 0 11 from (eF31 0 11)))).trans (pf23_0_11)).trans (congrArg (fun q : Nat => (q : Int)) (hD_38 12 rfl).symm))
    have pf_38_0_9 : HID (F_38 0 9 = (D_38 10 : Int)) := (hS_38 0 9 rfl).trans (((((show F31 0 9 = F23 0 9 from (eF31 0 9)))).trans (pf23_0_9)).trans (congrArg (fun q : Nat => (q : Int)) (hD_38 10 rfl).symm))
    have pf_38_1_0 : HID (F_38 1 0 = (D_38 2 : Int)) := (hS_38 1 0 rfl).trans (((((show F31 1 0 = F23 1 0 from (eF31 1 0)))).trans (pf23_1_0)).trans (congrArg (fun q : Nat => (q : Int)) (hD_38 2 rfl).symm))
    have pf_38_1_1 : HID (F_38 1 1 = (D_38 6 : Int)) := (hS_38 1 1 rfl).trans (((((show F31 1 1 = F23 1 1 from (eF31 1 1)))).trans (pf23_1_1)).trans (congrArg (fun q : Nat => (q : Int)) (hD_38 6 rfl).symm))
    have pf_38_1_2 : HID (F_38 1 2 = (D_38 7 : Int)) := (hS_38 1 2 rfl).trans (((((show F31 1 2 = F23 1 2 from (eF31 1 2)))).trans (pf23_1_2)).trans (congrArg (fun q : Nat => (q : Int)) (hD_38 7 rfl).symm))
    have pf_38_1_3 : HID (F_38 1 3 = (D_38 8 : Int)) := (hS_38 1 3 rfl).trans (((((show F31 1 3 = F23 1 3 from (eF31 1 3)))).trans (pf23_1_3)).trans (congrArg (fun q : Nat => (q : Int)) (hD_38 8 rfl).symm))
    have pf_38_1_7 : HID (F_38 1 7 = (D_38 5 : Int)) := (hS_38 1 7 rfl).trans (((((show F31 1 7 = F23 1 7 from (eF31 1 7)))).trans (pf23_1_7)).trans (congrArg (fun q : Nat => (q : Int)) (hD_38 5 rfl).symm))
    have pf_38_1_8 : HID (F_38 1 8 = (D_38 4 : Int)) := (hS_38 1 8 rfl).trans (((((show F31 1 8 = F23 1 8 from (eF31 1 8)))).trans (pf23_1_8)).trans (congrArg (fun q : Nat => (q : Int)) (hD_38 4 rfl).symm))
    have pf_38_2_0 : HID (F_38 2 0 = (D_38 3 : Int)) := (hS_38 2 0 rfl).trans (((((show F31 2 0 = F23 2 0 from (eF31 2 0)))).trans (pf23_2_0)).trans (congrArg (fun q : Nat => (q : Int)) (hD_38 3 rfl).symm))
    have r36 : HID ((0 : Int) ≤ m38_11 ∧ m38_11 ≤ 1000000) := nrng (H.nle 11 (by decide)) (show (N_38 11 : Int) = m38_11 from em38_11)
    have r37 : HID ((-2147483648 : Int) ≤ y38_10_1 ∧ y38_10_1 ≤ 2147483647) := krg_e (show (-2147483648 : Int) ≤ F_38 10 1 ∧ F_38 10 1 ≤ 2147483647 from H.krg 10 1 (by decide)) (show F_38 10 1 = y38_10_1 from (ey38_10_1))
    have r38 : HID ((0 : Int) ≤ y38_10_2 ∧ y38_10_2 ≤ 1) := krg_e (show (0 : Int) ≤ F_38 10 2 ∧ F_38 10 2 ≤ 1 from H.krg 10 2 (by decide)) (show F_38 10 2 = y38_10_2 from (ey38_10_2))
    have j38_l : sc ((w38_11)) 0 ((y38_10_1)) = LTS ((w3)) ((a1)) (sq ((w23_4)) ((w23_5)) ((w23_6)) ((x38_4))) 0 := by assumption
    have j38_e : (x38_3) = enp ((a1)) (sq ((w23_4)) ((w23_5)) ((w23_6)) ((x38_4))) := by assumption
    refine Ew_of (pc' := 40) (fun _ => x_iload rfl l38_4) ?_
    refine Ew_of (pc' := 41) (fun _ => x_aload_n rfl l38_0) ?_
    refine v_g H (o := 0) (v := .ref (D_38 1)) rfl rfl rfl rfl rfl (vrf (pf_38_0_1)) ?_
    refine v_g H (o := 1) (v := I (y23_0_4)) rfl rfl rfl rfl rfl (congrArg (fun z : Int => I z) ((((hS_38 1 4 rfl).trans ((show F31 1 4 = F23 1 4 from (eF31 1 4)))).trans ((eF23 1 4).trans ey23_0_4)) : F_38 1 4 = y23_0_4)) ?_
    refine w_icmpge (t := 108) rfl rfl (show inr (x38_4) by omega) (show inr (y23_0_4) by have qh0 := HIDe r27; omega) (fun b39 => ?_) (fun b39 => ?_)
    · refine Ew_of (pc' := 109) (fun _ => x_aload_n rfl l38_0) ?_
      refine v_g H (o := 0) (v := .ref (D_38 10)) rfl rfl rfl rfl rfl (vrf (pf_38_0_9)) ?_
      have hle : (x38_4) = (y23_0_4) := by (have qg0 := HIDe r27; omega)
      have hst : su (fun j => ((w23_4)) j + ((w23_5)) j) ((x38_4) : Int).toNat = (a2) - (a1) - (y23_0_5) := by rw [hle]; exact hfd.2
      refine Ew_of (pc' := 113) (fun _ => x_aload_n rfl l38_0) ?_
      refine v_g H (o := 0) (v := .ref (D_38 1)) rfl rfl rfl rfl rfl (vrf (pf_38_0_1)) ?_
      refine v_g H (o := 1) (v := .ref (D_38 2)) rfl rfl rfl rfl rfl (vrf (pf_38_1_0)) ?_
      refine v_g H (o := 2) (v := .ref (D_38 3)) rfl rfl rfl rfl rfl (vrf (pf_38_2_0)) ?_
      refine Ew_of (pc' := 123) (fun _ => x_iload_n rfl l38_3) ?_
      refine Ew_of (pc' := 124) (fun _ => x_aload_n rfl l38_0) ?_
      refine v_g H (o := 0) (v := .ref (D_38 1)) rfl rfl rfl rfl rfl (vrf (pf_38_0_1)) ?_
      refine v_g H (o := 1) (v := I (y23_0_5)) rfl rfl rfl rfl rfl (congrArg (fun z : Int => I z) ((((hS_38 1 5 rfl).trans ((show F31 1 5 = F23 1 5 from (eF31 1 5)))).trans ((eF23 1 5).trans ey23_0_5)) : F_38 1 5 = y23_0_5)) ?_
      refine v_inv H (o := 10) rfl rfl rfl rfl rfl rfl (by rfl) (C161_Br (D := pul [10, 3, 11] D_38) (N := pul [10, 3, 11] N_38) (HW_sub H (VS_of (show vsub V139 V161_Br [10, 3, 11] = true by decide +kernel))) (pm38_11) (n3) ((congrArg (fun q : Nat => (q : Int)) (hN_38 3 rfl)).trans ((congrArg (fun q : Nat => (q : Int)) (show N23 3 = N18 3 from (eN23 3).trans (hN23 2 rfl))).trans ((congrArg (fun q : Nat => (q : Int)) (show N18 3 = N 3 from (eN18 3).trans (hN18 2 rfl))).trans (en3)))) (m38_11) (em38_11) (y38_10_1) ((ey38_10_1)) (y38_10_2) ((ey38_10_2)) (w3) ((funext (hA_38 3 rfl)).trans (((show A31 3 = A23 3 from (eA31 3))).trans (((show A23 3 = A18 3 from (eA23 3).trans (funext (hA23 2 rfl)))).trans (((show A18 3 = A 3 from (eA18 3).trans (funext (hA18 2 rfl)))).trans (ew3))))) (w38_11) (ew38_11) (show inr (x38_3) by omega) (show inr (y23_0_5) by have qh0 := HIDe r28; omega) (show 0 ≤ (y38_10_1) ∧ (y38_10_1) ≤ (m38_11) ∧ (m38_11) ≤ 65536 by have qh0 := HIDe r36; have qh1 := HIDe r37; omega) (show (y23_0_5) < 0 ∨ 0 ≤ (x38_3) ∧ (x38_3) + (y23_0_5) ≤ (n3) by have qh0 := HIDe r28; have qh1 := HIDe r9; omega) (fun σ40 D40' N40' F40' A40' c40 s40 H' O' hD40 hN40 hS40 hA40 pm40_2 m40_2 em40_2 y40_0_1 ey40_0_1 y40_0_2 ey40_0_2 w40_2 ew40_2 pz40_0 pz40_1 pz40_2 pz40_3 => ⟨rfl, ?_⟩))
      replace pm40_2 := HIDm pm40_2
      replace em40_2 := HIDm em40_2
      replace ey40_0_1 := HIDm ey40_0_1
      replace ey40_0_2 := HIDm ey40_0_2
      refine v_backM (c := c_38) (s := s_38) H (show vsub V139 V161_Br [10, 3, 11] = true by decide +kernel) H' O' hD40 (show vmov V139 [10, 3, 11] [2] = true by decide +kernel) (fun D40 N40 F40 A40 H O' eD40 eN40 eF40 eA40 => ?_)
      have O := OUT_trans O O'
      -- Row.addPart
      have pf40_0_0 : HID (F40 0 0 = (D40 9 : Int)) := ((show F40 0 0 = F_38 0 0 from (eF40 0 0))).trans ((pf_38_0_0).trans (congrArg (fun q : Nat => (q : Int)) ((show D40 9 = D_38 9 from (eD40 9))).symm))
      have pf40_0_1 : HID (F40 0 1 = (D40 1 : Int)) := ((show F40 0 1 = F_38 0 1 from (eF40 0 1))).trans ((pf_38_0_1).trans (congrArg (fun q : Nat => (q : Int)) ((show D40 1 = D_38 1 from (eD40 1))).symm))
      have pf40_0_11 : HID (F40 0 11 = (D40 12 : Int)) := ((show F40 0 11 = F_38 0 11 from (eF40 0 11))).trans ((pf_38_0_11).trans (congrArg (fun q : Nat => (q : Int)) ((show D40 12 = D_38 12 from (eD40 12))).symm))
      have pf40_0_9 : HID (F40 0 9 = (D40 10 : Int)) := ((show F40 0 9 = F_38 0 9 from (eF40 0 9))).trans ((pf_38_0_9).trans (congrArg (fun q : Nat => (q : Int)) ((show D40 10 = D_38 10 from (eD40 10).trans (hD40 0 rfl))).symm))
      have pf40_1_0 : HID (F40 1 0 = (D40 2 : Int)) := ((show F40 1 0 = F_38 1 0 from (eF40 1 0))).trans ((pf_38_1_0).trans (congrArg (fun q : Nat => (q : Int)) ((show D40 2 = D_38 2 from (eD40 2))).symm))
      have pf40_1_1 : HID (F40 1 1 = (D40 6 : Int)) := ((show F40 1 1 = F_38 1 1 from (eF40 1 1))).trans ((pf_38_1_1).trans (congrArg (fun q : Nat => (q : Int)) ((show D40 6 = D_38 6 from (eD40 6))).symm))
      have pf40_1_2 : HID (F40 1 2 = (D40 7 : Int)) := ((show F40 1 2 = F_38 1 2 from (eF40 1 2))).trans ((pf_38_1_2).trans (congrArg (fun q : Nat => (q : Int)) ((show D40 7 = D_38 7 from (eD40 7))).symm))
      have pf40_1_3 : HID (F40 1 3 = (D40 8 : Int)) := ((show F40 1 3 = F_38 1 3 from (eF40 1 3))).trans ((pf_38_1_3).trans (congrArg (fun q : Nat => (q : Int)) ((show D40 8 = D_38 8 from (eD40 8))).symm))
      have pf40_1_7 : HID (F40 1 7 = (D40 5 : Int)) := ((show F40 1 7 = F_38 1 7 from (eF40 1 7))).trans ((pf_38_1_7).trans (congrArg (fun q : Nat => (q : Int)) ((show D40 5 = D_38 5 from (eD40 5))).symm))
      have pf40_1_8 : HID (F40 1 8 = (D40 4 : Int)) := ((show F40 1 8 = F_38 1 8 from (eF40 1 8))).trans ((pf_38_1_8).trans (congrArg (fun q : Nat => (q : Int)) ((show D40 4 = D_38 4 from (eD40 4))).symm))
      have pf40_10_0 : HID (F40 10 0 = (D40 11 : Int)) := (eF40 10 0).trans (pm40_2.trans (congrArg (fun q : Nat => (q : Int)) (eD40 11).symm))
      have pf40_2_0 : HID (F40 2 0 = (D40 3 : Int)) := ((show F40 2 0 = F_38 2 0 from (eF40 2 0))).trans ((pf_38_2_0).trans (congrArg (fun q : Nat => (q : Int)) ((show D40 3 = D_38 3 from (eD40 3).trans (hD40 1 rfl))).symm))
      have r41 : HID ((0 : Int) ≤ m40_2 ∧ m40_2 ≤ 1000000) := nrng (H.nle 11 (by decide)) (show (N40 11 : Int) = m40_2 from (congrArg (fun q : Nat => (q : Int)) (eN40 11)).trans em40_2)
      have r42 : HID ((-2147483648 : Int) ≤ y40_0_1 ∧ y40_0_1 ≤ 2147483647) := krg_e (show (-2147483648 : Int) ≤ F40 10 1 ∧ F40 10 1 ≤ 2147483647 from H.krg 10 1 (by decide)) (show F40 10 1 = y40_0_1 from ((eF40 10 1).trans ey40_0_1))
      have r43 : HID ((0 : Int) ≤ y40_0_2 ∧ y40_0_2 ≤ 1) := krg_e (show (0 : Int) ≤ F40 10 2 ∧ F40 10 2 ≤ 1 from H.krg 10 2 (by decide)) (show F40 10 2 = y40_0_2 from ((eF40 10 2).trans ey40_0_2))
      have hcn33 : (y40_0_1) ≤ (a2) - (a1) := by (have qg0 := HIDe r42; omega)
      have hf33 := RAP_from (pz40_3 (by omega)) (by omega) (a := 0) (by omega) (by rw [sc_lenI (by omega)]; omega) (by omega)
      have hb33 := hf33.1
      have hs33 := hf33.2
      rw [j38_l, hle] at hs33
      have hgr : GOR (MTL ((w3)) ((a2)) ((u1_11)) ((u1_10)) ((u1_9)) ((a2) - (u1_10))) ((w3)) ((a2)) ((a1)) ((w23_4)) ((w23_5)) ((w23_6)) ((y23_0_4)) ((w40_2)) ((y40_0_1)) := GOR_of (by (have qg0 := HIDe r27; have qg1 := HIDe r3; have qg2 := HIDe r4; have qg3 := HIDe r42; have qg4 := HIDe r5; omega)) hgs (by rw [← hle]; exact j38_e) hs33
      refine Ew_of (pc' := 134) (fun _ => x_aload_n rfl l38_0) ?_
      refine Ew_stk (show ([.ref (D_38 0)] : List Value) = [.ref (D40 0)] by rw [show D40 0 = D_38 0 from ((show D40 0 = D_38 0 from (eD40 0)))]) ?_
      refine v_g H (o := 0) (v := .ref (D40 12)) rfl rfl rfl rfl rfl (vrf (pf40_0_11)) ?_
      refine Ew_of (pc' := 138) (fun _ => x_iconst rfl) ?_
      refine v_fil H (t := 12) (v := 0) rfl rfl rfl rfl rfl (show inr (0) by omega) (fun σ A44 H O' hA44 ga44 => ?_)
      have O := OUT_trans O O'
      refine Ew_of (pc' := 142) (fun _ => x_iconst rfl) ?_
      refine Ew_of (pc' := 144) (fun _ => x_istore rfl) ?_
      have hb0 : CTN (ub ((w40_2))) ((A44 12)) (0) 256 := CTN_0 ga44
      suffices hl144 : ∀ (m : Nat), ∀ (ls : rO) (σ : rS) (F_144 : hF) (A_144 : hA) (x144_4 : Int), rlook ls 0 = some (.ref (D40 0)) → rlook ls 4 = some (I (x144_4)) → HW V139 σ D40 N40 F_144 A_144 → OUT (V139).length D N σE c s D40 N40 σ (c_38 + c40) (s_38 + s40) → SF [] F40 F_144 → SA [12] A44 A_144 → ∀ w144_12 : Int → Int, A_144 12 = w144_12 → (inr (x144_4)) → ((0) ≤ (x144_4)) → ((x144_4) ≤ (0) ∨ (x144_4) ≤ ((y40_0_1))) → (CTN (ub ((w40_2))) ((w144_12)) ((x144_4)) 256) → (((y40_0_1)) - (x144_4)).toNat = m → Ew 139 (d + 4) 144 ls [] σ (c_38 + c40) (s_38 + s40) Q from
        hl144 _ _ _ _ _ (0) ((rk_o (l38_0) rfl rfl).trans (congrArg (fun q : Nat => some (Value.ref q)) (((show D40 0 = D_38 0 from (eD40 0)))).symm)) (rk_s) H O (SF_refl) (SA_refl)    (A44 12) (rfl) (show inr (0) by omega) (show (0) ≤ (0) by omega) (show (0) ≤ (0) ∨ (0) ≤ ((y40_0_1)) by have qh0 := HIDe r42; omega) (show CTN (ub ((w40_2))) ((A44 12)) ((0)) 256 by assumption) rfl
      as_aux_lemma =>
      intro m
      induction m using Nat.strongRecOn with
      | _ m ih144 =>
        intro ls σ F_144 A_144 x144_4 l144_0 l144_4 H O hS_144 hA_144    w144_12 ew144_12 j144_0 j144_1 j144_2 j144_3 hm144
        try clear pz40_1
        have hct : CTN (ub ((w40_2))) ((w144_12)) ((x144_4)) 256 := by assumption
        refine Ew_of (pc' := 146) (fun _ => x_iload rfl l144_4) ?_
        refine Ew_of (pc' := 147) (fun _ => x_aload_n rfl l144_0) ?_
        refine v_g H (o := 0) (v := .ref (D40 10)) rfl rfl rfl rfl rfl (vrf (((hS_144 0 9 rfl)).trans (pf40_0_9))) ?_
        refine v_g H (o := 10) (v := I (y40_0_1)) rfl rfl rfl rfl rfl (congrArg (fun z : Int => I z) (((hS_144 10 1 rfl).trans ((eF40 10 1).trans ey40_0_1)) : F_144 10 1 = y40_0_1)) ?_
        refine w_icmpge (t := 185) rfl rfl (show inr (x144_4) by omega) (show inr (y40_0_1) by have qh0 := HIDe r42; omega) (fun b45 => ?_) (fun b45 => ?_)
        · have hl4 : (x144_4) = (y40_0_1) := by (have qg0 := HIDe r42; omega)
          have hct2 : CTN (ub ((w40_2))) ((w144_12)) ((y40_0_1)) 256 := by rw [← hl4]; assumption
          exact w_ret rfl (k _ _ _ _ _ _ _ H O (SD_trans (SD_trans (SD_trans (SD_trans (SD_refl) (SD_glu (ι := [1, 2, 3, 4, 5]) hD18 eD18 (by decide +kernel)) (any_subA (l' := [4]) rfl)) (SD_glu (ι := [1, 2, 3, 4, 6, 7, 8]) hD23 eD23 (by decide +kernel)) (any_subA (l' := [6, 7, 8]) rfl)) hD_38 (any_subA rfl)) (SD_glu (ι := [10, 3, 11]) hD40 eD40 (by decide +kernel)) (any_subA (l' := [11]) rfl)) (SD_trans (SD_trans (SD_trans (SD_trans (SD_refl) (SD_glu (ι := [1, 2, 3, 4, 5]) hN18 eN18 (by decide +kernel)) (any_subA (l' := [4]) rfl)) (SD_glu (ι := [1, 2, 3, 4, 6, 7, 8]) hN23 eN23 (by decide +kernel)) (any_subA (l' := [6, 7, 8]) rfl)) hN_38 (any_subA rfl)) (SD_glu (ι := [10, 3, 11]) hN40 eN40 (by decide +kernel)) (any_subA (l' := [11]) rfl)) (SF_trans (SF_trans (SF_trans (SF_trans (SF_trans (SF_trans (SF_refl) (SF_glu (ι := [1, 2, 3, 4, 5]) hS18 eF18 (by decide +kernel)) (any_sub (l' := [(1, 6), (1, 8)]) rfl)) (SF_glu (ι := [1, 2, 3, 4, 6, 7, 8]) hS23 eF23 (by decide +kernel)) (any_sub (l' := [(1, 1), (1, 2), (1, 3), (1, 4), (1, 5), (1, 12), (1, 13), (1, 14), (1, 15), (1, 16), (1, 17), (1, 18)]) rfl)) (SF_glu (ι := [10]) hS31 eF31 (by decide +kernel)) (any_sub (l' := [(10, 1), (10, 2), (10, 3), (10, 4)]) rfl)) hS_38 (any_sub rfl)) (SF_glu (ι := [10, 3, 11]) hS40 eF40 (by decide +kernel)) (any_sub (l' := [(10, 0), (10, 1), (10, 2)]) rfl)) hS_144 (any_sub rfl)) (SA_trans (SA_trans (SA_trans (SA_trans (SA_trans (SA_trans (SA_trans (SA_refl) (SA_glu (ι := [1, 2, 3, 4, 5]) hA18 eA18 (by decide +kernel)) (any_subA (l' := [4, 5]) rfl)) (SA_glu (ι := [1, 2, 3, 4, 6, 7, 8]) hA23 eA23 (by decide +kernel)) (any_subA (l' := [6, 7, 8]) rfl)) (SA_glu (ι := [10]) hA31 eA31 (by decide +kernel)) (any_subA (l' := []) rfl)) hA_38 (any_subA rfl)) (SA_glu (ι := [10, 3, 11]) hA40 eA40 (by decide +kernel)) (any_subA (l' := [11]) rfl)) hA44 (any_subA rfl)) hA_144 (any_subA rfl)) (((hS_144 1 8 rfl)).trans (pf40_1_8)) (((hS_144 1 1 rfl)).trans (pf40_1_1)) (((hS_144 1 2 rfl)).trans (pf40_1_2)) (((hS_144 1 3 rfl)).trans (pf40_1_3)) (((hS_144 10 0 rfl)).trans (pf40_10_0)) (m18_3) ((congrArg (fun q : Nat => (q : Int)) (show N40 4 = N_38 4 from (eN40 4))).trans ((congrArg (fun q : Nat => (q : Int)) (hN_38 4 rfl)).trans ((congrArg (fun q : Nat => (q : Int)) (show N23 4 = N18 4 from (eN23 4).trans (hN23 3 rfl))).trans ((congrArg (fun q : Nat => (q : Int)) (eN18 4)).trans em18_3)))) (m23_4) ((congrArg (fun q : Nat => (q : Int)) (show N40 6 = N_38 6 from (eN40 6))).trans ((congrArg (fun q : Nat => (q : Int)) (hN_38 6 rfl)).trans ((congrArg (fun q : Nat => (q : Int)) (eN23 6)).trans em23_4))) (m23_5) ((congrArg (fun q : Nat => (q : Int)) (show N40 7 = N_38 7 from (eN40 7))).trans ((congrArg (fun q : Nat => (q : Int)) (hN_38 7 rfl)).trans ((congrArg (fun q : Nat => (q : Int)) (eN23 7)).trans em23_5))) (m23_6) ((congrArg (fun q : Nat => (q : Int)) (show N40 8 = N_38 8 from (eN40 8))).trans ((congrArg (fun q : Nat => (q : Int)) (hN_38 8 rfl)).trans ((congrArg (fun q : Nat => (q : Int)) (eN23 8)).trans em23_6))) (m40_2) ((congrArg (fun q : Nat => (q : Int)) (eN40 11)).trans em40_2) (y23_0_4) ((((((hS_144 1 4 rfl).trans ((show F40 1 4 = F_38 1 4 from (eF40 1 4)))).trans (hS_38 1 4 rfl)).trans ((show F31 1 4 = F23 1 4 from (eF31 1 4)))).trans ((eF23 1 4).trans ey23_0_4))) (y18_0_6) (((((((hS_144 1 6 rfl).trans ((show F40 1 6 = F_38 1 6 from (eF40 1 6)))).trans (hS_38 1 6 rfl)).trans ((show F31 1 6 = F23 1 6 from (eF31 1 6)))).trans ((show F23 1 6 = F18 1 6 from (eF23 1 6).trans (hS23 0 6 rfl)))).trans ((eF18 1 6).trans ey18_0_6))) (y40_0_1) (((hS_144 10 1 rfl).trans ((eF40 10 1).trans ey40_0_1))) (y40_0_2) (((hS_144 10 2 rfl).trans ((eF40 10 2).trans ey40_0_2))) (w18_3) ((funext (hA_144 4 rfl)).trans ((funext (hA44 4 rfl)).trans (((show A40 4 = A_38 4 from (eA40 4))).trans ((funext (hA_38 4 rfl)).trans (((show A31 4 = A23 4 from (eA31 4))).trans (((show A23 4 = A18 4 from (eA23 4).trans (funext (hA23 3 rfl)))).trans ((eA18 4).trans ew18_3))))))) (w18_4) ((funext (hA_144 5 rfl)).trans ((funext (hA44 5 rfl)).trans (((show A40 5 = A_38 5 from (eA40 5))).trans ((funext (hA_38 5 rfl)).trans (((show A31 5 = A23 5 from (eA31 5))).trans (((show A23 5 = A18 5 from (eA23 5))).trans ((eA18 5).trans ew18_4))))))) (w23_4) ((funext (hA_144 6 rfl)).trans ((funext (hA44 6 rfl)).trans (((show A40 6 = A_38 6 from (eA40 6))).trans ((funext (hA_38 6 rfl)).trans (((show A31 6 = A23 6 from (eA31 6))).trans ((eA23 6).trans ew23_4)))))) (w23_5) ((funext (hA_144 7 rfl)).trans ((funext (hA44 7 rfl)).trans (((show A40 7 = A_38 7 from (eA40 7))).trans ((funext (hA_38 7 rfl)).trans (((show A31 7 = A23 7 from (eA31 7))).trans ((eA23 7).trans ew23_5)))))) (w23_6) ((funext (hA_144 8 rfl)).trans ((funext (hA44 8 rfl)).trans (((show A40 8 = A_38 8 from (eA40 8))).trans ((funext (hA_38 8 rfl)).trans (((show A31 8 = A23 8 from (eA31 8))).trans ((eA23 8).trans ew23_6)))))) (w40_2) ((funext (hA_144 11 rfl)).trans ((funext (hA44 11 rfl)).trans ((eA40 11).trans ew40_2))) (w144_12) (ew144_12) (show 0 ≤ (y18_0_6) ∧ (u1_6) ≤ (y18_0_6) ∧ (y18_0_6) ≤ (m18_3) ∧ (m18_3) ≤ 16384 by have qh0 := HIDe r19; have qh1 := HIDe r2; have qh2 := HIDe r20; omega) (show (m23_4) = (m23_5) ∧ (m23_6) = (m23_5) ∧ (m23_5) ≤ 65536 ∧ ((m23_5) = 0 ∨ 64 ≤ (m23_5)) ∧ lgq ((m23_5)) = 0 by have qh0 := HIDe r24; have qh1 := HIDe r25; have qh2 := HIDe r26; omega) (show BKI ((w3)) ((w18_3)) ((u1_10)) ((y18_0_6)) by assumption) (show HDI ((w3)) ((w18_4)) ((u1_10)) ((y18_0_6)) by assumption) (show 0 ≤ (y23_0_4) ∧ (y23_0_4) ≤ (m23_5) ∧ (y23_0_4) ≤ a2 - a1 by have qh0 := HIDe r25; have qh1 := HIDe r27; omega) (show DSI ((w23_6)) ((y23_0_4)) by assumption) (show 0 ≤ (y40_0_1) ∧ (y40_0_1) ≤ (m40_2) ∧ (m40_2) ≤ 65536 by have qh0 := HIDe r41; have qh1 := HIDe r42; omega) (show CTN (ub ((w40_2))) ((w144_12)) ((y40_0_1)) 256 by assumption) (show (y40_0_2) = 0 ∧ (y40_0_1) ≤ a2 - a1 by have qh0 := HIDe r42; have qh1 := HIDe r43; omega) (show GOR (MTL ((w3)) (a2) ((u1_11)) ((u1_10)) ((u1_9)) (a2 - (u1_10))) ((w3)) (a2) (a1) ((w23_4)) ((w23_5)) ((w23_6)) ((y23_0_4)) ((w40_2)) ((y40_0_1)) by assumption))
        · refine Ew_of (pc' := 157) (fun _ => x_aload_n rfl l144_0) ?_
          refine v_g H (o := 0) (v := .ref (D40 12)) rfl rfl rfl rfl rfl (vrf (((hS_144 0 11 rfl)).trans (pf40_0_11))) ?_
          refine Ew_of (pc' := 161) (fun _ => x_aload_n rfl l144_0) ?_
          refine v_g H (o := 0) (v := .ref (D40 10)) rfl rfl rfl rfl rfl (vrf (((hS_144 0 9 rfl)).trans (pf40_0_9))) ?_
          refine v_g H (o := 10) (v := .ref (D40 11)) rfl rfl rfl rfl rfl (vrf (((hS_144 10 0 rfl)).trans (pf40_10_0))) ?_
          refine Ew_of (pc' := 169) (fun _ => x_iload rfl l144_4) ?_
          refine v_lB H (o := 11) rfl rfl rfl rfl (n := m40_2) ((congrArg (fun q : Nat => (q : Int)) (eN40 11)).trans em40_2) (show 0 ≤ x144_4 ∧ x144_4 < m40_2 by have qh0 := HIDe r41; omega) (fun v46 ev46 qv46 => ?_)
          replace qv46 := HIDm qv46
          have ev46 : (w40_2) (x144_4) = v46 := (congrFun ((funext (hA_144 11 rfl)).trans ((funext (hA44 11 rfl)).trans ((eA40 11).trans ew40_2))) (x144_4)).symm.trans ev46
          have hbv := ev46
          refine Ew_of (pc' := 173) (fun _ => x_sipush (z := 255) rfl (by decide)) ?_
          refine v_and255 rfl ?_
          have hub : ub ((w40_2)) ((x144_4)) = (((v46 % 256)) : Int) := by unfold ub; (have qg0 := HIDe qv46; omega)
          refine Ew_of (pc' := 175) (fun _ => x_dup2 rfl rfl rfl) ?_
          refine v_lI H (o := 12) rfl rfl rfl rfl (n := n12) ((congrArg (fun q : Nat => (q : Int)) (show N40 12 = N_38 12 from (eN40 12))).trans ((congrArg (fun q : Nat => (q : Int)) (hN_38 12 rfl)).trans ((congrArg (fun q : Nat => (q : Int)) (show N23 12 = N18 12 from (eN23 12))).trans ((congrArg (fun q : Nat => (q : Int)) (show N18 12 = N 12 from (eN18 12))).trans (en12))))) (show 0 ≤ (v46 % 256) ∧ (v46 % 256) < n12 by have qh0 := HIDe qv46; have qh1 := HIDe r17; omega) (fun v47 ev47 qv47 => ?_)
          replace qv47 := HIDm qv47
          have ev47 : (w144_12) ((v46 % 256)) = v47 := (congrFun (ew144_12) ((v46 % 256))).symm.trans ev47
          have hcv := ev47
          have hcl := CTN_le hct (s := ((v46 % 256))) (by (have qg0 := HIDe qv46; omega)) (by (have qg0 := HIDe qv46; omega)) (by (have qg0 := HIDe qv46; omega))
          rw [hcv] at hcl
          refine Ew_of (pc' := 177) (fun _ => x_iconst rfl) ?_
          refine w_iadd rfl ?_
          refine v_sI H (o := 12) (z := (v47 + 1)) rfl rfl rfl rfl (n := n12) ((congrArg (fun q : Nat => (q : Int)) (show N40 12 = N_38 12 from (eN40 12))).trans ((congrArg (fun q : Nat => (q : Int)) (hN_38 12 rfl)).trans ((congrArg (fun q : Nat => (q : Int)) (show N23 12 = N18 12 from (eN23 12))).trans ((congrArg (fun q : Nat => (q : Int)) (show N18 12 = N 12 from (eN18 12))).trans (en12))))) (show 0 ≤ (v46 % 256) ∧ (v46 % 256) < n12 by have qh0 := HIDe qv46; have qh1 := HIDe r17; omega) (show inr ((v47 + 1)) by have qh0 := HIDe qv47; omega) (fun σ H O' => ?_)
          have O := OUT_trans O O'
          refine Ew_of (pc' := 182) (fun _ => x_iinc (len := 3) rfl (l144_4)) ?_
          refine Ew_of (pc' := 144) (fun _ => x_goto rfl rfl) ?_
          have hcs : CTN (ub ((w40_2))) ((upd1 (w144_12) ((v46 % 256)) ((v47 + 1)))) (((x144_4 + 1))) 256 := CTN_s hct (by (have qg0 := HIDe qv46; have qg1 := HIDe qv47; omega)) rfl hub (by (have qg0 := HIDe qv46; have qg1 := HIDe qv47; omega))
          exact ih144 _ (by omega) _ _ _ _ ((x144_4 + 1)) (rk_o (l144_0) rfl rfl) (rk_s) H O (hS_144) (SA_upd (hA_144) rfl)    (upd1 (w144_12) ((v46 % 256)) ((v47 + 1))) (congrArg (fun q => upd1 q ((v46 % 256)) ((v47 + 1))) (ew144_12)) (show inr ((x144_4 + 1)) by omega) (show (0) ≤ ((x144_4 + 1)) by omega) (show ((x144_4 + 1)) ≤ (0) ∨ ((x144_4 + 1)) ≤ ((y40_0_1)) by have qh0 := HIDe r42; omega) (show CTN (ub ((w40_2))) ((upd1 (w144_12) ((v46 % 256)) ((v47 + 1)))) (((x144_4 + 1))) 256 by assumption) rfl
    · refine Ew_of (pc' := 51) (fun _ => x_aload_n rfl l38_0) ?_
      have hfp := FDI_part (i := (x38_4)) hfd (by omega) (by omega) (by omega)
      have hfj := hfd.1 ((x38_4)) (by omega) (by omega)
      refine v_g H (o := 0) (v := .ref (D_38 10)) rfl rfl rfl rfl rfl (vrf (pf_38_0_9)) ?_
      refine Ew_of (pc' := 55) (fun _ => x_aload_n rfl l38_0) ?_
      refine v_g H (o := 0) (v := .ref (D_38 1)) rfl rfl rfl rfl rfl (vrf (pf_38_0_1)) ?_
      refine v_g H (o := 1) (v := .ref (D_38 2)) rfl rfl rfl rfl rfl (vrf (pf_38_1_0)) ?_
      refine v_g H (o := 2) (v := .ref (D_38 3)) rfl rfl rfl rfl rfl (vrf (pf_38_2_0)) ?_
      refine Ew_of (pc' := 65) (fun _ => x_iload_n rfl l38_3) ?_
      refine Ew_of (pc' := 66) (fun _ => x_aload_n rfl l38_0) ?_
      refine v_g H (o := 0) (v := .ref (D_38 1)) rfl rfl rfl rfl rfl (vrf (pf_38_0_1)) ?_
      refine v_g H (o := 1) (v := .ref (D_38 6)) rfl rfl rfl rfl rfl (vrf (pf_38_1_1)) ?_
      refine Ew_of (pc' := 74) (fun _ => x_iload rfl l38_4) ?_
      refine v_lI H (o := 6) rfl rfl rfl rfl (n := m23_4) ((congrArg (fun q : Nat => (q : Int)) (hN_38 6 rfl)).trans ((congrArg (fun q : Nat => (q : Int)) (eN23 6)).trans em23_4)) (show 0 ≤ x38_4 ∧ x38_4 < m23_4 by have qh0 := HIDe r24; omega) (fun v48 ev48 qv48 => ?_)
      replace qv48 := HIDm qv48
      have ev48 : (w23_4) (x38_4) = v48 := (congrFun ((funext (hA_38 6 rfl)).trans (((show A31 6 = A23 6 from (eA31 6))).trans ((eA23 6).trans ew23_4))) (x38_4)).symm.trans ev48
      have hse := ev48
      obtain ⟨ql4, hql4⟩ : ∃ q : Int, q = (x38_4) := ⟨_, rfl⟩
      obtain ⟨ql3, hql3⟩ : ∃ q : Int, q = (x38_3) := ⟨_, rfl⟩
      have hen4 : ql3 = enp ((a1)) (sq ((w23_4)) ((w23_5)) ((w23_6)) (ql4)) := by rw [hql3, hql4]; exact j38_e
      have hse4 : ((w23_4)) ql4 = (v48) := by rw [hql4]; exact ev48
      refine v_inv H (o := 10) rfl rfl rfl rfl rfl rfl (by rfl) (C161_Br (D := pul [10, 3, 11] D_38) (N := pul [10, 3, 11] N_38) (HW_sub H (VS_of (show vsub V139 V161_Br [10, 3, 11] = true by decide +kernel))) (pm38_11) (n3) ((congrArg (fun q : Nat => (q : Int)) (hN_38 3 rfl)).trans ((congrArg (fun q : Nat => (q : Int)) (show N23 3 = N18 3 from (eN23 3).trans (hN23 2 rfl))).trans ((congrArg (fun q : Nat => (q : Int)) (show N18 3 = N 3 from (eN18 3).trans (hN18 2 rfl))).trans (en3)))) (m38_11) (em38_11) (y38_10_1) ((ey38_10_1)) (y38_10_2) ((ey38_10_2)) (w3) ((funext (hA_38 3 rfl)).trans (((show A31 3 = A23 3 from (eA31 3))).trans (((show A23 3 = A18 3 from (eA23 3).trans (funext (hA23 2 rfl)))).trans (((show A18 3 = A 3 from (eA18 3).trans (funext (hA18 2 rfl)))).trans (ew3))))) (w38_11) (ew38_11) (show inr (x38_3) by omega) (show inr (v48) by have qh0 := HIDe qv48; omega) (show 0 ≤ (y38_10_1) ∧ (y38_10_1) ≤ (m38_11) ∧ (m38_11) ≤ 65536 by have qh0 := HIDe r36; have qh1 := HIDe r37; omega) (show (v48) < 0 ∨ 0 ≤ (x38_3) ∧ (x38_3) + (v48) ≤ (n3) by have qh0 := HIDe qv48; have qh1 := HIDe r9; omega) (fun σ49 D49' N49' F49' A49' c49 s49 H' O' hD49 hN49 hS49 hA49 pm49_2 m49_2 em49_2 y49_0_1 ey49_0_1 y49_0_2 ey49_0_2 w49_2 ew49_2 pz49_0 pz49_1 pz49_2 pz49_3 => ⟨rfl, ?_⟩))
      replace pm49_2 := HIDm pm49_2
      replace em49_2 := HIDm em49_2
      replace ey49_0_1 := HIDm ey49_0_1
      replace ey49_0_2 := HIDm ey49_0_2
      refine v_backM (c := c_38) (s := s_38) H (show vsub V139 V161_Br [10, 3, 11] = true by decide +kernel) H' O' hD49 (show vmov V139 [10, 3, 11] [2] = true by decide +kernel) (fun D49 N49 F49 A49 H O' eD49 eN49 eF49 eA49 => ?_)
      have O := OUT_trans O O'
      -- Row.addPart
      have pf49_0_0 : HID (F49 0 0 = (D49 9 : Int)) := ((show F49 0 0 = F_38 0 0 from (eF49 0 0))).trans ((pf_38_0_0).trans (congrArg (fun q : Nat => (q : Int)) ((show D49 9 = D_38 9 from (eD49 9))).symm))
      have pf49_0_1 : HID (F49 0 1 = (D49 1 : Int)) := ((show F49 0 1 = F_38 0 1 from (eF49 0 1))).trans ((pf_38_0_1).trans (congrArg (fun q : Nat => (q : Int)) ((show D49 1 = D_38 1 from (eD49 1))).symm))
      have pf49_0_11 : HID (F49 0 11 = (D49 12 : Int)) := ((show F49 0 11 = F_38 0 11 from (eF49 0 11))).trans ((pf_38_0_11).trans (congrArg (fun q : Nat => (q : Int)) ((show D49 12 = D_38 12 from (eD49 12))).symm))
      have pf49_0_9 : HID (F49 0 9 = (D49 10 : Int)) := ((show F49 0 9 = F_38 0 9 from (eF49 0 9))).trans ((pf_38_0_9).trans (congrArg (fun q : Nat => (q : Int)) ((show D49 10 = D_38 10 from (eD49 10).trans (hD49 0 rfl))).symm))
      have pf49_1_0 : HID (F49 1 0 = (D49 2 : Int)) := ((show F49 1 0 = F_38 1 0 from (eF49 1 0))).trans ((pf_38_1_0).trans (congrArg (fun q : Nat => (q : Int)) ((show D49 2 = D_38 2 from (eD49 2))).symm))
      have pf49_1_1 : HID (F49 1 1 = (D49 6 : Int)) := ((show F49 1 1 = F_38 1 1 from (eF49 1 1))).trans ((pf_38_1_1).trans (congrArg (fun q : Nat => (q : Int)) ((show D49 6 = D_38 6 from (eD49 6))).symm))
      have pf49_1_2 : HID (F49 1 2 = (D49 7 : Int)) := ((show F49 1 2 = F_38 1 2 from (eF49 1 2))).trans ((pf_38_1_2).trans (congrArg (fun q : Nat => (q : Int)) ((show D49 7 = D_38 7 from (eD49 7))).symm))
      have pf49_1_3 : HID (F49 1 3 = (D49 8 : Int)) := ((show F49 1 3 = F_38 1 3 from (eF49 1 3))).trans ((pf_38_1_3).trans (congrArg (fun q : Nat => (q : Int)) ((show D49 8 = D_38 8 from (eD49 8))).symm))
      have pf49_1_7 : HID (F49 1 7 = (D49 5 : Int)) := ((show F49 1 7 = F_38 1 7 from (eF49 1 7))).trans ((pf_38_1_7).trans (congrArg (fun q : Nat => (q : Int)) ((show D49 5 = D_38 5 from (eD49 5))).symm))
      have pf49_1_8 : HID (F49 1 8 = (D49 4 : Int)) := ((show F49 1 8 = F_38 1 8 from (eF49 1 8))).trans ((pf_38_1_8).trans (congrArg (fun q : Nat => (q : Int)) ((show D49 4 = D_38 4 from (eD49 4))).symm))
      have pf49_10_0 : HID (F49 10 0 = (D49 11 : Int)) := (eF49 10 0).trans (pm49_2.trans (congrArg (fun q : Nat => (q : Int)) (eD49 11).symm))
      have pf49_2_0 : HID (F49 2 0 = (D49 3 : Int)) := ((show F49 2 0 = F_38 2 0 from (eF49 2 0))).trans ((pf_38_2_0).trans (congrArg (fun q : Nat => (q : Int)) ((show D49 3 = D_38 3 from (eD49 3).trans (hD49 1 rfl))).symm))
      have r50 : HID ((0 : Int) ≤ m49_2 ∧ m49_2 ≤ 1000000) := nrng (H.nle 11 (by decide)) (show (N49 11 : Int) = m49_2 from (congrArg (fun q : Nat => (q : Int)) (eN49 11)).trans em49_2)
      have r51 : HID ((-2147483648 : Int) ≤ y49_0_1 ∧ y49_0_1 ≤ 2147483647) := krg_e (show (-2147483648 : Int) ≤ F49 10 1 ∧ F49 10 1 ≤ 2147483647 from H.krg 10 1 (by decide)) (show F49 10 1 = y49_0_1 from ((eF49 10 1).trans ey49_0_1))
      have r52 : HID ((0 : Int) ≤ y49_0_2 ∧ y49_0_2 ≤ 1) := krg_e (show (0 : Int) ≤ F49 10 2 ∧ F49 10 2 ≤ 1 from H.krg 10 2 (by decide)) (show F49 10 2 = y49_0_2 from ((eF49 10 2).trans ey49_0_2))
      have hf78 := RAP_from (pz49_3 (by omega)) (by omega) (a := 0) (by omega) (by rw [sc_lenI (by omega)]; omega) (by omega)
      have hb78 := hf78.1
      have hs78 := hf78.2
      rw [j38_l] at hs78
      refine Ew_of (pc' := 79) (fun _ => x_iload_n rfl l38_3) ?_
      refine Ew_of (pc' := 80) (fun _ => x_aload_n rfl l38_0) ?_
      refine Ew_stk (show ([.ref (D_38 0), I (x38_3)] : List Value) = [.ref (D49 0), I (x38_3)] by rw [show D49 0 = D_38 0 from ((show D49 0 = D_38 0 from (eD49 0)))]) ?_
      refine v_g H (o := 0) (v := .ref (D49 1)) rfl rfl rfl rfl rfl (vrf (pf49_0_1)) ?_
      refine v_g H (o := 1) (v := .ref (D49 6)) rfl rfl rfl rfl rfl (vrf (pf49_1_1)) ?_
      refine Ew_of (pc' := 88) (fun _ => x_iload rfl l38_4) ?_
      refine v_lI H (o := 6) rfl rfl rfl rfl (n := m23_4) ((congrArg (fun q : Nat => (q : Int)) (show N49 6 = N_38 6 from (eN49 6))).trans ((congrArg (fun q : Nat => (q : Int)) (hN_38 6 rfl)).trans ((congrArg (fun q : Nat => (q : Int)) (eN23 6)).trans em23_4))) (show 0 ≤ x38_4 ∧ x38_4 < m23_4 by have qh0 := HIDe r24; omega) (fun v53 ev53 qv53 => ?_)
      replace qv53 := HIDm qv53
      have ev53 : (w23_4) (x38_4) = v53 := (congrFun (((show A49 6 = A_38 6 from (eA49 6))).trans ((funext (hA_38 6 rfl)).trans (((show A31 6 = A23 6 from (eA31 6))).trans ((eA23 6).trans ew23_4)))) (x38_4)).symm.trans ev53
      have hsf := ev53
      refine Ew_of (pc' := 90) (fun _ => x_aload_n rfl l38_0) ?_
      refine Ew_stk (show ([.ref (D_38 0), I (v53), I (x38_3)] : List Value) = [.ref (D49 0), I (v53), I (x38_3)] by rw [show D49 0 = D_38 0 from ((show D49 0 = D_38 0 from (eD49 0)))]) ?_
      refine v_g H (o := 0) (v := .ref (D49 1)) rfl rfl rfl rfl rfl (vrf (pf49_0_1)) ?_
      refine v_g H (o := 1) (v := .ref (D49 7)) rfl rfl rfl rfl rfl (vrf (pf49_1_2)) ?_
      refine Ew_of (pc' := 98) (fun _ => x_iload rfl l38_4) ?_
      refine v_lI H (o := 7) rfl rfl rfl rfl (n := m23_5) ((congrArg (fun q : Nat => (q : Int)) (show N49 7 = N_38 7 from (eN49 7))).trans ((congrArg (fun q : Nat => (q : Int)) (hN_38 7 rfl)).trans ((congrArg (fun q : Nat => (q : Int)) (eN23 7)).trans em23_5))) (show 0 ≤ x38_4 ∧ x38_4 < m23_5 by have qh0 := HIDe r25; omega) (fun v54 ev54 qv54 => ?_)
      replace qv54 := HIDm qv54
      have ev54 : (w23_5) (x38_4) = v54 := (congrFun (((show A49 7 = A_38 7 from (eA49 7))).trans ((funext (hA_38 7 rfl)).trans (((show A31 7 = A23 7 from (eA31 7))).trans ((eA23 7).trans ew23_5)))) (x38_4)).symm.trans ev54
      have hsg := ev54
      have hsg4 : ((w23_5)) ql4 = (v54) := by rw [hql4]; exact ev54
      refine w_iadd rfl ?_
      refine w_iadd rfl ?_
      refine Ew_of (pc' := 102) (fun _ => x_istore_n rfl) ?_
      refine Ew_of (pc' := 105) (fun _ => x_iinc (len := 3) rfl (rk_o (l38_4) rfl rfl)) ?_
      refine Ew_of (pc' := 38) (fun _ => x_goto rfl rfl) ?_
      have : sc ((w49_2)) 0 ((y49_0_1)) = LTS ((w3)) ((a1)) (sq ((w23_4)) ((w23_5)) ((w23_6)) (((x38_4 + 1)))) 0 := LTS_q (k := ql4) (by (have qg0 := HIDe r51; omega)) (by (have qg0 := HIDe r51; omega)) hen4 hse4 (by (have qg0 := HIDe r51; omega)) (by rw [hql4, hql3]; exact hs78)
      have : ((x38_3 + (v53 + v54))) = enp ((a1)) (sq ((w23_4)) ((w23_5)) ((w23_6)) (((x38_4 + 1)))) := enp_q (k := ql4) (by (have qg0 := HIDe qv53; have qg1 := HIDe qv54; omega)) (by (have qg0 := HIDe qv53; have qg1 := HIDe qv54; omega)) hen4 hse4 hsg4 (by (have qg0 := HIDe qv53; have qg1 := HIDe qv54; omega))
      exact ih38 _ (by omega) _ _ _ _ _ _ _ _ ((x38_3 + (v53 + v54))) ((x38_4 + 1)) ((rk_o (rk_o (l38_0) rfl rfl) rfl rfl).trans (congrArg (fun q : Nat => some (Value.ref q)) (((show D49 0 = D_38 0 from (eD49 0)))).symm)) (rk_o (rk_s) rfl rfl) (rk_s) H O (SD_trans (hD_38) (SD_glu (ι := [10, 3, 11]) hD49 eD49 (by decide +kernel)) (any_subA (l' := [11]) rfl)) (SD_trans (hN_38) (SD_glu (ι := [10, 3, 11]) hN49 eN49 (by decide +kernel)) (any_subA (l' := [11]) rfl)) (SF_trans (hS_38) (SF_glu (ι := [10, 3, 11]) hS49 eF49 (by decide +kernel)) (any_sub (l' := [(10, 0), (10, 1), (10, 2)]) rfl)) (SA_trans (hA_38) (SA_glu (ι := [10, 3, 11]) hA49 eA49 (by decide +kernel)) (any_subA (l' := [11]) rfl)) (pf49_10_0) (m49_2) ((congrArg (fun q : Nat => (q : Int)) (eN49 11)).trans em49_2) (y49_0_1) (((eF49 10 1).trans ey49_0_1)) (y49_0_2) (((eF49 10 2).trans ey49_0_2)) (w49_2) ((eA49 11).trans ew49_2) (show inr ((x38_3 + (v53 + v54))) by have qh0 := HIDe qv53; have qh1 := HIDe qv54; omega) (show inr ((x38_4 + 1)) by omega) (show (0) ≤ ((x38_4 + 1)) by omega) (show ((x38_4 + 1)) ≤ (0) ∨ ((x38_4 + 1)) ≤ ((y23_0_4)) by have qh0 := HIDe r27; omega) (show 0 ≤ (y49_0_1) ∧ (y49_0_1) ≤ (m49_2) ∧ (m49_2) ≤ 65536 by have qh0 := HIDe r50; have qh1 := HIDe r51; omega) (show ((x38_3 + (v53 + v54))) = (a1) + su (fun j => ((w23_4)) j + ((w23_5)) j) (((x38_4 + 1)) : Int).toNat by have qh0 := HIDe qv53; have qh1 := HIDe qv54; omega) (show (y49_0_2) = 0 ∧ (y49_0_1) ≤ ((x38_3 + (v53 + v54))) - (a1) by have qh0 := HIDe qv53; have qh1 := HIDe qv54; have qh2 := HIDe r51; have qh3 := HIDe r52; omega) (show sc ((w49_2)) 0 ((y49_0_1)) = LTS ((w3)) ((a1)) (sq ((w23_4)) ((w23_5)) ((w23_6)) (((x38_4 + 1)))) 0 by assumption) (show ((x38_3 + (v53 + v54))) = enp ((a1)) (sq ((w23_4)) ((w23_5)) ((w23_6)) (((x38_4 + 1)))) by assumption) rfl
