abbrev V17_vd0 : vV := [(0, 0, [(4, 0), (4, 0), (4, 0), (4, 0), (4, 0), (4, 0), (4, 0), (4, 0), (4, 0), (4, 0), (4, 0), (4, 0), (4, 0), (4, 0), (4, 0), (4, 0), (4, 0), (0, 0), (0, 0)]), (0, 7, [(4, 0), (0, 0), (1, 0), (0, 0), (0, 0)]), (0, 7, [(4, 0), (0, 0), (1, 0), (0, 0), (0, 0)]), (1, 0, []), (1, 0, []), (0, 11, [(4, 0), (4, 0), (4, 0), (4, 0), (4, 0), (0, 0), (4, 0), (0, 0), (0, 0), (0, 0), (0, 0), (0, 0), (0, 0)]), (1, 1, []), (0, 7, [(4, 0), (0, 0), (1, 0), (0, 0), (0, 0)]), (1, 0, []), (0, 5, [(4, 0), (4, 0), (4, 0), (4, 0), (0, 0), (0, 0), (0, 0), (4, 0), (4, 0), (0, 0), (0, 0), (0, 0), (0, 0), (0, 0), (0, 0), (0, 0), (0, 0), (0, 0), (0, 0)]), (0, 7, [(4, 0), (0, 0), (1, 0), (0, 0), (0, 0)]), (1, 0, []), (1, 1, []), (1, 1, []), (1, 1, []), (1, 1, []), (1, 1, []), (1, 1, [])]
/-- PackHouse.write: this, @F, this.written, this.written.bytes, @F.bytes, this.tokens, this.tokens.settings, this.tokens.past, this.tokens.past.bytes, this.tokens.finder, this.tokens.finder.data, this.tokens.finder.data.bytes, this.tokens.finder.heads, this.tokens.finder.back, this.tokens.finder.literals, this.tokens.finder.lengths, this.tokens.finder.distances, this.checkCounts -/
theorem C17_vd0 {σE : rS} {D N : Nat → Nat} {F : hF} {A : hA} {d c s : Nat} {Q : wQ} (H : HW V17_vd0 σE D N F A) {x1 : Int} (pf2 : F 0 5 = (D 2 : Int)) (pf3 : F 2 0 = (D 3 : Int)) (pf4 : F 1 0 = (D 4 : Int)) (pf5 : F 0 8 = (D 5 : Int)) (pf6 : F 5 0 = (D 6 : Int)) (pf7 : F 5 1 = (D 7 : Int)) (pf8 : F 7 0 = (D 8 : Int)) (pf9 : F 5 2 = (D 9 : Int)) (pf10 : F 9 0 = (D 10 : Int)) (pf11 : F 10 0 = (D 11 : Int)) (pf12 : F 9 7 = (D 12 : Int)) (pf13 : F 9 8 = (D 13 : Int)) (pf14 : F 9 1 = (D 14 : Int)) (pf15 : F 9 2 = (D 15 : Int)) (pf16 : F 9 3 = (D 16 : Int)) (pf17 : F 0 15 = (D 17 : Int)) (n3 : Int) (en3 : (N 3 : Int) = n3) (n4 : Int) (en4 : (N 4 : Int) = n4) (n6 : Int) (en6 : (N 6 : Int) = n6) (n8 : Int) (en8 : (N 8 : Int) = n8) (n11 : Int) (en11 : (N 11 : Int) = n11) (n12 : Int) (en12 : (N 12 : Int) = n12) (n13 : Int) (en13 : (N 13 : Int) = n13) (n14 : Int) (en14 : (N 14 : Int) = n14) (n15 : Int) (en15 : (N 15 : Int) = n15) (n16 : Int) (en16 : (N 16 : Int) = n16) (n17 : Int) (en17 : (N 17 : Int) = n17) (u1_1 : Int) (eu1_1 : F 1 1 = u1_1) (u2_1 : Int) (eu2_1 : F 2 1 = u2_1) (u7_1 : Int) (eu7_1 : F 7 1 = u7_1) (u10_1 : Int) (eu10_1 : F 10 1 = u10_1) {ls : rO} (hl0 : rlook ls 0 = some (.ref (D 0))) (hl1 : rlook ls 1 = some (I (x1))) (hl3 : rlook ls 3 = some (I (0))) (hl4 : rlook ls 4 = some (.ref (D 1))) (hl5 : rlook ls 5 = some (I (1))) (h0 : inr (x1)) (h1 : 0 ≤ (u2_1) ∧ (u2_1) ≤ (n3) ∧ (n3) ≤ 65536) (h2 : (u2_1) = 0) (h3 : 0 ≤ (u1_1) ∧ (u1_1) ≤ (n4) ∧ (n4) ≤ 65536) (h4 : (n6) = 10) (h5 : (u7_1) + (u1_1) ≤ 16384) (h6 : 0 ≤ (u7_1) ∧ (u7_1) ≤ (n8) ∧ (n8) ≤ 65536) (h7 : 0 ≤ (u10_1) ∧ (u10_1) ≤ (n11) ∧ (n11) ≤ 65536) (h8 : (n12) = 0 ∨ (n12) = 2048) (h9 : (n13) ≤ 16384) (h10 : (n14) = (n15) ∧ (n16) = (n15) ∧ (n15) ≤ 65536 ∧ ((n15) = 0 ∨ 64 ≤ (n15)) ∧ lgq ((n15)) = 0) (hc236 : ∀ (tc236_2 : Int), ∀ (tc236_3 : Int), ∀ (ls : rO) (σ : rS) (D_c236 N_c236 : Nat → Nat) (c_c236 s_c236 : Nat) (F_c236 : hF) (A_c236 : hA) , rlook ls 0 = some (.ref (D_c236 0)) → rlook ls 1 = some (I (x1)) → rlook ls 3 = some (I (0)) → rlook ls 4 = some (.ref (D_c236 1)) → HW V17_vd0 σ D_c236 N_c236 F_c236 A_c236 → OUT (V17_vd0).length D N σE c s D_c236 N_c236 σ c_c236 s_c236 → SD [3, 11, 12, 13, 14, 15, 16] D D_c236 → SD [3, 11, 12, 13, 14, 15, 16] N N_c236 → SF [(2, 0), (2, 1), (2, 2), (9, 1), (9, 2), (9, 3), (9, 4), (9, 5), (9, 6), (9, 7), (9, 8), (9, 9), (9, 10), (9, 11), (9, 12), (9, 13), (9, 14), (9, 15), (9, 16), (9, 17), (9, 18), (10, 0), (10, 1), (10, 2), (10, 3), (10, 4)] F F_c236 → SA [3, 11, 12, 13, 14, 15, 16] A A_c236 → F_c236 2 0 = (D_c236 3 : Int) → F_c236 10 0 = (D_c236 11 : Int) → F_c236 9 7 = (D_c236 12 : Int) → F_c236 9 8 = (D_c236 13 : Int) → F_c236 9 1 = (D_c236 14 : Int) → F_c236 9 2 = (D_c236 15 : Int) → F_c236 9 3 = (D_c236 16 : Int) → ∀ mc236_3 : Int, (N_c236 3 : Int) = mc236_3 → ∀ mc236_11 : Int, (N_c236 11 : Int) = mc236_11 → ∀ mc236_12 : Int, (N_c236 12 : Int) = mc236_12 → ∀ mc236_13 : Int, (N_c236 13 : Int) = mc236_13 → ∀ mc236_14 : Int, (N_c236 14 : Int) = mc236_14 → ∀ mc236_15 : Int, (N_c236 15 : Int) = mc236_15 → ∀ mc236_16 : Int, (N_c236 16 : Int) = mc236_16 → ∀ yc236_2_1 : Int, F_c236 2 1 = yc236_2_1 → ∀ yc236_10_1 : Int, F_c236 10 1 = yc236_10_1 → (inr (tc236_2)) → (inr (tc236_3)) → (0 ≤ (yc236_2_1) ∧ (yc236_2_1) ≤ (mc236_3) ∧ (mc236_3) ≤ 65536) → (0 ≤ (yc236_10_1) ∧ (yc236_10_1) ≤ (mc236_11) ∧ (mc236_11) ≤ 65536) → ((mc236_12) = 0 ∨ (mc236_12) = 2048) → ((mc236_13) ≤ 16384) → ((mc236_14) = (mc236_15) ∧ (mc236_16) = (mc236_15) ∧ (mc236_15) ≤ 65536 ∧ ((mc236_15) = 0 ∨ 64 ≤ (mc236_15)) ∧ lgq ((mc236_15)) = 0) → ((tc236_2) = 0) → ((tc236_3) = (u1_1)) → Ew 17 (d + 7) 236 ls [.ref (D_c236 17), I (tc236_3), I (tc236_2), .ref (D_c236 2), .ref (D_c236 0)] σ c_c236 s_c236 Q) (k : ∀ (z : Int) (σ : rS) (Dₚ Nₚ : Nat → Nat) (Fₚ : hF) (Aₚ : hA) (cₚ sₚ : Nat), HW V17_vd0 σ Dₚ Nₚ Fₚ Aₚ → OUT (V17_vd0).length D N σE c s Dₚ Nₚ σ cₚ sₚ → SD [3, 11, 12, 13, 14, 15, 16] D Dₚ → SD [3, 11, 12, 13, 14, 15, 16] N Nₚ → SF [(2, 0), (2, 1), (2, 2), (9, 1), (9, 2), (9, 3), (9, 4), (9, 5), (9, 6), (9, 7), (9, 8), (9, 9), (9, 10), (9, 11), (9, 12), (9, 13), (9, 14), (9, 15), (9, 16), (9, 17), (9, 18), (10, 0), (10, 1), (10, 2), (10, 3), (10, 4)] F Fₚ → SA [3, 11, 12, 13, 14, 15, 16] A Aₚ → Fₚ 2 0 = (Dₚ 3 : Int) → Fₚ 10 0 = (Dₚ 11 : Int) → Fₚ 9 7 = (Dₚ 12 : Int) → Fₚ 9 8 = (Dₚ 13 : Int) → Fₚ 9 1 = (Dₚ 14 : Int) → Fₚ 9 2 = (Dₚ 15 : Int) → Fₚ 9 3 = (Dₚ 16 : Int) → ∀ m3 : Int, (Nₚ 3 : Int) = m3 → ∀ m11 : Int, (Nₚ 11 : Int) = m11 → ∀ m12 : Int, (Nₚ 12 : Int) = m12 → ∀ m13 : Int, (Nₚ 13 : Int) = m13 → ∀ m14 : Int, (Nₚ 14 : Int) = m14 → ∀ m15 : Int, (Nₚ 15 : Int) = m15 → ∀ m16 : Int, (Nₚ 16 : Int) = m16 → ∀ y2_1 : Int, Fₚ 2 1 = y2_1 → ∀ y10_1 : Int, Fₚ 10 1 = y10_1 → (inr (z)) → (0 ≤ (y2_1) ∧ (y2_1) ≤ (m3) ∧ (m3) ≤ 65536) → (0 ≤ (y10_1) ∧ (y10_1) ≤ (m11) ∧ (m11) ≤ 65536) → ((m12) = 0 ∨ (m12) = 2048) → ((m13) ≤ 16384) → ((m14) = (m15) ∧ (m16) = (m15) ∧ (m15) ≤ 65536 ∧ ((m15) = 0 ∨ 64 ≤ (m15)) ∧ lgq ((m15)) = 0) → Q (some (I z)) σ cₚ sₚ) : Ew 17 (d + 7) 104 ls [.ref (D 5)] σE c s Q := by
  have O := OUT_refl (n := (V17_vd0).length) (D := D) (N := N) (σ := σE) (c := c) (s := s)
  have HE := H
  have r1 : HID ((-2147483648 : Int) ≤ u1_1 ∧ u1_1 ≤ 2147483647) := krg_e (show (-2147483648 : Int) ≤ F 1 1 ∧ F 1 1 ≤ 2147483647 from H.krg 1 1 (by decide)) (show F 1 1 = u1_1 from (eu1_1))
  have r2 : HID ((-2147483648 : Int) ≤ u2_1 ∧ u2_1 ≤ 2147483647) := krg_e (show (-2147483648 : Int) ≤ F 2 1 ∧ F 2 1 ≤ 2147483647 from H.krg 2 1 (by decide)) (show F 2 1 = u2_1 from (eu2_1))
  have r3 : HID ((-2147483648 : Int) ≤ u7_1 ∧ u7_1 ≤ 2147483647) := krg_e (show (-2147483648 : Int) ≤ F 7 1 ∧ F 7 1 ≤ 2147483647 from H.krg 7 1 (by decide)) (show F 7 1 = u7_1 from (eu7_1))
  have r4 : HID ((-2147483648 : Int) ≤ u10_1 ∧ u10_1 ≤ 2147483647) := krg_e (show (-2147483648 : Int) ≤ F 10 1 ∧ F 10 1 ≤ 2147483647 from H.krg 10 1 (by decide)) (show F 10 1 = u10_1 from (eu10_1))
  replace pf2 := HIDm pf2
  replace pf3 := HIDm pf3
  replace pf4 := HIDm pf4
  replace pf5 := HIDm pf5
  replace pf6 := HIDm pf6
  replace pf7 := HIDm pf7
  replace pf8 := HIDm pf8
  replace pf9 := HIDm pf9
  replace pf10 := HIDm pf10
  replace pf11 := HIDm pf11
  replace pf12 := HIDm pf12
  replace pf13 := HIDm pf13
  replace pf14 := HIDm pf14
  replace pf15 := HIDm pf15
  replace pf16 := HIDm pf16
  replace pf17 := HIDm pf17
  replace en3 := HIDm en3
  replace en4 := HIDm en4
  replace en6 := HIDm en6
  replace en8 := HIDm en8
  replace en11 := HIDm en11
  replace en12 := HIDm en12
  replace en13 := HIDm en13
  replace en14 := HIDm en14
  replace en15 := HIDm en15
  replace en16 := HIDm en16
  replace en17 := HIDm en17
  replace eu1_1 := HIDm eu1_1
  replace eu2_1 := HIDm eu2_1
  replace eu7_1 := HIDm eu7_1
  replace eu10_1 := HIDm eu10_1
  have r5 : HID ((0 : Int) ≤ n3 ∧ n3 ≤ 1000000) := nrng (H.nle 3 (by decide)) (show (N 3 : Int) = n3 from en3)
  have r6 : HID ((0 : Int) ≤ n4 ∧ n4 ≤ 1000000) := nrng (H.nle 4 (by decide)) (show (N 4 : Int) = n4 from en4)
  have r7 : HID ((0 : Int) ≤ n6 ∧ n6 ≤ 1000000) := nrng (H.nle 6 (by decide)) (show (N 6 : Int) = n6 from en6)
  have r8 : HID ((0 : Int) ≤ n8 ∧ n8 ≤ 1000000) := nrng (H.nle 8 (by decide)) (show (N 8 : Int) = n8 from en8)
  have r9 : HID ((0 : Int) ≤ n11 ∧ n11 ≤ 1000000) := nrng (H.nle 11 (by decide)) (show (N 11 : Int) = n11 from en11)
  have r10 : HID ((0 : Int) ≤ n12 ∧ n12 ≤ 1000000) := nrng (H.nle 12 (by decide)) (show (N 12 : Int) = n12 from en12)
  have r11 : HID ((0 : Int) ≤ n13 ∧ n13 ≤ 1000000) := nrng (H.nle 13 (by decide)) (show (N 13 : Int) = n13 from en13)
  have r12 : HID ((0 : Int) ≤ n14 ∧ n14 ≤ 1000000) := nrng (H.nle 14 (by decide)) (show (N 14 : Int) = n14 from en14)
  have r13 : HID ((0 : Int) ≤ n15 ∧ n15 ≤ 1000000) := nrng (H.nle 15 (by decide)) (show (N 15 : Int) = n15 from en15)
  have r14 : HID ((0 : Int) ≤ n16 ∧ n16 ≤ 1000000) := nrng (H.nle 16 (by decide)) (show (N 16 : Int) = n16 from en16)
  refine Ew_of (pcₚ := 105) (fun _ => x_aload_n rfl hl0) ?_
  refine v_g H (o := 0) (v := .ref (D 2)) rfl rfl rfl rfl rfl (vrf (pf2)) ?_
  refine Ew_of (pcₚ := 110) (fun _ => x_aload rfl hl4) ?_
  refine v_inv H (o := 5) rfl rfl rfl rfl rfl rfl (by rfl) (C214_Row_Row (D := pul [5, 2, 1, 3, 4, 7, 8, 9, 10, 11, 6, 12, 13, 14, 15, 16] D) (N := pul [5, 2, 1, 3, 4, 7, 8, 9, 10, 11, 6, 12, 13, 14, 15, 16] N) (HW_sub H (VS_of (show vsub V17_vd0 V214_Row_Row [5, 2, 1, 3, 4, 7, 8, 9, 10, 11, 6, 12, 13, 14, 15, 16] = true by decide +kernel))) (pf3) (pf4) (pf7) (pf8) (pf9) (pf10) (pf11) (pf6) (pf12) (pf13) (pf14) (pf15) (pf16) (n3) (en3) (n4) (en4) (n8) (en8) (n11) (en11) (n6) (en6) (n12) (en12) (n13) (en13) (n14) (en14) (n15) (en15) (n16) (en16) (u2_1) ((eu2_1)) (u1_1) ((eu1_1)) (u7_1) ((eu7_1)) (u10_1) ((eu10_1)) (show 0 ≤ (u2_1) ∧ (u2_1) ≤ (n3) ∧ (n3) ≤ 65536 by have qh0 := HIDe r2; have qh1 := HIDe r5; omega) (show 0 ≤ (u1_1) ∧ (u1_1) ≤ (n4) ∧ (n4) ≤ 65536 by have qh0 := HIDe r1; have qh1 := HIDe r6; omega) (show 0 ≤ (u7_1) ∧ (u7_1) ≤ (n8) ∧ (n8) ≤ 65536 by have qh0 := HIDe r3; have qh1 := HIDe r8; omega) (show 0 ≤ (u10_1) ∧ (u10_1) ≤ (n11) ∧ (n11) ≤ 65536 by have qh0 := HIDe r4; have qh1 := HIDe r9; omega) (show (n6) = 10 by have qh0 := HIDe r7; omega) (show (u7_1) + (u1_1) ≤ 16384 by have qh0 := HIDe r1; have qh1 := HIDe r3; omega) (show (n12) = 0 ∨ (n12) = 2048 by have qh0 := HIDe r10; omega) (show (n13) ≤ 16384 by have qh0 := HIDe r11; omega) (show (n14) = (n15) ∧ (n16) = (n15) ∧ (n15) ≤ 65536 ∧ ((n15) = 0 ∨ 64 ≤ (n15)) ∧ lgq ((n15)) = 0 by have qh0 := HIDe r12; have qh1 := HIDe r13; have qh2 := HIDe r14; omega) (fun σ15 D15ₚ N15ₚ F15ₚ A15ₚ c15 s15 Hₚ Oₚ hD15 hN15 hS15 hA15 pm15_3 pm15_9 pm15_11 pm15_12 pm15_13 pm15_14 pm15_15 m15_3 em15_3 m15_9 em15_9 m15_11 em15_11 m15_12 em15_12 m15_13 em15_13 m15_14 em15_14 m15_15 em15_15 y15_1_1 ey15_1_1 y15_8_1 ey15_8_1 pz15_0 pz15_1 pz15_2 pz15_3 pz15_4 => ⟨rfl, ?_⟩))
  replace pm15_3 := HIDm pm15_3
  replace pm15_9 := HIDm pm15_9
  replace pm15_11 := HIDm pm15_11
  replace pm15_12 := HIDm pm15_12
  replace pm15_13 := HIDm pm15_13
  replace pm15_14 := HIDm pm15_14
  replace pm15_15 := HIDm pm15_15
  replace em15_3 := HIDm em15_3
  replace em15_9 := HIDm em15_9
  replace em15_11 := HIDm em15_11
  replace em15_12 := HIDm em15_12
  replace em15_13 := HIDm em15_13
  replace em15_14 := HIDm em15_14
  replace em15_15 := HIDm em15_15
  replace ey15_1_1 := HIDm ey15_1_1
  replace ey15_8_1 := HIDm ey15_8_1
  refine v_backM (c := c) (s := s) H (show vsub V17_vd0 V214_Row_Row [5, 2, 1, 3, 4, 7, 8, 9, 10, 11, 6, 12, 13, 14, 15, 16] = true by decide +kernel) Hₚ Oₚ hD15 (show vmov V17_vd0 [5, 2, 1, 3, 4, 7, 8, 9, 10, 11, 6, 12, 13, 14, 15, 16] [3, 9, 11, 12, 13, 14, 15] = true by decide +kernel) (fun D15 N15 F15 A15 H Oₚ eD15 eN15 eF15 eA15 => ?_)
  have O := OUT_trans O Oₚ
  -- Tokens.packAlone
  have pf15_0_15 : HID (F15 0 15 = (D15 17 : Int)) := ((show F15 0 15 = F 0 15 from (eF15 0 15))).trans ((pf17).trans (congrArg (fun q : Nat => (q : Int)) ((show D15 17 = D 17 from (eD15 17))).symm))
  have pf15_0_5 : HID (F15 0 5 = (D15 2 : Int)) := ((show F15 0 5 = F 0 5 from (eF15 0 5))).trans ((pf2).trans (congrArg (fun q : Nat => (q : Int)) ((show D15 2 = D 2 from (eD15 2).trans (hD15 1 rfl))).symm))
  have pf15_0_8 : HID (F15 0 8 = (D15 5 : Int)) := ((show F15 0 8 = F 0 8 from (eF15 0 8))).trans ((pf5).trans (congrArg (fun q : Nat => (q : Int)) ((show D15 5 = D 5 from (eD15 5).trans (hD15 0 rfl))).symm))
  have pf15_1_0 : HID (F15 1 0 = (D15 4 : Int)) := ((show F15 1 0 = F 1 0 from (eF15 1 0).trans (hS15 2 0 rfl))).trans ((pf4).trans (congrArg (fun q : Nat => (q : Int)) ((show D15 4 = D 4 from (eD15 4).trans (hD15 4 rfl))).symm))
  have pf15_10_0 : HID (F15 10 0 = (D15 11 : Int)) := (eF15 10 0).trans (pm15_9.trans (congrArg (fun q : Nat => (q : Int)) (eD15 11).symm))
  have pf15_2_0 : HID (F15 2 0 = (D15 3 : Int)) := (eF15 2 0).trans (pm15_3.trans (congrArg (fun q : Nat => (q : Int)) (eD15 3).symm))
  have pf15_5_0 : HID (F15 5 0 = (D15 6 : Int)) := ((show F15 5 0 = F 5 0 from (eF15 5 0).trans (hS15 0 0 rfl))).trans ((pf6).trans (congrArg (fun q : Nat => (q : Int)) ((show D15 6 = D 6 from (eD15 6).trans (hD15 10 rfl))).symm))
  have pf15_5_1 : HID (F15 5 1 = (D15 7 : Int)) := ((show F15 5 1 = F 5 1 from (eF15 5 1).trans (hS15 0 1 rfl))).trans ((pf7).trans (congrArg (fun q : Nat => (q : Int)) ((show D15 7 = D 7 from (eD15 7).trans (hD15 5 rfl))).symm))
  have pf15_5_2 : HID (F15 5 2 = (D15 9 : Int)) := ((show F15 5 2 = F 5 2 from (eF15 5 2).trans (hS15 0 2 rfl))).trans ((pf9).trans (congrArg (fun q : Nat => (q : Int)) ((show D15 9 = D 9 from (eD15 9).trans (hD15 7 rfl))).symm))
  have pf15_7_0 : HID (F15 7 0 = (D15 8 : Int)) := ((show F15 7 0 = F 7 0 from (eF15 7 0).trans (hS15 5 0 rfl))).trans ((pf8).trans (congrArg (fun q : Nat => (q : Int)) ((show D15 8 = D 8 from (eD15 8).trans (hD15 6 rfl))).symm))
  have pf15_9_0 : HID (F15 9 0 = (D15 10 : Int)) := ((show F15 9 0 = F 9 0 from (eF15 9 0).trans (hS15 7 0 rfl))).trans ((pf10).trans (congrArg (fun q : Nat => (q : Int)) ((show D15 10 = D 10 from (eD15 10).trans (hD15 8 rfl))).symm))
  have pf15_9_1 : HID (F15 9 1 = (D15 14 : Int)) := (eF15 9 1).trans (pm15_13.trans (congrArg (fun q : Nat => (q : Int)) (eD15 14).symm))
  have pf15_9_2 : HID (F15 9 2 = (D15 15 : Int)) := (eF15 9 2).trans (pm15_14.trans (congrArg (fun q : Nat => (q : Int)) (eD15 15).symm))
  have pf15_9_3 : HID (F15 9 3 = (D15 16 : Int)) := (eF15 9 3).trans (pm15_15.trans (congrArg (fun q : Nat => (q : Int)) (eD15 16).symm))
  have pf15_9_7 : HID (F15 9 7 = (D15 12 : Int)) := (eF15 9 7).trans (pm15_11.trans (congrArg (fun q : Nat => (q : Int)) (eD15 12).symm))
  have pf15_9_8 : HID (F15 9 8 = (D15 13 : Int)) := (eF15 9 8).trans (pm15_12.trans (congrArg (fun q : Nat => (q : Int)) (eD15 13).symm))
  have r16 : HID ((0 : Int) ≤ m15_3 ∧ m15_3 ≤ 1000000) := nrng (H.nle 3 (by decide)) (show (N15 3 : Int) = m15_3 from (congrArg (fun q : Nat => (q : Int)) (eN15 3)).trans em15_3)
  have r17 : HID ((0 : Int) ≤ m15_9 ∧ m15_9 ≤ 1000000) := nrng (H.nle 11 (by decide)) (show (N15 11 : Int) = m15_9 from (congrArg (fun q : Nat => (q : Int)) (eN15 11)).trans em15_9)
  have r18 : HID ((0 : Int) ≤ m15_11 ∧ m15_11 ≤ 1000000) := nrng (H.nle 12 (by decide)) (show (N15 12 : Int) = m15_11 from (congrArg (fun q : Nat => (q : Int)) (eN15 12)).trans em15_11)
  have r19 : HID ((0 : Int) ≤ m15_12 ∧ m15_12 ≤ 1000000) := nrng (H.nle 13 (by decide)) (show (N15 13 : Int) = m15_12 from (congrArg (fun q : Nat => (q : Int)) (eN15 13)).trans em15_12)
  have r20 : HID ((0 : Int) ≤ m15_13 ∧ m15_13 ≤ 1000000) := nrng (H.nle 14 (by decide)) (show (N15 14 : Int) = m15_13 from (congrArg (fun q : Nat => (q : Int)) (eN15 14)).trans em15_13)
  have r21 : HID ((0 : Int) ≤ m15_14 ∧ m15_14 ≤ 1000000) := nrng (H.nle 15 (by decide)) (show (N15 15 : Int) = m15_14 from (congrArg (fun q : Nat => (q : Int)) (eN15 15)).trans em15_14)
  have r22 : HID ((0 : Int) ≤ m15_15 ∧ m15_15 ≤ 1000000) := nrng (H.nle 16 (by decide)) (show (N15 16 : Int) = m15_15 from (congrArg (fun q : Nat => (q : Int)) (eN15 16)).trans em15_15)
  have r23 : HID ((-2147483648 : Int) ≤ y15_1_1 ∧ y15_1_1 ≤ 2147483647) := krg_e (show (-2147483648 : Int) ≤ F15 2 1 ∧ F15 2 1 ≤ 2147483647 from H.krg 2 1 (by decide)) (show F15 2 1 = y15_1_1 from ((eF15 2 1).trans ey15_1_1))
  have r24 : HID ((-2147483648 : Int) ≤ y15_8_1 ∧ y15_8_1 ≤ 2147483647) := krg_e (show (-2147483648 : Int) ≤ F15 10 1 ∧ F15 10 1 ≤ 2147483647 from H.krg 10 1 (by decide)) (show F15 10 1 = y15_8_1 from ((eF15 10 1).trans ey15_8_1))
  refine Ew_of (pcₚ := 199) (fun _ => x_goto rfl rfl) ?_
  refine Ew_of (pcₚ := 201) (fun _ => x_iload rfl hl5) ?_
  refine w_ifeq (t := 214) rfl rfl (show inr (1) by omega) (fun b25 => ?_) (fun b25 => ?_)
  · exact absurd b25 (by omega)
  · refine Ew_of (pcₚ := 205) (fun _ => x_aload_n rfl hl0) ?_
    refine Ew_stk (show ([.ref (D 0)] : List Value) = [.ref (D15 0)] by rw [show D15 0 = D 0 from ((show D15 0 = D 0 from (eD15 0)))]) ?_
    refine v_g H (o := 0) (v := .ref (D15 2)) rfl rfl rfl rfl rfl (vrf (pf15_0_5)) ?_
    have r26 : HID ((0 : Int) ≤ F15 2 2 ∧ F15 2 2 ≤ 1) := krg_e (show (0 : Int) ≤ F15 2 2 ∧ F15 2 2 ≤ 1 from H.krg 2 2 (by decide)) (show F15 2 2 = F15 2 2 from rfl)
    refine v_g H (o := 2) (v := I (F15 2 2)) rfl rfl rfl rfl rfl (congrArg (fun z : Int => I z) (rfl : F15 2 2 = F15 2 2)) ?_
    refine w_ifeq (t := 216) rfl rfl (show inr (F15 2 2) by have qh0 := HIDe r26; omega) (fun b27 => ?_) (fun b27 => ?_)
    · refine Ew_of (pcₚ := 217) (fun _ => x_iload_n rfl hl3) ?_
      refine Ew_of (pcₚ := 218) (fun _ => x_iconst rfl) ?_
      refine w_icmpeq (t := 277) rfl rfl (show inr (0) by omega) (show inr (5) by omega) (fun b28 => ?_) (fun b28 => ?_)
      · exact absurd b28 (by omega)
      · refine Ew_of (pcₚ := 222) (fun _ => x_aload_n rfl hl0) ?_
        refine Ew_of (pcₚ := 223) (fun _ => x_aload_n rfl hl0) ?_
        refine Ew_stk (show ([.ref (D 0), .ref (D 0)] : List Value) = [.ref (D15 0), .ref (D15 0)] by rw [show D15 0 = D 0 from ((show D15 0 = D 0 from (eD15 0)))]) ?_
        refine v_g H (o := 0) (v := .ref (D15 2)) rfl rfl rfl rfl rfl (vrf (pf15_0_5)) ?_
        refine Ew_of (pcₚ := 227) (fun _ => x_iload_n rfl hl3) ?_
        refine Ew_of (pcₚ := 229) (fun _ => x_aload rfl hl4) ?_
        refine Ew_stk (show ([.ref (D 1), I (0), .ref (D15 2), .ref (D15 0)] : List Value) = [.ref (D15 1), I (0), .ref (D15 2), .ref (D15 0)] by rw [show D15 1 = D 1 from ((show D15 1 = D 1 from (eD15 1).trans (hD15 2 rfl)))]) ?_
        refine v_g H (o := 1) (v := I (u1_1)) rfl rfl rfl rfl rfl (congrArg (fun z : Int => I z) ((((show F15 1 1 = F 1 1 from (eF15 1 1).trans (hS15 2 1 rfl))).trans (eu1_1)) : F15 1 1 = u1_1)) ?_
        refine Ew_of (pcₚ := 233) (fun _ => x_aload_n rfl hl0) ?_
        refine Ew_stk (show ([.ref (D 0), I (u1_1), I (0), .ref (D15 2), .ref (D15 0)] : List Value) = [.ref (D15 0), I (u1_1), I (0), .ref (D15 2), .ref (D15 0)] by rw [show D15 0 = D 0 from ((show D15 0 = D 0 from (eD15 0)))]) ?_
        refine v_g H (o := 0) (v := .ref (D15 17)) rfl rfl rfl rfl rfl (vrf (pf15_0_15)) ?_
        exact hc236 (0) (u1_1) _ _ _ _ _ _ _ _  ((hl0).trans (congrArg (fun q : Nat => some (Value.ref q)) (((show D15 0 = D 0 from (eD15 0)))).symm)) (hl1) (hl3) ((hl4).trans (congrArg (fun q : Nat => some (Value.ref q)) (((show D15 1 = D 1 from (eD15 1).trans (hD15 2 rfl)))).symm)) H O (SD_trans (SD_refl) (SD_glu (ι := [5, 2, 1, 3, 4, 7, 8, 9, 10, 11, 6, 12, 13, 14, 15, 16]) hD15 eD15 (by decide +kernel)) (any_subA (lₚ := [3, 11, 12, 13, 14, 15, 16]) rfl)) (SD_trans (SD_refl) (SD_glu (ι := [5, 2, 1, 3, 4, 7, 8, 9, 10, 11, 6, 12, 13, 14, 15, 16]) hN15 eN15 (by decide +kernel)) (any_subA (lₚ := [3, 11, 12, 13, 14, 15, 16]) rfl)) (SF_trans (SF_refl) (SF_glu (ι := [5, 2, 1, 3, 4, 7, 8, 9, 10, 11, 6, 12, 13, 14, 15, 16]) hS15 eF15 (by decide +kernel)) (any_sub (lₚ := [(2, 0), (2, 1), (2, 2), (9, 1), (9, 2), (9, 3), (9, 4), (9, 5), (9, 6), (9, 7), (9, 8), (9, 9), (9, 10), (9, 11), (9, 12), (9, 13), (9, 14), (9, 15), (9, 16), (9, 17), (9, 18), (10, 0), (10, 1), (10, 2), (10, 3), (10, 4)]) rfl)) (SA_trans (SA_refl) (SA_glu (ι := [5, 2, 1, 3, 4, 7, 8, 9, 10, 11, 6, 12, 13, 14, 15, 16]) hA15 eA15 (by decide +kernel)) (any_subA (lₚ := [3, 11, 12, 13, 14, 15, 16]) rfl)) (pf15_2_0) (pf15_10_0) (pf15_9_7) (pf15_9_8) (pf15_9_1) (pf15_9_2) (pf15_9_3) (m15_3) ((congrArg (fun q : Nat => (q : Int)) (eN15 3)).trans em15_3) (m15_9) ((congrArg (fun q : Nat => (q : Int)) (eN15 11)).trans em15_9) (m15_11) ((congrArg (fun q : Nat => (q : Int)) (eN15 12)).trans em15_11) (m15_12) ((congrArg (fun q : Nat => (q : Int)) (eN15 13)).trans em15_12) (m15_13) ((congrArg (fun q : Nat => (q : Int)) (eN15 14)).trans em15_13) (m15_14) ((congrArg (fun q : Nat => (q : Int)) (eN15 15)).trans em15_14) (m15_15) ((congrArg (fun q : Nat => (q : Int)) (eN15 16)).trans em15_15) (y15_1_1) (((eF15 2 1).trans ey15_1_1)) (y15_8_1) (((eF15 10 1).trans ey15_8_1))  (show inr (0) by omega) (show inr (u1_1) by have qh0 := HIDe r1; omega) (show 0 ≤ (y15_1_1) ∧ (y15_1_1) ≤ (m15_3) ∧ (m15_3) ≤ 65536 by have qh0 := HIDe r16; have qh1 := HIDe r23; omega) (show 0 ≤ (y15_8_1) ∧ (y15_8_1) ≤ (m15_9) ∧ (m15_9) ≤ 65536 by have qh0 := HIDe r17; have qh1 := HIDe r24; omega) (show (m15_11) = 0 ∨ (m15_11) = 2048 by have qh0 := HIDe r18; omega) (show (m15_12) ≤ 16384 by have qh0 := HIDe r19; omega) (show (m15_13) = (m15_14) ∧ (m15_15) = (m15_14) ∧ (m15_14) ≤ 65536 ∧ ((m15_14) = 0 ∨ 64 ≤ (m15_14)) ∧ lgq ((m15_14)) = 0 by have qh0 := HIDe r20; have qh1 := HIDe r21; have qh2 := HIDe r22; omega) (show (0) = 0 by omega) (show (u1_1) = (u1_1) by have qh0 := HIDe r1; omega)
    · refine Ew_of (pcₚ := 215) (fun _ => x_iconst rfl) ?_
      exact w_ireturn rfl (k ((-1)) _ _ _ _ _ _ _ H O (SD_trans (SD_refl) (SD_glu (ι := [5, 2, 1, 3, 4, 7, 8, 9, 10, 11, 6, 12, 13, 14, 15, 16]) hD15 eD15 (by decide +kernel)) (any_subA (lₚ := [3, 11, 12, 13, 14, 15, 16]) rfl)) (SD_trans (SD_refl) (SD_glu (ι := [5, 2, 1, 3, 4, 7, 8, 9, 10, 11, 6, 12, 13, 14, 15, 16]) hN15 eN15 (by decide +kernel)) (any_subA (lₚ := [3, 11, 12, 13, 14, 15, 16]) rfl)) (SF_trans (SF_refl) (SF_glu (ι := [5, 2, 1, 3, 4, 7, 8, 9, 10, 11, 6, 12, 13, 14, 15, 16]) hS15 eF15 (by decide +kernel)) (any_sub (lₚ := [(2, 0), (2, 1), (2, 2), (9, 1), (9, 2), (9, 3), (9, 4), (9, 5), (9, 6), (9, 7), (9, 8), (9, 9), (9, 10), (9, 11), (9, 12), (9, 13), (9, 14), (9, 15), (9, 16), (9, 17), (9, 18), (10, 0), (10, 1), (10, 2), (10, 3), (10, 4)]) rfl)) (SA_trans (SA_refl) (SA_glu (ι := [5, 2, 1, 3, 4, 7, 8, 9, 10, 11, 6, 12, 13, 14, 15, 16]) hA15 eA15 (by decide +kernel)) (any_subA (lₚ := [3, 11, 12, 13, 14, 15, 16]) rfl)) (pf15_2_0) (pf15_10_0) (pf15_9_7) (pf15_9_8) (pf15_9_1) (pf15_9_2) (pf15_9_3) (m15_3) ((congrArg (fun q : Nat => (q : Int)) (eN15 3)).trans em15_3) (m15_9) ((congrArg (fun q : Nat => (q : Int)) (eN15 11)).trans em15_9) (m15_11) ((congrArg (fun q : Nat => (q : Int)) (eN15 12)).trans em15_11) (m15_12) ((congrArg (fun q : Nat => (q : Int)) (eN15 13)).trans em15_12) (m15_13) ((congrArg (fun q : Nat => (q : Int)) (eN15 14)).trans em15_13) (m15_14) ((congrArg (fun q : Nat => (q : Int)) (eN15 15)).trans em15_14) (m15_15) ((congrArg (fun q : Nat => (q : Int)) (eN15 16)).trans em15_15) (y15_1_1) (((eF15 2 1).trans ey15_1_1)) (y15_8_1) (((eF15 10 1).trans ey15_8_1)) (show inr ((-1)) by omega) (show 0 ≤ (y15_1_1) ∧ (y15_1_1) ≤ (m15_3) ∧ (m15_3) ≤ 65536 by have qh0 := HIDe r16; have qh1 := HIDe r23; omega) (show 0 ≤ (y15_8_1) ∧ (y15_8_1) ≤ (m15_9) ∧ (m15_9) ≤ 65536 by have qh0 := HIDe r17; have qh1 := HIDe r24; omega) (show (m15_11) = 0 ∨ (m15_11) = 2048 by have qh0 := HIDe r18; omega) (show (m15_12) ≤ 16384 by have qh0 := HIDe r19; omega) (show (m15_13) = (m15_14) ∧ (m15_15) = (m15_14) ∧ (m15_14) ≤ 65536 ∧ ((m15_14) = 0 ∨ 64 ≤ (m15_14)) ∧ lgq ((m15_14)) = 0 by have qh0 := HIDe r20; have qh1 := HIDe r21; have qh2 := HIDe r22; omega))
abbrev V17_vd1 : vV := [(0, 0, [(4, 0), (4, 0), (4, 0), (4, 0), (4, 0), (4, 0), (4, 0), (4, 0), (4, 0), (4, 0), (4, 0), (4, 0), (4, 0), (4, 0), (4, 0), (4, 0), (4, 0), (0, 0), (0, 0)]), (0, 7, [(4, 0), (0, 0), (1, 0), (0, 0), (0, 0)]), (0, 7, [(4, 0), (0, 0), (1, 0), (0, 0), (0, 0)]), (1, 0, []), (1, 0, []), (0, 11, [(4, 0), (4, 0), (4, 0), (4, 0), (4, 0), (0, 0), (4, 0), (0, 0), (0, 0), (0, 0), (0, 0), (0, 0), (0, 0)]), (1, 1, []), (0, 7, [(4, 0), (0, 0), (1, 0), (0, 0), (0, 0)]), (1, 0, []), (0, 5, [(4, 0), (4, 0), (4, 0), (4, 0), (0, 0), (0, 0), (0, 0), (4, 0), (4, 0), (0, 0), (0, 0), (0, 0), (0, 0), (0, 0), (0, 0), (0, 0), (0, 0), (0, 0), (0, 0)]), (0, 7, [(4, 0), (0, 0), (1, 0), (0, 0), (0, 0)]), (1, 0, []), (0, 7, [(4, 0), (0, 0), (1, 0), (0, 0), (0, 0)]), (1, 0, []), (1, 1, []), (1, 1, []), (1, 1, []), (1, 1, []), (1, 1, []), (1, 1, [])]
/-- PackHouse.write: this, @F, this.written, this.written.bytes, @F.bytes, this.tokens, this.tokens.settings, this.tokens.past, this.tokens.past.bytes, this.tokens.finder, this.tokens.finder.data, this.tokens.finder.data.bytes, this.tokens.packed, this.tokens.packed.bytes, this.tokens.finder.heads, this.tokens.finder.back, this.tokens.finder.literals, this.tokens.finder.lengths, this.tokens.finder.distances, this.checkCounts -/
theorem C17_vd1 {σE : rS} {D N : Nat → Nat} {F : hF} {A : hA} {d c s : Nat} {Q : wQ} (H : HW V17_vd1 σE D N F A) {x1 : Int} (pf2 : F 0 5 = (D 2 : Int)) (pf3 : F 2 0 = (D 3 : Int)) (pf4 : F 1 0 = (D 4 : Int)) (pf5 : F 0 8 = (D 5 : Int)) (pf6 : F 5 0 = (D 6 : Int)) (pf7 : F 5 1 = (D 7 : Int)) (pf8 : F 7 0 = (D 8 : Int)) (pf9 : F 5 2 = (D 9 : Int)) (pf10 : F 9 0 = (D 10 : Int)) (pf11 : F 10 0 = (D 11 : Int)) (pf12 : F 5 3 = (D 12 : Int)) (pf13 : F 12 0 = (D 13 : Int)) (pf14 : F 9 7 = (D 14 : Int)) (pf15 : F 9 8 = (D 15 : Int)) (pf16 : F 9 1 = (D 16 : Int)) (pf17 : F 9 2 = (D 17 : Int)) (pf18 : F 9 3 = (D 18 : Int)) (pf19 : F 0 15 = (D 19 : Int)) (n3 : Int) (en3 : (N 3 : Int) = n3) (n4 : Int) (en4 : (N 4 : Int) = n4) (n6 : Int) (en6 : (N 6 : Int) = n6) (n8 : Int) (en8 : (N 8 : Int) = n8) (n11 : Int) (en11 : (N 11 : Int) = n11) (n13 : Int) (en13 : (N 13 : Int) = n13) (n14 : Int) (en14 : (N 14 : Int) = n14) (n15 : Int) (en15 : (N 15 : Int) = n15) (n16 : Int) (en16 : (N 16 : Int) = n16) (n17 : Int) (en17 : (N 17 : Int) = n17) (n18 : Int) (en18 : (N 18 : Int) = n18) (n19 : Int) (en19 : (N 19 : Int) = n19) (u1_1 : Int) (eu1_1 : F 1 1 = u1_1) (u2_1 : Int) (eu2_1 : F 2 1 = u2_1) (u7_1 : Int) (eu7_1 : F 7 1 = u7_1) (u10_1 : Int) (eu10_1 : F 10 1 = u10_1) (u12_1 : Int) (eu12_1 : F 12 1 = u12_1) (w6 : Int → Int) (ew6 : A 6 = w6) {ls : rO} (hl0 : rlook ls 0 = some (.ref (D 0))) (hl1 : rlook ls 1 = some (I (x1))) (hl3 : rlook ls 3 = some (I (1))) (hl4 : rlook ls 4 = some (.ref (D 1))) (hl5 : rlook ls 5 = some (I (1))) (h0 : inr (x1)) (h1 : 0 ≤ (u2_1) ∧ (u2_1) ≤ (n3) ∧ (n3) ≤ 65536) (h2 : (u2_1) = 0) (h3 : 0 ≤ (u1_1) ∧ (u1_1) ≤ (n4) ∧ (n4) ≤ 65536) (h4 : (n6) = 10) (h5 : (u7_1) + (u1_1) ≤ 16384) (h6 : 0 ≤ (u7_1) ∧ (u7_1) ≤ (n8) ∧ (n8) ≤ 65536) (h7 : 0 ≤ (u10_1) ∧ (u10_1) ≤ (n11) ∧ (n11) ≤ 65536) (h8 : 0 ≤ (u12_1) ∧ (u12_1) ≤ (n13) ∧ (n13) ≤ 65536) (h9 : (n14) = 0 ∨ (n14) = 2048) (h10 : (n15) ≤ 16384) (h11 : (n16) = (n17) ∧ (n18) = (n17) ∧ (n17) ≤ 65536 ∧ ((n17) = 0 ∨ 64 ≤ (n17)) ∧ lgq ((n17)) = 0) (h12 : 1 ≤ ((w6)) 2 ∧ ((w6)) 2 ≤ 65536) (hc236 : ∀ (tc236_2 : Int), ∀ (tc236_3 : Int), ∀ (ls : rO) (σ : rS) (D_c236 N_c236 : Nat → Nat) (c_c236 s_c236 : Nat) (F_c236 : hF) (A_c236 : hA) , rlook ls 0 = some (.ref (D_c236 0)) → rlook ls 1 = some (I (x1)) → rlook ls 3 = some (I (1)) → rlook ls 4 = some (.ref (D_c236 1)) → HW V17_vd1 σ D_c236 N_c236 F_c236 A_c236 → OUT (V17_vd1).length D N σE c s D_c236 N_c236 σ c_c236 s_c236 → SD [3, 11, 13, 14, 15, 16, 17, 18] D D_c236 → SD [3, 11, 13, 14, 15, 16, 17, 18] N N_c236 → SF [(2, 0), (2, 1), (2, 2), (5, 8), (9, 1), (9, 2), (9, 3), (9, 4), (9, 5), (9, 6), (9, 7), (9, 8), (9, 9), (9, 10), (9, 11), (9, 12), (9, 13), (9, 14), (9, 15), (9, 16), (9, 17), (9, 18), (10, 0), (10, 1), (10, 2), (10, 3), (10, 4), (12, 0), (12, 1), (12, 2), (12, 3), (12, 4)] F F_c236 → SA [3, 11, 13, 14, 15, 16, 17, 18] A A_c236 → F_c236 2 0 = (D_c236 3 : Int) → F_c236 10 0 = (D_c236 11 : Int) → F_c236 12 0 = (D_c236 13 : Int) → F_c236 9 7 = (D_c236 14 : Int) → F_c236 9 8 = (D_c236 15 : Int) → F_c236 9 1 = (D_c236 16 : Int) → F_c236 9 2 = (D_c236 17 : Int) → F_c236 9 3 = (D_c236 18 : Int) → ∀ mc236_3 : Int, (N_c236 3 : Int) = mc236_3 → ∀ mc236_11 : Int, (N_c236 11 : Int) = mc236_11 → ∀ mc236_13 : Int, (N_c236 13 : Int) = mc236_13 → ∀ mc236_14 : Int, (N_c236 14 : Int) = mc236_14 → ∀ mc236_15 : Int, (N_c236 15 : Int) = mc236_15 → ∀ mc236_16 : Int, (N_c236 16 : Int) = mc236_16 → ∀ mc236_17 : Int, (N_c236 17 : Int) = mc236_17 → ∀ mc236_18 : Int, (N_c236 18 : Int) = mc236_18 → ∀ yc236_2_1 : Int, F_c236 2 1 = yc236_2_1 → ∀ yc236_10_1 : Int, F_c236 10 1 = yc236_10_1 → ∀ yc236_12_1 : Int, F_c236 12 1 = yc236_12_1 → (inr (tc236_2)) → (inr (tc236_3)) → (0 ≤ (yc236_2_1) ∧ (yc236_2_1) ≤ (mc236_3) ∧ (mc236_3) ≤ 65536) → (0 ≤ (yc236_10_1) ∧ (yc236_10_1) ≤ (mc236_11) ∧ (mc236_11) ≤ 65536) → (0 ≤ (yc236_12_1) ∧ (yc236_12_1) ≤ (mc236_13) ∧ (mc236_13) ≤ 65536) → ((mc236_14) = 0 ∨ (mc236_14) = 2048) → ((mc236_15) ≤ 16384) → ((mc236_16) = (mc236_17) ∧ (mc236_18) = (mc236_17) ∧ (mc236_17) ≤ 65536 ∧ ((mc236_17) = 0 ∨ 64 ≤ (mc236_17)) ∧ lgq ((mc236_17)) = 0) → ((tc236_2) = 1) → ((tc236_3) = (u1_1)) → Ew 17 (d + 7) 236 ls [.ref (D_c236 19), I (tc236_3), I (tc236_2), .ref (D_c236 2), .ref (D_c236 0)] σ c_c236 s_c236 Q) (k : ∀ (z : Int) (σ : rS) (Dₚ Nₚ : Nat → Nat) (Fₚ : hF) (Aₚ : hA) (cₚ sₚ : Nat), HW V17_vd1 σ Dₚ Nₚ Fₚ Aₚ → OUT (V17_vd1).length D N σE c s Dₚ Nₚ σ cₚ sₚ → SD [3, 11, 13, 14, 15, 16, 17, 18] D Dₚ → SD [3, 11, 13, 14, 15, 16, 17, 18] N Nₚ → SF [(2, 0), (2, 1), (2, 2), (5, 8), (9, 1), (9, 2), (9, 3), (9, 4), (9, 5), (9, 6), (9, 7), (9, 8), (9, 9), (9, 10), (9, 11), (9, 12), (9, 13), (9, 14), (9, 15), (9, 16), (9, 17), (9, 18), (10, 0), (10, 1), (10, 2), (10, 3), (10, 4), (12, 0), (12, 1), (12, 2), (12, 3), (12, 4)] F Fₚ → SA [3, 11, 13, 14, 15, 16, 17, 18] A Aₚ → Fₚ 2 0 = (Dₚ 3 : Int) → Fₚ 10 0 = (Dₚ 11 : Int) → Fₚ 12 0 = (Dₚ 13 : Int) → Fₚ 9 7 = (Dₚ 14 : Int) → Fₚ 9 8 = (Dₚ 15 : Int) → Fₚ 9 1 = (Dₚ 16 : Int) → Fₚ 9 2 = (Dₚ 17 : Int) → Fₚ 9 3 = (Dₚ 18 : Int) → ∀ m3 : Int, (Nₚ 3 : Int) = m3 → ∀ m11 : Int, (Nₚ 11 : Int) = m11 → ∀ m13 : Int, (Nₚ 13 : Int) = m13 → ∀ m14 : Int, (Nₚ 14 : Int) = m14 → ∀ m15 : Int, (Nₚ 15 : Int) = m15 → ∀ m16 : Int, (Nₚ 16 : Int) = m16 → ∀ m17 : Int, (Nₚ 17 : Int) = m17 → ∀ m18 : Int, (Nₚ 18 : Int) = m18 → ∀ y2_1 : Int, Fₚ 2 1 = y2_1 → ∀ y10_1 : Int, Fₚ 10 1 = y10_1 → ∀ y12_1 : Int, Fₚ 12 1 = y12_1 → (inr (z)) → (0 ≤ (y2_1) ∧ (y2_1) ≤ (m3) ∧ (m3) ≤ 65536) → (0 ≤ (y10_1) ∧ (y10_1) ≤ (m11) ∧ (m11) ≤ 65536) → (0 ≤ (y12_1) ∧ (y12_1) ≤ (m13) ∧ (m13) ≤ 65536) → ((m14) = 0 ∨ (m14) = 2048) → ((m15) ≤ 16384) → ((m16) = (m17) ∧ (m18) = (m17) ∧ (m17) ≤ 65536 ∧ ((m17) = 0 ∨ 64 ≤ (m17)) ∧ lgq ((m17)) = 0) → Q (some (I z)) σ cₚ sₚ) : Ew 17 (d + 7) 120 ls [.ref (D 5)] σE c s Q := by
  have O := OUT_refl (n := (V17_vd1).length) (D := D) (N := N) (σ := σE) (c := c) (s := s)
  have HE := H
  have r1 : HID ((-2147483648 : Int) ≤ u1_1 ∧ u1_1 ≤ 2147483647) := krg_e (show (-2147483648 : Int) ≤ F 1 1 ∧ F 1 1 ≤ 2147483647 from H.krg 1 1 (by decide)) (show F 1 1 = u1_1 from (eu1_1))
  have r2 : HID ((-2147483648 : Int) ≤ u2_1 ∧ u2_1 ≤ 2147483647) := krg_e (show (-2147483648 : Int) ≤ F 2 1 ∧ F 2 1 ≤ 2147483647 from H.krg 2 1 (by decide)) (show F 2 1 = u2_1 from (eu2_1))
  have r3 : HID ((-2147483648 : Int) ≤ u7_1 ∧ u7_1 ≤ 2147483647) := krg_e (show (-2147483648 : Int) ≤ F 7 1 ∧ F 7 1 ≤ 2147483647 from H.krg 7 1 (by decide)) (show F 7 1 = u7_1 from (eu7_1))
  have r4 : HID ((-2147483648 : Int) ≤ u10_1 ∧ u10_1 ≤ 2147483647) := krg_e (show (-2147483648 : Int) ≤ F 10 1 ∧ F 10 1 ≤ 2147483647 from H.krg 10 1 (by decide)) (show F 10 1 = u10_1 from (eu10_1))
  have r5 : HID ((-2147483648 : Int) ≤ u12_1 ∧ u12_1 ≤ 2147483647) := krg_e (show (-2147483648 : Int) ≤ F 12 1 ∧ F 12 1 ≤ 2147483647 from H.krg 12 1 (by decide)) (show F 12 1 = u12_1 from (eu12_1))
  replace pf2 := HIDm pf2
  replace pf3 := HIDm pf3
  replace pf4 := HIDm pf4
  replace pf5 := HIDm pf5
  replace pf6 := HIDm pf6
  replace pf7 := HIDm pf7
  replace pf8 := HIDm pf8
  replace pf9 := HIDm pf9
  replace pf10 := HIDm pf10
  replace pf11 := HIDm pf11
  replace pf12 := HIDm pf12
  replace pf13 := HIDm pf13
  replace pf14 := HIDm pf14
  replace pf15 := HIDm pf15
  replace pf16 := HIDm pf16
  replace pf17 := HIDm pf17
  replace pf18 := HIDm pf18
  replace pf19 := HIDm pf19
  replace en3 := HIDm en3
  replace en4 := HIDm en4
  replace en6 := HIDm en6
  replace en8 := HIDm en8
  replace en11 := HIDm en11
  replace en13 := HIDm en13
  replace en14 := HIDm en14
  replace en15 := HIDm en15
  replace en16 := HIDm en16
  replace en17 := HIDm en17
  replace en18 := HIDm en18
  replace en19 := HIDm en19
  replace eu1_1 := HIDm eu1_1
  replace eu2_1 := HIDm eu2_1
  replace eu7_1 := HIDm eu7_1
  replace eu10_1 := HIDm eu10_1
  replace eu12_1 := HIDm eu12_1
  have r6 : HID ((0 : Int) ≤ n3 ∧ n3 ≤ 1000000) := nrng (H.nle 3 (by decide)) (show (N 3 : Int) = n3 from en3)
  have r7 : HID ((0 : Int) ≤ n4 ∧ n4 ≤ 1000000) := nrng (H.nle 4 (by decide)) (show (N 4 : Int) = n4 from en4)
  have r8 : HID ((0 : Int) ≤ n6 ∧ n6 ≤ 1000000) := nrng (H.nle 6 (by decide)) (show (N 6 : Int) = n6 from en6)
  have r9 : HID ((0 : Int) ≤ n8 ∧ n8 ≤ 1000000) := nrng (H.nle 8 (by decide)) (show (N 8 : Int) = n8 from en8)
  have r10 : HID ((0 : Int) ≤ n11 ∧ n11 ≤ 1000000) := nrng (H.nle 11 (by decide)) (show (N 11 : Int) = n11 from en11)
  have r11 : HID ((0 : Int) ≤ n13 ∧ n13 ≤ 1000000) := nrng (H.nle 13 (by decide)) (show (N 13 : Int) = n13 from en13)
  have r12 : HID ((0 : Int) ≤ n14 ∧ n14 ≤ 1000000) := nrng (H.nle 14 (by decide)) (show (N 14 : Int) = n14 from en14)
  have r13 : HID ((0 : Int) ≤ n15 ∧ n15 ≤ 1000000) := nrng (H.nle 15 (by decide)) (show (N 15 : Int) = n15 from en15)
  have r14 : HID ((0 : Int) ≤ n16 ∧ n16 ≤ 1000000) := nrng (H.nle 16 (by decide)) (show (N 16 : Int) = n16 from en16)
  have r15 : HID ((0 : Int) ≤ n17 ∧ n17 ≤ 1000000) := nrng (H.nle 17 (by decide)) (show (N 17 : Int) = n17 from en17)
  have r16 : HID ((0 : Int) ≤ n18 ∧ n18 ≤ 1000000) := nrng (H.nle 18 (by decide)) (show (N 18 : Int) = n18 from en18)
  refine Ew_of (pcₚ := 121) (fun _ => x_aload_n rfl hl0) ?_
  refine v_g H (o := 0) (v := .ref (D 2)) rfl rfl rfl rfl rfl (vrf (pf2)) ?_
  refine Ew_of (pcₚ := 126) (fun _ => x_aload rfl hl4) ?_
  refine v_inv H (o := 5) rfl rfl rfl rfl rfl rfl (by rfl) (C218_Row_Row (D := pul [5, 2, 1, 3, 4, 7, 8, 9, 10, 11, 12, 13, 6, 14, 15, 16, 17, 18] D) (N := pul [5, 2, 1, 3, 4, 7, 8, 9, 10, 11, 12, 13, 6, 14, 15, 16, 17, 18] N) (HW_sub H (VS_of (show vsub V17_vd1 V218_Row_Row [5, 2, 1, 3, 4, 7, 8, 9, 10, 11, 12, 13, 6, 14, 15, 16, 17, 18] = true by decide +kernel))) (pf3) (pf4) (pf7) (pf8) (pf9) (pf10) (pf11) (pf12) (pf13) (pf6) (pf14) (pf15) (pf16) (pf17) (pf18) (n3) (en3) (n4) (en4) (n8) (en8) (n11) (en11) (n13) (en13) (n6) (en6) (n14) (en14) (n15) (en15) (n16) (en16) (n17) (en17) (n18) (en18) (u2_1) ((eu2_1)) (u1_1) ((eu1_1)) (u7_1) ((eu7_1)) (u10_1) ((eu10_1)) (u12_1) ((eu12_1)) (w6) (ew6) (show 0 ≤ (u2_1) ∧ (u2_1) ≤ (n3) ∧ (n3) ≤ 65536 by have qh0 := HIDe r2; have qh1 := HIDe r6; omega) (show (u2_1) ≤ 1000 by have qh0 := HIDe r2; omega) (show 0 ≤ (u1_1) ∧ (u1_1) ≤ (n4) ∧ (n4) ≤ 65536 by have qh0 := HIDe r1; have qh1 := HIDe r7; omega) (show 0 ≤ (u7_1) ∧ (u7_1) ≤ (n8) ∧ (n8) ≤ 65536 by have qh0 := HIDe r3; have qh1 := HIDe r9; omega) (show 0 ≤ (u10_1) ∧ (u10_1) ≤ (n11) ∧ (n11) ≤ 65536 by have qh0 := HIDe r10; have qh1 := HIDe r4; omega) (show 0 ≤ (u12_1) ∧ (u12_1) ≤ (n13) ∧ (n13) ≤ 65536 by have qh0 := HIDe r11; have qh1 := HIDe r5; omega) (show (n6) = 10 by have qh0 := HIDe r8; omega) (show (u7_1) + (u1_1) ≤ 16384 by have qh0 := HIDe r1; have qh1 := HIDe r3; omega) (show 1 ≤ ((w6)) 2 ∧ ((w6)) 2 ≤ 65536 by omega) (show (n14) = 0 ∨ (n14) = 2048 by have qh0 := HIDe r12; omega) (show (n15) ≤ 16384 by have qh0 := HIDe r13; omega) (show (n16) = (n17) ∧ (n18) = (n17) ∧ (n17) ≤ 65536 ∧ ((n17) = 0 ∨ 64 ≤ (n17)) ∧ lgq ((n17)) = 0 by have qh0 := HIDe r14; have qh1 := HIDe r15; have qh2 := HIDe r16; omega) (fun σ17 D17ₚ N17ₚ F17ₚ A17ₚ c17 s17 Hₚ Oₚ hD17 hN17 hS17 hA17 pm17_3 pm17_9 pm17_11 pm17_13 pm17_14 pm17_15 pm17_16 pm17_17 m17_3 em17_3 m17_9 em17_9 m17_11 em17_11 m17_13 em17_13 m17_14 em17_14 m17_15 em17_15 m17_16 em17_16 m17_17 em17_17 y17_1_1 ey17_1_1 y17_8_1 ey17_8_1 y17_10_1 ey17_10_1 pz17_0 pz17_1 pz17_2 pz17_3 pz17_4 pz17_5 => ⟨rfl, ?_⟩))
  replace pm17_3 := HIDm pm17_3
  replace pm17_9 := HIDm pm17_9
  replace pm17_11 := HIDm pm17_11
  replace pm17_13 := HIDm pm17_13
  replace pm17_14 := HIDm pm17_14
  replace pm17_15 := HIDm pm17_15
  replace pm17_16 := HIDm pm17_16
  replace pm17_17 := HIDm pm17_17
  replace em17_3 := HIDm em17_3
  replace em17_9 := HIDm em17_9
  replace em17_11 := HIDm em17_11
  replace em17_13 := HIDm em17_13
  replace em17_14 := HIDm em17_14
  replace em17_15 := HIDm em17_15
  replace em17_16 := HIDm em17_16
  replace em17_17 := HIDm em17_17
  replace ey17_1_1 := HIDm ey17_1_1
  replace ey17_8_1 := HIDm ey17_8_1
  replace ey17_10_1 := HIDm ey17_10_1
  refine v_backM (c := c) (s := s) H (show vsub V17_vd1 V218_Row_Row [5, 2, 1, 3, 4, 7, 8, 9, 10, 11, 12, 13, 6, 14, 15, 16, 17, 18] = true by decide +kernel) Hₚ Oₚ hD17 (show vmov V17_vd1 [5, 2, 1, 3, 4, 7, 8, 9, 10, 11, 12, 13, 6, 14, 15, 16, 17, 18] [3, 9, 11, 13, 14, 15, 16, 17] = true by decide +kernel) (fun D17 N17 F17 A17 H Oₚ eD17 eN17 eF17 eA17 => ?_)
  have O := OUT_trans O Oₚ
  -- Tokens.packFrame
  have pf17_0_15 : HID (F17 0 15 = (D17 19 : Int)) := ((show F17 0 15 = F 0 15 from (eF17 0 15))).trans ((pf19).trans (congrArg (fun q : Nat => (q : Int)) ((show D17 19 = D 19 from (eD17 19))).symm))
  have pf17_0_5 : HID (F17 0 5 = (D17 2 : Int)) := ((show F17 0 5 = F 0 5 from (eF17 0 5))).trans ((pf2).trans (congrArg (fun q : Nat => (q : Int)) ((show D17 2 = D 2 from (eD17 2).trans (hD17 1 rfl))).symm))
  have pf17_0_8 : HID (F17 0 8 = (D17 5 : Int)) := ((show F17 0 8 = F 0 8 from (eF17 0 8))).trans ((pf5).trans (congrArg (fun q : Nat => (q : Int)) ((show D17 5 = D 5 from (eD17 5).trans (hD17 0 rfl))).symm))
  have pf17_1_0 : HID (F17 1 0 = (D17 4 : Int)) := ((show F17 1 0 = F 1 0 from (eF17 1 0).trans (hS17 2 0 rfl))).trans ((pf4).trans (congrArg (fun q : Nat => (q : Int)) ((show D17 4 = D 4 from (eD17 4).trans (hD17 4 rfl))).symm))
  have pf17_10_0 : HID (F17 10 0 = (D17 11 : Int)) := (eF17 10 0).trans (pm17_9.trans (congrArg (fun q : Nat => (q : Int)) (eD17 11).symm))
  have pf17_12_0 : HID (F17 12 0 = (D17 13 : Int)) := (eF17 12 0).trans (pm17_11.trans (congrArg (fun q : Nat => (q : Int)) (eD17 13).symm))
  have pf17_2_0 : HID (F17 2 0 = (D17 3 : Int)) := (eF17 2 0).trans (pm17_3.trans (congrArg (fun q : Nat => (q : Int)) (eD17 3).symm))
  have pf17_5_0 : HID (F17 5 0 = (D17 6 : Int)) := ((show F17 5 0 = F 5 0 from (eF17 5 0).trans (hS17 0 0 rfl))).trans ((pf6).trans (congrArg (fun q : Nat => (q : Int)) ((show D17 6 = D 6 from (eD17 6).trans (hD17 12 rfl))).symm))
  have pf17_5_1 : HID (F17 5 1 = (D17 7 : Int)) := ((show F17 5 1 = F 5 1 from (eF17 5 1).trans (hS17 0 1 rfl))).trans ((pf7).trans (congrArg (fun q : Nat => (q : Int)) ((show D17 7 = D 7 from (eD17 7).trans (hD17 5 rfl))).symm))
  have pf17_5_2 : HID (F17 5 2 = (D17 9 : Int)) := ((show F17 5 2 = F 5 2 from (eF17 5 2).trans (hS17 0 2 rfl))).trans ((pf9).trans (congrArg (fun q : Nat => (q : Int)) ((show D17 9 = D 9 from (eD17 9).trans (hD17 7 rfl))).symm))
  have pf17_5_3 : HID (F17 5 3 = (D17 12 : Int)) := ((show F17 5 3 = F 5 3 from (eF17 5 3).trans (hS17 0 3 rfl))).trans ((pf12).trans (congrArg (fun q : Nat => (q : Int)) ((show D17 12 = D 12 from (eD17 12).trans (hD17 10 rfl))).symm))
  have pf17_7_0 : HID (F17 7 0 = (D17 8 : Int)) := ((show F17 7 0 = F 7 0 from (eF17 7 0).trans (hS17 5 0 rfl))).trans ((pf8).trans (congrArg (fun q : Nat => (q : Int)) ((show D17 8 = D 8 from (eD17 8).trans (hD17 6 rfl))).symm))
  have pf17_9_0 : HID (F17 9 0 = (D17 10 : Int)) := ((show F17 9 0 = F 9 0 from (eF17 9 0).trans (hS17 7 0 rfl))).trans ((pf10).trans (congrArg (fun q : Nat => (q : Int)) ((show D17 10 = D 10 from (eD17 10).trans (hD17 8 rfl))).symm))
  have pf17_9_1 : HID (F17 9 1 = (D17 16 : Int)) := (eF17 9 1).trans (pm17_15.trans (congrArg (fun q : Nat => (q : Int)) (eD17 16).symm))
  have pf17_9_2 : HID (F17 9 2 = (D17 17 : Int)) := (eF17 9 2).trans (pm17_16.trans (congrArg (fun q : Nat => (q : Int)) (eD17 17).symm))
  have pf17_9_3 : HID (F17 9 3 = (D17 18 : Int)) := (eF17 9 3).trans (pm17_17.trans (congrArg (fun q : Nat => (q : Int)) (eD17 18).symm))
  have pf17_9_7 : HID (F17 9 7 = (D17 14 : Int)) := (eF17 9 7).trans (pm17_13.trans (congrArg (fun q : Nat => (q : Int)) (eD17 14).symm))
  have pf17_9_8 : HID (F17 9 8 = (D17 15 : Int)) := (eF17 9 8).trans (pm17_14.trans (congrArg (fun q : Nat => (q : Int)) (eD17 15).symm))
  have r18 : HID ((0 : Int) ≤ m17_3 ∧ m17_3 ≤ 1000000) := nrng (H.nle 3 (by decide)) (show (N17 3 : Int) = m17_3 from (congrArg (fun q : Nat => (q : Int)) (eN17 3)).trans em17_3)
  have r19 : HID ((0 : Int) ≤ m17_9 ∧ m17_9 ≤ 1000000) := nrng (H.nle 11 (by decide)) (show (N17 11 : Int) = m17_9 from (congrArg (fun q : Nat => (q : Int)) (eN17 11)).trans em17_9)
  have r20 : HID ((0 : Int) ≤ m17_11 ∧ m17_11 ≤ 1000000) := nrng (H.nle 13 (by decide)) (show (N17 13 : Int) = m17_11 from (congrArg (fun q : Nat => (q : Int)) (eN17 13)).trans em17_11)
  have r21 : HID ((0 : Int) ≤ m17_13 ∧ m17_13 ≤ 1000000) := nrng (H.nle 14 (by decide)) (show (N17 14 : Int) = m17_13 from (congrArg (fun q : Nat => (q : Int)) (eN17 14)).trans em17_13)
  have r22 : HID ((0 : Int) ≤ m17_14 ∧ m17_14 ≤ 1000000) := nrng (H.nle 15 (by decide)) (show (N17 15 : Int) = m17_14 from (congrArg (fun q : Nat => (q : Int)) (eN17 15)).trans em17_14)
  have r23 : HID ((0 : Int) ≤ m17_15 ∧ m17_15 ≤ 1000000) := nrng (H.nle 16 (by decide)) (show (N17 16 : Int) = m17_15 from (congrArg (fun q : Nat => (q : Int)) (eN17 16)).trans em17_15)
  have r24 : HID ((0 : Int) ≤ m17_16 ∧ m17_16 ≤ 1000000) := nrng (H.nle 17 (by decide)) (show (N17 17 : Int) = m17_16 from (congrArg (fun q : Nat => (q : Int)) (eN17 17)).trans em17_16)
  have r25 : HID ((0 : Int) ≤ m17_17 ∧ m17_17 ≤ 1000000) := nrng (H.nle 18 (by decide)) (show (N17 18 : Int) = m17_17 from (congrArg (fun q : Nat => (q : Int)) (eN17 18)).trans em17_17)
  have r26 : HID ((-2147483648 : Int) ≤ y17_1_1 ∧ y17_1_1 ≤ 2147483647) := krg_e (show (-2147483648 : Int) ≤ F17 2 1 ∧ F17 2 1 ≤ 2147483647 from H.krg 2 1 (by decide)) (show F17 2 1 = y17_1_1 from ((eF17 2 1).trans ey17_1_1))
  have r27 : HID ((-2147483648 : Int) ≤ y17_8_1 ∧ y17_8_1 ≤ 2147483647) := krg_e (show (-2147483648 : Int) ≤ F17 10 1 ∧ F17 10 1 ≤ 2147483647 from H.krg 10 1 (by decide)) (show F17 10 1 = y17_8_1 from ((eF17 10 1).trans ey17_8_1))
  have r28 : HID ((-2147483648 : Int) ≤ y17_10_1 ∧ y17_10_1 ≤ 2147483647) := krg_e (show (-2147483648 : Int) ≤ F17 12 1 ∧ F17 12 1 ≤ 2147483647 from H.krg 12 1 (by decide)) (show F17 12 1 = y17_10_1 from ((eF17 12 1).trans ey17_10_1))
  refine Ew_of (pcₚ := 199) (fun _ => x_goto rfl rfl) ?_
  refine Ew_of (pcₚ := 201) (fun _ => x_iload rfl hl5) ?_
  refine w_ifeq (t := 214) rfl rfl (show inr (1) by omega) (fun b29 => ?_) (fun b29 => ?_)
  · exact absurd b29 (by omega)
  · refine Ew_of (pcₚ := 205) (fun _ => x_aload_n rfl hl0) ?_
    refine Ew_stk (show ([.ref (D 0)] : List Value) = [.ref (D17 0)] by rw [show D17 0 = D 0 from ((show D17 0 = D 0 from (eD17 0)))]) ?_
    refine v_g H (o := 0) (v := .ref (D17 2)) rfl rfl rfl rfl rfl (vrf (pf17_0_5)) ?_
    have r30 : HID ((0 : Int) ≤ F17 2 2 ∧ F17 2 2 ≤ 1) := krg_e (show (0 : Int) ≤ F17 2 2 ∧ F17 2 2 ≤ 1 from H.krg 2 2 (by decide)) (show F17 2 2 = F17 2 2 from rfl)
    refine v_g H (o := 2) (v := I (F17 2 2)) rfl rfl rfl rfl rfl (congrArg (fun z : Int => I z) (rfl : F17 2 2 = F17 2 2)) ?_
    refine w_ifeq (t := 216) rfl rfl (show inr (F17 2 2) by have qh0 := HIDe r30; omega) (fun b31 => ?_) (fun b31 => ?_)
    · refine Ew_of (pcₚ := 217) (fun _ => x_iload_n rfl hl3) ?_
      refine Ew_of (pcₚ := 218) (fun _ => x_iconst rfl) ?_
      refine w_icmpeq (t := 277) rfl rfl (show inr (1) by omega) (show inr (5) by omega) (fun b32 => ?_) (fun b32 => ?_)
      · exact absurd b32 (by omega)
      · refine Ew_of (pcₚ := 222) (fun _ => x_aload_n rfl hl0) ?_
        refine Ew_of (pcₚ := 223) (fun _ => x_aload_n rfl hl0) ?_
        refine Ew_stk (show ([.ref (D 0), .ref (D 0)] : List Value) = [.ref (D17 0), .ref (D17 0)] by rw [show D17 0 = D 0 from ((show D17 0 = D 0 from (eD17 0)))]) ?_
        refine v_g H (o := 0) (v := .ref (D17 2)) rfl rfl rfl rfl rfl (vrf (pf17_0_5)) ?_
        refine Ew_of (pcₚ := 227) (fun _ => x_iload_n rfl hl3) ?_
        refine Ew_of (pcₚ := 229) (fun _ => x_aload rfl hl4) ?_
        refine Ew_stk (show ([.ref (D 1), I (1), .ref (D17 2), .ref (D17 0)] : List Value) = [.ref (D17 1), I (1), .ref (D17 2), .ref (D17 0)] by rw [show D17 1 = D 1 from ((show D17 1 = D 1 from (eD17 1).trans (hD17 2 rfl)))]) ?_
        refine v_g H (o := 1) (v := I (u1_1)) rfl rfl rfl rfl rfl (congrArg (fun z : Int => I z) ((((show F17 1 1 = F 1 1 from (eF17 1 1).trans (hS17 2 1 rfl))).trans (eu1_1)) : F17 1 1 = u1_1)) ?_
        refine Ew_of (pcₚ := 233) (fun _ => x_aload_n rfl hl0) ?_
        refine Ew_stk (show ([.ref (D 0), I (u1_1), I (1), .ref (D17 2), .ref (D17 0)] : List Value) = [.ref (D17 0), I (u1_1), I (1), .ref (D17 2), .ref (D17 0)] by rw [show D17 0 = D 0 from ((show D17 0 = D 0 from (eD17 0)))]) ?_
        refine v_g H (o := 0) (v := .ref (D17 19)) rfl rfl rfl rfl rfl (vrf (pf17_0_15)) ?_
        exact hc236 (1) (u1_1) _ _ _ _ _ _ _ _  ((hl0).trans (congrArg (fun q : Nat => some (Value.ref q)) (((show D17 0 = D 0 from (eD17 0)))).symm)) (hl1) (hl3) ((hl4).trans (congrArg (fun q : Nat => some (Value.ref q)) (((show D17 1 = D 1 from (eD17 1).trans (hD17 2 rfl)))).symm)) H O (SD_trans (SD_refl) (SD_glu (ι := [5, 2, 1, 3, 4, 7, 8, 9, 10, 11, 12, 13, 6, 14, 15, 16, 17, 18]) hD17 eD17 (by decide +kernel)) (any_subA (lₚ := [3, 11, 13, 14, 15, 16, 17, 18]) rfl)) (SD_trans (SD_refl) (SD_glu (ι := [5, 2, 1, 3, 4, 7, 8, 9, 10, 11, 12, 13, 6, 14, 15, 16, 17, 18]) hN17 eN17 (by decide +kernel)) (any_subA (lₚ := [3, 11, 13, 14, 15, 16, 17, 18]) rfl)) (SF_trans (SF_refl) (SF_glu (ι := [5, 2, 1, 3, 4, 7, 8, 9, 10, 11, 12, 13, 6, 14, 15, 16, 17, 18]) hS17 eF17 (by decide +kernel)) (any_sub (lₚ := [(2, 0), (2, 1), (2, 2), (5, 8), (9, 1), (9, 2), (9, 3), (9, 4), (9, 5), (9, 6), (9, 7), (9, 8), (9, 9), (9, 10), (9, 11), (9, 12), (9, 13), (9, 14), (9, 15), (9, 16), (9, 17), (9, 18), (10, 0), (10, 1), (10, 2), (10, 3), (10, 4), (12, 0), (12, 1), (12, 2), (12, 3), (12, 4)]) rfl)) (SA_trans (SA_refl) (SA_glu (ι := [5, 2, 1, 3, 4, 7, 8, 9, 10, 11, 12, 13, 6, 14, 15, 16, 17, 18]) hA17 eA17 (by decide +kernel)) (any_subA (lₚ := [3, 11, 13, 14, 15, 16, 17, 18]) rfl)) (pf17_2_0) (pf17_10_0) (pf17_12_0) (pf17_9_7) (pf17_9_8) (pf17_9_1) (pf17_9_2) (pf17_9_3) (m17_3) ((congrArg (fun q : Nat => (q : Int)) (eN17 3)).trans em17_3) (m17_9) ((congrArg (fun q : Nat => (q : Int)) (eN17 11)).trans em17_9) (m17_11) ((congrArg (fun q : Nat => (q : Int)) (eN17 13)).trans em17_11) (m17_13) ((congrArg (fun q : Nat => (q : Int)) (eN17 14)).trans em17_13) (m17_14) ((congrArg (fun q : Nat => (q : Int)) (eN17 15)).trans em17_14) (m17_15) ((congrArg (fun q : Nat => (q : Int)) (eN17 16)).trans em17_15) (m17_16) ((congrArg (fun q : Nat => (q : Int)) (eN17 17)).trans em17_16) (m17_17) ((congrArg (fun q : Nat => (q : Int)) (eN17 18)).trans em17_17) (y17_1_1) (((eF17 2 1).trans ey17_1_1)) (y17_8_1) (((eF17 10 1).trans ey17_8_1)) (y17_10_1) (((eF17 12 1).trans ey17_10_1))  (show inr (1) by omega) (show inr (u1_1) by have qh0 := HIDe r1; omega) (show 0 ≤ (y17_1_1) ∧ (y17_1_1) ≤ (m17_3) ∧ (m17_3) ≤ 65536 by have qh0 := HIDe r18; have qh1 := HIDe r26; omega) (show 0 ≤ (y17_8_1) ∧ (y17_8_1) ≤ (m17_9) ∧ (m17_9) ≤ 65536 by have qh0 := HIDe r19; have qh1 := HIDe r27; omega) (show 0 ≤ (y17_10_1) ∧ (y17_10_1) ≤ (m17_11) ∧ (m17_11) ≤ 65536 by have qh0 := HIDe r20; have qh1 := HIDe r28; omega) (show (m17_13) = 0 ∨ (m17_13) = 2048 by have qh0 := HIDe r21; omega) (show (m17_14) ≤ 16384 by have qh0 := HIDe r22; omega) (show (m17_15) = (m17_16) ∧ (m17_17) = (m17_16) ∧ (m17_16) ≤ 65536 ∧ ((m17_16) = 0 ∨ 64 ≤ (m17_16)) ∧ lgq ((m17_16)) = 0 by have qh0 := HIDe r23; have qh1 := HIDe r24; have qh2 := HIDe r25; omega) (show (1) = 1 by omega) (show (u1_1) = (u1_1) by have qh0 := HIDe r1; omega)
    · refine Ew_of (pcₚ := 215) (fun _ => x_iconst rfl) ?_
      exact w_ireturn rfl (k ((-1)) _ _ _ _ _ _ _ H O (SD_trans (SD_refl) (SD_glu (ι := [5, 2, 1, 3, 4, 7, 8, 9, 10, 11, 12, 13, 6, 14, 15, 16, 17, 18]) hD17 eD17 (by decide +kernel)) (any_subA (lₚ := [3, 11, 13, 14, 15, 16, 17, 18]) rfl)) (SD_trans (SD_refl) (SD_glu (ι := [5, 2, 1, 3, 4, 7, 8, 9, 10, 11, 12, 13, 6, 14, 15, 16, 17, 18]) hN17 eN17 (by decide +kernel)) (any_subA (lₚ := [3, 11, 13, 14, 15, 16, 17, 18]) rfl)) (SF_trans (SF_refl) (SF_glu (ι := [5, 2, 1, 3, 4, 7, 8, 9, 10, 11, 12, 13, 6, 14, 15, 16, 17, 18]) hS17 eF17 (by decide +kernel)) (any_sub (lₚ := [(2, 0), (2, 1), (2, 2), (5, 8), (9, 1), (9, 2), (9, 3), (9, 4), (9, 5), (9, 6), (9, 7), (9, 8), (9, 9), (9, 10), (9, 11), (9, 12), (9, 13), (9, 14), (9, 15), (9, 16), (9, 17), (9, 18), (10, 0), (10, 1), (10, 2), (10, 3), (10, 4), (12, 0), (12, 1), (12, 2), (12, 3), (12, 4)]) rfl)) (SA_trans (SA_refl) (SA_glu (ι := [5, 2, 1, 3, 4, 7, 8, 9, 10, 11, 12, 13, 6, 14, 15, 16, 17, 18]) hA17 eA17 (by decide +kernel)) (any_subA (lₚ := [3, 11, 13, 14, 15, 16, 17, 18]) rfl)) (pf17_2_0) (pf17_10_0) (pf17_12_0) (pf17_9_7) (pf17_9_8) (pf17_9_1) (pf17_9_2) (pf17_9_3) (m17_3) ((congrArg (fun q : Nat => (q : Int)) (eN17 3)).trans em17_3) (m17_9) ((congrArg (fun q : Nat => (q : Int)) (eN17 11)).trans em17_9) (m17_11) ((congrArg (fun q : Nat => (q : Int)) (eN17 13)).trans em17_11) (m17_13) ((congrArg (fun q : Nat => (q : Int)) (eN17 14)).trans em17_13) (m17_14) ((congrArg (fun q : Nat => (q : Int)) (eN17 15)).trans em17_14) (m17_15) ((congrArg (fun q : Nat => (q : Int)) (eN17 16)).trans em17_15) (m17_16) ((congrArg (fun q : Nat => (q : Int)) (eN17 17)).trans em17_16) (m17_17) ((congrArg (fun q : Nat => (q : Int)) (eN17 18)).trans em17_17) (y17_1_1) (((eF17 2 1).trans ey17_1_1)) (y17_8_1) (((eF17 10 1).trans ey17_8_1)) (y17_10_1) (((eF17 12 1).trans ey17_10_1)) (show inr ((-1)) by omega) (show 0 ≤ (y17_1_1) ∧ (y17_1_1) ≤ (m17_3) ∧ (m17_3) ≤ 65536 by have qh0 := HIDe r18; have qh1 := HIDe r26; omega) (show 0 ≤ (y17_8_1) ∧ (y17_8_1) ≤ (m17_9) ∧ (m17_9) ≤ 65536 by have qh0 := HIDe r19; have qh1 := HIDe r27; omega) (show 0 ≤ (y17_10_1) ∧ (y17_10_1) ≤ (m17_11) ∧ (m17_11) ≤ 65536 by have qh0 := HIDe r20; have qh1 := HIDe r28; omega) (show (m17_13) = 0 ∨ (m17_13) = 2048 by have qh0 := HIDe r21; omega) (show (m17_14) ≤ 16384 by have qh0 := HIDe r22; omega) (show (m17_15) = (m17_16) ∧ (m17_17) = (m17_16) ∧ (m17_16) ≤ 65536 ∧ ((m17_16) = 0 ∨ 64 ≤ (m17_16)) ∧ lgq ((m17_16)) = 0 by have qh0 := HIDe r23; have qh1 := HIDe r24; have qh2 := HIDe r25; omega))
abbrev V17_vd2 : vV := [(0, 0, [(4, 0), (4, 0), (4, 0), (4, 0), (4, 0), (4, 0), (4, 0), (4, 0), (4, 0), (4, 0), (4, 0), (4, 0), (4, 0), (4, 0), (4, 0), (4, 0), (4, 0), (0, 0), (0, 0)]), (0, 7, [(4, 0), (0, 0), (1, 0), (0, 0), (0, 0)]), (0, 7, [(4, 0), (0, 0), (1, 0), (0, 0), (0, 0)]), (1, 0, []), (1, 0, []), (0, 10, [(4, 0), (4, 0), (4, 0), (4, 0), (0, 0), (4, 0), (0, 0), (2, 0), (0, 0)]), (1, 1, []), (0, 5, [(4, 0), (4, 0), (4, 0), (4, 0), (0, 0), (0, 0), (0, 0), (4, 0), (4, 0), (0, 0), (0, 0), (0, 0), (0, 0), (0, 0), (0, 0), (0, 0), (0, 0), (0, 0), (0, 0)]), (0, 7, [(4, 0), (0, 0), (1, 0), (0, 0), (0, 0)]), (1, 0, []), (1, 1, []), (1, 1, []), (1, 1, []), (1, 1, []), (1, 1, []), (1, 1, [])]
/-- PackHouse.write: this, @F, this.written, this.written.bytes, @F.bytes, this.tags, this.tags.settings, this.tags.finder, this.tags.finder.data, this.tags.finder.data.bytes, this.tags.finder.heads, this.tags.finder.back, this.tags.finder.literals, this.tags.finder.lengths, this.tags.finder.distances, this.checkCounts -/
theorem C17_vd2 {σE : rS} {D N : Nat → Nat} {F : hF} {A : hA} {d c s : Nat} {Q : wQ} (H : HW V17_vd2 σE D N F A) {x1 : Int} (pf2 : F 0 5 = (D 2 : Int)) (pf3 : F 2 0 = (D 3 : Int)) (pf4 : F 1 0 = (D 4 : Int)) (pf5 : F 0 9 = (D 5 : Int)) (pf6 : F 5 0 = (D 6 : Int)) (pf7 : F 5 1 = (D 7 : Int)) (pf8 : F 7 0 = (D 8 : Int)) (pf9 : F 8 0 = (D 9 : Int)) (pf10 : F 7 7 = (D 10 : Int)) (pf11 : F 7 8 = (D 11 : Int)) (pf12 : F 7 1 = (D 12 : Int)) (pf13 : F 7 2 = (D 13 : Int)) (pf14 : F 7 3 = (D 14 : Int)) (pf15 : F 0 15 = (D 15 : Int)) (n3 : Int) (en3 : (N 3 : Int) = n3) (n4 : Int) (en4 : (N 4 : Int) = n4) (n6 : Int) (en6 : (N 6 : Int) = n6) (n9 : Int) (en9 : (N 9 : Int) = n9) (n10 : Int) (en10 : (N 10 : Int) = n10) (n11 : Int) (en11 : (N 11 : Int) = n11) (n12 : Int) (en12 : (N 12 : Int) = n12) (n13 : Int) (en13 : (N 13 : Int) = n13) (n14 : Int) (en14 : (N 14 : Int) = n14) (n15 : Int) (en15 : (N 15 : Int) = n15) (u1_1 : Int) (eu1_1 : F 1 1 = u1_1) (u2_1 : Int) (eu2_1 : F 2 1 = u2_1) (u8_1 : Int) (eu8_1 : F 8 1 = u8_1) {ls : rO} (hl0 : rlook ls 0 = some (.ref (D 0))) (hl1 : rlook ls 1 = some (I (x1))) (hl3 : rlook ls 3 = some (I (2))) (hl4 : rlook ls 4 = some (.ref (D 1))) (hl5 : rlook ls 5 = some (I (1))) (h0 : inr (x1)) (h1 : 0 ≤ (u2_1) ∧ (u2_1) ≤ (n3) ∧ (n3) ≤ 65536) (h2 : (u2_1) = 0) (h3 : 0 ≤ (u1_1) ∧ (u1_1) ≤ (n4) ∧ (n4) ≤ 65536) (h4 : (n6) = 10) (h5 : (u1_1) ≤ 16384) (h6 : 0 ≤ (u8_1) ∧ (u8_1) ≤ (n9) ∧ (n9) ≤ 65536) (h7 : (n10) = 0 ∨ (n10) = 2048) (h8 : (n11) ≤ 16384) (h9 : (n12) = (n13) ∧ (n14) = (n13) ∧ (n13) ≤ 65536 ∧ ((n13) = 0 ∨ 64 ≤ (n13)) ∧ lgq ((n13)) = 0) (hc236 : ∀ (tc236_2 : Int), ∀ (tc236_3 : Int), ∀ (ls : rO) (σ : rS) (D_c236 N_c236 : Nat → Nat) (c_c236 s_c236 : Nat) (F_c236 : hF) (A_c236 : hA) , rlook ls 0 = some (.ref (D_c236 0)) → rlook ls 1 = some (I (x1)) → rlook ls 3 = some (I (2)) → rlook ls 4 = some (.ref (D_c236 1)) → HW V17_vd2 σ D_c236 N_c236 F_c236 A_c236 → OUT (V17_vd2).length D N σE c s D_c236 N_c236 σ c_c236 s_c236 → SD [3, 9, 10, 11, 12, 13, 14] D D_c236 → SD [3, 9, 10, 11, 12, 13, 14] N N_c236 → SF [(2, 0), (2, 1), (2, 2), (7, 1), (7, 2), (7, 3), (7, 4), (7, 5), (7, 6), (7, 7), (7, 8), (7, 9), (7, 10), (7, 11), (7, 12), (7, 13), (7, 14), (7, 15), (7, 16), (7, 17), (7, 18), (8, 0), (8, 1), (8, 2), (8, 3), (8, 4)] F F_c236 → SA [3, 9, 10, 11, 12, 13, 14] A A_c236 → F_c236 2 0 = (D_c236 3 : Int) → F_c236 8 0 = (D_c236 9 : Int) → F_c236 7 7 = (D_c236 10 : Int) → F_c236 7 8 = (D_c236 11 : Int) → F_c236 7 1 = (D_c236 12 : Int) → F_c236 7 2 = (D_c236 13 : Int) → F_c236 7 3 = (D_c236 14 : Int) → ∀ mc236_3 : Int, (N_c236 3 : Int) = mc236_3 → ∀ mc236_9 : Int, (N_c236 9 : Int) = mc236_9 → ∀ mc236_10 : Int, (N_c236 10 : Int) = mc236_10 → ∀ mc236_11 : Int, (N_c236 11 : Int) = mc236_11 → ∀ mc236_12 : Int, (N_c236 12 : Int) = mc236_12 → ∀ mc236_13 : Int, (N_c236 13 : Int) = mc236_13 → ∀ mc236_14 : Int, (N_c236 14 : Int) = mc236_14 → ∀ yc236_2_1 : Int, F_c236 2 1 = yc236_2_1 → ∀ yc236_8_1 : Int, F_c236 8 1 = yc236_8_1 → (inr (tc236_2)) → (inr (tc236_3)) → (0 ≤ (yc236_2_1) ∧ (yc236_2_1) ≤ (mc236_3) ∧ (mc236_3) ≤ 65536) → (0 ≤ (yc236_8_1) ∧ (yc236_8_1) ≤ (mc236_9) ∧ (mc236_9) ≤ 65536) → ((mc236_10) = 0 ∨ (mc236_10) = 2048) → ((mc236_11) ≤ 16384) → ((mc236_12) = (mc236_13) ∧ (mc236_14) = (mc236_13) ∧ (mc236_13) ≤ 65536 ∧ ((mc236_13) = 0 ∨ 64 ≤ (mc236_13)) ∧ lgq ((mc236_13)) = 0) → ((tc236_2) = 2) → ((tc236_3) = (u1_1)) → Ew 17 (d + 6) 236 ls [.ref (D_c236 15), I (tc236_3), I (tc236_2), .ref (D_c236 2), .ref (D_c236 0)] σ c_c236 s_c236 Q) (k : ∀ (z : Int) (σ : rS) (Dₚ Nₚ : Nat → Nat) (Fₚ : hF) (Aₚ : hA) (cₚ sₚ : Nat), HW V17_vd2 σ Dₚ Nₚ Fₚ Aₚ → OUT (V17_vd2).length D N σE c s Dₚ Nₚ σ cₚ sₚ → SD [3, 9, 10, 11, 12, 13, 14] D Dₚ → SD [3, 9, 10, 11, 12, 13, 14] N Nₚ → SF [(2, 0), (2, 1), (2, 2), (7, 1), (7, 2), (7, 3), (7, 4), (7, 5), (7, 6), (7, 7), (7, 8), (7, 9), (7, 10), (7, 11), (7, 12), (7, 13), (7, 14), (7, 15), (7, 16), (7, 17), (7, 18), (8, 0), (8, 1), (8, 2), (8, 3), (8, 4)] F Fₚ → SA [3, 9, 10, 11, 12, 13, 14] A Aₚ → Fₚ 2 0 = (Dₚ 3 : Int) → Fₚ 8 0 = (Dₚ 9 : Int) → Fₚ 7 7 = (Dₚ 10 : Int) → Fₚ 7 8 = (Dₚ 11 : Int) → Fₚ 7 1 = (Dₚ 12 : Int) → Fₚ 7 2 = (Dₚ 13 : Int) → Fₚ 7 3 = (Dₚ 14 : Int) → ∀ m3 : Int, (Nₚ 3 : Int) = m3 → ∀ m9 : Int, (Nₚ 9 : Int) = m9 → ∀ m10 : Int, (Nₚ 10 : Int) = m10 → ∀ m11 : Int, (Nₚ 11 : Int) = m11 → ∀ m12 : Int, (Nₚ 12 : Int) = m12 → ∀ m13 : Int, (Nₚ 13 : Int) = m13 → ∀ m14 : Int, (Nₚ 14 : Int) = m14 → ∀ y2_1 : Int, Fₚ 2 1 = y2_1 → ∀ y8_1 : Int, Fₚ 8 1 = y8_1 → (inr (z)) → (0 ≤ (y2_1) ∧ (y2_1) ≤ (m3) ∧ (m3) ≤ 65536) → (0 ≤ (y8_1) ∧ (y8_1) ≤ (m9) ∧ (m9) ≤ 65536) → ((m10) = 0 ∨ (m10) = 2048) → ((m11) ≤ 16384) → ((m12) = (m13) ∧ (m14) = (m13) ∧ (m13) ≤ 65536 ∧ ((m13) = 0 ∨ 64 ≤ (m13)) ∧ lgq ((m13)) = 0) → Q (some (I z)) σ cₚ sₚ) : Ew 17 (d + 6) 136 ls [.ref (D 5)] σE c s Q := by
  have O := OUT_refl (n := (V17_vd2).length) (D := D) (N := N) (σ := σE) (c := c) (s := s)
  have HE := H
  have r1 : HID ((-2147483648 : Int) ≤ u1_1 ∧ u1_1 ≤ 2147483647) := krg_e (show (-2147483648 : Int) ≤ F 1 1 ∧ F 1 1 ≤ 2147483647 from H.krg 1 1 (by decide)) (show F 1 1 = u1_1 from (eu1_1))
  have r2 : HID ((-2147483648 : Int) ≤ u2_1 ∧ u2_1 ≤ 2147483647) := krg_e (show (-2147483648 : Int) ≤ F 2 1 ∧ F 2 1 ≤ 2147483647 from H.krg 2 1 (by decide)) (show F 2 1 = u2_1 from (eu2_1))
  have r3 : HID ((-2147483648 : Int) ≤ u8_1 ∧ u8_1 ≤ 2147483647) := krg_e (show (-2147483648 : Int) ≤ F 8 1 ∧ F 8 1 ≤ 2147483647 from H.krg 8 1 (by decide)) (show F 8 1 = u8_1 from (eu8_1))
  replace pf2 := HIDm pf2
  replace pf3 := HIDm pf3
  replace pf4 := HIDm pf4
  replace pf5 := HIDm pf5
  replace pf6 := HIDm pf6
  replace pf7 := HIDm pf7
  replace pf8 := HIDm pf8
  replace pf9 := HIDm pf9
  replace pf10 := HIDm pf10
  replace pf11 := HIDm pf11
  replace pf12 := HIDm pf12
  replace pf13 := HIDm pf13
  replace pf14 := HIDm pf14
  replace pf15 := HIDm pf15
  replace en3 := HIDm en3
  replace en4 := HIDm en4
  replace en6 := HIDm en6
  replace en9 := HIDm en9
  replace en10 := HIDm en10
  replace en11 := HIDm en11
  replace en12 := HIDm en12
  replace en13 := HIDm en13
  replace en14 := HIDm en14
  replace en15 := HIDm en15
  replace eu1_1 := HIDm eu1_1
  replace eu2_1 := HIDm eu2_1
  replace eu8_1 := HIDm eu8_1
  have r4 : HID ((0 : Int) ≤ n3 ∧ n3 ≤ 1000000) := nrng (H.nle 3 (by decide)) (show (N 3 : Int) = n3 from en3)
  have r5 : HID ((0 : Int) ≤ n4 ∧ n4 ≤ 1000000) := nrng (H.nle 4 (by decide)) (show (N 4 : Int) = n4 from en4)
  have r6 : HID ((0 : Int) ≤ n6 ∧ n6 ≤ 1000000) := nrng (H.nle 6 (by decide)) (show (N 6 : Int) = n6 from en6)
  have r7 : HID ((0 : Int) ≤ n9 ∧ n9 ≤ 1000000) := nrng (H.nle 9 (by decide)) (show (N 9 : Int) = n9 from en9)
  have r8 : HID ((0 : Int) ≤ n10 ∧ n10 ≤ 1000000) := nrng (H.nle 10 (by decide)) (show (N 10 : Int) = n10 from en10)
  have r9 : HID ((0 : Int) ≤ n11 ∧ n11 ≤ 1000000) := nrng (H.nle 11 (by decide)) (show (N 11 : Int) = n11 from en11)
  have r10 : HID ((0 : Int) ≤ n12 ∧ n12 ≤ 1000000) := nrng (H.nle 12 (by decide)) (show (N 12 : Int) = n12 from en12)
  have r11 : HID ((0 : Int) ≤ n13 ∧ n13 ≤ 1000000) := nrng (H.nle 13 (by decide)) (show (N 13 : Int) = n13 from en13)
  have r12 : HID ((0 : Int) ≤ n14 ∧ n14 ≤ 1000000) := nrng (H.nle 14 (by decide)) (show (N 14 : Int) = n14 from en14)
  refine Ew_of (pcₚ := 137) (fun _ => x_aload_n rfl hl0) ?_
  refine v_g H (o := 0) (v := .ref (D 2)) rfl rfl rfl rfl rfl (vrf (pf2)) ?_
  refine Ew_of (pcₚ := 142) (fun _ => x_aload rfl hl4) ?_
  refine v_inv H (o := 5) rfl rfl rfl rfl rfl rfl (by rfl) (C193_Row_Row (D := pul [5, 2, 1, 3, 4, 7, 8, 9, 6, 10, 11, 12, 13, 14] D) (N := pul [5, 2, 1, 3, 4, 7, 8, 9, 6, 10, 11, 12, 13, 14] N) (HW_sub H (VS_of (show vsub V17_vd2 V193_Row_Row [5, 2, 1, 3, 4, 7, 8, 9, 6, 10, 11, 12, 13, 14] = true by decide +kernel))) (pf3) (pf4) (pf7) (pf8) (pf9) (pf6) (pf10) (pf11) (pf12) (pf13) (pf14) (n3) (en3) (n4) (en4) (n9) (en9) (n6) (en6) (n10) (en10) (n11) (en11) (n12) (en12) (n13) (en13) (n14) (en14) (u2_1) ((eu2_1)) (u1_1) ((eu1_1)) (u8_1) ((eu8_1)) (show 0 ≤ (u2_1) ∧ (u2_1) ≤ (n3) ∧ (n3) ≤ 65536 by have qh0 := HIDe r2; have qh1 := HIDe r4; omega) (show 0 ≤ (u1_1) ∧ (u1_1) ≤ (n4) ∧ (n4) ≤ 65536 by have qh0 := HIDe r1; have qh1 := HIDe r5; omega) (show 0 ≤ (u8_1) ∧ (u8_1) ≤ (n9) ∧ (n9) ≤ 65536 by have qh0 := HIDe r3; have qh1 := HIDe r7; omega) (show (n6) = 10 by have qh0 := HIDe r6; omega) (show (u1_1) ≤ 16384 by have qh0 := HIDe r1; omega) (show (n10) = 0 ∨ (n10) = 2048 by have qh0 := HIDe r8; omega) (show (n11) ≤ 16384 by have qh0 := HIDe r9; omega) (show (n12) = (n13) ∧ (n14) = (n13) ∧ (n13) ≤ 65536 ∧ ((n13) = 0 ∨ 64 ≤ (n13)) ∧ lgq ((n13)) = 0 by have qh0 := HIDe r10; have qh1 := HIDe r11; have qh2 := HIDe r12; omega) (fun σ13 D13ₚ N13ₚ F13ₚ A13ₚ c13 s13 Hₚ Oₚ hD13 hN13 hS13 hA13 pm13_3 pm13_7 pm13_9 pm13_10 pm13_11 pm13_12 pm13_13 m13_3 em13_3 m13_7 em13_7 m13_9 em13_9 m13_10 em13_10 m13_11 em13_11 m13_12 em13_12 m13_13 em13_13 y13_1_1 ey13_1_1 y13_6_1 ey13_6_1 pz13_0 pz13_1 pz13_2 pz13_3 pz13_4 => ⟨rfl, ?_⟩))
  replace pm13_3 := HIDm pm13_3
  replace pm13_7 := HIDm pm13_7
  replace pm13_9 := HIDm pm13_9
  replace pm13_10 := HIDm pm13_10
  replace pm13_11 := HIDm pm13_11
  replace pm13_12 := HIDm pm13_12
  replace pm13_13 := HIDm pm13_13
  replace em13_3 := HIDm em13_3
  replace em13_7 := HIDm em13_7
  replace em13_9 := HIDm em13_9
  replace em13_10 := HIDm em13_10
  replace em13_11 := HIDm em13_11
  replace em13_12 := HIDm em13_12
  replace em13_13 := HIDm em13_13
  replace ey13_1_1 := HIDm ey13_1_1
  replace ey13_6_1 := HIDm ey13_6_1
  refine v_backM (c := c) (s := s) H (show vsub V17_vd2 V193_Row_Row [5, 2, 1, 3, 4, 7, 8, 9, 6, 10, 11, 12, 13, 14] = true by decide +kernel) Hₚ Oₚ hD13 (show vmov V17_vd2 [5, 2, 1, 3, 4, 7, 8, 9, 6, 10, 11, 12, 13, 14] [3, 7, 9, 10, 11, 12, 13] = true by decide +kernel) (fun D13 N13 F13 A13 H Oₚ eD13 eN13 eF13 eA13 => ?_)
  have O := OUT_trans O Oₚ
  -- Tags.packAlone
  have pf13_0_15 : HID (F13 0 15 = (D13 15 : Int)) := ((show F13 0 15 = F 0 15 from (eF13 0 15))).trans ((pf15).trans (congrArg (fun q : Nat => (q : Int)) ((show D13 15 = D 15 from (eD13 15))).symm))
  have pf13_0_5 : HID (F13 0 5 = (D13 2 : Int)) := ((show F13 0 5 = F 0 5 from (eF13 0 5))).trans ((pf2).trans (congrArg (fun q : Nat => (q : Int)) ((show D13 2 = D 2 from (eD13 2).trans (hD13 1 rfl))).symm))
  have pf13_0_9 : HID (F13 0 9 = (D13 5 : Int)) := ((show F13 0 9 = F 0 9 from (eF13 0 9))).trans ((pf5).trans (congrArg (fun q : Nat => (q : Int)) ((show D13 5 = D 5 from (eD13 5).trans (hD13 0 rfl))).symm))
  have pf13_1_0 : HID (F13 1 0 = (D13 4 : Int)) := ((show F13 1 0 = F 1 0 from (eF13 1 0).trans (hS13 2 0 rfl))).trans ((pf4).trans (congrArg (fun q : Nat => (q : Int)) ((show D13 4 = D 4 from (eD13 4).trans (hD13 4 rfl))).symm))
  have pf13_2_0 : HID (F13 2 0 = (D13 3 : Int)) := (eF13 2 0).trans (pm13_3.trans (congrArg (fun q : Nat => (q : Int)) (eD13 3).symm))
  have pf13_5_0 : HID (F13 5 0 = (D13 6 : Int)) := ((show F13 5 0 = F 5 0 from (eF13 5 0).trans (hS13 0 0 rfl))).trans ((pf6).trans (congrArg (fun q : Nat => (q : Int)) ((show D13 6 = D 6 from (eD13 6).trans (hD13 8 rfl))).symm))
  have pf13_5_1 : HID (F13 5 1 = (D13 7 : Int)) := ((show F13 5 1 = F 5 1 from (eF13 5 1).trans (hS13 0 1 rfl))).trans ((pf7).trans (congrArg (fun q : Nat => (q : Int)) ((show D13 7 = D 7 from (eD13 7).trans (hD13 5 rfl))).symm))
  have pf13_7_0 : HID (F13 7 0 = (D13 8 : Int)) := ((show F13 7 0 = F 7 0 from (eF13 7 0).trans (hS13 5 0 rfl))).trans ((pf8).trans (congrArg (fun q : Nat => (q : Int)) ((show D13 8 = D 8 from (eD13 8).trans (hD13 6 rfl))).symm))
  have pf13_7_1 : HID (F13 7 1 = (D13 12 : Int)) := (eF13 7 1).trans (pm13_11.trans (congrArg (fun q : Nat => (q : Int)) (eD13 12).symm))
  have pf13_7_2 : HID (F13 7 2 = (D13 13 : Int)) := (eF13 7 2).trans (pm13_12.trans (congrArg (fun q : Nat => (q : Int)) (eD13 13).symm))
  have pf13_7_3 : HID (F13 7 3 = (D13 14 : Int)) := (eF13 7 3).trans (pm13_13.trans (congrArg (fun q : Nat => (q : Int)) (eD13 14).symm))
  have pf13_7_7 : HID (F13 7 7 = (D13 10 : Int)) := (eF13 7 7).trans (pm13_9.trans (congrArg (fun q : Nat => (q : Int)) (eD13 10).symm))
  have pf13_7_8 : HID (F13 7 8 = (D13 11 : Int)) := (eF13 7 8).trans (pm13_10.trans (congrArg (fun q : Nat => (q : Int)) (eD13 11).symm))
  have pf13_8_0 : HID (F13 8 0 = (D13 9 : Int)) := (eF13 8 0).trans (pm13_7.trans (congrArg (fun q : Nat => (q : Int)) (eD13 9).symm))
  have r14 : HID ((0 : Int) ≤ m13_3 ∧ m13_3 ≤ 1000000) := nrng (H.nle 3 (by decide)) (show (N13 3 : Int) = m13_3 from (congrArg (fun q : Nat => (q : Int)) (eN13 3)).trans em13_3)
  have r15 : HID ((0 : Int) ≤ m13_7 ∧ m13_7 ≤ 1000000) := nrng (H.nle 9 (by decide)) (show (N13 9 : Int) = m13_7 from (congrArg (fun q : Nat => (q : Int)) (eN13 9)).trans em13_7)
  have r16 : HID ((0 : Int) ≤ m13_9 ∧ m13_9 ≤ 1000000) := nrng (H.nle 10 (by decide)) (show (N13 10 : Int) = m13_9 from (congrArg (fun q : Nat => (q : Int)) (eN13 10)).trans em13_9)
  have r17 : HID ((0 : Int) ≤ m13_10 ∧ m13_10 ≤ 1000000) := nrng (H.nle 11 (by decide)) (show (N13 11 : Int) = m13_10 from (congrArg (fun q : Nat => (q : Int)) (eN13 11)).trans em13_10)
  have r18 : HID ((0 : Int) ≤ m13_11 ∧ m13_11 ≤ 1000000) := nrng (H.nle 12 (by decide)) (show (N13 12 : Int) = m13_11 from (congrArg (fun q : Nat => (q : Int)) (eN13 12)).trans em13_11)
  have r19 : HID ((0 : Int) ≤ m13_12 ∧ m13_12 ≤ 1000000) := nrng (H.nle 13 (by decide)) (show (N13 13 : Int) = m13_12 from (congrArg (fun q : Nat => (q : Int)) (eN13 13)).trans em13_12)
  have r20 : HID ((0 : Int) ≤ m13_13 ∧ m13_13 ≤ 1000000) := nrng (H.nle 14 (by decide)) (show (N13 14 : Int) = m13_13 from (congrArg (fun q : Nat => (q : Int)) (eN13 14)).trans em13_13)
  have r21 : HID ((-2147483648 : Int) ≤ y13_1_1 ∧ y13_1_1 ≤ 2147483647) := krg_e (show (-2147483648 : Int) ≤ F13 2 1 ∧ F13 2 1 ≤ 2147483647 from H.krg 2 1 (by decide)) (show F13 2 1 = y13_1_1 from ((eF13 2 1).trans ey13_1_1))
  have r22 : HID ((-2147483648 : Int) ≤ y13_6_1 ∧ y13_6_1 ≤ 2147483647) := krg_e (show (-2147483648 : Int) ≤ F13 8 1 ∧ F13 8 1 ≤ 2147483647 from H.krg 8 1 (by decide)) (show F13 8 1 = y13_6_1 from ((eF13 8 1).trans ey13_6_1))
  refine Ew_of (pcₚ := 199) (fun _ => x_goto rfl rfl) ?_
  refine Ew_of (pcₚ := 201) (fun _ => x_iload rfl hl5) ?_
  refine w_ifeq (t := 214) rfl rfl (show inr (1) by omega) (fun b23 => ?_) (fun b23 => ?_)
  · exact absurd b23 (by omega)
  · refine Ew_of (pcₚ := 205) (fun _ => x_aload_n rfl hl0) ?_
    refine Ew_stk (show ([.ref (D 0)] : List Value) = [.ref (D13 0)] by rw [show D13 0 = D 0 from ((show D13 0 = D 0 from (eD13 0)))]) ?_
    refine v_g H (o := 0) (v := .ref (D13 2)) rfl rfl rfl rfl rfl (vrf (pf13_0_5)) ?_
    have r24 : HID ((0 : Int) ≤ F13 2 2 ∧ F13 2 2 ≤ 1) := krg_e (show (0 : Int) ≤ F13 2 2 ∧ F13 2 2 ≤ 1 from H.krg 2 2 (by decide)) (show F13 2 2 = F13 2 2 from rfl)
    refine v_g H (o := 2) (v := I (F13 2 2)) rfl rfl rfl rfl rfl (congrArg (fun z : Int => I z) (rfl : F13 2 2 = F13 2 2)) ?_
    refine w_ifeq (t := 216) rfl rfl (show inr (F13 2 2) by have qh0 := HIDe r24; omega) (fun b25 => ?_) (fun b25 => ?_)
    · refine Ew_of (pcₚ := 217) (fun _ => x_iload_n rfl hl3) ?_
      refine Ew_of (pcₚ := 218) (fun _ => x_iconst rfl) ?_
      refine w_icmpeq (t := 277) rfl rfl (show inr (2) by omega) (show inr (5) by omega) (fun b26 => ?_) (fun b26 => ?_)
      · exact absurd b26 (by omega)
      · refine Ew_of (pcₚ := 222) (fun _ => x_aload_n rfl hl0) ?_
        refine Ew_of (pcₚ := 223) (fun _ => x_aload_n rfl hl0) ?_
        refine Ew_stk (show ([.ref (D 0), .ref (D 0)] : List Value) = [.ref (D13 0), .ref (D13 0)] by rw [show D13 0 = D 0 from ((show D13 0 = D 0 from (eD13 0)))]) ?_
        refine v_g H (o := 0) (v := .ref (D13 2)) rfl rfl rfl rfl rfl (vrf (pf13_0_5)) ?_
        refine Ew_of (pcₚ := 227) (fun _ => x_iload_n rfl hl3) ?_
        refine Ew_of (pcₚ := 229) (fun _ => x_aload rfl hl4) ?_
        refine Ew_stk (show ([.ref (D 1), I (2), .ref (D13 2), .ref (D13 0)] : List Value) = [.ref (D13 1), I (2), .ref (D13 2), .ref (D13 0)] by rw [show D13 1 = D 1 from ((show D13 1 = D 1 from (eD13 1).trans (hD13 2 rfl)))]) ?_
        refine v_g H (o := 1) (v := I (u1_1)) rfl rfl rfl rfl rfl (congrArg (fun z : Int => I z) ((((show F13 1 1 = F 1 1 from (eF13 1 1).trans (hS13 2 1 rfl))).trans (eu1_1)) : F13 1 1 = u1_1)) ?_
        refine Ew_of (pcₚ := 233) (fun _ => x_aload_n rfl hl0) ?_
        refine Ew_stk (show ([.ref (D 0), I (u1_1), I (2), .ref (D13 2), .ref (D13 0)] : List Value) = [.ref (D13 0), I (u1_1), I (2), .ref (D13 2), .ref (D13 0)] by rw [show D13 0 = D 0 from ((show D13 0 = D 0 from (eD13 0)))]) ?_
        refine v_g H (o := 0) (v := .ref (D13 15)) rfl rfl rfl rfl rfl (vrf (pf13_0_15)) ?_
        exact hc236 (2) (u1_1) _ _ _ _ _ _ _ _  ((hl0).trans (congrArg (fun q : Nat => some (Value.ref q)) (((show D13 0 = D 0 from (eD13 0)))).symm)) (hl1) (hl3) ((hl4).trans (congrArg (fun q : Nat => some (Value.ref q)) (((show D13 1 = D 1 from (eD13 1).trans (hD13 2 rfl)))).symm)) H O (SD_trans (SD_refl) (SD_glu (ι := [5, 2, 1, 3, 4, 7, 8, 9, 6, 10, 11, 12, 13, 14]) hD13 eD13 (by decide +kernel)) (any_subA (lₚ := [3, 9, 10, 11, 12, 13, 14]) rfl)) (SD_trans (SD_refl) (SD_glu (ι := [5, 2, 1, 3, 4, 7, 8, 9, 6, 10, 11, 12, 13, 14]) hN13 eN13 (by decide +kernel)) (any_subA (lₚ := [3, 9, 10, 11, 12, 13, 14]) rfl)) (SF_trans (SF_refl) (SF_glu (ι := [5, 2, 1, 3, 4, 7, 8, 9, 6, 10, 11, 12, 13, 14]) hS13 eF13 (by decide +kernel)) (any_sub (lₚ := [(2, 0), (2, 1), (2, 2), (7, 1), (7, 2), (7, 3), (7, 4), (7, 5), (7, 6), (7, 7), (7, 8), (7, 9), (7, 10), (7, 11), (7, 12), (7, 13), (7, 14), (7, 15), (7, 16), (7, 17), (7, 18), (8, 0), (8, 1), (8, 2), (8, 3), (8, 4)]) rfl)) (SA_trans (SA_refl) (SA_glu (ι := [5, 2, 1, 3, 4, 7, 8, 9, 6, 10, 11, 12, 13, 14]) hA13 eA13 (by decide +kernel)) (any_subA (lₚ := [3, 9, 10, 11, 12, 13, 14]) rfl)) (pf13_2_0) (pf13_8_0) (pf13_7_7) (pf13_7_8) (pf13_7_1) (pf13_7_2) (pf13_7_3) (m13_3) ((congrArg (fun q : Nat => (q : Int)) (eN13 3)).trans em13_3) (m13_7) ((congrArg (fun q : Nat => (q : Int)) (eN13 9)).trans em13_7) (m13_9) ((congrArg (fun q : Nat => (q : Int)) (eN13 10)).trans em13_9) (m13_10) ((congrArg (fun q : Nat => (q : Int)) (eN13 11)).trans em13_10) (m13_11) ((congrArg (fun q : Nat => (q : Int)) (eN13 12)).trans em13_11) (m13_12) ((congrArg (fun q : Nat => (q : Int)) (eN13 13)).trans em13_12) (m13_13) ((congrArg (fun q : Nat => (q : Int)) (eN13 14)).trans em13_13) (y13_1_1) (((eF13 2 1).trans ey13_1_1)) (y13_6_1) (((eF13 8 1).trans ey13_6_1))  (show inr (2) by omega) (show inr (u1_1) by have qh0 := HIDe r1; omega) (show 0 ≤ (y13_1_1) ∧ (y13_1_1) ≤ (m13_3) ∧ (m13_3) ≤ 65536 by have qh0 := HIDe r14; have qh1 := HIDe r21; omega) (show 0 ≤ (y13_6_1) ∧ (y13_6_1) ≤ (m13_7) ∧ (m13_7) ≤ 65536 by have qh0 := HIDe r15; have qh1 := HIDe r22; omega) (show (m13_9) = 0 ∨ (m13_9) = 2048 by have qh0 := HIDe r16; omega) (show (m13_10) ≤ 16384 by have qh0 := HIDe r17; omega) (show (m13_11) = (m13_12) ∧ (m13_13) = (m13_12) ∧ (m13_12) ≤ 65536 ∧ ((m13_12) = 0 ∨ 64 ≤ (m13_12)) ∧ lgq ((m13_12)) = 0 by have qh0 := HIDe r18; have qh1 := HIDe r19; have qh2 := HIDe r20; omega) (show (2) = 2 by omega) (show (u1_1) = (u1_1) by have qh0 := HIDe r1; omega)
    · refine Ew_of (pcₚ := 215) (fun _ => x_iconst rfl) ?_
      exact w_ireturn rfl (k ((-1)) _ _ _ _ _ _ _ H O (SD_trans (SD_refl) (SD_glu (ι := [5, 2, 1, 3, 4, 7, 8, 9, 6, 10, 11, 12, 13, 14]) hD13 eD13 (by decide +kernel)) (any_subA (lₚ := [3, 9, 10, 11, 12, 13, 14]) rfl)) (SD_trans (SD_refl) (SD_glu (ι := [5, 2, 1, 3, 4, 7, 8, 9, 6, 10, 11, 12, 13, 14]) hN13 eN13 (by decide +kernel)) (any_subA (lₚ := [3, 9, 10, 11, 12, 13, 14]) rfl)) (SF_trans (SF_refl) (SF_glu (ι := [5, 2, 1, 3, 4, 7, 8, 9, 6, 10, 11, 12, 13, 14]) hS13 eF13 (by decide +kernel)) (any_sub (lₚ := [(2, 0), (2, 1), (2, 2), (7, 1), (7, 2), (7, 3), (7, 4), (7, 5), (7, 6), (7, 7), (7, 8), (7, 9), (7, 10), (7, 11), (7, 12), (7, 13), (7, 14), (7, 15), (7, 16), (7, 17), (7, 18), (8, 0), (8, 1), (8, 2), (8, 3), (8, 4)]) rfl)) (SA_trans (SA_refl) (SA_glu (ι := [5, 2, 1, 3, 4, 7, 8, 9, 6, 10, 11, 12, 13, 14]) hA13 eA13 (by decide +kernel)) (any_subA (lₚ := [3, 9, 10, 11, 12, 13, 14]) rfl)) (pf13_2_0) (pf13_8_0) (pf13_7_7) (pf13_7_8) (pf13_7_1) (pf13_7_2) (pf13_7_3) (m13_3) ((congrArg (fun q : Nat => (q : Int)) (eN13 3)).trans em13_3) (m13_7) ((congrArg (fun q : Nat => (q : Int)) (eN13 9)).trans em13_7) (m13_9) ((congrArg (fun q : Nat => (q : Int)) (eN13 10)).trans em13_9) (m13_10) ((congrArg (fun q : Nat => (q : Int)) (eN13 11)).trans em13_10) (m13_11) ((congrArg (fun q : Nat => (q : Int)) (eN13 12)).trans em13_11) (m13_12) ((congrArg (fun q : Nat => (q : Int)) (eN13 13)).trans em13_12) (m13_13) ((congrArg (fun q : Nat => (q : Int)) (eN13 14)).trans em13_13) (y13_1_1) (((eF13 2 1).trans ey13_1_1)) (y13_6_1) (((eF13 8 1).trans ey13_6_1)) (show inr ((-1)) by omega) (show 0 ≤ (y13_1_1) ∧ (y13_1_1) ≤ (m13_3) ∧ (m13_3) ≤ 65536 by have qh0 := HIDe r14; have qh1 := HIDe r21; omega) (show 0 ≤ (y13_6_1) ∧ (y13_6_1) ≤ (m13_7) ∧ (m13_7) ≤ 65536 by have qh0 := HIDe r15; have qh1 := HIDe r22; omega) (show (m13_9) = 0 ∨ (m13_9) = 2048 by have qh0 := HIDe r16; omega) (show (m13_10) ≤ 16384 by have qh0 := HIDe r17; omega) (show (m13_11) = (m13_12) ∧ (m13_13) = (m13_12) ∧ (m13_12) ≤ 65536 ∧ ((m13_12) = 0 ∨ 64 ≤ (m13_12)) ∧ lgq ((m13_12)) = 0 by have qh0 := HIDe r18; have qh1 := HIDe r19; have qh2 := HIDe r20; omega))
abbrev V17_vd3 : vV := [(0, 0, [(4, 0), (4, 0), (4, 0), (4, 0), (4, 0), (4, 0), (4, 0), (4, 0), (4, 0), (4, 0), (4, 0), (4, 0), (4, 0), (4, 0), (4, 0), (4, 0), (4, 0), (0, 0), (0, 0)]), (0, 7, [(4, 0), (0, 0), (1, 0), (0, 0), (0, 0)]), (0, 7, [(4, 0), (0, 0), (1, 0), (0, 0), (0, 0)]), (1, 0, []), (1, 0, []), (0, 10, [(4, 0), (4, 0), (4, 0), (4, 0), (0, 0), (4, 0), (0, 0), (2, 0), (0, 0)]), (1, 1, []), (0, 5, [(4, 0), (4, 0), (4, 0), (4, 0), (0, 0), (0, 0), (0, 0), (4, 0), (4, 0), (0, 0), (0, 0), (0, 0), (0, 0), (0, 0), (0, 0), (0, 0), (0, 0), (0, 0), (0, 0)]), (0, 7, [(4, 0), (0, 0), (1, 0), (0, 0), (0, 0)]), (1, 0, []), (0, 7, [(4, 0), (0, 0), (1, 0), (0, 0), (0, 0)]), (1, 0, []), (1, 1, []), (1, 1, []), (1, 1, []), (1, 1, []), (1, 1, []), (1, 1, [])]
/-- PackHouse.write: this, @F, this.written, this.written.bytes, @F.bytes, this.tags, this.tags.settings, this.tags.finder, this.tags.finder.data, this.tags.finder.data.bytes, this.tags.packed, this.tags.packed.bytes, this.tags.finder.heads, this.tags.finder.back, this.tags.finder.literals, this.tags.finder.lengths, this.tags.finder.distances, this.checkCounts -/
theorem C17_vd3 {σE : rS} {D N : Nat → Nat} {F : hF} {A : hA} {d c s : Nat} {Q : wQ} (H : HW V17_vd3 σE D N F A) (HT : STC σE) {x1 : Int} (pf2 : F 0 5 = (D 2 : Int)) (pf3 : F 2 0 = (D 3 : Int)) (pf4 : F 1 0 = (D 4 : Int)) (pf5 : F 0 9 = (D 5 : Int)) (pf6 : F 5 0 = (D 6 : Int)) (pf7 : F 5 1 = (D 7 : Int)) (pf8 : F 7 0 = (D 8 : Int)) (pf9 : F 8 0 = (D 9 : Int)) (pf10 : F 5 2 = (D 10 : Int)) (pf11 : F 10 0 = (D 11 : Int)) (pf12 : F 7 7 = (D 12 : Int)) (pf13 : F 7 8 = (D 13 : Int)) (pf14 : F 7 1 = (D 14 : Int)) (pf15 : F 7 2 = (D 15 : Int)) (pf16 : F 7 3 = (D 16 : Int)) (pf17 : F 0 15 = (D 17 : Int)) (n3 : Int) (en3 : (N 3 : Int) = n3) (n4 : Int) (en4 : (N 4 : Int) = n4) (n6 : Int) (en6 : (N 6 : Int) = n6) (n9 : Int) (en9 : (N 9 : Int) = n9) (n11 : Int) (en11 : (N 11 : Int) = n11) (n12 : Int) (en12 : (N 12 : Int) = n12) (n13 : Int) (en13 : (N 13 : Int) = n13) (n14 : Int) (en14 : (N 14 : Int) = n14) (n15 : Int) (en15 : (N 15 : Int) = n15) (n16 : Int) (en16 : (N 16 : Int) = n16) (n17 : Int) (en17 : (N 17 : Int) = n17) (u1_1 : Int) (eu1_1 : F 1 1 = u1_1) (u2_1 : Int) (eu2_1 : F 2 1 = u2_1) (u8_1 : Int) (eu8_1 : F 8 1 = u8_1) (u10_1 : Int) (eu10_1 : F 10 1 = u10_1) (w6 : Int → Int) (ew6 : A 6 = w6) {ls : rO} (hl0 : rlook ls 0 = some (.ref (D 0))) (hl1 : rlook ls 1 = some (I (x1))) (hl3 : rlook ls 3 = some (I (3))) (hl4 : rlook ls 4 = some (.ref (D 1))) (hl5 : rlook ls 5 = some (I (1))) (h0 : inr (x1)) (h1 : 0 ≤ (u2_1) ∧ (u2_1) ≤ (n3) ∧ (n3) ≤ 65536) (h2 : (u2_1) = 0) (h3 : 0 ≤ (u1_1) ∧ (u1_1) ≤ (n4) ∧ (n4) ≤ 65536) (h4 : (n6) = 10) (h5 : (u1_1) ≤ 16384) (h6 : 0 ≤ (u8_1) ∧ (u8_1) ≤ (n9) ∧ (n9) ≤ 65536) (h7 : 0 ≤ (u10_1) ∧ (u10_1) ≤ (n11) ∧ (n11) ≤ 65536) (h8 : (n12) = 0 ∨ (n12) = 2048) (h9 : (n13) ≤ 16384) (h10 : (n14) = (n15) ∧ (n16) = (n15) ∧ (n15) ≤ 65536 ∧ ((n15) = 0 ∨ 64 ≤ (n15)) ∧ lgq ((n15)) = 0) (h11 : 1 ≤ ((w6)) 2 ∧ ((w6)) 2 ≤ 65536) (hc236 : ∀ (tc236_2 : Int), ∀ (tc236_3 : Int), ∀ (ls : rO) (σ : rS) (D_c236 N_c236 : Nat → Nat) (c_c236 s_c236 : Nat) (F_c236 : hF) (A_c236 : hA) , rlook ls 0 = some (.ref (D_c236 0)) → rlook ls 1 = some (I (x1)) → rlook ls 3 = some (I (3)) → rlook ls 4 = some (.ref (D_c236 1)) → HW V17_vd3 σ D_c236 N_c236 F_c236 A_c236 → OUT (V17_vd3).length D N σE c s D_c236 N_c236 σ c_c236 s_c236 → SD [3, 9, 11, 12, 13, 14, 15, 16] D D_c236 → SD [3, 9, 11, 12, 13, 14, 15, 16] N N_c236 → SF [(2, 0), (2, 1), (2, 2), (7, 1), (7, 2), (7, 3), (7, 4), (7, 5), (7, 6), (7, 7), (7, 8), (7, 9), (7, 10), (7, 11), (7, 12), (7, 13), (7, 14), (7, 15), (7, 16), (7, 17), (7, 18), (8, 0), (8, 1), (8, 2), (8, 3), (8, 4), (10, 0), (10, 1), (10, 2), (10, 3), (10, 4)] F F_c236 → SA [3, 9, 11, 12, 13, 14, 15, 16] A A_c236 → F_c236 2 0 = (D_c236 3 : Int) → F_c236 8 0 = (D_c236 9 : Int) → F_c236 10 0 = (D_c236 11 : Int) → F_c236 7 7 = (D_c236 12 : Int) → F_c236 7 8 = (D_c236 13 : Int) → F_c236 7 1 = (D_c236 14 : Int) → F_c236 7 2 = (D_c236 15 : Int) → F_c236 7 3 = (D_c236 16 : Int) → ∀ mc236_3 : Int, (N_c236 3 : Int) = mc236_3 → ∀ mc236_9 : Int, (N_c236 9 : Int) = mc236_9 → ∀ mc236_11 : Int, (N_c236 11 : Int) = mc236_11 → ∀ mc236_12 : Int, (N_c236 12 : Int) = mc236_12 → ∀ mc236_13 : Int, (N_c236 13 : Int) = mc236_13 → ∀ mc236_14 : Int, (N_c236 14 : Int) = mc236_14 → ∀ mc236_15 : Int, (N_c236 15 : Int) = mc236_15 → ∀ mc236_16 : Int, (N_c236 16 : Int) = mc236_16 → ∀ yc236_2_1 : Int, F_c236 2 1 = yc236_2_1 → ∀ yc236_8_1 : Int, F_c236 8 1 = yc236_8_1 → ∀ yc236_10_1 : Int, F_c236 10 1 = yc236_10_1 → (inr (tc236_2)) → (inr (tc236_3)) → (0 ≤ (yc236_2_1) ∧ (yc236_2_1) ≤ (mc236_3) ∧ (mc236_3) ≤ 65536) → (0 ≤ (yc236_8_1) ∧ (yc236_8_1) ≤ (mc236_9) ∧ (mc236_9) ≤ 65536) → (0 ≤ (yc236_10_1) ∧ (yc236_10_1) ≤ (mc236_11) ∧ (mc236_11) ≤ 65536) → ((mc236_12) = 0 ∨ (mc236_12) = 2048) → ((mc236_13) ≤ 16384) → ((mc236_14) = (mc236_15) ∧ (mc236_16) = (mc236_15) ∧ (mc236_15) ≤ 65536 ∧ ((mc236_15) = 0 ∨ 64 ≤ (mc236_15)) ∧ lgq ((mc236_15)) = 0) → ((tc236_2) = 3) → ((tc236_3) = (u1_1)) → Ew 17 (d + 6) 236 ls [.ref (D_c236 17), I (tc236_3), I (tc236_2), .ref (D_c236 2), .ref (D_c236 0)] σ c_c236 s_c236 Q) (k : ∀ (z : Int) (σ : rS) (Dₚ Nₚ : Nat → Nat) (Fₚ : hF) (Aₚ : hA) (cₚ sₚ : Nat), HW V17_vd3 σ Dₚ Nₚ Fₚ Aₚ → OUT (V17_vd3).length D N σE c s Dₚ Nₚ σ cₚ sₚ → SD [3, 9, 11, 12, 13, 14, 15, 16] D Dₚ → SD [3, 9, 11, 12, 13, 14, 15, 16] N Nₚ → SF [(2, 0), (2, 1), (2, 2), (7, 1), (7, 2), (7, 3), (7, 4), (7, 5), (7, 6), (7, 7), (7, 8), (7, 9), (7, 10), (7, 11), (7, 12), (7, 13), (7, 14), (7, 15), (7, 16), (7, 17), (7, 18), (8, 0), (8, 1), (8, 2), (8, 3), (8, 4), (10, 0), (10, 1), (10, 2), (10, 3), (10, 4)] F Fₚ → SA [3, 9, 11, 12, 13, 14, 15, 16] A Aₚ → Fₚ 2 0 = (Dₚ 3 : Int) → Fₚ 8 0 = (Dₚ 9 : Int) → Fₚ 10 0 = (Dₚ 11 : Int) → Fₚ 7 7 = (Dₚ 12 : Int) → Fₚ 7 8 = (Dₚ 13 : Int) → Fₚ 7 1 = (Dₚ 14 : Int) → Fₚ 7 2 = (Dₚ 15 : Int) → Fₚ 7 3 = (Dₚ 16 : Int) → ∀ m3 : Int, (Nₚ 3 : Int) = m3 → ∀ m9 : Int, (Nₚ 9 : Int) = m9 → ∀ m11 : Int, (Nₚ 11 : Int) = m11 → ∀ m12 : Int, (Nₚ 12 : Int) = m12 → ∀ m13 : Int, (Nₚ 13 : Int) = m13 → ∀ m14 : Int, (Nₚ 14 : Int) = m14 → ∀ m15 : Int, (Nₚ 15 : Int) = m15 → ∀ m16 : Int, (Nₚ 16 : Int) = m16 → ∀ y2_1 : Int, Fₚ 2 1 = y2_1 → ∀ y8_1 : Int, Fₚ 8 1 = y8_1 → ∀ y10_1 : Int, Fₚ 10 1 = y10_1 → (inr (z)) → (0 ≤ (y2_1) ∧ (y2_1) ≤ (m3) ∧ (m3) ≤ 65536) → (0 ≤ (y8_1) ∧ (y8_1) ≤ (m9) ∧ (m9) ≤ 65536) → (0 ≤ (y10_1) ∧ (y10_1) ≤ (m11) ∧ (m11) ≤ 65536) → ((m12) = 0 ∨ (m12) = 2048) → ((m13) ≤ 16384) → ((m14) = (m15) ∧ (m16) = (m15) ∧ (m15) ≤ 65536 ∧ ((m15) = 0 ∨ 64 ≤ (m15)) ∧ lgq ((m15)) = 0) → Q (some (I z)) σ cₚ sₚ) : Ew 17 (d + 6) 152 ls [.ref (D 5)] σE c s Q := by
  have O := OUT_refl (n := (V17_vd3).length) (D := D) (N := N) (σ := σE) (c := c) (s := s)
  have HE := H
  have r1 : HID ((-2147483648 : Int) ≤ u1_1 ∧ u1_1 ≤ 2147483647) := krg_e (show (-2147483648 : Int) ≤ F 1 1 ∧ F 1 1 ≤ 2147483647 from H.krg 1 1 (by decide)) (show F 1 1 = u1_1 from (eu1_1))
  have r2 : HID ((-2147483648 : Int) ≤ u2_1 ∧ u2_1 ≤ 2147483647) := krg_e (show (-2147483648 : Int) ≤ F 2 1 ∧ F 2 1 ≤ 2147483647 from H.krg 2 1 (by decide)) (show F 2 1 = u2_1 from (eu2_1))
  have r3 : HID ((-2147483648 : Int) ≤ u8_1 ∧ u8_1 ≤ 2147483647) := krg_e (show (-2147483648 : Int) ≤ F 8 1 ∧ F 8 1 ≤ 2147483647 from H.krg 8 1 (by decide)) (show F 8 1 = u8_1 from (eu8_1))
  have r4 : HID ((-2147483648 : Int) ≤ u10_1 ∧ u10_1 ≤ 2147483647) := krg_e (show (-2147483648 : Int) ≤ F 10 1 ∧ F 10 1 ≤ 2147483647 from H.krg 10 1 (by decide)) (show F 10 1 = u10_1 from (eu10_1))
  replace pf2 := HIDm pf2
  replace pf3 := HIDm pf3
  replace pf4 := HIDm pf4
  replace pf5 := HIDm pf5
  replace pf6 := HIDm pf6
  replace pf7 := HIDm pf7
  replace pf8 := HIDm pf8
  replace pf9 := HIDm pf9
  replace pf10 := HIDm pf10
  replace pf11 := HIDm pf11
  replace pf12 := HIDm pf12
  replace pf13 := HIDm pf13
  replace pf14 := HIDm pf14
  replace pf15 := HIDm pf15
  replace pf16 := HIDm pf16
  replace pf17 := HIDm pf17
  replace en3 := HIDm en3
  replace en4 := HIDm en4
  replace en6 := HIDm en6
  replace en9 := HIDm en9
  replace en11 := HIDm en11
  replace en12 := HIDm en12
  replace en13 := HIDm en13
  replace en14 := HIDm en14
  replace en15 := HIDm en15
  replace en16 := HIDm en16
  replace en17 := HIDm en17
  replace eu1_1 := HIDm eu1_1
  replace eu2_1 := HIDm eu2_1
  replace eu8_1 := HIDm eu8_1
  replace eu10_1 := HIDm eu10_1
  have r5 : HID ((0 : Int) ≤ n3 ∧ n3 ≤ 1000000) := nrng (H.nle 3 (by decide)) (show (N 3 : Int) = n3 from en3)
  have r6 : HID ((0 : Int) ≤ n4 ∧ n4 ≤ 1000000) := nrng (H.nle 4 (by decide)) (show (N 4 : Int) = n4 from en4)
  have r7 : HID ((0 : Int) ≤ n6 ∧ n6 ≤ 1000000) := nrng (H.nle 6 (by decide)) (show (N 6 : Int) = n6 from en6)
  have r8 : HID ((0 : Int) ≤ n9 ∧ n9 ≤ 1000000) := nrng (H.nle 9 (by decide)) (show (N 9 : Int) = n9 from en9)
  have r9 : HID ((0 : Int) ≤ n11 ∧ n11 ≤ 1000000) := nrng (H.nle 11 (by decide)) (show (N 11 : Int) = n11 from en11)
  have r10 : HID ((0 : Int) ≤ n12 ∧ n12 ≤ 1000000) := nrng (H.nle 12 (by decide)) (show (N 12 : Int) = n12 from en12)
  have r11 : HID ((0 : Int) ≤ n13 ∧ n13 ≤ 1000000) := nrng (H.nle 13 (by decide)) (show (N 13 : Int) = n13 from en13)
  have r12 : HID ((0 : Int) ≤ n14 ∧ n14 ≤ 1000000) := nrng (H.nle 14 (by decide)) (show (N 14 : Int) = n14 from en14)
  have r13 : HID ((0 : Int) ≤ n15 ∧ n15 ≤ 1000000) := nrng (H.nle 15 (by decide)) (show (N 15 : Int) = n15 from en15)
  have r14 : HID ((0 : Int) ≤ n16 ∧ n16 ≤ 1000000) := nrng (H.nle 16 (by decide)) (show (N 16 : Int) = n16 from en16)
  refine Ew_of (pcₚ := 153) (fun _ => x_aload_n rfl hl0) ?_
  refine v_g H (o := 0) (v := .ref (D 2)) rfl rfl rfl rfl rfl (vrf (pf2)) ?_
  refine Ew_of (pcₚ := 158) (fun _ => x_aload rfl hl4) ?_
  refine v_inv H (o := 5) rfl rfl rfl rfl rfl rfl (by rfl) (C201_Row_Row (D := pul [5, 2, 1, 3, 4, 7, 8, 9, 10, 11, 6, 12, 13, 14, 15, 16] D) (N := pul [5, 2, 1, 3, 4, 7, 8, 9, 10, 11, 6, 12, 13, 14, 15, 16] N) (HW_sub H (VS_of (show vsub V17_vd3 V201_Row_Row [5, 2, 1, 3, 4, 7, 8, 9, 10, 11, 6, 12, 13, 14, 15, 16] = true by decide +kernel))) (STC_out HT HE O) (pf3) (pf4) (pf7) (pf8) (pf9) (pf10) (pf11) (pf6) (pf12) (pf13) (pf14) (pf15) (pf16) (n3) (en3) (n4) (en4) (n9) (en9) (n11) (en11) (n6) (en6) (n12) (en12) (n13) (en13) (n14) (en14) (n15) (en15) (n16) (en16) (u2_1) ((eu2_1)) (u1_1) ((eu1_1)) (u8_1) ((eu8_1)) (u10_1) ((eu10_1)) (w6) (ew6) (show 0 ≤ (u2_1) ∧ (u2_1) ≤ (n3) ∧ (n3) ≤ 65536 by have qh0 := HIDe r2; have qh1 := HIDe r5; omega) (show 0 ≤ (u1_1) ∧ (u1_1) ≤ (n4) ∧ (n4) ≤ 65536 by have qh0 := HIDe r1; have qh1 := HIDe r6; omega) (show 0 ≤ (u8_1) ∧ (u8_1) ≤ (n9) ∧ (n9) ≤ 65536 by have qh0 := HIDe r3; have qh1 := HIDe r8; omega) (show 0 ≤ (u10_1) ∧ (u10_1) ≤ (n11) ∧ (n11) ≤ 65536 by have qh0 := HIDe r4; have qh1 := HIDe r9; omega) (show (n6) = 10 by have qh0 := HIDe r7; omega) (show (u1_1) ≤ 16384 by have qh0 := HIDe r1; omega) (show 1 ≤ ((w6)) 2 ∧ ((w6)) 2 ≤ 65536 by omega) (show (n12) = 0 ∨ (n12) = 2048 by have qh0 := HIDe r10; omega) (show (n13) ≤ 16384 by have qh0 := HIDe r11; omega) (show (n14) = (n15) ∧ (n16) = (n15) ∧ (n15) ≤ 65536 ∧ ((n15) = 0 ∨ 64 ≤ (n15)) ∧ lgq ((n15)) = 0 by have qh0 := HIDe r12; have qh1 := HIDe r13; have qh2 := HIDe r14; omega) (fun σ15 D15ₚ N15ₚ F15ₚ A15ₚ c15 s15 Hₚ Oₚ hD15 hN15 hS15 hA15 pm15_3 pm15_7 pm15_9 pm15_11 pm15_12 pm15_13 pm15_14 pm15_15 m15_3 em15_3 m15_7 em15_7 m15_9 em15_9 m15_11 em15_11 m15_12 em15_12 m15_13 em15_13 m15_14 em15_14 m15_15 em15_15 y15_1_1 ey15_1_1 y15_6_1 ey15_6_1 y15_8_1 ey15_8_1 pz15_0 pz15_1 pz15_2 pz15_3 pz15_4 pz15_5 => ⟨rfl, ?_⟩))
  replace pm15_3 := HIDm pm15_3
  replace pm15_7 := HIDm pm15_7
  replace pm15_9 := HIDm pm15_9
  replace pm15_11 := HIDm pm15_11
  replace pm15_12 := HIDm pm15_12
  replace pm15_13 := HIDm pm15_13
  replace pm15_14 := HIDm pm15_14
  replace pm15_15 := HIDm pm15_15
  replace em15_3 := HIDm em15_3
  replace em15_7 := HIDm em15_7
  replace em15_9 := HIDm em15_9
  replace em15_11 := HIDm em15_11
  replace em15_12 := HIDm em15_12
  replace em15_13 := HIDm em15_13
  replace em15_14 := HIDm em15_14
  replace em15_15 := HIDm em15_15
  replace ey15_1_1 := HIDm ey15_1_1
  replace ey15_6_1 := HIDm ey15_6_1
  replace ey15_8_1 := HIDm ey15_8_1
  refine v_backM (c := c) (s := s) H (show vsub V17_vd3 V201_Row_Row [5, 2, 1, 3, 4, 7, 8, 9, 10, 11, 6, 12, 13, 14, 15, 16] = true by decide +kernel) Hₚ Oₚ hD15 (show vmov V17_vd3 [5, 2, 1, 3, 4, 7, 8, 9, 10, 11, 6, 12, 13, 14, 15, 16] [3, 7, 9, 11, 12, 13, 14, 15] = true by decide +kernel) (fun D15 N15 F15 A15 H Oₚ eD15 eN15 eF15 eA15 => ?_)
  have O := OUT_trans O Oₚ
  -- Tags.packStream
  have pf15_0_15 : HID (F15 0 15 = (D15 17 : Int)) := ((show F15 0 15 = F 0 15 from (eF15 0 15))).trans ((pf17).trans (congrArg (fun q : Nat => (q : Int)) ((show D15 17 = D 17 from (eD15 17))).symm))
  have pf15_0_5 : HID (F15 0 5 = (D15 2 : Int)) := ((show F15 0 5 = F 0 5 from (eF15 0 5))).trans ((pf2).trans (congrArg (fun q : Nat => (q : Int)) ((show D15 2 = D 2 from (eD15 2).trans (hD15 1 rfl))).symm))
  have pf15_0_9 : HID (F15 0 9 = (D15 5 : Int)) := ((show F15 0 9 = F 0 9 from (eF15 0 9))).trans ((pf5).trans (congrArg (fun q : Nat => (q : Int)) ((show D15 5 = D 5 from (eD15 5).trans (hD15 0 rfl))).symm))
  have pf15_1_0 : HID (F15 1 0 = (D15 4 : Int)) := ((show F15 1 0 = F 1 0 from (eF15 1 0).trans (hS15 2 0 rfl))).trans ((pf4).trans (congrArg (fun q : Nat => (q : Int)) ((show D15 4 = D 4 from (eD15 4).trans (hD15 4 rfl))).symm))
  have pf15_10_0 : HID (F15 10 0 = (D15 11 : Int)) := (eF15 10 0).trans (pm15_9.trans (congrArg (fun q : Nat => (q : Int)) (eD15 11).symm))
  have pf15_2_0 : HID (F15 2 0 = (D15 3 : Int)) := (eF15 2 0).trans (pm15_3.trans (congrArg (fun q : Nat => (q : Int)) (eD15 3).symm))
  have pf15_5_0 : HID (F15 5 0 = (D15 6 : Int)) := ((show F15 5 0 = F 5 0 from (eF15 5 0).trans (hS15 0 0 rfl))).trans ((pf6).trans (congrArg (fun q : Nat => (q : Int)) ((show D15 6 = D 6 from (eD15 6).trans (hD15 10 rfl))).symm))
  have pf15_5_1 : HID (F15 5 1 = (D15 7 : Int)) := ((show F15 5 1 = F 5 1 from (eF15 5 1).trans (hS15 0 1 rfl))).trans ((pf7).trans (congrArg (fun q : Nat => (q : Int)) ((show D15 7 = D 7 from (eD15 7).trans (hD15 5 rfl))).symm))
  have pf15_5_2 : HID (F15 5 2 = (D15 10 : Int)) := ((show F15 5 2 = F 5 2 from (eF15 5 2).trans (hS15 0 2 rfl))).trans ((pf10).trans (congrArg (fun q : Nat => (q : Int)) ((show D15 10 = D 10 from (eD15 10).trans (hD15 8 rfl))).symm))
  have pf15_7_0 : HID (F15 7 0 = (D15 8 : Int)) := ((show F15 7 0 = F 7 0 from (eF15 7 0).trans (hS15 5 0 rfl))).trans ((pf8).trans (congrArg (fun q : Nat => (q : Int)) ((show D15 8 = D 8 from (eD15 8).trans (hD15 6 rfl))).symm))
  have pf15_7_1 : HID (F15 7 1 = (D15 14 : Int)) := (eF15 7 1).trans (pm15_13.trans (congrArg (fun q : Nat => (q : Int)) (eD15 14).symm))
  have pf15_7_2 : HID (F15 7 2 = (D15 15 : Int)) := (eF15 7 2).trans (pm15_14.trans (congrArg (fun q : Nat => (q : Int)) (eD15 15).symm))
  have pf15_7_3 : HID (F15 7 3 = (D15 16 : Int)) := (eF15 7 3).trans (pm15_15.trans (congrArg (fun q : Nat => (q : Int)) (eD15 16).symm))
  have pf15_7_7 : HID (F15 7 7 = (D15 12 : Int)) := (eF15 7 7).trans (pm15_11.trans (congrArg (fun q : Nat => (q : Int)) (eD15 12).symm))
  have pf15_7_8 : HID (F15 7 8 = (D15 13 : Int)) := (eF15 7 8).trans (pm15_12.trans (congrArg (fun q : Nat => (q : Int)) (eD15 13).symm))
  have pf15_8_0 : HID (F15 8 0 = (D15 9 : Int)) := (eF15 8 0).trans (pm15_7.trans (congrArg (fun q : Nat => (q : Int)) (eD15 9).symm))
  have r16 : HID ((0 : Int) ≤ m15_3 ∧ m15_3 ≤ 1000000) := nrng (H.nle 3 (by decide)) (show (N15 3 : Int) = m15_3 from (congrArg (fun q : Nat => (q : Int)) (eN15 3)).trans em15_3)
  have r17 : HID ((0 : Int) ≤ m15_7 ∧ m15_7 ≤ 1000000) := nrng (H.nle 9 (by decide)) (show (N15 9 : Int) = m15_7 from (congrArg (fun q : Nat => (q : Int)) (eN15 9)).trans em15_7)
  have r18 : HID ((0 : Int) ≤ m15_9 ∧ m15_9 ≤ 1000000) := nrng (H.nle 11 (by decide)) (show (N15 11 : Int) = m15_9 from (congrArg (fun q : Nat => (q : Int)) (eN15 11)).trans em15_9)
  have r19 : HID ((0 : Int) ≤ m15_11 ∧ m15_11 ≤ 1000000) := nrng (H.nle 12 (by decide)) (show (N15 12 : Int) = m15_11 from (congrArg (fun q : Nat => (q : Int)) (eN15 12)).trans em15_11)
  have r20 : HID ((0 : Int) ≤ m15_12 ∧ m15_12 ≤ 1000000) := nrng (H.nle 13 (by decide)) (show (N15 13 : Int) = m15_12 from (congrArg (fun q : Nat => (q : Int)) (eN15 13)).trans em15_12)
  have r21 : HID ((0 : Int) ≤ m15_13 ∧ m15_13 ≤ 1000000) := nrng (H.nle 14 (by decide)) (show (N15 14 : Int) = m15_13 from (congrArg (fun q : Nat => (q : Int)) (eN15 14)).trans em15_13)
  have r22 : HID ((0 : Int) ≤ m15_14 ∧ m15_14 ≤ 1000000) := nrng (H.nle 15 (by decide)) (show (N15 15 : Int) = m15_14 from (congrArg (fun q : Nat => (q : Int)) (eN15 15)).trans em15_14)
  have r23 : HID ((0 : Int) ≤ m15_15 ∧ m15_15 ≤ 1000000) := nrng (H.nle 16 (by decide)) (show (N15 16 : Int) = m15_15 from (congrArg (fun q : Nat => (q : Int)) (eN15 16)).trans em15_15)
  have r24 : HID ((-2147483648 : Int) ≤ y15_1_1 ∧ y15_1_1 ≤ 2147483647) := krg_e (show (-2147483648 : Int) ≤ F15 2 1 ∧ F15 2 1 ≤ 2147483647 from H.krg 2 1 (by decide)) (show F15 2 1 = y15_1_1 from ((eF15 2 1).trans ey15_1_1))
  have r25 : HID ((-2147483648 : Int) ≤ y15_6_1 ∧ y15_6_1 ≤ 2147483647) := krg_e (show (-2147483648 : Int) ≤ F15 8 1 ∧ F15 8 1 ≤ 2147483647 from H.krg 8 1 (by decide)) (show F15 8 1 = y15_6_1 from ((eF15 8 1).trans ey15_6_1))
  have r26 : HID ((-2147483648 : Int) ≤ y15_8_1 ∧ y15_8_1 ≤ 2147483647) := krg_e (show (-2147483648 : Int) ≤ F15 10 1 ∧ F15 10 1 ≤ 2147483647 from H.krg 10 1 (by decide)) (show F15 10 1 = y15_8_1 from ((eF15 10 1).trans ey15_8_1))
  refine Ew_of (pcₚ := 199) (fun _ => x_goto rfl rfl) ?_
  refine Ew_of (pcₚ := 201) (fun _ => x_iload rfl hl5) ?_
  refine w_ifeq (t := 214) rfl rfl (show inr (1) by omega) (fun b27 => ?_) (fun b27 => ?_)
  · exact absurd b27 (by omega)
  · refine Ew_of (pcₚ := 205) (fun _ => x_aload_n rfl hl0) ?_
    refine Ew_stk (show ([.ref (D 0)] : List Value) = [.ref (D15 0)] by rw [show D15 0 = D 0 from ((show D15 0 = D 0 from (eD15 0)))]) ?_
    refine v_g H (o := 0) (v := .ref (D15 2)) rfl rfl rfl rfl rfl (vrf (pf15_0_5)) ?_
    have r28 : HID ((0 : Int) ≤ F15 2 2 ∧ F15 2 2 ≤ 1) := krg_e (show (0 : Int) ≤ F15 2 2 ∧ F15 2 2 ≤ 1 from H.krg 2 2 (by decide)) (show F15 2 2 = F15 2 2 from rfl)
    refine v_g H (o := 2) (v := I (F15 2 2)) rfl rfl rfl rfl rfl (congrArg (fun z : Int => I z) (rfl : F15 2 2 = F15 2 2)) ?_
    refine w_ifeq (t := 216) rfl rfl (show inr (F15 2 2) by have qh0 := HIDe r28; omega) (fun b29 => ?_) (fun b29 => ?_)
    · refine Ew_of (pcₚ := 217) (fun _ => x_iload_n rfl hl3) ?_
      refine Ew_of (pcₚ := 218) (fun _ => x_iconst rfl) ?_
      refine w_icmpeq (t := 277) rfl rfl (show inr (3) by omega) (show inr (5) by omega) (fun b30 => ?_) (fun b30 => ?_)
      · exact absurd b30 (by omega)
      · refine Ew_of (pcₚ := 222) (fun _ => x_aload_n rfl hl0) ?_
        refine Ew_of (pcₚ := 223) (fun _ => x_aload_n rfl hl0) ?_
        refine Ew_stk (show ([.ref (D 0), .ref (D 0)] : List Value) = [.ref (D15 0), .ref (D15 0)] by rw [show D15 0 = D 0 from ((show D15 0 = D 0 from (eD15 0)))]) ?_
        refine v_g H (o := 0) (v := .ref (D15 2)) rfl rfl rfl rfl rfl (vrf (pf15_0_5)) ?_
        refine Ew_of (pcₚ := 227) (fun _ => x_iload_n rfl hl3) ?_
        refine Ew_of (pcₚ := 229) (fun _ => x_aload rfl hl4) ?_
        refine Ew_stk (show ([.ref (D 1), I (3), .ref (D15 2), .ref (D15 0)] : List Value) = [.ref (D15 1), I (3), .ref (D15 2), .ref (D15 0)] by rw [show D15 1 = D 1 from ((show D15 1 = D 1 from (eD15 1).trans (hD15 2 rfl)))]) ?_
        refine v_g H (o := 1) (v := I (u1_1)) rfl rfl rfl rfl rfl (congrArg (fun z : Int => I z) ((((show F15 1 1 = F 1 1 from (eF15 1 1).trans (hS15 2 1 rfl))).trans (eu1_1)) : F15 1 1 = u1_1)) ?_
        refine Ew_of (pcₚ := 233) (fun _ => x_aload_n rfl hl0) ?_
        refine Ew_stk (show ([.ref (D 0), I (u1_1), I (3), .ref (D15 2), .ref (D15 0)] : List Value) = [.ref (D15 0), I (u1_1), I (3), .ref (D15 2), .ref (D15 0)] by rw [show D15 0 = D 0 from ((show D15 0 = D 0 from (eD15 0)))]) ?_
        refine v_g H (o := 0) (v := .ref (D15 17)) rfl rfl rfl rfl rfl (vrf (pf15_0_15)) ?_
        exact hc236 (3) (u1_1) _ _ _ _ _ _ _ _  ((hl0).trans (congrArg (fun q : Nat => some (Value.ref q)) (((show D15 0 = D 0 from (eD15 0)))).symm)) (hl1) (hl3) ((hl4).trans (congrArg (fun q : Nat => some (Value.ref q)) (((show D15 1 = D 1 from (eD15 1).trans (hD15 2 rfl)))).symm)) H O (SD_trans (SD_refl) (SD_glu (ι := [5, 2, 1, 3, 4, 7, 8, 9, 10, 11, 6, 12, 13, 14, 15, 16]) hD15 eD15 (by decide +kernel)) (any_subA (lₚ := [3, 9, 11, 12, 13, 14, 15, 16]) rfl)) (SD_trans (SD_refl) (SD_glu (ι := [5, 2, 1, 3, 4, 7, 8, 9, 10, 11, 6, 12, 13, 14, 15, 16]) hN15 eN15 (by decide +kernel)) (any_subA (lₚ := [3, 9, 11, 12, 13, 14, 15, 16]) rfl)) (SF_trans (SF_refl) (SF_glu (ι := [5, 2, 1, 3, 4, 7, 8, 9, 10, 11, 6, 12, 13, 14, 15, 16]) hS15 eF15 (by decide +kernel)) (any_sub (lₚ := [(2, 0), (2, 1), (2, 2), (7, 1), (7, 2), (7, 3), (7, 4), (7, 5), (7, 6), (7, 7), (7, 8), (7, 9), (7, 10), (7, 11), (7, 12), (7, 13), (7, 14), (7, 15), (7, 16), (7, 17), (7, 18), (8, 0), (8, 1), (8, 2), (8, 3), (8, 4), (10, 0), (10, 1), (10, 2), (10, 3), (10, 4)]) rfl)) (SA_trans (SA_refl) (SA_glu (ι := [5, 2, 1, 3, 4, 7, 8, 9, 10, 11, 6, 12, 13, 14, 15, 16]) hA15 eA15 (by decide +kernel)) (any_subA (lₚ := [3, 9, 11, 12, 13, 14, 15, 16]) rfl)) (pf15_2_0) (pf15_8_0) (pf15_10_0) (pf15_7_7) (pf15_7_8) (pf15_7_1) (pf15_7_2) (pf15_7_3) (m15_3) ((congrArg (fun q : Nat => (q : Int)) (eN15 3)).trans em15_3) (m15_7) ((congrArg (fun q : Nat => (q : Int)) (eN15 9)).trans em15_7) (m15_9) ((congrArg (fun q : Nat => (q : Int)) (eN15 11)).trans em15_9) (m15_11) ((congrArg (fun q : Nat => (q : Int)) (eN15 12)).trans em15_11) (m15_12) ((congrArg (fun q : Nat => (q : Int)) (eN15 13)).trans em15_12) (m15_13) ((congrArg (fun q : Nat => (q : Int)) (eN15 14)).trans em15_13) (m15_14) ((congrArg (fun q : Nat => (q : Int)) (eN15 15)).trans em15_14) (m15_15) ((congrArg (fun q : Nat => (q : Int)) (eN15 16)).trans em15_15) (y15_1_1) (((eF15 2 1).trans ey15_1_1)) (y15_6_1) (((eF15 8 1).trans ey15_6_1)) (y15_8_1) (((eF15 10 1).trans ey15_8_1))  (show inr (3) by omega) (show inr (u1_1) by have qh0 := HIDe r1; omega) (show 0 ≤ (y15_1_1) ∧ (y15_1_1) ≤ (m15_3) ∧ (m15_3) ≤ 65536 by have qh0 := HIDe r16; have qh1 := HIDe r24; omega) (show 0 ≤ (y15_6_1) ∧ (y15_6_1) ≤ (m15_7) ∧ (m15_7) ≤ 65536 by have qh0 := HIDe r17; have qh1 := HIDe r25; omega) (show 0 ≤ (y15_8_1) ∧ (y15_8_1) ≤ (m15_9) ∧ (m15_9) ≤ 65536 by have qh0 := HIDe r18; have qh1 := HIDe r26; omega) (show (m15_11) = 0 ∨ (m15_11) = 2048 by have qh0 := HIDe r19; omega) (show (m15_12) ≤ 16384 by have qh0 := HIDe r20; omega) (show (m15_13) = (m15_14) ∧ (m15_15) = (m15_14) ∧ (m15_14) ≤ 65536 ∧ ((m15_14) = 0 ∨ 64 ≤ (m15_14)) ∧ lgq ((m15_14)) = 0 by have qh0 := HIDe r21; have qh1 := HIDe r22; have qh2 := HIDe r23; omega) (show (3) = 3 by omega) (show (u1_1) = (u1_1) by have qh0 := HIDe r1; omega)
    · refine Ew_of (pcₚ := 215) (fun _ => x_iconst rfl) ?_
      exact w_ireturn rfl (k ((-1)) _ _ _ _ _ _ _ H O (SD_trans (SD_refl) (SD_glu (ι := [5, 2, 1, 3, 4, 7, 8, 9, 10, 11, 6, 12, 13, 14, 15, 16]) hD15 eD15 (by decide +kernel)) (any_subA (lₚ := [3, 9, 11, 12, 13, 14, 15, 16]) rfl)) (SD_trans (SD_refl) (SD_glu (ι := [5, 2, 1, 3, 4, 7, 8, 9, 10, 11, 6, 12, 13, 14, 15, 16]) hN15 eN15 (by decide +kernel)) (any_subA (lₚ := [3, 9, 11, 12, 13, 14, 15, 16]) rfl)) (SF_trans (SF_refl) (SF_glu (ι := [5, 2, 1, 3, 4, 7, 8, 9, 10, 11, 6, 12, 13, 14, 15, 16]) hS15 eF15 (by decide +kernel)) (any_sub (lₚ := [(2, 0), (2, 1), (2, 2), (7, 1), (7, 2), (7, 3), (7, 4), (7, 5), (7, 6), (7, 7), (7, 8), (7, 9), (7, 10), (7, 11), (7, 12), (7, 13), (7, 14), (7, 15), (7, 16), (7, 17), (7, 18), (8, 0), (8, 1), (8, 2), (8, 3), (8, 4), (10, 0), (10, 1), (10, 2), (10, 3), (10, 4)]) rfl)) (SA_trans (SA_refl) (SA_glu (ι := [5, 2, 1, 3, 4, 7, 8, 9, 10, 11, 6, 12, 13, 14, 15, 16]) hA15 eA15 (by decide +kernel)) (any_subA (lₚ := [3, 9, 11, 12, 13, 14, 15, 16]) rfl)) (pf15_2_0) (pf15_8_0) (pf15_10_0) (pf15_7_7) (pf15_7_8) (pf15_7_1) (pf15_7_2) (pf15_7_3) (m15_3) ((congrArg (fun q : Nat => (q : Int)) (eN15 3)).trans em15_3) (m15_7) ((congrArg (fun q : Nat => (q : Int)) (eN15 9)).trans em15_7) (m15_9) ((congrArg (fun q : Nat => (q : Int)) (eN15 11)).trans em15_9) (m15_11) ((congrArg (fun q : Nat => (q : Int)) (eN15 12)).trans em15_11) (m15_12) ((congrArg (fun q : Nat => (q : Int)) (eN15 13)).trans em15_12) (m15_13) ((congrArg (fun q : Nat => (q : Int)) (eN15 14)).trans em15_13) (m15_14) ((congrArg (fun q : Nat => (q : Int)) (eN15 15)).trans em15_14) (m15_15) ((congrArg (fun q : Nat => (q : Int)) (eN15 16)).trans em15_15) (y15_1_1) (((eF15 2 1).trans ey15_1_1)) (y15_6_1) (((eF15 8 1).trans ey15_6_1)) (y15_8_1) (((eF15 10 1).trans ey15_8_1)) (show inr ((-1)) by omega) (show 0 ≤ (y15_1_1) ∧ (y15_1_1) ≤ (m15_3) ∧ (m15_3) ≤ 65536 by have qh0 := HIDe r16; have qh1 := HIDe r24; omega) (show 0 ≤ (y15_6_1) ∧ (y15_6_1) ≤ (m15_7) ∧ (m15_7) ≤ 65536 by have qh0 := HIDe r17; have qh1 := HIDe r25; omega) (show 0 ≤ (y15_8_1) ∧ (y15_8_1) ≤ (m15_9) ∧ (m15_9) ≤ 65536 by have qh0 := HIDe r18; have qh1 := HIDe r26; omega) (show (m15_11) = 0 ∨ (m15_11) = 2048 by have qh0 := HIDe r19; omega) (show (m15_12) ≤ 16384 by have qh0 := HIDe r20; omega) (show (m15_13) = (m15_14) ∧ (m15_15) = (m15_14) ∧ (m15_14) ≤ 65536 ∧ ((m15_14) = 0 ∨ 64 ≤ (m15_14)) ∧ lgq ((m15_14)) = 0 by have qh0 := HIDe r21; have qh1 := HIDe r22; have qh2 := HIDe r23; omega))
