abbrev V17_vd0 : vV := [(0, 0, [(4, 0), (4, 0), (4, 0), (4, 0), (4, 0), (4, 0), (4, 0), (4, 0), (4, 0), (4, 0), (4, 0), (4, 0), (4, 0), (4, 0), (4, 0), (4, 0), (4, 0), (0, 0), (0, 0)]), (0, 7, [(4, 0), (0, 0), (1, 0), (0, 0), (0, 0)]), (0, 7, [(4, 0), (0, 0), (1, 0), (0, 0), (0, 0)]), (1, 0, []), (1, 0, []), (0, 11, [(4, 0), (4, 0), (4, 0), (4, 0), (4, 0), (0, 0), (4, 0), (0, 0), (0, 0), (0, 0), (0, 0), (0, 0), (0, 0)]), (1, 1, []), (0, 7, [(4, 0), (0, 0), (1, 0), (0, 0), (0, 0)]), (1, 0, []), (0, 5, [(4, 0), (4, 0), (4, 0), (4, 0), (0, 0), (0, 0), (0, 0), (4, 0), (4, 0), (0, 0), (0, 0), (0, 0), (0, 0), (0, 0), (0, 0), (0, 0), (0, 0), (0, 0), (0, 0)]), (0, 7, [(4, 0), (0, 0), (1, 0), (0, 0), (0, 0)]), (1, 0, []), (1, 1, []), (1, 1, []), (1, 1, []), (1, 1, []), (1, 1, []), (1, 1, [])]
/-- PackHouse.write: this, @F, this.written, this.written.bytes, @F.bytes, this.tokens, this.tokens.settings, this.tokens.past, this.tokens.past.bytes, this.tokens.finder, this.tokens.finder.data, this.tokens.finder.data.bytes, this.tokens.finder.heads, this.tokens.finder.back, this.tokens.finder.literals, this.tokens.finder.lengths, this.tokens.finder.distances, this.checkCounts -/
theorem C17_vd0 {σE : rS} {D N : Nat → Nat} {F : hF} {A : hA} {d c s : Nat} {Q : wQ} (H : HW V17_vd0 σE D N F A) {x1 : Int} (pf2 : F 0 5 = (D 2 : Int)) (pf3 : F 2 0 = (D 3 : Int)) (pf4 : F 1 0 = (D 4 : Int)) (pf5 : F 0 8 = (D 5 : Int)) (pf6 : F 5 0 = (D 6 : Int)) (pf7 : F 5 1 = (D 7 : Int)) (pf8 : F 7 0 = (D 8 : Int)) (pf9 : F 5 2 = (D 9 : Int)) (pf10 : F 9 0 = (D 10 : Int)) (pf11 : F 10 0 = (D 11 : Int)) (pf12 : F 9 7 = (D 12 : Int)) (pf13 : F 9 8 = (D 13 : Int)) (pf14 : F 9 1 = (D 14 : Int)) (pf15 : F 9 2 = (D 15 : Int)) (pf16 : F 9 3 = (D 16 : Int)) (pf17 : F 0 15 = (D 17 : Int)) (n3 : Int) (en3 : (N 3 : Int) = n3) (n4 : Int) (en4 : (N 4 : Int) = n4) (n6 : Int) (en6 : (N 6 : Int) = n6) (n8 : Int) (en8 : (N 8 : Int) = n8) (n11 : Int) (en11 : (N 11 : Int) = n11) (n12 : Int) (en12 : (N 12 : Int) = n12) (n13 : Int) (en13 : (N 13 : Int) = n13) (n14 : Int) (en14 : (N 14 : Int) = n14) (n15 : Int) (en15 : (N 15 : Int) = n15) (n16 : Int) (en16 : (N 16 : Int) = n16) (n17 : Int) (en17 : (N 17 : Int) = n17) (u1_1 : Int) (eu1_1 : F 1 1 = u1_1) (u2_1 : Int) (eu2_1 : F 2 1 = u2_1) (u7_1 : Int) (eu7_1 : F 7 1 = u7_1) (u10_1 : Int) (eu10_1 : F 10 1 = u10_1) {ls : rO} (hl0 : rlook ls 0 = some (.ref (D 0))) (hl1 : rlook ls 1 = some (I (x1))) (hl3 : rlook ls 3 = some (I (0))) (hl4 : rlook ls 4 = some (.ref (D 1))) (hl5 : rlook ls 5 = some (I (1))) (h0 : inr (x1)) (h1 : 0 ≤ (u2_1) ∧ (u2_1) ≤ (n3) ∧ (n3) ≤ 65536) (h2 : (u2_1) = 0) (h3 : 0 ≤ (u1_1) ∧ (u1_1) ≤ (n4) ∧ (n4) ≤ 65536) (h4 : (n6) = 10) (h5 : (u7_1) + (u1_1) ≤ 16384) (h6 : 0 ≤ (u7_1) ∧ (u7_1) ≤ (n8) ∧ (n8) ≤ 65536) (h7 : 0 ≤ (u10_1) ∧ (u10_1) ≤ (n11) ∧ (n11) ≤ 65536) (h8 : (n12) = 0 ∨ (n12) = 2048) (h9 : (n13) ≤ 16384) (h10 : (n14) = (n15) ∧ (n16) = (n15) ∧ (n15) ≤ 65536 ∧ ((n15) = 0 ∨ 64 ≤ (n15)) ∧ lgq ((n15)) = 0) (hc236 : ∀ (tc236_2 : Int), ∀ (tc236_3 : Int), ∀ (ls : rO) (σ : rS) (D_c236 N_c236 : Nat → Nat) (c_c236 s_c236 : Nat) (F_c236 : hF) (A_c236 : hA) , rlook ls 0 = some (.ref (D_c236 0)) → rlook ls 1 = some (I (x1)) → rlook ls 3 = some (I (0)) → rlook ls 4 = some (.ref (D_c236 1)) → HW V17_vd0 σ D_c236 N_c236 F_c236 A_c236 → OUT (V17_vd0).length D N σE c s D_c236 N_c236 σ c_c236 s_c236 → SD [3, 11, 12, 13, 14, 15, 16] D D_c236 → SD [3, 11, 12, 13, 14, 15, 16] N N_c236 → SF [(2, 0), (2, 1), (2, 2), (9, 1), (9, 2), (9, 3), (9, 4), (9, 5), (9, 6), (9, 7), (9, 8), (9, 9), (9, 10), (9, 11), (9, 12), (9, 13), (9, 14), (9, 15), (9, 16), (9, 17), (9, 18), (10, 0), (10, 1), (10, 2), (10, 3), (10, 4)] F F_c236 → SA [3, 11, 12, 13, 14, 15, 16] A A_c236 → F_c236 2 0 = (D_c236 3 : Int) → F_c236 10 0 = (D_c236 11 : Int) → F_c236 9 7 = (D_c236 12 : Int) → F_c236 9 8 = (D_c236 13 : Int) → F_c236 9 1 = (D_c236 14 : Int) → F_c236 9 2 = (D_c236 15 : Int) → F_c236 9 3 = (D_c236 16 : Int) → ∀ mc236_3 : Int, (N_c236 3 : Int) = mc236_3 → ∀ mc236_11 : Int, (N_c236 11 : Int) = mc236_11 → ∀ mc236_12 : Int, (N_c236 12 : Int) = mc236_12 → ∀ mc236_13 : Int, (N_c236 13 : Int) = mc236_13 → ∀ mc236_14 : Int, (N_c236 14 : Int) = mc236_14 → ∀ mc236_15 : Int, (N_c236 15 : Int) = mc236_15 → ∀ mc236_16 : Int, (N_c236 16 : Int) = mc236_16 → ∀ yc236_2_1 : Int, F_c236 2 1 = yc236_2_1 → ∀ yc236_10_1 : Int, F_c236 10 1 = yc236_10_1 → (inr (tc236_2)) → (inr (tc236_3)) → (0 ≤ (yc236_2_1) ∧ (yc236_2_1) ≤ (mc236_3) ∧ (mc236_3) ≤ 65536) → (0 ≤ (yc236_10_1) ∧ (yc236_10_1) ≤ (mc236_11) ∧ (mc236_11) ≤ 65536) → ((mc236_12) = 0 ∨ (mc236_12) = 2048) → ((mc236_13) ≤ 16384) → ((mc236_14) = (mc236_15) ∧ (mc236_16) = (mc236_15) ∧ (mc236_15) ≤ 65536 ∧ ((mc236_15) = 0 ∨ 64 ≤ (mc236_15)) ∧ lgq ((mc236_15)) = 0) → ((tc236_2) = 0) → ((tc236_3) = (u1_1)) → Ew 17 (d + 7) 236 ls [.ref (D_c236 17), I (tc236_3), I (tc236_2), .ref (D_c236 2), .ref (D_c236 0)] σ c_c236 s_c236 Q) (k : ∀ (z : Int) (σ : rS) (D' N' : Nat → Nat) (F' : hF) (A' : hA) (c' s' : Nat), HW V17_vd0 σ D' N' F' A' → OUT (V17_vd0).length D N σE c s D' N' σ c' s' → SD [3, 11, 12, 13, 14, 15, 16] D D' → SD [3, 11, 12, 13, 14, 15, 16] N N' → SF [(2, 0), (2, 1), (2, 2), (9, 1), (9, 2), (9, 3), (9, 4), (9, 5), (9, 6), (9, 7), (9, 8), (9, 9), (9, 10), (9, 11), (9, 12), (9, 13), (9, 14), (9, 15), (9, 16), (9, 17), (9, 18), (10, 0), (10, 1), (10, 2), (10, 3), (10, 4)] F F' → SA [3, 11, 12, 13, 14, 15, 16] A A' → F' 2 0 = (D' 3 : Int) → F' 10 0 = (D' 11 : Int) → F' 9 7 = (D' 12 : Int) → F' 9 8 = (D' 13 : Int) → F' 9 1 = (D' 14 : Int) → F' 9 2 = (D' 15 : Int) → F' 9 3 = (D' 16 : Int) → ∀ m3 : Int, (N' 3 : Int) = m3 → ∀ m11 : Int, (N' 11 : Int) = m11 → ∀ m12 : Int, (N' 12 : Int) = m12 → ∀ m13 : Int, (N' 13 : Int) = m13 → ∀ m14 : Int, (N' 14 : Int) = m14 → ∀ m15 : Int, (N' 15 : Int) = m15 → ∀ m16 : Int, (N' 16 : Int) = m16 → ∀ y2_1 : Int, F' 2 1 = y2_1 → ∀ y10_1 : Int, F' 10 1 = y10_1 → (inr (z)) → (0 ≤ (y2_1) ∧ (y2_1) ≤ (m3) ∧ (m3) ≤ 65536) → (0 ≤ (y10_1) ∧ (y10_1) ≤ (m11) ∧ (m11) ≤ 65536) → ((m12) = 0 ∨ (m12) = 2048) → ((m13) ≤ 16384) → ((m14) = (m15) ∧ (m16) = (m15) ∧ (m15) ≤ 65536 ∧ ((m15) = 0 ∨ 64 ≤ (m15)) ∧ lgq ((m15)) = 0) → Q (some (I z)) σ c' s') : Ew 17 (d + 7) 104 ls [.ref (D 5)] σE c s Q := by
  have O := OUT_refl (n := (V17_vd0).length) (D := D) (N := N) (σ := σE) (c := c) (s := s)
  have HE := H
  have r1 : HID ((-2147483648 : Int) ≤ u1_1 ∧ u1_1 ≤ 2147483647) := krg_e (show (-2147483648 : Int) ≤ F 1 1 ∧ F 1 1 ≤ 2147483647 from H.krg 1 1 (by decide)) (show F 1 1 = u1_1 from (eu1_1))
  have r2 : HID ((-2147483648 : Int) ≤ u2_1 ∧ u2_1 ≤ 2147483647) := krg_e (show (-2147483648 : Int) ≤ F 2 1 ∧ F 2 1 ≤ 2147483647 from H.krg 2 1 (by decide)) (show F 2 1 = u2_1 from (eu2_1))
  have r3 : HID ((-2147483648 : Int) ≤ u7_1 ∧ u7_1 ≤ 2147483647) := krg_e (show (-2147483648 : Int) ≤ F 7 1 ∧ F 7 1 ≤ 2147483647 from H.krg 7 1 (by decide)) (show F 7 1 = u7_1 from (eu7_1))
  have r4 : HID ((-2147483648 : Int) ≤ u10_1 ∧ u10_1 ≤ 2147483647) := krg_e (show (-2147483648 : Int) ≤ F 10 1 ∧ F 10 1 ≤ 2147483647 from H.krg 10 1 (by decide)) (show F 10 1 = u10_1 from (eu10_1))
  replace pf2 := HIDm pf2
  replace pf3 := HIDm pf3
  replace pf4 := HIDm pf4
  replace pf5 := HIDm pf5
  replace pf6 := HIDm pf6
  replace pf7 := HIDm pf7
  replace pf8 := HIDm pf8
  replace pf9 := HIDm pf9
  replace pf10 := HIDm pf10
  replace pf11 := HIDm pf11
  replace pf12 := HIDm pf12
  replace pf13 := HIDm pf13
  replace pf14 := HIDm pf14
  replace pf15 := HIDm pf15
  replace pf16 := HIDm pf16
  replace pf17 := HIDm pf17
  replace en3 := HIDm en3
  replace en4 := HIDm en4
  replace en6 := HIDm en6
  replace en8 := HIDm en8
  replace en11 := HIDm en11
  replace en12 := HIDm en12
  replace en13 := HIDm en13
  replace en14 := HIDm en14
  replace en15 := HIDm en15
  replace en16 := HIDm en16
  replace en17 := HIDm en17
  replace eu1_1 := HIDm eu1_1
  replace eu2_1 := HIDm eu2_1
  replace eu7_1 := HIDm eu7_1
  replace eu10_1 := HIDm eu10_1
  have r5 : HID ((0 : Int) ≤ n3 ∧ n3 ≤ 1000000) := nrng (H.nle 3 (by decide)) (show (N 3 : Int) = n3 from en3)
  have r6 : HID ((0 : Int) ≤ n4 ∧ n4 ≤ 1000000) := nrng (H.nle 4 (by decide)) (show (N 4 : Int) = n4 from en4)
  have r7 : HID ((0 : Int) ≤ n6 ∧ n6 ≤ 1000000) := nrng (H.nle 6 (by decide)) (show (N 6 : Int) = n6 from en6)
  have r8 : HID ((0 : Int) ≤ n8 ∧ n8 ≤ 1000000) := nrng (H.nle 8 (by decide)) (show (N 8 : Int) = n8 from en8)
  have r9 : HID ((0 : Int) ≤ n11 ∧ n11 ≤ 1000000) := nrng (H.nle 11 (by decide)) (show (N 11 : Int) = n11 from en11)
  have r10 : HID ((0 : Int) ≤ n12 ∧ n12 ≤ 1000000) := nrng (H.nle 12 (by decide)) (show (N 12 : Int) = n12 from en12)
  have r11 : HID ((0 : Int) ≤ n13 ∧ n13 ≤ 1000000) := nrng (H.nle 13 (by decide)) (show (N 13 : Int) = n13 from en13)
  have r12 : HID ((0 : Int) ≤ n14 ∧ n14 ≤ 1000000) := nrng (H.nle 14 (by decide)) (show (N 14 : Int) = n14 from en14)
  have r13 : HID ((0 : Int) ≤ n15 ∧ n15 ≤ 1000000) := nrng (H.nle 15 (by decide)) (show (N 15 : Int) = n15 from en15)
  have r14 : HID ((0 : Int) ≤ n16 ∧ n16 ≤ 1000000) := nrng (H.nle 16 (by decide)) (show (N 16 : Int) = n16 from en16)
  refine Ew_of (pc' := 105) (fun _ => x_aload_n rfl hl0) ?_
  refine v_g H (o := 0) (v := .ref (D 2)) rfl rfl rfl rfl rfl (vrf (pf2)) ?_
  refine Ew_of (pc' := 110) (fun _ => x_aload rfl hl4) ?_
  have r15 : HID ((0 : Int) ≤ F 2 2 ∧ F 2 2 ≤ 1) := krg_e (show (0 : Int) ≤ F 2 2 ∧ F 2 2 ≤ 1 from H.krg 2 2 (by decide)) (show F 2 2 = F 2 2 from rfl)
  refine v_inv H (o := 5) rfl rfl rfl rfl rfl rfl (by rfl) (C214_Row_Row (D := pul [5, 2, 1, 3, 4, 7, 8, 9, 10, 11, 6, 12, 13, 14, 15, 16] D) (N := pul [5, 2, 1, 3, 4, 7, 8, 9, 10, 11, 6, 12, 13, 14, 15, 16] N) (HW_sub H (VS_of (show vsub V17_vd0 V214_Row_Row [5, 2, 1, 3, 4, 7, 8, 9, 10, 11, 6, 12, 13, 14, 15, 16] = true by decide +kernel))) (pf3) (pf4) (pf7) (pf8) (pf9) (pf10) (pf11) (pf6) (pf12) (pf13) (pf14) (pf15) (pf16) (n3) (en3) (n4) (en4) (n8) (en8) (n11) (en11) (n6) (en6) (n12) (en12) (n13) (en13) (n14) (en14) (n15) (en15) (n16) (en16) (u2_1) ((eu2_1)) (F 2 2) (rfl) (u1_1) ((eu1_1)) (u7_1) ((eu7_1)) (u10_1) ((eu10_1)) (A 3) (rfl) (A 4) (rfl) (A 8) (rfl) (A 6) (rfl) (show 0 ≤ (u2_1) ∧ (u2_1) ≤ (n3) ∧ (n3) ≤ 65536 by have qh0 := HIDe r2; have qh1 := HIDe r5; omega) (show 0 ≤ (u1_1) ∧ (u1_1) ≤ (n4) ∧ (n4) ≤ 65536 by have qh0 := HIDe r1; have qh1 := HIDe r6; omega) (show 0 ≤ (u7_1) ∧ (u7_1) ≤ (n8) ∧ (n8) ≤ 65536 by have qh0 := HIDe r3; have qh1 := HIDe r8; omega) (show 0 ≤ (u10_1) ∧ (u10_1) ≤ (n11) ∧ (n11) ≤ 65536 by have qh0 := HIDe r4; have qh1 := HIDe r9; omega) (show (n6) = 10 by have qh0 := HIDe r7; omega) (show (u7_1) + (u1_1) ≤ 16384 by have qh0 := HIDe r1; have qh1 := HIDe r3; omega) (show (n12) = 0 ∨ (n12) = 2048 by have qh0 := HIDe r10; omega) (show (n13) ≤ 16384 by have qh0 := HIDe r11; omega) (show (n14) = (n15) ∧ (n16) = (n15) ∧ (n15) ≤ 65536 ∧ ((n15) = 0 ∨ 64 ≤ (n15)) ∧ lgq ((n15)) = 0 by have qh0 := HIDe r12; have qh1 := HIDe r13; have qh2 := HIDe r14; omega) (fun σ16 D16' N16' F16' A16' c16 s16 H' O' hD16 hN16 hS16 hA16 pm16_3 pm16_9 pm16_11 pm16_12 pm16_13 pm16_14 pm16_15 m16_3 em16_3 m16_9 em16_9 m16_11 em16_11 m16_12 em16_12 m16_13 em16_13 m16_14 em16_14 m16_15 em16_15 y16_1_1 ey16_1_1 y16_1_2 ey16_1_2 y16_8_1 ey16_8_1 w16_3 ew16_3 pz16_0 pz16_1 pz16_2 pz16_3 pz16_4 pz16_5 => ⟨rfl, ?_⟩))
  replace pm16_3 := HIDm pm16_3
  replace pm16_9 := HIDm pm16_9
  replace pm16_11 := HIDm pm16_11
  replace pm16_12 := HIDm pm16_12
  replace pm16_13 := HIDm pm16_13
  replace pm16_14 := HIDm pm16_14
  replace pm16_15 := HIDm pm16_15
  replace em16_3 := HIDm em16_3
  replace em16_9 := HIDm em16_9
  replace em16_11 := HIDm em16_11
  replace em16_12 := HIDm em16_12
  replace em16_13 := HIDm em16_13
  replace em16_14 := HIDm em16_14
  replace em16_15 := HIDm em16_15
  replace ey16_1_1 := HIDm ey16_1_1
  replace ey16_1_2 := HIDm ey16_1_2
  replace ey16_8_1 := HIDm ey16_8_1
  refine v_backM (c := c) (s := s) H (show vsub V17_vd0 V214_Row_Row [5, 2, 1, 3, 4, 7, 8, 9, 10, 11, 6, 12, 13, 14, 15, 16] = true by decide +kernel) H' O' hD16 (show vmov V17_vd0 [5, 2, 1, 3, 4, 7, 8, 9, 10, 11, 6, 12, 13, 14, 15, 16] [3, 9, 11, 12, 13, 14, 15] = true by decide +kernel) (fun D16 N16 F16 A16 H O' eD16 eN16 eF16 eA16 => ?_)
  have O := OUT_trans O O'
  -- Tokens.packAlone
  have pf16_0_15 : HID (F16 0 15 = (D16 17 : Int)) := ((show F16 0 15 = F 0 15 from (eF16 0 15))).trans ((pf17).trans (congrArg (fun q : Nat => (q : Int)) ((show D16 17 = D 17 from (eD16 17))).symm))
  have pf16_0_5 : HID (F16 0 5 = (D16 2 : Int)) := ((show F16 0 5 = F 0 5 from (eF16 0 5))).trans ((pf2).trans (congrArg (fun q : Nat => (q : Int)) ((show D16 2 = D 2 from (eD16 2).trans (hD16 1 rfl))).symm))
  have pf16_0_8 : HID (F16 0 8 = (D16 5 : Int)) := ((show F16 0 8 = F 0 8 from (eF16 0 8))).trans ((pf5).trans (congrArg (fun q : Nat => (q : Int)) ((show D16 5 = D 5 from (eD16 5).trans (hD16 0 rfl))).symm))
  have pf16_1_0 : HID (F16 1 0 = (D16 4 : Int)) := ((show F16 1 0 = F 1 0 from (eF16 1 0).trans (hS16 2 0 rfl))).trans ((pf4).trans (congrArg (fun q : Nat => (q : Int)) ((show D16 4 = D 4 from (eD16 4).trans (hD16 4 rfl))).symm))
  have pf16_10_0 : HID (F16 10 0 = (D16 11 : Int)) := (eF16 10 0).trans (pm16_9.trans (congrArg (fun q : Nat => (q : Int)) (eD16 11).symm))
  have pf16_2_0 : HID (F16 2 0 = (D16 3 : Int)) := (eF16 2 0).trans (pm16_3.trans (congrArg (fun q : Nat => (q : Int)) (eD16 3).symm))
  have pf16_5_0 : HID (F16 5 0 = (D16 6 : Int)) := ((show F16 5 0 = F 5 0 from (eF16 5 0).trans (hS16 0 0 rfl))).trans ((pf6).trans (congrArg (fun q : Nat => (q : Int)) ((show D16 6 = D 6 from (eD16 6).trans (hD16 10 rfl))).symm))
  have pf16_5_1 : HID (F16 5 1 = (D16 7 : Int)) := ((show F16 5 1 = F 5 1 from (eF16 5 1).trans (hS16 0 1 rfl))).trans ((pf7).trans (congrArg (fun q : Nat => (q : Int)) ((show D16 7 = D 7 from (eD16 7).trans (hD16 5 rfl))).symm))
  have pf16_5_2 : HID (F16 5 2 = (D16 9 : Int)) := ((show F16 5 2 = F 5 2 from (eF16 5 2).trans (hS16 0 2 rfl))).trans ((pf9).trans (congrArg (fun q : Nat => (q : Int)) ((show D16 9 = D 9 from (eD16 9).trans (hD16 7 rfl))).symm))
  have pf16_7_0 : HID (F16 7 0 = (D16 8 : Int)) := ((show F16 7 0 = F 7 0 from (eF16 7 0).trans (hS16 5 0 rfl))).trans ((pf8).trans (congrArg (fun q : Nat => (q : Int)) ((show D16 8 = D 8 from (eD16 8).trans (hD16 6 rfl))).symm))
  have pf16_9_0 : HID (F16 9 0 = (D16 10 : Int)) := ((show F16 9 0 = F 9 0 from (eF16 9 0).trans (hS16 7 0 rfl))).trans ((pf10).trans (congrArg (fun q : Nat => (q : Int)) ((show D16 10 = D 10 from (eD16 10).trans (hD16 8 rfl))).symm))
  have pf16_9_1 : HID (F16 9 1 = (D16 14 : Int)) := (eF16 9 1).trans (pm16_13.trans (congrArg (fun q : Nat => (q : Int)) (eD16 14).symm))
  have pf16_9_2 : HID (F16 9 2 = (D16 15 : Int)) := (eF16 9 2).trans (pm16_14.trans (congrArg (fun q : Nat => (q : Int)) (eD16 15).symm))
  have pf16_9_3 : HID (F16 9 3 = (D16 16 : Int)) := (eF16 9 3).trans (pm16_15.trans (congrArg (fun q : Nat => (q : Int)) (eD16 16).symm))
  have pf16_9_7 : HID (F16 9 7 = (D16 12 : Int)) := (eF16 9 7).trans (pm16_11.trans (congrArg (fun q : Nat => (q : Int)) (eD16 12).symm))
  have pf16_9_8 : HID (F16 9 8 = (D16 13 : Int)) := (eF16 9 8).trans (pm16_12.trans (congrArg (fun q : Nat => (q : Int)) (eD16 13).symm))
  have r17 : HID ((0 : Int) ≤ m16_3 ∧ m16_3 ≤ 1000000) := nrng (H.nle 3 (by decide)) (show (N16 3 : Int) = m16_3 from (congrArg (fun q : Nat => (q : Int)) (eN16 3)).trans em16_3)
  have r18 : HID ((0 : Int) ≤ m16_9 ∧ m16_9 ≤ 1000000) := nrng (H.nle 11 (by decide)) (show (N16 11 : Int) = m16_9 from (congrArg (fun q : Nat => (q : Int)) (eN16 11)).trans em16_9)
  have r19 : HID ((0 : Int) ≤ m16_11 ∧ m16_11 ≤ 1000000) := nrng (H.nle 12 (by decide)) (show (N16 12 : Int) = m16_11 from (congrArg (fun q : Nat => (q : Int)) (eN16 12)).trans em16_11)
  have r20 : HID ((0 : Int) ≤ m16_12 ∧ m16_12 ≤ 1000000) := nrng (H.nle 13 (by decide)) (show (N16 13 : Int) = m16_12 from (congrArg (fun q : Nat => (q : Int)) (eN16 13)).trans em16_12)
  have r21 : HID ((0 : Int) ≤ m16_13 ∧ m16_13 ≤ 1000000) := nrng (H.nle 14 (by decide)) (show (N16 14 : Int) = m16_13 from (congrArg (fun q : Nat => (q : Int)) (eN16 14)).trans em16_13)
  have r22 : HID ((0 : Int) ≤ m16_14 ∧ m16_14 ≤ 1000000) := nrng (H.nle 15 (by decide)) (show (N16 15 : Int) = m16_14 from (congrArg (fun q : Nat => (q : Int)) (eN16 15)).trans em16_14)
  have r23 : HID ((0 : Int) ≤ m16_15 ∧ m16_15 ≤ 1000000) := nrng (H.nle 16 (by decide)) (show (N16 16 : Int) = m16_15 from (congrArg (fun q : Nat => (q : Int)) (eN16 16)).trans em16_15)
  have r24 : HID ((-2147483648 : Int) ≤ y16_1_1 ∧ y16_1_1 ≤ 2147483647) := krg_e (show (-2147483648 : Int) ≤ F16 2 1 ∧ F16 2 1 ≤ 2147483647 from H.krg 2 1 (by decide)) (show F16 2 1 = y16_1_1 from ((eF16 2 1).trans ey16_1_1))
  have r25 : HID ((0 : Int) ≤ y16_1_2 ∧ y16_1_2 ≤ 1) := krg_e (show (0 : Int) ≤ F16 2 2 ∧ F16 2 2 ≤ 1 from H.krg 2 2 (by decide)) (show F16 2 2 = y16_1_2 from ((eF16 2 2).trans ey16_1_2))
  have r26 : HID ((-2147483648 : Int) ≤ y16_8_1 ∧ y16_8_1 ≤ 2147483647) := krg_e (show (-2147483648 : Int) ≤ F16 10 1 ∧ F16 10 1 ≤ 2147483647 from H.krg 10 1 (by decide)) (show F16 10 1 = y16_8_1 from ((eF16 10 1).trans ey16_8_1))
  refine Ew_of (pc' := 199) (fun _ => x_goto rfl rfl) ?_
  refine Ew_of (pc' := 201) (fun _ => x_iload rfl hl5) ?_
  refine w_ifeq (t := 214) rfl rfl (show inr (1) by omega) (fun b27 => ?_) (fun b27 => ?_)
  · exact absurd b27 (by omega)
  · refine Ew_of (pc' := 205) (fun _ => x_aload_n rfl hl0) ?_
    refine Ew_stk (show ([.ref (D 0)] : List Value) = [.ref (D16 0)] by rw [show D16 0 = D 0 from ((show D16 0 = D 0 from (eD16 0)))]) ?_
    refine v_g H (o := 0) (v := .ref (D16 2)) rfl rfl rfl rfl rfl (vrf (pf16_0_5)) ?_
    refine v_g H (o := 2) (v := I (y16_1_2)) rfl rfl rfl rfl rfl (congrArg (fun z : Int => I z) (((eF16 2 2).trans ey16_1_2) : F16 2 2 = y16_1_2)) ?_
    refine w_ifeq (t := 216) rfl rfl (show inr (y16_1_2) by have qh0 := HIDe r25; omega) (fun b28 => ?_) (fun b28 => ?_)
    · refine Ew_of (pc' := 217) (fun _ => x_iload_n rfl hl3) ?_
      refine Ew_of (pc' := 218) (fun _ => x_iconst rfl) ?_
      refine w_icmpeq (t := 277) rfl rfl (show inr (0) by omega) (show inr (5) by omega) (fun b29 => ?_) (fun b29 => ?_)
      · exact absurd b29 (by omega)
      · refine Ew_of (pc' := 222) (fun _ => x_aload_n rfl hl0) ?_
        refine Ew_of (pc' := 223) (fun _ => x_aload_n rfl hl0) ?_
        refine Ew_stk (show ([.ref (D 0), .ref (D 0)] : List Value) = [.ref (D16 0), .ref (D16 0)] by rw [show D16 0 = D 0 from ((show D16 0 = D 0 from (eD16 0)))]) ?_
        refine v_g H (o := 0) (v := .ref (D16 2)) rfl rfl rfl rfl rfl (vrf (pf16_0_5)) ?_
        refine Ew_of (pc' := 227) (fun _ => x_iload_n rfl hl3) ?_
        refine Ew_of (pc' := 229) (fun _ => x_aload rfl hl4) ?_
        refine Ew_stk (show ([.ref (D 1), I (0), .ref (D16 2), .ref (D16 0)] : List Value) = [.ref (D16 1), I (0), .ref (D16 2), .ref (D16 0)] by rw [show D16 1 = D 1 from ((show D16 1 = D 1 from (eD16 1).trans (hD16 2 rfl)))]) ?_
        refine v_g H (o := 1) (v := I (u1_1)) rfl rfl rfl rfl rfl (congrArg (fun z : Int => I z) ((((show F16 1 1 = F 1 1 from (eF16 1 1).trans (hS16 2 1 rfl))).trans (eu1_1)) : F16 1 1 = u1_1)) ?_
        refine Ew_of (pc' := 233) (fun _ => x_aload_n rfl hl0) ?_
        refine Ew_stk (show ([.ref (D 0), I (u1_1), I (0), .ref (D16 2), .ref (D16 0)] : List Value) = [.ref (D16 0), I (u1_1), I (0), .ref (D16 2), .ref (D16 0)] by rw [show D16 0 = D 0 from ((show D16 0 = D 0 from (eD16 0)))]) ?_
        refine v_g H (o := 0) (v := .ref (D16 17)) rfl rfl rfl rfl rfl (vrf (pf16_0_15)) ?_
        exact hc236 (0) (u1_1) _ _ _ _ _ _ _ _  ((hl0).trans (congrArg (fun q : Nat => some (Value.ref q)) (((show D16 0 = D 0 from (eD16 0)))).symm)) (hl1) (hl3) ((hl4).trans (congrArg (fun q : Nat => some (Value.ref q)) (((show D16 1 = D 1 from (eD16 1).trans (hD16 2 rfl)))).symm)) H O (SD_trans (SD_refl) (SD_glu (ι := [5, 2, 1, 3, 4, 7, 8, 9, 10, 11, 6, 12, 13, 14, 15, 16]) hD16 eD16 (by decide +kernel)) (any_subA (l' := [3, 11, 12, 13, 14, 15, 16]) rfl)) (SD_trans (SD_refl) (SD_glu (ι := [5, 2, 1, 3, 4, 7, 8, 9, 10, 11, 6, 12, 13, 14, 15, 16]) hN16 eN16 (by decide +kernel)) (any_subA (l' := [3, 11, 12, 13, 14, 15, 16]) rfl)) (SF_trans (SF_refl) (SF_glu (ι := [5, 2, 1, 3, 4, 7, 8, 9, 10, 11, 6, 12, 13, 14, 15, 16]) hS16 eF16 (by decide +kernel)) (any_sub (l' := [(2, 0), (2, 1), (2, 2), (9, 1), (9, 2), (9, 3), (9, 4), (9, 5), (9, 6), (9, 7), (9, 8), (9, 9), (9, 10), (9, 11), (9, 12), (9, 13), (9, 14), (9, 15), (9, 16), (9, 17), (9, 18), (10, 0), (10, 1), (10, 2), (10, 3), (10, 4)]) rfl)) (SA_trans (SA_refl) (SA_glu (ι := [5, 2, 1, 3, 4, 7, 8, 9, 10, 11, 6, 12, 13, 14, 15, 16]) hA16 eA16 (by decide +kernel)) (any_subA (l' := [3, 11, 12, 13, 14, 15, 16]) rfl)) (pf16_2_0) (pf16_10_0) (pf16_9_7) (pf16_9_8) (pf16_9_1) (pf16_9_2) (pf16_9_3) (m16_3) ((congrArg (fun q : Nat => (q : Int)) (eN16 3)).trans em16_3) (m16_9) ((congrArg (fun q : Nat => (q : Int)) (eN16 11)).trans em16_9) (m16_11) ((congrArg (fun q : Nat => (q : Int)) (eN16 12)).trans em16_11) (m16_12) ((congrArg (fun q : Nat => (q : Int)) (eN16 13)).trans em16_12) (m16_13) ((congrArg (fun q : Nat => (q : Int)) (eN16 14)).trans em16_13) (m16_14) ((congrArg (fun q : Nat => (q : Int)) (eN16 15)).trans em16_14) (m16_15) ((congrArg (fun q : Nat => (q : Int)) (eN16 16)).trans em16_15) (y16_1_1) (((eF16 2 1).trans ey16_1_1)) (y16_8_1) (((eF16 10 1).trans ey16_8_1))  (show inr (0) by omega) (show inr (u1_1) by have qh0 := HIDe r1; omega) (show 0 ≤ (y16_1_1) ∧ (y16_1_1) ≤ (m16_3) ∧ (m16_3) ≤ 65536 by have qh0 := HIDe r17; have qh1 := HIDe r24; omega) (show 0 ≤ (y16_8_1) ∧ (y16_8_1) ≤ (m16_9) ∧ (m16_9) ≤ 65536 by have qh0 := HIDe r18; have qh1 := HIDe r26; omega) (show (m16_11) = 0 ∨ (m16_11) = 2048 by have qh0 := HIDe r19; omega) (show (m16_12) ≤ 16384 by have qh0 := HIDe r20; omega) (show (m16_13) = (m16_14) ∧ (m16_15) = (m16_14) ∧ (m16_14) ≤ 65536 ∧ ((m16_14) = 0 ∨ 64 ≤ (m16_14)) ∧ lgq ((m16_14)) = 0 by have qh0 := HIDe r21; have qh1 := HIDe r22; have qh2 := HIDe r23; omega) (show (0) = 0 by omega) (show (u1_1) = (u1_1) by have qh0 := HIDe r1; omega)
    · refine Ew_of (pc' := 215) (fun _ => x_iconst rfl) ?_
      exact w_ireturn rfl (k ((-1)) _ _ _ _ _ _ _ H O (SD_trans (SD_refl) (SD_glu (ι := [5, 2, 1, 3, 4, 7, 8, 9, 10, 11, 6, 12, 13, 14, 15, 16]) hD16 eD16 (by decide +kernel)) (any_subA (l' := [3, 11, 12, 13, 14, 15, 16]) rfl)) (SD_trans (SD_refl) (SD_glu (ι := [5, 2, 1, 3, 4, 7, 8, 9, 10, 11, 6, 12, 13, 14, 15, 16]) hN16 eN16 (by decide +kernel)) (any_subA (l' := [3, 11, 12, 13, 14, 15, 16]) rfl)) (SF_trans (SF_refl) (SF_glu (ι := [5, 2, 1, 3, 4, 7, 8, 9, 10, 11, 6, 12, 13, 14, 15, 16]) hS16 eF16 (by decide +kernel)) (any_sub (l' := [(2, 0), (2, 1), (2, 2), (9, 1), (9, 2), (9, 3), (9, 4), (9, 5), (9, 6), (9, 7), (9, 8), (9, 9), (9, 10), (9, 11), (9, 12), (9, 13), (9, 14), (9, 15), (9, 16), (9, 17), (9, 18), (10, 0), (10, 1), (10, 2), (10, 3), (10, 4)]) rfl)) (SA_trans (SA_refl) (SA_glu (ι := [5, 2, 1, 3, 4, 7, 8, 9, 10, 11, 6, 12, 13, 14, 15, 16]) hA16 eA16 (by decide +kernel)) (any_subA (l' := [3, 11, 12, 13, 14, 15, 16]) rfl)) (pf16_2_0) (pf16_10_0) (pf16_9_7) (pf16_9_8) (pf16_9_1) (pf16_9_2) (pf16_9_3) (m16_3) ((congrArg (fun q : Nat => (q : Int)) (eN16 3)).trans em16_3) (m16_9) ((congrArg (fun q : Nat => (q : Int)) (eN16 11)).trans em16_9) (m16_11) ((congrArg (fun q : Nat => (q : Int)) (eN16 12)).trans em16_11) (m16_12) ((congrArg (fun q : Nat => (q : Int)) (eN16 13)).trans em16_12) (m16_13) ((congrArg (fun q : Nat => (q : Int)) (eN16 14)).trans em16_13) (m16_14) ((congrArg (fun q : Nat => (q : Int)) (eN16 15)).trans em16_14) (m16_15) ((congrArg (fun q : Nat => (q : Int)) (eN16 16)).trans em16_15) (y16_1_1) (((eF16 2 1).trans ey16_1_1)) (y16_8_1) (((eF16 10 1).trans ey16_8_1)) (show inr ((-1)) by omega) (show 0 ≤ (y16_1_1) ∧ (y16_1_1) ≤ (m16_3) ∧ (m16_3) ≤ 65536 by have qh0 := HIDe r17; have qh1 := HIDe r24; omega) (show 0 ≤ (y16_8_1) ∧ (y16_8_1) ≤ (m16_9) ∧ (m16_9) ≤ 65536 by have qh0 := HIDe r18; have qh1 := HIDe r26; omega) (show (m16_11) = 0 ∨ (m16_11) = 2048 by have qh0 := HIDe r19; omega) (show (m16_12) ≤ 16384 by have qh0 := HIDe r20; omega) (show (m16_13) = (m16_14) ∧ (m16_15) = (m16_14) ∧ (m16_14) ≤ 65536 ∧ ((m16_14) = 0 ∨ 64 ≤ (m16_14)) ∧ lgq ((m16_14)) = 0 by have qh0 := HIDe r21; have qh1 := HIDe r22; have qh2 := HIDe r23; omega))
abbrev V17_vd1 : vV := [(0, 0, [(4, 0), (4, 0), (4, 0), (4, 0), (4, 0), (4, 0), (4, 0), (4, 0), (4, 0), (4, 0), (4, 0), (4, 0), (4, 0), (4, 0), (4, 0), (4, 0), (4, 0), (0, 0), (0, 0)]), (0, 7, [(4, 0), (0, 0), (1, 0), (0, 0), (0, 0)]), (0, 7, [(4, 0), (0, 0), (1, 0), (0, 0), (0, 0)]), (1, 0, []), (1, 0, []), (0, 11, [(4, 0), (4, 0), (4, 0), (4, 0), (4, 0), (0, 0), (4, 0), (0, 0), (0, 0), (0, 0), (0, 0), (0, 0), (0, 0)]), (1, 1, []), (0, 7, [(4, 0), (0, 0), (1, 0), (0, 0), (0, 0)]), (1, 0, []), (0, 5, [(4, 0), (4, 0), (4, 0), (4, 0), (0, 0), (0, 0), (0, 0), (4, 0), (4, 0), (0, 0), (0, 0), (0, 0), (0, 0), (0, 0), (0, 0), (0, 0), (0, 0), (0, 0), (0, 0)]), (0, 7, [(4, 0), (0, 0), (1, 0), (0, 0), (0, 0)]), (1, 0, []), (0, 7, [(4, 0), (0, 0), (1, 0), (0, 0), (0, 0)]), (1, 0, []), (1, 1, []), (1, 1, []), (1, 1, []), (1, 1, []), (1, 1, []), (1, 1, [])]
/-- PackHouse.write: this, @F, this.written, this.written.bytes, @F.bytes, this.tokens, this.tokens.settings, this.tokens.past, this.tokens.past.bytes, this.tokens.finder, this.tokens.finder.data, this.tokens.finder.data.bytes, this.tokens.packed, this.tokens.packed.bytes, this.tokens.finder.heads, this.tokens.finder.back, this.tokens.finder.literals, this.tokens.finder.lengths, this.tokens.finder.distances, this.checkCounts -/
theorem C17_vd1 {σE : rS} {D N : Nat → Nat} {F : hF} {A : hA} {d c s : Nat} {Q : wQ} (H : HW V17_vd1 σE D N F A) {x1 : Int} (pf2 : F 0 5 = (D 2 : Int)) (pf3 : F 2 0 = (D 3 : Int)) (pf4 : F 1 0 = (D 4 : Int)) (pf5 : F 0 8 = (D 5 : Int)) (pf6 : F 5 0 = (D 6 : Int)) (pf7 : F 5 1 = (D 7 : Int)) (pf8 : F 7 0 = (D 8 : Int)) (pf9 : F 5 2 = (D 9 : Int)) (pf10 : F 9 0 = (D 10 : Int)) (pf11 : F 10 0 = (D 11 : Int)) (pf12 : F 5 3 = (D 12 : Int)) (pf13 : F 12 0 = (D 13 : Int)) (pf14 : F 9 7 = (D 14 : Int)) (pf15 : F 9 8 = (D 15 : Int)) (pf16 : F 9 1 = (D 16 : Int)) (pf17 : F 9 2 = (D 17 : Int)) (pf18 : F 9 3 = (D 18 : Int)) (pf19 : F 0 15 = (D 19 : Int)) (n3 : Int) (en3 : (N 3 : Int) = n3) (n4 : Int) (en4 : (N 4 : Int) = n4) (n6 : Int) (en6 : (N 6 : Int) = n6) (n8 : Int) (en8 : (N 8 : Int) = n8) (n11 : Int) (en11 : (N 11 : Int) = n11) (n13 : Int) (en13 : (N 13 : Int) = n13) (n14 : Int) (en14 : (N 14 : Int) = n14) (n15 : Int) (en15 : (N 15 : Int) = n15) (n16 : Int) (en16 : (N 16 : Int) = n16) (n17 : Int) (en17 : (N 17 : Int) = n17) (n18 : Int) (en18 : (N 18 : Int) = n18) (n19 : Int) (en19 : (N 19 : Int) = n19) (u1_1 : Int) (eu1_1 : F 1 1 = u1_1) (u2_1 : Int) (eu2_1 : F 2 1 = u2_1) (u7_1 : Int) (eu7_1 : F 7 1 = u7_1) (u10_1 : Int) (eu10_1 : F 10 1 = u10_1) (u12_1 : Int) (eu12_1 : F 12 1 = u12_1) (w6 : Int → Int) (ew6 : A 6 = w6) {ls : rO} (hl0 : rlook ls 0 = some (.ref (D 0))) (hl1 : rlook ls 1 = some (I (x1))) (hl3 : rlook ls 3 = some (I (1))) (hl4 : rlook ls 4 = some (.ref (D 1))) (hl5 : rlook ls 5 = some (I (1))) (h0 : inr (x1)) (h1 : 0 ≤ (u2_1) ∧ (u2_1) ≤ (n3) ∧ (n3) ≤ 65536) (h2 : (u2_1) = 0) (h3 : 0 ≤ (u1_1) ∧ (u1_1) ≤ (n4) ∧ (n4) ≤ 65536) (h4 : (n6) = 10) (h5 : (u7_1) + (u1_1) ≤ 16384) (h6 : 0 ≤ (u7_1) ∧ (u7_1) ≤ (n8) ∧ (n8) ≤ 65536) (h7 : 0 ≤ (u10_1) ∧ (u10_1) ≤ (n11) ∧ (n11) ≤ 65536) (h8 : 0 ≤ (u12_1) ∧ (u12_1) ≤ (n13) ∧ (n13) ≤ 65536) (h9 : (n14) = 0 ∨ (n14) = 2048) (h10 : (n15) ≤ 16384) (h11 : (n16) = (n17) ∧ (n18) = (n17) ∧ (n17) ≤ 65536 ∧ ((n17) = 0 ∨ 64 ≤ (n17)) ∧ lgq ((n17)) = 0) (h12 : 1 ≤ ((w6)) 2 ∧ ((w6)) 2 ≤ 65536) (hc236 : ∀ (tc236_2 : Int), ∀ (tc236_3 : Int), ∀ (ls : rO) (σ : rS) (D_c236 N_c236 : Nat → Nat) (c_c236 s_c236 : Nat) (F_c236 : hF) (A_c236 : hA) , rlook ls 0 = some (.ref (D_c236 0)) → rlook ls 1 = some (I (x1)) → rlook ls 3 = some (I (1)) → rlook ls 4 = some (.ref (D_c236 1)) → HW V17_vd1 σ D_c236 N_c236 F_c236 A_c236 → OUT (V17_vd1).length D N σE c s D_c236 N_c236 σ c_c236 s_c236 → SD [3, 11, 13, 14, 15, 16, 17, 18] D D_c236 → SD [3, 11, 13, 14, 15, 16, 17, 18] N N_c236 → SF [(2, 0), (2, 1), (2, 2), (5, 8), (9, 1), (9, 2), (9, 3), (9, 4), (9, 5), (9, 6), (9, 7), (9, 8), (9, 9), (9, 10), (9, 11), (9, 12), (9, 13), (9, 14), (9, 15), (9, 16), (9, 17), (9, 18), (10, 0), (10, 1), (10, 2), (10, 3), (10, 4), (12, 0), (12, 1), (12, 2), (12, 3), (12, 4)] F F_c236 → SA [3, 11, 13, 14, 15, 16, 17, 18] A A_c236 → F_c236 2 0 = (D_c236 3 : Int) → F_c236 10 0 = (D_c236 11 : Int) → F_c236 12 0 = (D_c236 13 : Int) → F_c236 9 7 = (D_c236 14 : Int) → F_c236 9 8 = (D_c236 15 : Int) → F_c236 9 1 = (D_c236 16 : Int) → F_c236 9 2 = (D_c236 17 : Int) → F_c236 9 3 = (D_c236 18 : Int) → ∀ mc236_3 : Int, (N_c236 3 : Int) = mc236_3 → ∀ mc236_11 : Int, (N_c236 11 : Int) = mc236_11 → ∀ mc236_13 : Int, (N_c236 13 : Int) = mc236_13 → ∀ mc236_14 : Int, (N_c236 14 : Int) = mc236_14 → ∀ mc236_15 : Int, (N_c236 15 : Int) = mc236_15 → ∀ mc236_16 : Int, (N_c236 16 : Int) = mc236_16 → ∀ mc236_17 : Int, (N_c236 17 : Int) = mc236_17 → ∀ mc236_18 : Int, (N_c236 18 : Int) = mc236_18 → ∀ yc236_2_1 : Int, F_c236 2 1 = yc236_2_1 → ∀ yc236_10_1 : Int, F_c236 10 1 = yc236_10_1 → ∀ yc236_12_1 : Int, F_c236 12 1 = yc236_12_1 → (inr (tc236_2)) → (inr (tc236_3)) → (0 ≤ (yc236_2_1) ∧ (yc236_2_1) ≤ (mc236_3) ∧ (mc236_3) ≤ 65536) → (0 ≤ (yc236_10_1) ∧ (yc236_10_1) ≤ (mc236_11) ∧ (mc236_11) ≤ 65536) → (0 ≤ (yc236_12_1) ∧ (yc236_12_1) ≤ (mc236_13) ∧ (mc236_13) ≤ 65536) → ((mc236_14) = 0 ∨ (mc236_14) = 2048) → ((mc236_15) ≤ 16384) → ((mc236_16) = (mc236_17) ∧ (mc236_18) = (mc236_17) ∧ (mc236_17) ≤ 65536 ∧ ((mc236_17) = 0 ∨ 64 ≤ (mc236_17)) ∧ lgq ((mc236_17)) = 0) → ((tc236_2) = 1) → ((tc236_3) = (u1_1)) → Ew 17 (d + 7) 236 ls [.ref (D_c236 19), I (tc236_3), I (tc236_2), .ref (D_c236 2), .ref (D_c236 0)] σ c_c236 s_c236 Q) (k : ∀ (z : Int) (σ : rS) (D' N' : Nat → Nat) (F' : hF) (A' : hA) (c' s' : Nat), HW V17_vd1 σ D' N' F' A' → OUT (V17_vd1).length D N σE c s D' N' σ c' s' → SD [3, 11, 13, 14, 15, 16, 17, 18] D D' → SD [3, 11, 13, 14, 15, 16, 17, 18] N N' → SF [(2, 0), (2, 1), (2, 2), (5, 8), (9, 1), (9, 2), (9, 3), (9, 4), (9, 5), (9, 6), (9, 7), (9, 8), (9, 9), (9, 10), (9, 11), (9, 12), (9, 13), (9, 14), (9, 15), (9, 16), (9, 17), (9, 18), (10, 0), (10, 1), (10, 2), (10, 3), (10, 4), (12, 0), (12, 1), (12, 2), (12, 3), (12, 4)] F F' → SA [3, 11, 13, 14, 15, 16, 17, 18] A A' → F' 2 0 = (D' 3 : Int) → F' 10 0 = (D' 11 : Int) → F' 12 0 = (D' 13 : Int) → F' 9 7 = (D' 14 : Int) → F' 9 8 = (D' 15 : Int) → F' 9 1 = (D' 16 : Int) → F' 9 2 = (D' 17 : Int) → F' 9 3 = (D' 18 : Int) → ∀ m3 : Int, (N' 3 : Int) = m3 → ∀ m11 : Int, (N' 11 : Int) = m11 → ∀ m13 : Int, (N' 13 : Int) = m13 → ∀ m14 : Int, (N' 14 : Int) = m14 → ∀ m15 : Int, (N' 15 : Int) = m15 → ∀ m16 : Int, (N' 16 : Int) = m16 → ∀ m17 : Int, (N' 17 : Int) = m17 → ∀ m18 : Int, (N' 18 : Int) = m18 → ∀ y2_1 : Int, F' 2 1 = y2_1 → ∀ y10_1 : Int, F' 10 1 = y10_1 → ∀ y12_1 : Int, F' 12 1 = y12_1 → (inr (z)) → (0 ≤ (y2_1) ∧ (y2_1) ≤ (m3) ∧ (m3) ≤ 65536) → (0 ≤ (y10_1) ∧ (y10_1) ≤ (m11) ∧ (m11) ≤ 65536) → (0 ≤ (y12_1) ∧ (y12_1) ≤ (m13) ∧ (m13) ≤ 65536) → ((m14) = 0 ∨ (m14) = 2048) → ((m15) ≤ 16384) → ((m16) = (m17) ∧ (m18) = (m17) ∧ (m17) ≤ 65536 ∧ ((m17) = 0 ∨ 64 ≤ (m17)) ∧ lgq ((m17)) = 0) → Q (some (I z)) σ c' s') : Ew 17 (d + 7) 120 ls [.ref (D 5)] σE c s Q := by
  have O := OUT_refl (n := (V17_vd1).length) (D := D) (N := N) (σ := σE) (c := c) (s := s)
  have HE := H
  have r1 : HID ((-2147483648 : Int) ≤ u1_1 ∧ u1_1 ≤ 2147483647) := krg_e (show (-2147483648 : Int) ≤ F 1 1 ∧ F 1 1 ≤ 2147483647 from H.krg 1 1 (by decide)) (show F 1 1 = u1_1 from (eu1_1))
  have r2 : HID ((-2147483648 : Int) ≤ u2_1 ∧ u2_1 ≤ 2147483647) := krg_e (show (-2147483648 : Int) ≤ F 2 1 ∧ F 2 1 ≤ 2147483647 from H.krg 2 1 (by decide)) (show F 2 1 = u2_1 from (eu2_1))
  have r3 : HID ((-2147483648 : Int) ≤ u7_1 ∧ u7_1 ≤ 2147483647) := krg_e (show (-2147483648 : Int) ≤ F 7 1 ∧ F 7 1 ≤ 2147483647 from H.krg 7 1 (by decide)) (show F 7 1 = u7_1 from (eu7_1))
  have r4 : HID ((-2147483648 : Int) ≤ u10_1 ∧ u10_1 ≤ 2147483647) := krg_e (show (-2147483648 : Int) ≤ F 10 1 ∧ F 10 1 ≤ 2147483647 from H.krg 10 1 (by decide)) (show F 10 1 = u10_1 from (eu10_1))
  have r5 : HID ((-2147483648 : Int) ≤ u12_1 ∧ u12_1 ≤ 2147483647) := krg_e (show (-2147483648 : Int) ≤ F 12 1 ∧ F 12 1 ≤ 2147483647 from H.krg 12 1 (by decide)) (show F 12 1 = u12_1 from (eu12_1))
  replace pf2 := HIDm pf2
  replace pf3 := HIDm pf3
  replace pf4 := HIDm pf4
  replace pf5 := HIDm pf5
  replace pf6 := HIDm pf6
  replace pf7 := HIDm pf7
  replace pf8 := HIDm pf8
  replace pf9 := HIDm pf9
  replace pf10 := HIDm pf10
  replace pf11 := HIDm pf11
  replace pf12 := HIDm pf12
  replace pf13 := HIDm pf13
  replace pf14 := HIDm pf14
  replace pf15 := HIDm pf15
  replace pf16 := HIDm pf16
  replace pf17 := HIDm pf17
  replace pf18 := HIDm pf18
  replace pf19 := HIDm pf19
  replace en3 := HIDm en3
  replace en4 := HIDm en4
  replace en6 := HIDm en6
  replace en8 := HIDm en8
  replace en11 := HIDm en11
  replace en13 := HIDm en13
  replace en14 := HIDm en14
  replace en15 := HIDm en15
  replace en16 := HIDm en16
  replace en17 := HIDm en17
  replace en18 := HIDm en18
  replace en19 := HIDm en19
  replace eu1_1 := HIDm eu1_1
  replace eu2_1 := HIDm eu2_1
  replace eu7_1 := HIDm eu7_1
  replace eu10_1 := HIDm eu10_1
  replace eu12_1 := HIDm eu12_1
  have r6 : HID ((0 : Int) ≤ n3 ∧ n3 ≤ 1000000) := nrng (H.nle 3 (by decide)) (show (N 3 : Int) = n3 from en3)
  have r7 : HID ((0 : Int) ≤ n4 ∧ n4 ≤ 1000000) := nrng (H.nle 4 (by decide)) (show (N 4 : Int) = n4 from en4)
  have r8 : HID ((0 : Int) ≤ n6 ∧ n6 ≤ 1000000) := nrng (H.nle 6 (by decide)) (show (N 6 : Int) = n6 from en6)
  have r9 : HID ((0 : Int) ≤ n8 ∧ n8 ≤ 1000000) := nrng (H.nle 8 (by decide)) (show (N 8 : Int) = n8 from en8)
  have r10 : HID ((0 : Int) ≤ n11 ∧ n11 ≤ 1000000) := nrng (H.nle 11 (by decide)) (show (N 11 : Int) = n11 from en11)
  have r11 : HID ((0 : Int) ≤ n13 ∧ n13 ≤ 1000000) := nrng (H.nle 13 (by decide)) (show (N 13 : Int) = n13 from en13)
  have r12 : HID ((0 : Int) ≤ n14 ∧ n14 ≤ 1000000) := nrng (H.nle 14 (by decide)) (show (N 14 : Int) = n14 from en14)
  have r13 : HID ((0 : Int) ≤ n15 ∧ n15 ≤ 1000000) := nrng (H.nle 15 (by decide)) (show (N 15 : Int) = n15 from en15)
  have r14 : HID ((0 : Int) ≤ n16 ∧ n16 ≤ 1000000) := nrng (H.nle 16 (by decide)) (show (N 16 : Int) = n16 from en16)
  have r15 : HID ((0 : Int) ≤ n17 ∧ n17 ≤ 1000000) := nrng (H.nle 17 (by decide)) (show (N 17 : Int) = n17 from en17)
  have r16 : HID ((0 : Int) ≤ n18 ∧ n18 ≤ 1000000) := nrng (H.nle 18 (by decide)) (show (N 18 : Int) = n18 from en18)
  refine Ew_of (pc' := 121) (fun _ => x_aload_n rfl hl0) ?_
  refine v_g H (o := 0) (v := .ref (D 2)) rfl rfl rfl rfl rfl (vrf (pf2)) ?_
  refine Ew_of (pc' := 126) (fun _ => x_aload rfl hl4) ?_
  have r17 : HID ((0 : Int) ≤ F 2 2 ∧ F 2 2 ≤ 1) := krg_e (show (0 : Int) ≤ F 2 2 ∧ F 2 2 ≤ 1 from H.krg 2 2 (by decide)) (show F 2 2 = F 2 2 from rfl)
  refine v_inv H (o := 5) rfl rfl rfl rfl rfl rfl (by rfl) (C218_Row_Row (D := pul [5, 2, 1, 3, 4, 7, 8, 9, 10, 11, 12, 13, 6, 14, 15, 16, 17, 18] D) (N := pul [5, 2, 1, 3, 4, 7, 8, 9, 10, 11, 12, 13, 6, 14, 15, 16, 17, 18] N) (HW_sub H (VS_of (show vsub V17_vd1 V218_Row_Row [5, 2, 1, 3, 4, 7, 8, 9, 10, 11, 12, 13, 6, 14, 15, 16, 17, 18] = true by decide +kernel))) (pf3) (pf4) (pf7) (pf8) (pf9) (pf10) (pf11) (pf12) (pf13) (pf6) (pf14) (pf15) (pf16) (pf17) (pf18) (n3) (en3) (n4) (en4) (n8) (en8) (n11) (en11) (n13) (en13) (n6) (en6) (n14) (en14) (n15) (en15) (n16) (en16) (n17) (en17) (n18) (en18) (u2_1) ((eu2_1)) (F 2 2) (rfl) (u1_1) ((eu1_1)) (u7_1) ((eu7_1)) (u10_1) ((eu10_1)) (u12_1) ((eu12_1)) (A 3) (rfl) (A 4) (rfl) (A 8) (rfl) (w6) (ew6) (show 0 ≤ (u2_1) ∧ (u2_1) ≤ (n3) ∧ (n3) ≤ 65536 by have qh0 := HIDe r2; have qh1 := HIDe r6; omega) (show (u2_1) = 0 ∧ (F 2 2) = 0 by have qh0 := HIDe r17; have qh1 := HIDe r2; omega) (show 0 ≤ (u1_1) ∧ (u1_1) ≤ (n4) ∧ (n4) ≤ 65536 by have qh0 := HIDe r1; have qh1 := HIDe r7; omega) (show 0 ≤ (u7_1) ∧ (u7_1) ≤ (n8) ∧ (n8) ≤ 65536 by have qh0 := HIDe r3; have qh1 := HIDe r9; omega) (show 0 ≤ (u10_1) ∧ (u10_1) ≤ (n11) ∧ (n11) ≤ 65536 by have qh0 := HIDe r10; have qh1 := HIDe r4; omega) (show 0 ≤ (u12_1) ∧ (u12_1) ≤ (n13) ∧ (n13) ≤ 65536 by have qh0 := HIDe r11; have qh1 := HIDe r5; omega) (show (n6) = 10 by have qh0 := HIDe r8; omega) (show (u7_1) + (u1_1) ≤ 16384 by have qh0 := HIDe r1; have qh1 := HIDe r3; omega) (show 1 ≤ ((w6)) 2 ∧ ((w6)) 2 ≤ 65536 by omega) (show (n14) = 0 ∨ (n14) = 2048 by have qh0 := HIDe r12; omega) (show (n15) ≤ 16384 by have qh0 := HIDe r13; omega) (show (n16) = (n17) ∧ (n18) = (n17) ∧ (n17) ≤ 65536 ∧ ((n17) = 0 ∨ 64 ≤ (n17)) ∧ lgq ((n17)) = 0 by have qh0 := HIDe r14; have qh1 := HIDe r15; have qh2 := HIDe r16; omega) (fun σ18 D18' N18' F18' A18' c18 s18 H' O' hD18 hN18 hS18 hA18 pm18_3 pm18_9 pm18_11 pm18_13 pm18_14 pm18_15 pm18_16 pm18_17 m18_3 em18_3 m18_9 em18_9 m18_11 em18_11 m18_13 em18_13 m18_14 em18_14 m18_15 em18_15 m18_16 em18_16 m18_17 em18_17 y18_1_1 ey18_1_1 y18_1_2 ey18_1_2 y18_8_1 ey18_8_1 y18_10_1 ey18_10_1 w18_3 ew18_3 pz18_0 pz18_1 pz18_2 pz18_3 pz18_4 pz18_5 pz18_6 => ⟨rfl, ?_⟩))
  replace pm18_3 := HIDm pm18_3
  replace pm18_9 := HIDm pm18_9
  replace pm18_11 := HIDm pm18_11
  replace pm18_13 := HIDm pm18_13
  replace pm18_14 := HIDm pm18_14
  replace pm18_15 := HIDm pm18_15
  replace pm18_16 := HIDm pm18_16
  replace pm18_17 := HIDm pm18_17
  replace em18_3 := HIDm em18_3
  replace em18_9 := HIDm em18_9
  replace em18_11 := HIDm em18_11
  replace em18_13 := HIDm em18_13
  replace em18_14 := HIDm em18_14
  replace em18_15 := HIDm em18_15
  replace em18_16 := HIDm em18_16
  replace em18_17 := HIDm em18_17
  replace ey18_1_1 := HIDm ey18_1_1
  replace ey18_1_2 := HIDm ey18_1_2
  replace ey18_8_1 := HIDm ey18_8_1
  replace ey18_10_1 := HIDm ey18_10_1
  refine v_backM (c := c) (s := s) H (show vsub V17_vd1 V218_Row_Row [5, 2, 1, 3, 4, 7, 8, 9, 10, 11, 12, 13, 6, 14, 15, 16, 17, 18] = true by decide +kernel) H' O' hD18 (show vmov V17_vd1 [5, 2, 1, 3, 4, 7, 8, 9, 10, 11, 12, 13, 6, 14, 15, 16, 17, 18] [3, 9, 11, 13, 14, 15, 16, 17] = true by decide +kernel) (fun D18 N18 F18 A18 H O' eD18 eN18 eF18 eA18 => ?_)
  have O := OUT_trans O O'
  -- Tokens.packFrame
  have pf18_0_15 : HID (F18 0 15 = (D18 19 : Int)) := ((show F18 0 15 = F 0 15 from (eF18 0 15))).trans ((pf19).trans (congrArg (fun q : Nat => (q : Int)) ((show D18 19 = D 19 from (eD18 19))).symm))
  have pf18_0_5 : HID (F18 0 5 = (D18 2 : Int)) := ((show F18 0 5 = F 0 5 from (eF18 0 5))).trans ((pf2).trans (congrArg (fun q : Nat => (q : Int)) ((show D18 2 = D 2 from (eD18 2).trans (hD18 1 rfl))).symm))
  have pf18_0_8 : HID (F18 0 8 = (D18 5 : Int)) := ((show F18 0 8 = F 0 8 from (eF18 0 8))).trans ((pf5).trans (congrArg (fun q : Nat => (q : Int)) ((show D18 5 = D 5 from (eD18 5).trans (hD18 0 rfl))).symm))
  have pf18_1_0 : HID (F18 1 0 = (D18 4 : Int)) := ((show F18 1 0 = F 1 0 from (eF18 1 0).trans (hS18 2 0 rfl))).trans ((pf4).trans (congrArg (fun q : Nat => (q : Int)) ((show D18 4 = D 4 from (eD18 4).trans (hD18 4 rfl))).symm))
  have pf18_10_0 : HID (F18 10 0 = (D18 11 : Int)) := (eF18 10 0).trans (pm18_9.trans (congrArg (fun q : Nat => (q : Int)) (eD18 11).symm))
  have pf18_12_0 : HID (F18 12 0 = (D18 13 : Int)) := (eF18 12 0).trans (pm18_11.trans (congrArg (fun q : Nat => (q : Int)) (eD18 13).symm))
  have pf18_2_0 : HID (F18 2 0 = (D18 3 : Int)) := (eF18 2 0).trans (pm18_3.trans (congrArg (fun q : Nat => (q : Int)) (eD18 3).symm))
  have pf18_5_0 : HID (F18 5 0 = (D18 6 : Int)) := ((show F18 5 0 = F 5 0 from (eF18 5 0).trans (hS18 0 0 rfl))).trans ((pf6).trans (congrArg (fun q : Nat => (q : Int)) ((show D18 6 = D 6 from (eD18 6).trans (hD18 12 rfl))).symm))
  have pf18_5_1 : HID (F18 5 1 = (D18 7 : Int)) := ((show F18 5 1 = F 5 1 from (eF18 5 1).trans (hS18 0 1 rfl))).trans ((pf7).trans (congrArg (fun q : Nat => (q : Int)) ((show D18 7 = D 7 from (eD18 7).trans (hD18 5 rfl))).symm))
  have pf18_5_2 : HID (F18 5 2 = (D18 9 : Int)) := ((show F18 5 2 = F 5 2 from (eF18 5 2).trans (hS18 0 2 rfl))).trans ((pf9).trans (congrArg (fun q : Nat => (q : Int)) ((show D18 9 = D 9 from (eD18 9).trans (hD18 7 rfl))).symm))
  have pf18_5_3 : HID (F18 5 3 = (D18 12 : Int)) := ((show F18 5 3 = F 5 3 from (eF18 5 3).trans (hS18 0 3 rfl))).trans ((pf12).trans (congrArg (fun q : Nat => (q : Int)) ((show D18 12 = D 12 from (eD18 12).trans (hD18 10 rfl))).symm))
  have pf18_7_0 : HID (F18 7 0 = (D18 8 : Int)) := ((show F18 7 0 = F 7 0 from (eF18 7 0).trans (hS18 5 0 rfl))).trans ((pf8).trans (congrArg (fun q : Nat => (q : Int)) ((show D18 8 = D 8 from (eD18 8).trans (hD18 6 rfl))).symm))
  have pf18_9_0 : HID (F18 9 0 = (D18 10 : Int)) := ((show F18 9 0 = F 9 0 from (eF18 9 0).trans (hS18 7 0 rfl))).trans ((pf10).trans (congrArg (fun q : Nat => (q : Int)) ((show D18 10 = D 10 from (eD18 10).trans (hD18 8 rfl))).symm))
  have pf18_9_1 : HID (F18 9 1 = (D18 16 : Int)) := (eF18 9 1).trans (pm18_15.trans (congrArg (fun q : Nat => (q : Int)) (eD18 16).symm))
  have pf18_9_2 : HID (F18 9 2 = (D18 17 : Int)) := (eF18 9 2).trans (pm18_16.trans (congrArg (fun q : Nat => (q : Int)) (eD18 17).symm))
  have pf18_9_3 : HID (F18 9 3 = (D18 18 : Int)) := (eF18 9 3).trans (pm18_17.trans (congrArg (fun q : Nat => (q : Int)) (eD18 18).symm))
  have pf18_9_7 : HID (F18 9 7 = (D18 14 : Int)) := (eF18 9 7).trans (pm18_13.trans (congrArg (fun q : Nat => (q : Int)) (eD18 14).symm))
  have pf18_9_8 : HID (F18 9 8 = (D18 15 : Int)) := (eF18 9 8).trans (pm18_14.trans (congrArg (fun q : Nat => (q : Int)) (eD18 15).symm))
  have r19 : HID ((0 : Int) ≤ m18_3 ∧ m18_3 ≤ 1000000) := nrng (H.nle 3 (by decide)) (show (N18 3 : Int) = m18_3 from (congrArg (fun q : Nat => (q : Int)) (eN18 3)).trans em18_3)
  have r20 : HID ((0 : Int) ≤ m18_9 ∧ m18_9 ≤ 1000000) := nrng (H.nle 11 (by decide)) (show (N18 11 : Int) = m18_9 from (congrArg (fun q : Nat => (q : Int)) (eN18 11)).trans em18_9)
  have r21 : HID ((0 : Int) ≤ m18_11 ∧ m18_11 ≤ 1000000) := nrng (H.nle 13 (by decide)) (show (N18 13 : Int) = m18_11 from (congrArg (fun q : Nat => (q : Int)) (eN18 13)).trans em18_11)
  have r22 : HID ((0 : Int) ≤ m18_13 ∧ m18_13 ≤ 1000000) := nrng (H.nle 14 (by decide)) (show (N18 14 : Int) = m18_13 from (congrArg (fun q : Nat => (q : Int)) (eN18 14)).trans em18_13)
  have r23 : HID ((0 : Int) ≤ m18_14 ∧ m18_14 ≤ 1000000) := nrng (H.nle 15 (by decide)) (show (N18 15 : Int) = m18_14 from (congrArg (fun q : Nat => (q : Int)) (eN18 15)).trans em18_14)
  have r24 : HID ((0 : Int) ≤ m18_15 ∧ m18_15 ≤ 1000000) := nrng (H.nle 16 (by decide)) (show (N18 16 : Int) = m18_15 from (congrArg (fun q : Nat => (q : Int)) (eN18 16)).trans em18_15)
  have r25 : HID ((0 : Int) ≤ m18_16 ∧ m18_16 ≤ 1000000) := nrng (H.nle 17 (by decide)) (show (N18 17 : Int) = m18_16 from (congrArg (fun q : Nat => (q : Int)) (eN18 17)).trans em18_16)
  have r26 : HID ((0 : Int) ≤ m18_17 ∧ m18_17 ≤ 1000000) := nrng (H.nle 18 (by decide)) (show (N18 18 : Int) = m18_17 from (congrArg (fun q : Nat => (q : Int)) (eN18 18)).trans em18_17)
  have r27 : HID ((-2147483648 : Int) ≤ y18_1_1 ∧ y18_1_1 ≤ 2147483647) := krg_e (show (-2147483648 : Int) ≤ F18 2 1 ∧ F18 2 1 ≤ 2147483647 from H.krg 2 1 (by decide)) (show F18 2 1 = y18_1_1 from ((eF18 2 1).trans ey18_1_1))
  have r28 : HID ((0 : Int) ≤ y18_1_2 ∧ y18_1_2 ≤ 1) := krg_e (show (0 : Int) ≤ F18 2 2 ∧ F18 2 2 ≤ 1 from H.krg 2 2 (by decide)) (show F18 2 2 = y18_1_2 from ((eF18 2 2).trans ey18_1_2))
  have r29 : HID ((-2147483648 : Int) ≤ y18_8_1 ∧ y18_8_1 ≤ 2147483647) := krg_e (show (-2147483648 : Int) ≤ F18 10 1 ∧ F18 10 1 ≤ 2147483647 from H.krg 10 1 (by decide)) (show F18 10 1 = y18_8_1 from ((eF18 10 1).trans ey18_8_1))
  have r30 : HID ((-2147483648 : Int) ≤ y18_10_1 ∧ y18_10_1 ≤ 2147483647) := krg_e (show (-2147483648 : Int) ≤ F18 12 1 ∧ F18 12 1 ≤ 2147483647 from H.krg 12 1 (by decide)) (show F18 12 1 = y18_10_1 from ((eF18 12 1).trans ey18_10_1))
  refine Ew_of (pc' := 199) (fun _ => x_goto rfl rfl) ?_
  refine Ew_of (pc' := 201) (fun _ => x_iload rfl hl5) ?_
  refine w_ifeq (t := 214) rfl rfl (show inr (1) by omega) (fun b31 => ?_) (fun b31 => ?_)
  · exact absurd b31 (by omega)
  · refine Ew_of (pc' := 205) (fun _ => x_aload_n rfl hl0) ?_
    refine Ew_stk (show ([.ref (D 0)] : List Value) = [.ref (D18 0)] by rw [show D18 0 = D 0 from ((show D18 0 = D 0 from (eD18 0)))]) ?_
    refine v_g H (o := 0) (v := .ref (D18 2)) rfl rfl rfl rfl rfl (vrf (pf18_0_5)) ?_
    refine v_g H (o := 2) (v := I (y18_1_2)) rfl rfl rfl rfl rfl (congrArg (fun z : Int => I z) (((eF18 2 2).trans ey18_1_2) : F18 2 2 = y18_1_2)) ?_
    refine w_ifeq (t := 216) rfl rfl (show inr (y18_1_2) by have qh0 := HIDe r28; omega) (fun b32 => ?_) (fun b32 => ?_)
    · refine Ew_of (pc' := 217) (fun _ => x_iload_n rfl hl3) ?_
      refine Ew_of (pc' := 218) (fun _ => x_iconst rfl) ?_
      refine w_icmpeq (t := 277) rfl rfl (show inr (1) by omega) (show inr (5) by omega) (fun b33 => ?_) (fun b33 => ?_)
      · exact absurd b33 (by omega)
      · refine Ew_of (pc' := 222) (fun _ => x_aload_n rfl hl0) ?_
        refine Ew_of (pc' := 223) (fun _ => x_aload_n rfl hl0) ?_
        refine Ew_stk (show ([.ref (D 0), .ref (D 0)] : List Value) = [.ref (D18 0), .ref (D18 0)] by rw [show D18 0 = D 0 from ((show D18 0 = D 0 from (eD18 0)))]) ?_
        refine v_g H (o := 0) (v := .ref (D18 2)) rfl rfl rfl rfl rfl (vrf (pf18_0_5)) ?_
        refine Ew_of (pc' := 227) (fun _ => x_iload_n rfl hl3) ?_
        refine Ew_of (pc' := 229) (fun _ => x_aload rfl hl4) ?_
        refine Ew_stk (show ([.ref (D 1), I (1), .ref (D18 2), .ref (D18 0)] : List Value) = [.ref (D18 1), I (1), .ref (D18 2), .ref (D18 0)] by rw [show D18 1 = D 1 from ((show D18 1 = D 1 from (eD18 1).trans (hD18 2 rfl)))]) ?_
        refine v_g H (o := 1) (v := I (u1_1)) rfl rfl rfl rfl rfl (congrArg (fun z : Int => I z) ((((show F18 1 1 = F 1 1 from (eF18 1 1).trans (hS18 2 1 rfl))).trans (eu1_1)) : F18 1 1 = u1_1)) ?_
        refine Ew_of (pc' := 233) (fun _ => x_aload_n rfl hl0) ?_
        refine Ew_stk (show ([.ref (D 0), I (u1_1), I (1), .ref (D18 2), .ref (D18 0)] : List Value) = [.ref (D18 0), I (u1_1), I (1), .ref (D18 2), .ref (D18 0)] by rw [show D18 0 = D 0 from ((show D18 0 = D 0 from (eD18 0)))]) ?_
        refine v_g H (o := 0) (v := .ref (D18 19)) rfl rfl rfl rfl rfl (vrf (pf18_0_15)) ?_
        exact hc236 (1) (u1_1) _ _ _ _ _ _ _ _  ((hl0).trans (congrArg (fun q : Nat => some (Value.ref q)) (((show D18 0 = D 0 from (eD18 0)))).symm)) (hl1) (hl3) ((hl4).trans (congrArg (fun q : Nat => some (Value.ref q)) (((show D18 1 = D 1 from (eD18 1).trans (hD18 2 rfl)))).symm)) H O (SD_trans (SD_refl) (SD_glu (ι := [5, 2, 1, 3, 4, 7, 8, 9, 10, 11, 12, 13, 6, 14, 15, 16, 17, 18]) hD18 eD18 (by decide +kernel)) (any_subA (l' := [3, 11, 13, 14, 15, 16, 17, 18]) rfl)) (SD_trans (SD_refl) (SD_glu (ι := [5, 2, 1, 3, 4, 7, 8, 9, 10, 11, 12, 13, 6, 14, 15, 16, 17, 18]) hN18 eN18 (by decide +kernel)) (any_subA (l' := [3, 11, 13, 14, 15, 16, 17, 18]) rfl)) (SF_trans (SF_refl) (SF_glu (ι := [5, 2, 1, 3, 4, 7, 8, 9, 10, 11, 12, 13, 6, 14, 15, 16, 17, 18]) hS18 eF18 (by decide +kernel)) (any_sub (l' := [(2, 0), (2, 1), (2, 2), (5, 8), (9, 1), (9, 2), (9, 3), (9, 4), (9, 5), (9, 6), (9, 7), (9, 8), (9, 9), (9, 10), (9, 11), (9, 12), (9, 13), (9, 14), (9, 15), (9, 16), (9, 17), (9, 18), (10, 0), (10, 1), (10, 2), (10, 3), (10, 4), (12, 0), (12, 1), (12, 2), (12, 3), (12, 4)]) rfl)) (SA_trans (SA_refl) (SA_glu (ι := [5, 2, 1, 3, 4, 7, 8, 9, 10, 11, 12, 13, 6, 14, 15, 16, 17, 18]) hA18 eA18 (by decide +kernel)) (any_subA (l' := [3, 11, 13, 14, 15, 16, 17, 18]) rfl)) (pf18_2_0) (pf18_10_0) (pf18_12_0) (pf18_9_7) (pf18_9_8) (pf18_9_1) (pf18_9_2) (pf18_9_3) (m18_3) ((congrArg (fun q : Nat => (q : Int)) (eN18 3)).trans em18_3) (m18_9) ((congrArg (fun q : Nat => (q : Int)) (eN18 11)).trans em18_9) (m18_11) ((congrArg (fun q : Nat => (q : Int)) (eN18 13)).trans em18_11) (m18_13) ((congrArg (fun q : Nat => (q : Int)) (eN18 14)).trans em18_13) (m18_14) ((congrArg (fun q : Nat => (q : Int)) (eN18 15)).trans em18_14) (m18_15) ((congrArg (fun q : Nat => (q : Int)) (eN18 16)).trans em18_15) (m18_16) ((congrArg (fun q : Nat => (q : Int)) (eN18 17)).trans em18_16) (m18_17) ((congrArg (fun q : Nat => (q : Int)) (eN18 18)).trans em18_17) (y18_1_1) (((eF18 2 1).trans ey18_1_1)) (y18_8_1) (((eF18 10 1).trans ey18_8_1)) (y18_10_1) (((eF18 12 1).trans ey18_10_1))  (show inr (1) by omega) (show inr (u1_1) by have qh0 := HIDe r1; omega) (show 0 ≤ (y18_1_1) ∧ (y18_1_1) ≤ (m18_3) ∧ (m18_3) ≤ 65536 by have qh0 := HIDe r19; have qh1 := HIDe r27; omega) (show 0 ≤ (y18_8_1) ∧ (y18_8_1) ≤ (m18_9) ∧ (m18_9) ≤ 65536 by have qh0 := HIDe r20; have qh1 := HIDe r29; omega) (show 0 ≤ (y18_10_1) ∧ (y18_10_1) ≤ (m18_11) ∧ (m18_11) ≤ 65536 by have qh0 := HIDe r21; have qh1 := HIDe r30; omega) (show (m18_13) = 0 ∨ (m18_13) = 2048 by have qh0 := HIDe r22; omega) (show (m18_14) ≤ 16384 by have qh0 := HIDe r23; omega) (show (m18_15) = (m18_16) ∧ (m18_17) = (m18_16) ∧ (m18_16) ≤ 65536 ∧ ((m18_16) = 0 ∨ 64 ≤ (m18_16)) ∧ lgq ((m18_16)) = 0 by have qh0 := HIDe r24; have qh1 := HIDe r25; have qh2 := HIDe r26; omega) (show (1) = 1 by omega) (show (u1_1) = (u1_1) by have qh0 := HIDe r1; omega)
    · refine Ew_of (pc' := 215) (fun _ => x_iconst rfl) ?_
      exact w_ireturn rfl (k ((-1)) _ _ _ _ _ _ _ H O (SD_trans (SD_refl) (SD_glu (ι := [5, 2, 1, 3, 4, 7, 8, 9, 10, 11, 12, 13, 6, 14, 15, 16, 17, 18]) hD18 eD18 (by decide +kernel)) (any_subA (l' := [3, 11, 13, 14, 15, 16, 17, 18]) rfl)) (SD_trans (SD_refl) (SD_glu (ι := [5, 2, 1, 3, 4, 7, 8, 9, 10, 11, 12, 13, 6, 14, 15, 16, 17, 18]) hN18 eN18 (by decide +kernel)) (any_subA (l' := [3, 11, 13, 14, 15, 16, 17, 18]) rfl)) (SF_trans (SF_refl) (SF_glu (ι := [5, 2, 1, 3, 4, 7, 8, 9, 10, 11, 12, 13, 6, 14, 15, 16, 17, 18]) hS18 eF18 (by decide +kernel)) (any_sub (l' := [(2, 0), (2, 1), (2, 2), (5, 8), (9, 1), (9, 2), (9, 3), (9, 4), (9, 5), (9, 6), (9, 7), (9, 8), (9, 9), (9, 10), (9, 11), (9, 12), (9, 13), (9, 14), (9, 15), (9, 16), (9, 17), (9, 18), (10, 0), (10, 1), (10, 2), (10, 3), (10, 4), (12, 0), (12, 1), (12, 2), (12, 3), (12, 4)]) rfl)) (SA_trans (SA_refl) (SA_glu (ι := [5, 2, 1, 3, 4, 7, 8, 9, 10, 11, 12, 13, 6, 14, 15, 16, 17, 18]) hA18 eA18 (by decide +kernel)) (any_subA (l' := [3, 11, 13, 14, 15, 16, 17, 18]) rfl)) (pf18_2_0) (pf18_10_0) (pf18_12_0) (pf18_9_7) (pf18_9_8) (pf18_9_1) (pf18_9_2) (pf18_9_3) (m18_3) ((congrArg (fun q : Nat => (q : Int)) (eN18 3)).trans em18_3) (m18_9) ((congrArg (fun q : Nat => (q : Int)) (eN18 11)).trans em18_9) (m18_11) ((congrArg (fun q : Nat => (q : Int)) (eN18 13)).trans em18_11) (m18_13) ((congrArg (fun q : Nat => (q : Int)) (eN18 14)).trans em18_13) (m18_14) ((congrArg (fun q : Nat => (q : Int)) (eN18 15)).trans em18_14) (m18_15) ((congrArg (fun q : Nat => (q : Int)) (eN18 16)).trans em18_15) (m18_16) ((congrArg (fun q : Nat => (q : Int)) (eN18 17)).trans em18_16) (m18_17) ((congrArg (fun q : Nat => (q : Int)) (eN18 18)).trans em18_17) (y18_1_1) (((eF18 2 1).trans ey18_1_1)) (y18_8_1) (((eF18 10 1).trans ey18_8_1)) (y18_10_1) (((eF18 12 1).trans ey18_10_1)) (show inr ((-1)) by omega) (show 0 ≤ (y18_1_1) ∧ (y18_1_1) ≤ (m18_3) ∧ (m18_3) ≤ 65536 by have qh0 := HIDe r19; have qh1 := HIDe r27; omega) (show 0 ≤ (y18_8_1) ∧ (y18_8_1) ≤ (m18_9) ∧ (m18_9) ≤ 65536 by have qh0 := HIDe r20; have qh1 := HIDe r29; omega) (show 0 ≤ (y18_10_1) ∧ (y18_10_1) ≤ (m18_11) ∧ (m18_11) ≤ 65536 by have qh0 := HIDe r21; have qh1 := HIDe r30; omega) (show (m18_13) = 0 ∨ (m18_13) = 2048 by have qh0 := HIDe r22; omega) (show (m18_14) ≤ 16384 by have qh0 := HIDe r23; omega) (show (m18_15) = (m18_16) ∧ (m18_17) = (m18_16) ∧ (m18_16) ≤ 65536 ∧ ((m18_16) = 0 ∨ 64 ≤ (m18_16)) ∧ lgq ((m18_16)) = 0 by have qh0 := HIDe r24; have qh1 := HIDe r25; have qh2 := HIDe r26; omega))
abbrev V17_vd2 : vV := [(0, 0, [(4, 0), (4, 0), (4, 0), (4, 0), (4, 0), (4, 0), (4, 0), (4, 0), (4, 0), (4, 0), (4, 0), (4, 0), (4, 0), (4, 0), (4, 0), (4, 0), (4, 0), (0, 0), (0, 0)]), (0, 7, [(4, 0), (0, 0), (1, 0), (0, 0), (0, 0)]), (0, 7, [(4, 0), (0, 0), (1, 0), (0, 0), (0, 0)]), (1, 0, []), (1, 0, []), (0, 10, [(4, 0), (4, 0), (4, 0), (4, 0), (0, 0), (4, 0), (0, 0), (2, 0), (0, 0)]), (1, 1, []), (0, 5, [(4, 0), (4, 0), (4, 0), (4, 0), (0, 0), (0, 0), (0, 0), (4, 0), (4, 0), (0, 0), (0, 0), (0, 0), (0, 0), (0, 0), (0, 0), (0, 0), (0, 0), (0, 0), (0, 0)]), (0, 7, [(4, 0), (0, 0), (1, 0), (0, 0), (0, 0)]), (1, 0, []), (1, 1, []), (1, 1, []), (1, 1, []), (1, 1, []), (1, 1, []), (1, 1, [])]
/-- PackHouse.write: this, @F, this.written, this.written.bytes, @F.bytes, this.tags, this.tags.settings, this.tags.finder, this.tags.finder.data, this.tags.finder.data.bytes, this.tags.finder.heads, this.tags.finder.back, this.tags.finder.literals, this.tags.finder.lengths, this.tags.finder.distances, this.checkCounts -/
theorem C17_vd2 {σE : rS} {D N : Nat → Nat} {F : hF} {A : hA} {d c s : Nat} {Q : wQ} (H : HW V17_vd2 σE D N F A) {x1 : Int} (pf2 : F 0 5 = (D 2 : Int)) (pf3 : F 2 0 = (D 3 : Int)) (pf4 : F 1 0 = (D 4 : Int)) (pf5 : F 0 9 = (D 5 : Int)) (pf6 : F 5 0 = (D 6 : Int)) (pf7 : F 5 1 = (D 7 : Int)) (pf8 : F 7 0 = (D 8 : Int)) (pf9 : F 8 0 = (D 9 : Int)) (pf10 : F 7 7 = (D 10 : Int)) (pf11 : F 7 8 = (D 11 : Int)) (pf12 : F 7 1 = (D 12 : Int)) (pf13 : F 7 2 = (D 13 : Int)) (pf14 : F 7 3 = (D 14 : Int)) (pf15 : F 0 15 = (D 15 : Int)) (n3 : Int) (en3 : (N 3 : Int) = n3) (n4 : Int) (en4 : (N 4 : Int) = n4) (n6 : Int) (en6 : (N 6 : Int) = n6) (n9 : Int) (en9 : (N 9 : Int) = n9) (n10 : Int) (en10 : (N 10 : Int) = n10) (n11 : Int) (en11 : (N 11 : Int) = n11) (n12 : Int) (en12 : (N 12 : Int) = n12) (n13 : Int) (en13 : (N 13 : Int) = n13) (n14 : Int) (en14 : (N 14 : Int) = n14) (n15 : Int) (en15 : (N 15 : Int) = n15) (u1_1 : Int) (eu1_1 : F 1 1 = u1_1) (u2_1 : Int) (eu2_1 : F 2 1 = u2_1) (u8_1 : Int) (eu8_1 : F 8 1 = u8_1) {ls : rO} (hl0 : rlook ls 0 = some (.ref (D 0))) (hl1 : rlook ls 1 = some (I (x1))) (hl3 : rlook ls 3 = some (I (2))) (hl4 : rlook ls 4 = some (.ref (D 1))) (hl5 : rlook ls 5 = some (I (1))) (h0 : inr (x1)) (h1 : 0 ≤ (u2_1) ∧ (u2_1) ≤ (n3) ∧ (n3) ≤ 65536) (h2 : (u2_1) = 0) (h3 : 0 ≤ (u1_1) ∧ (u1_1) ≤ (n4) ∧ (n4) ≤ 65536) (h4 : (n6) = 10) (h5 : (u1_1) ≤ 16384) (h6 : 0 ≤ (u8_1) ∧ (u8_1) ≤ (n9) ∧ (n9) ≤ 65536) (h7 : (n10) = 0 ∨ (n10) = 2048) (h8 : (n11) ≤ 16384) (h9 : (n12) = (n13) ∧ (n14) = (n13) ∧ (n13) ≤ 65536 ∧ ((n13) = 0 ∨ 64 ≤ (n13)) ∧ lgq ((n13)) = 0) (hc236 : ∀ (tc236_2 : Int), ∀ (tc236_3 : Int), ∀ (ls : rO) (σ : rS) (D_c236 N_c236 : Nat → Nat) (c_c236 s_c236 : Nat) (F_c236 : hF) (A_c236 : hA) , rlook ls 0 = some (.ref (D_c236 0)) → rlook ls 1 = some (I (x1)) → rlook ls 3 = some (I (2)) → rlook ls 4 = some (.ref (D_c236 1)) → HW V17_vd2 σ D_c236 N_c236 F_c236 A_c236 → OUT (V17_vd2).length D N σE c s D_c236 N_c236 σ c_c236 s_c236 → SD [3, 9, 10, 11, 12, 13, 14] D D_c236 → SD [3, 9, 10, 11, 12, 13, 14] N N_c236 → SF [(2, 0), (2, 1), (2, 2), (7, 1), (7, 2), (7, 3), (7, 4), (7, 5), (7, 6), (7, 7), (7, 8), (7, 9), (7, 10), (7, 11), (7, 12), (7, 13), (7, 14), (7, 15), (7, 16), (7, 17), (7, 18), (8, 0), (8, 1), (8, 2), (8, 3), (8, 4)] F F_c236 → SA [3, 9, 10, 11, 12, 13, 14] A A_c236 → F_c236 2 0 = (D_c236 3 : Int) → F_c236 8 0 = (D_c236 9 : Int) → F_c236 7 7 = (D_c236 10 : Int) → F_c236 7 8 = (D_c236 11 : Int) → F_c236 7 1 = (D_c236 12 : Int) → F_c236 7 2 = (D_c236 13 : Int) → F_c236 7 3 = (D_c236 14 : Int) → ∀ mc236_3 : Int, (N_c236 3 : Int) = mc236_3 → ∀ mc236_9 : Int, (N_c236 9 : Int) = mc236_9 → ∀ mc236_10 : Int, (N_c236 10 : Int) = mc236_10 → ∀ mc236_11 : Int, (N_c236 11 : Int) = mc236_11 → ∀ mc236_12 : Int, (N_c236 12 : Int) = mc236_12 → ∀ mc236_13 : Int, (N_c236 13 : Int) = mc236_13 → ∀ mc236_14 : Int, (N_c236 14 : Int) = mc236_14 → ∀ yc236_2_1 : Int, F_c236 2 1 = yc236_2_1 → ∀ yc236_8_1 : Int, F_c236 8 1 = yc236_8_1 → (inr (tc236_2)) → (inr (tc236_3)) → (0 ≤ (yc236_2_1) ∧ (yc236_2_1) ≤ (mc236_3) ∧ (mc236_3) ≤ 65536) → (0 ≤ (yc236_8_1) ∧ (yc236_8_1) ≤ (mc236_9) ∧ (mc236_9) ≤ 65536) → ((mc236_10) = 0 ∨ (mc236_10) = 2048) → ((mc236_11) ≤ 16384) → ((mc236_12) = (mc236_13) ∧ (mc236_14) = (mc236_13) ∧ (mc236_13) ≤ 65536 ∧ ((mc236_13) = 0 ∨ 64 ≤ (mc236_13)) ∧ lgq ((mc236_13)) = 0) → ((tc236_2) = 2) → ((tc236_3) = (u1_1)) → Ew 17 (d + 6) 236 ls [.ref (D_c236 15), I (tc236_3), I (tc236_2), .ref (D_c236 2), .ref (D_c236 0)] σ c_c236 s_c236 Q) (k : ∀ (z : Int) (σ : rS) (D' N' : Nat → Nat) (F' : hF) (A' : hA) (c' s' : Nat), HW V17_vd2 σ D' N' F' A' → OUT (V17_vd2).length D N σE c s D' N' σ c' s' → SD [3, 9, 10, 11, 12, 13, 14] D D' → SD [3, 9, 10, 11, 12, 13, 14] N N' → SF [(2, 0), (2, 1), (2, 2), (7, 1), (7, 2), (7, 3), (7, 4), (7, 5), (7, 6), (7, 7), (7, 8), (7, 9), (7, 10), (7, 11), (7, 12), (7, 13), (7, 14), (7, 15), (7, 16), (7, 17), (7, 18), (8, 0), (8, 1), (8, 2), (8, 3), (8, 4)] F F' → SA [3, 9, 10, 11, 12, 13, 14] A A' → F' 2 0 = (D' 3 : Int) → F' 8 0 = (D' 9 : Int) → F' 7 7 = (D' 10 : Int) → F' 7 8 = (D' 11 : Int) → F' 7 1 = (D' 12 : Int) → F' 7 2 = (D' 13 : Int) → F' 7 3 = (D' 14 : Int) → ∀ m3 : Int, (N' 3 : Int) = m3 → ∀ m9 : Int, (N' 9 : Int) = m9 → ∀ m10 : Int, (N' 10 : Int) = m10 → ∀ m11 : Int, (N' 11 : Int) = m11 → ∀ m12 : Int, (N' 12 : Int) = m12 → ∀ m13 : Int, (N' 13 : Int) = m13 → ∀ m14 : Int, (N' 14 : Int) = m14 → ∀ y2_1 : Int, F' 2 1 = y2_1 → ∀ y8_1 : Int, F' 8 1 = y8_1 → (inr (z)) → (0 ≤ (y2_1) ∧ (y2_1) ≤ (m3) ∧ (m3) ≤ 65536) → (0 ≤ (y8_1) ∧ (y8_1) ≤ (m9) ∧ (m9) ≤ 65536) → ((m10) = 0 ∨ (m10) = 2048) → ((m11) ≤ 16384) → ((m12) = (m13) ∧ (m14) = (m13) ∧ (m13) ≤ 65536 ∧ ((m13) = 0 ∨ 64 ≤ (m13)) ∧ lgq ((m13)) = 0) → Q (some (I z)) σ c' s') : Ew 17 (d + 6) 136 ls [.ref (D 5)] σE c s Q := by
  have O := OUT_refl (n := (V17_vd2).length) (D := D) (N := N) (σ := σE) (c := c) (s := s)
  have HE := H
  have r1 : HID ((-2147483648 : Int) ≤ u1_1 ∧ u1_1 ≤ 2147483647) := krg_e (show (-2147483648 : Int) ≤ F 1 1 ∧ F 1 1 ≤ 2147483647 from H.krg 1 1 (by decide)) (show F 1 1 = u1_1 from (eu1_1))
  have r2 : HID ((-2147483648 : Int) ≤ u2_1 ∧ u2_1 ≤ 2147483647) := krg_e (show (-2147483648 : Int) ≤ F 2 1 ∧ F 2 1 ≤ 2147483647 from H.krg 2 1 (by decide)) (show F 2 1 = u2_1 from (eu2_1))
  have r3 : HID ((-2147483648 : Int) ≤ u8_1 ∧ u8_1 ≤ 2147483647) := krg_e (show (-2147483648 : Int) ≤ F 8 1 ∧ F 8 1 ≤ 2147483647 from H.krg 8 1 (by decide)) (show F 8 1 = u8_1 from (eu8_1))
  replace pf2 := HIDm pf2
  replace pf3 := HIDm pf3
  replace pf4 := HIDm pf4
  replace pf5 := HIDm pf5
  replace pf6 := HIDm pf6
  replace pf7 := HIDm pf7
  replace pf8 := HIDm pf8
  replace pf9 := HIDm pf9
  replace pf10 := HIDm pf10
  replace pf11 := HIDm pf11
  replace pf12 := HIDm pf12
  replace pf13 := HIDm pf13
  replace pf14 := HIDm pf14
  replace pf15 := HIDm pf15
  replace en3 := HIDm en3
  replace en4 := HIDm en4
  replace en6 := HIDm en6
  replace en9 := HIDm en9
  replace en10 := HIDm en10
  replace en11 := HIDm en11
  replace en12 := HIDm en12
  replace en13 := HIDm en13
  replace en14 := HIDm en14
  replace en15 := HIDm en15
  replace eu1_1 := HIDm eu1_1
  replace eu2_1 := HIDm eu2_1
  replace eu8_1 := HIDm eu8_1
  have r4 : HID ((0 : Int) ≤ n3 ∧ n3 ≤ 1000000) := nrng (H.nle 3 (by decide)) (show (N 3 : Int) = n3 from en3)
  have r5 : HID ((0 : Int) ≤ n4 ∧ n4 ≤ 1000000) := nrng (H.nle 4 (by decide)) (show (N 4 : Int) = n4 from en4)
  have r6 : HID ((0 : Int) ≤ n6 ∧ n6 ≤ 1000000) := nrng (H.nle 6 (by decide)) (show (N 6 : Int) = n6 from en6)
  have r7 : HID ((0 : Int) ≤ n9 ∧ n9 ≤ 1000000) := nrng (H.nle 9 (by decide)) (show (N 9 : Int) = n9 from en9)
  have r8 : HID ((0 : Int) ≤ n10 ∧ n10 ≤ 1000000) := nrng (H.nle 10 (by decide)) (show (N 10 : Int) = n10 from en10)
  have r9 : HID ((0 : Int) ≤ n11 ∧ n11 ≤ 1000000) := nrng (H.nle 11 (by decide)) (show (N 11 : Int) = n11 from en11)
  have r10 : HID ((0 : Int) ≤ n12 ∧ n12 ≤ 1000000) := nrng (H.nle 12 (by decide)) (show (N 12 : Int) = n12 from en12)
  have r11 : HID ((0 : Int) ≤ n13 ∧ n13 ≤ 1000000) := nrng (H.nle 13 (by decide)) (show (N 13 : Int) = n13 from en13)
  have r12 : HID ((0 : Int) ≤ n14 ∧ n14 ≤ 1000000) := nrng (H.nle 14 (by decide)) (show (N 14 : Int) = n14 from en14)
  refine Ew_of (pc' := 137) (fun _ => x_aload_n rfl hl0) ?_
  refine v_g H (o := 0) (v := .ref (D 2)) rfl rfl rfl rfl rfl (vrf (pf2)) ?_
  refine Ew_of (pc' := 142) (fun _ => x_aload rfl hl4) ?_
  have r13 : HID ((0 : Int) ≤ F 2 2 ∧ F 2 2 ≤ 1) := krg_e (show (0 : Int) ≤ F 2 2 ∧ F 2 2 ≤ 1 from H.krg 2 2 (by decide)) (show F 2 2 = F 2 2 from rfl)
  refine v_inv H (o := 5) rfl rfl rfl rfl rfl rfl (by rfl) (C193_Row_Row (D := pul [5, 2, 1, 3, 4, 7, 8, 9, 6, 10, 11, 12, 13, 14] D) (N := pul [5, 2, 1, 3, 4, 7, 8, 9, 6, 10, 11, 12, 13, 14] N) (HW_sub H (VS_of (show vsub V17_vd2 V193_Row_Row [5, 2, 1, 3, 4, 7, 8, 9, 6, 10, 11, 12, 13, 14] = true by decide +kernel))) (pf3) (pf4) (pf7) (pf8) (pf9) (pf6) (pf10) (pf11) (pf12) (pf13) (pf14) (n3) (en3) (n4) (en4) (n9) (en9) (n6) (en6) (n10) (en10) (n11) (en11) (n12) (en12) (n13) (en13) (n14) (en14) (u2_1) ((eu2_1)) (F 2 2) (rfl) (u1_1) ((eu1_1)) (u8_1) ((eu8_1)) (A 3) (rfl) (A 4) (rfl) (A 6) (rfl) (show 0 ≤ (u2_1) ∧ (u2_1) ≤ (n3) ∧ (n3) ≤ 65536 by have qh0 := HIDe r2; have qh1 := HIDe r4; omega) (show 0 ≤ (u1_1) ∧ (u1_1) ≤ (n4) ∧ (n4) ≤ 65536 by have qh0 := HIDe r1; have qh1 := HIDe r5; omega) (show 0 ≤ (u8_1) ∧ (u8_1) ≤ (n9) ∧ (n9) ≤ 65536 by have qh0 := HIDe r3; have qh1 := HIDe r7; omega) (show (n6) = 10 by have qh0 := HIDe r6; omega) (show (u1_1) ≤ 16384 by have qh0 := HIDe r1; omega) (show (n10) = 0 ∨ (n10) = 2048 by have qh0 := HIDe r8; omega) (show (n11) ≤ 16384 by have qh0 := HIDe r9; omega) (show (n12) = (n13) ∧ (n14) = (n13) ∧ (n13) ≤ 65536 ∧ ((n13) = 0 ∨ 64 ≤ (n13)) ∧ lgq ((n13)) = 0 by have qh0 := HIDe r10; have qh1 := HIDe r11; have qh2 := HIDe r12; omega) (fun σ14 D14' N14' F14' A14' c14 s14 H' O' hD14 hN14 hS14 hA14 pm14_3 pm14_7 pm14_9 pm14_10 pm14_11 pm14_12 pm14_13 m14_3 em14_3 m14_7 em14_7 m14_9 em14_9 m14_10 em14_10 m14_11 em14_11 m14_12 em14_12 m14_13 em14_13 y14_1_1 ey14_1_1 y14_1_2 ey14_1_2 y14_6_1 ey14_6_1 w14_3 ew14_3 pz14_0 pz14_1 pz14_2 pz14_3 pz14_4 pz14_5 => ⟨rfl, ?_⟩))
  replace pm14_3 := HIDm pm14_3
  replace pm14_7 := HIDm pm14_7
  replace pm14_9 := HIDm pm14_9
  replace pm14_10 := HIDm pm14_10
  replace pm14_11 := HIDm pm14_11
  replace pm14_12 := HIDm pm14_12
  replace pm14_13 := HIDm pm14_13
  replace em14_3 := HIDm em14_3
  replace em14_7 := HIDm em14_7
  replace em14_9 := HIDm em14_9
  replace em14_10 := HIDm em14_10
  replace em14_11 := HIDm em14_11
  replace em14_12 := HIDm em14_12
  replace em14_13 := HIDm em14_13
  replace ey14_1_1 := HIDm ey14_1_1
  replace ey14_1_2 := HIDm ey14_1_2
  replace ey14_6_1 := HIDm ey14_6_1
  refine v_backM (c := c) (s := s) H (show vsub V17_vd2 V193_Row_Row [5, 2, 1, 3, 4, 7, 8, 9, 6, 10, 11, 12, 13, 14] = true by decide +kernel) H' O' hD14 (show vmov V17_vd2 [5, 2, 1, 3, 4, 7, 8, 9, 6, 10, 11, 12, 13, 14] [3, 7, 9, 10, 11, 12, 13] = true by decide +kernel) (fun D14 N14 F14 A14 H O' eD14 eN14 eF14 eA14 => ?_)
  have O := OUT_trans O O'
  -- Tags.packAlone
  have pf14_0_15 : HID (F14 0 15 = (D14 15 : Int)) := ((show F14 0 15 = F 0 15 from (eF14 0 15))).trans ((pf15).trans (congrArg (fun q : Nat => (q : Int)) ((show D14 15 = D 15 from (eD14 15))).symm))
  have pf14_0_5 : HID (F14 0 5 = (D14 2 : Int)) := ((show F14 0 5 = F 0 5 from (eF14 0 5))).trans ((pf2).trans (congrArg (fun q : Nat => (q : Int)) ((show D14 2 = D 2 from (eD14 2).trans (hD14 1 rfl))).symm))
  have pf14_0_9 : HID (F14 0 9 = (D14 5 : Int)) := ((show F14 0 9 = F 0 9 from (eF14 0 9))).trans ((pf5).trans (congrArg (fun q : Nat => (q : Int)) ((show D14 5 = D 5 from (eD14 5).trans (hD14 0 rfl))).symm))
  have pf14_1_0 : HID (F14 1 0 = (D14 4 : Int)) := ((show F14 1 0 = F 1 0 from (eF14 1 0).trans (hS14 2 0 rfl))).trans ((pf4).trans (congrArg (fun q : Nat => (q : Int)) ((show D14 4 = D 4 from (eD14 4).trans (hD14 4 rfl))).symm))
  have pf14_2_0 : HID (F14 2 0 = (D14 3 : Int)) := (eF14 2 0).trans (pm14_3.trans (congrArg (fun q : Nat => (q : Int)) (eD14 3).symm))
  have pf14_5_0 : HID (F14 5 0 = (D14 6 : Int)) := ((show F14 5 0 = F 5 0 from (eF14 5 0).trans (hS14 0 0 rfl))).trans ((pf6).trans (congrArg (fun q : Nat => (q : Int)) ((show D14 6 = D 6 from (eD14 6).trans (hD14 8 rfl))).symm))
  have pf14_5_1 : HID (F14 5 1 = (D14 7 : Int)) := ((show F14 5 1 = F 5 1 from (eF14 5 1).trans (hS14 0 1 rfl))).trans ((pf7).trans (congrArg (fun q : Nat => (q : Int)) ((show D14 7 = D 7 from (eD14 7).trans (hD14 5 rfl))).symm))
  have pf14_7_0 : HID (F14 7 0 = (D14 8 : Int)) := ((show F14 7 0 = F 7 0 from (eF14 7 0).trans (hS14 5 0 rfl))).trans ((pf8).trans (congrArg (fun q : Nat => (q : Int)) ((show D14 8 = D 8 from (eD14 8).trans (hD14 6 rfl))).symm))
  have pf14_7_1 : HID (F14 7 1 = (D14 12 : Int)) := (eF14 7 1).trans (pm14_11.trans (congrArg (fun q : Nat => (q : Int)) (eD14 12).symm))
  have pf14_7_2 : HID (F14 7 2 = (D14 13 : Int)) := (eF14 7 2).trans (pm14_12.trans (congrArg (fun q : Nat => (q : Int)) (eD14 13).symm))
  have pf14_7_3 : HID (F14 7 3 = (D14 14 : Int)) := (eF14 7 3).trans (pm14_13.trans (congrArg (fun q : Nat => (q : Int)) (eD14 14).symm))
  have pf14_7_7 : HID (F14 7 7 = (D14 10 : Int)) := (eF14 7 7).trans (pm14_9.trans (congrArg (fun q : Nat => (q : Int)) (eD14 10).symm))
  have pf14_7_8 : HID (F14 7 8 = (D14 11 : Int)) := (eF14 7 8).trans (pm14_10.trans (congrArg (fun q : Nat => (q : Int)) (eD14 11).symm))
  have pf14_8_0 : HID (F14 8 0 = (D14 9 : Int)) := (eF14 8 0).trans (pm14_7.trans (congrArg (fun q : Nat => (q : Int)) (eD14 9).symm))
  have r15 : HID ((0 : Int) ≤ m14_3 ∧ m14_3 ≤ 1000000) := nrng (H.nle 3 (by decide)) (show (N14 3 : Int) = m14_3 from (congrArg (fun q : Nat => (q : Int)) (eN14 3)).trans em14_3)
  have r16 : HID ((0 : Int) ≤ m14_7 ∧ m14_7 ≤ 1000000) := nrng (H.nle 9 (by decide)) (show (N14 9 : Int) = m14_7 from (congrArg (fun q : Nat => (q : Int)) (eN14 9)).trans em14_7)
  have r17 : HID ((0 : Int) ≤ m14_9 ∧ m14_9 ≤ 1000000) := nrng (H.nle 10 (by decide)) (show (N14 10 : Int) = m14_9 from (congrArg (fun q : Nat => (q : Int)) (eN14 10)).trans em14_9)
  have r18 : HID ((0 : Int) ≤ m14_10 ∧ m14_10 ≤ 1000000) := nrng (H.nle 11 (by decide)) (show (N14 11 : Int) = m14_10 from (congrArg (fun q : Nat => (q : Int)) (eN14 11)).trans em14_10)
  have r19 : HID ((0 : Int) ≤ m14_11 ∧ m14_11 ≤ 1000000) := nrng (H.nle 12 (by decide)) (show (N14 12 : Int) = m14_11 from (congrArg (fun q : Nat => (q : Int)) (eN14 12)).trans em14_11)
  have r20 : HID ((0 : Int) ≤ m14_12 ∧ m14_12 ≤ 1000000) := nrng (H.nle 13 (by decide)) (show (N14 13 : Int) = m14_12 from (congrArg (fun q : Nat => (q : Int)) (eN14 13)).trans em14_12)
  have r21 : HID ((0 : Int) ≤ m14_13 ∧ m14_13 ≤ 1000000) := nrng (H.nle 14 (by decide)) (show (N14 14 : Int) = m14_13 from (congrArg (fun q : Nat => (q : Int)) (eN14 14)).trans em14_13)
  have r22 : HID ((-2147483648 : Int) ≤ y14_1_1 ∧ y14_1_1 ≤ 2147483647) := krg_e (show (-2147483648 : Int) ≤ F14 2 1 ∧ F14 2 1 ≤ 2147483647 from H.krg 2 1 (by decide)) (show F14 2 1 = y14_1_1 from ((eF14 2 1).trans ey14_1_1))
  have r23 : HID ((0 : Int) ≤ y14_1_2 ∧ y14_1_2 ≤ 1) := krg_e (show (0 : Int) ≤ F14 2 2 ∧ F14 2 2 ≤ 1 from H.krg 2 2 (by decide)) (show F14 2 2 = y14_1_2 from ((eF14 2 2).trans ey14_1_2))
  have r24 : HID ((-2147483648 : Int) ≤ y14_6_1 ∧ y14_6_1 ≤ 2147483647) := krg_e (show (-2147483648 : Int) ≤ F14 8 1 ∧ F14 8 1 ≤ 2147483647 from H.krg 8 1 (by decide)) (show F14 8 1 = y14_6_1 from ((eF14 8 1).trans ey14_6_1))
  refine Ew_of (pc' := 199) (fun _ => x_goto rfl rfl) ?_
  refine Ew_of (pc' := 201) (fun _ => x_iload rfl hl5) ?_
  refine w_ifeq (t := 214) rfl rfl (show inr (1) by omega) (fun b25 => ?_) (fun b25 => ?_)
  · exact absurd b25 (by omega)
  · refine Ew_of (pc' := 205) (fun _ => x_aload_n rfl hl0) ?_
    refine Ew_stk (show ([.ref (D 0)] : List Value) = [.ref (D14 0)] by rw [show D14 0 = D 0 from ((show D14 0 = D 0 from (eD14 0)))]) ?_
    refine v_g H (o := 0) (v := .ref (D14 2)) rfl rfl rfl rfl rfl (vrf (pf14_0_5)) ?_
    refine v_g H (o := 2) (v := I (y14_1_2)) rfl rfl rfl rfl rfl (congrArg (fun z : Int => I z) (((eF14 2 2).trans ey14_1_2) : F14 2 2 = y14_1_2)) ?_
    refine w_ifeq (t := 216) rfl rfl (show inr (y14_1_2) by have qh0 := HIDe r23; omega) (fun b26 => ?_) (fun b26 => ?_)
    · refine Ew_of (pc' := 217) (fun _ => x_iload_n rfl hl3) ?_
      refine Ew_of (pc' := 218) (fun _ => x_iconst rfl) ?_
      refine w_icmpeq (t := 277) rfl rfl (show inr (2) by omega) (show inr (5) by omega) (fun b27 => ?_) (fun b27 => ?_)
      · exact absurd b27 (by omega)
      · refine Ew_of (pc' := 222) (fun _ => x_aload_n rfl hl0) ?_
        refine Ew_of (pc' := 223) (fun _ => x_aload_n rfl hl0) ?_
        refine Ew_stk (show ([.ref (D 0), .ref (D 0)] : List Value) = [.ref (D14 0), .ref (D14 0)] by rw [show D14 0 = D 0 from ((show D14 0 = D 0 from (eD14 0)))]) ?_
        refine v_g H (o := 0) (v := .ref (D14 2)) rfl rfl rfl rfl rfl (vrf (pf14_0_5)) ?_
        refine Ew_of (pc' := 227) (fun _ => x_iload_n rfl hl3) ?_
        refine Ew_of (pc' := 229) (fun _ => x_aload rfl hl4) ?_
        refine Ew_stk (show ([.ref (D 1), I (2), .ref (D14 2), .ref (D14 0)] : List Value) = [.ref (D14 1), I (2), .ref (D14 2), .ref (D14 0)] by rw [show D14 1 = D 1 from ((show D14 1 = D 1 from (eD14 1).trans (hD14 2 rfl)))]) ?_
        refine v_g H (o := 1) (v := I (u1_1)) rfl rfl rfl rfl rfl (congrArg (fun z : Int => I z) ((((show F14 1 1 = F 1 1 from (eF14 1 1).trans (hS14 2 1 rfl))).trans (eu1_1)) : F14 1 1 = u1_1)) ?_
        refine Ew_of (pc' := 233) (fun _ => x_aload_n rfl hl0) ?_
        refine Ew_stk (show ([.ref (D 0), I (u1_1), I (2), .ref (D14 2), .ref (D14 0)] : List Value) = [.ref (D14 0), I (u1_1), I (2), .ref (D14 2), .ref (D14 0)] by rw [show D14 0 = D 0 from ((show D14 0 = D 0 from (eD14 0)))]) ?_
        refine v_g H (o := 0) (v := .ref (D14 15)) rfl rfl rfl rfl rfl (vrf (pf14_0_15)) ?_
        exact hc236 (2) (u1_1) _ _ _ _ _ _ _ _  ((hl0).trans (congrArg (fun q : Nat => some (Value.ref q)) (((show D14 0 = D 0 from (eD14 0)))).symm)) (hl1) (hl3) ((hl4).trans (congrArg (fun q : Nat => some (Value.ref q)) (((show D14 1 = D 1 from (eD14 1).trans (hD14 2 rfl)))).symm)) H O (SD_trans (SD_refl) (SD_glu (ι := [5, 2, 1, 3, 4, 7, 8, 9, 6, 10, 11, 12, 13, 14]) hD14 eD14 (by decide +kernel)) (any_subA (l' := [3, 9, 10, 11, 12, 13, 14]) rfl)) (SD_trans (SD_refl) (SD_glu (ι := [5, 2, 1, 3, 4, 7, 8, 9, 6, 10, 11, 12, 13, 14]) hN14 eN14 (by decide +kernel)) (any_subA (l' := [3, 9, 10, 11, 12, 13, 14]) rfl)) (SF_trans (SF_refl) (SF_glu (ι := [5, 2, 1, 3, 4, 7, 8, 9, 6, 10, 11, 12, 13, 14]) hS14 eF14 (by decide +kernel)) (any_sub (l' := [(2, 0), (2, 1), (2, 2), (7, 1), (7, 2), (7, 3), (7, 4), (7, 5), (7, 6), (7, 7), (7, 8), (7, 9), (7, 10), (7, 11), (7, 12), (7, 13), (7, 14), (7, 15), (7, 16), (7, 17), (7, 18), (8, 0), (8, 1), (8, 2), (8, 3), (8, 4)]) rfl)) (SA_trans (SA_refl) (SA_glu (ι := [5, 2, 1, 3, 4, 7, 8, 9, 6, 10, 11, 12, 13, 14]) hA14 eA14 (by decide +kernel)) (any_subA (l' := [3, 9, 10, 11, 12, 13, 14]) rfl)) (pf14_2_0) (pf14_8_0) (pf14_7_7) (pf14_7_8) (pf14_7_1) (pf14_7_2) (pf14_7_3) (m14_3) ((congrArg (fun q : Nat => (q : Int)) (eN14 3)).trans em14_3) (m14_7) ((congrArg (fun q : Nat => (q : Int)) (eN14 9)).trans em14_7) (m14_9) ((congrArg (fun q : Nat => (q : Int)) (eN14 10)).trans em14_9) (m14_10) ((congrArg (fun q : Nat => (q : Int)) (eN14 11)).trans em14_10) (m14_11) ((congrArg (fun q : Nat => (q : Int)) (eN14 12)).trans em14_11) (m14_12) ((congrArg (fun q : Nat => (q : Int)) (eN14 13)).trans em14_12) (m14_13) ((congrArg (fun q : Nat => (q : Int)) (eN14 14)).trans em14_13) (y14_1_1) (((eF14 2 1).trans ey14_1_1)) (y14_6_1) (((eF14 8 1).trans ey14_6_1))  (show inr (2) by omega) (show inr (u1_1) by have qh0 := HIDe r1; omega) (show 0 ≤ (y14_1_1) ∧ (y14_1_1) ≤ (m14_3) ∧ (m14_3) ≤ 65536 by have qh0 := HIDe r15; have qh1 := HIDe r22; omega) (show 0 ≤ (y14_6_1) ∧ (y14_6_1) ≤ (m14_7) ∧ (m14_7) ≤ 65536 by have qh0 := HIDe r16; have qh1 := HIDe r24; omega) (show (m14_9) = 0 ∨ (m14_9) = 2048 by have qh0 := HIDe r17; omega) (show (m14_10) ≤ 16384 by have qh0 := HIDe r18; omega) (show (m14_11) = (m14_12) ∧ (m14_13) = (m14_12) ∧ (m14_12) ≤ 65536 ∧ ((m14_12) = 0 ∨ 64 ≤ (m14_12)) ∧ lgq ((m14_12)) = 0 by have qh0 := HIDe r19; have qh1 := HIDe r20; have qh2 := HIDe r21; omega) (show (2) = 2 by omega) (show (u1_1) = (u1_1) by have qh0 := HIDe r1; omega)
    · refine Ew_of (pc' := 215) (fun _ => x_iconst rfl) ?_
      exact w_ireturn rfl (k ((-1)) _ _ _ _ _ _ _ H O (SD_trans (SD_refl) (SD_glu (ι := [5, 2, 1, 3, 4, 7, 8, 9, 6, 10, 11, 12, 13, 14]) hD14 eD14 (by decide +kernel)) (any_subA (l' := [3, 9, 10, 11, 12, 13, 14]) rfl)) (SD_trans (SD_refl) (SD_glu (ι := [5, 2, 1, 3, 4, 7, 8, 9, 6, 10, 11, 12, 13, 14]) hN14 eN14 (by decide +kernel)) (any_subA (l' := [3, 9, 10, 11, 12, 13, 14]) rfl)) (SF_trans (SF_refl) (SF_glu (ι := [5, 2, 1, 3, 4, 7, 8, 9, 6, 10, 11, 12, 13, 14]) hS14 eF14 (by decide +kernel)) (any_sub (l' := [(2, 0), (2, 1), (2, 2), (7, 1), (7, 2), (7, 3), (7, 4), (7, 5), (7, 6), (7, 7), (7, 8), (7, 9), (7, 10), (7, 11), (7, 12), (7, 13), (7, 14), (7, 15), (7, 16), (7, 17), (7, 18), (8, 0), (8, 1), (8, 2), (8, 3), (8, 4)]) rfl)) (SA_trans (SA_refl) (SA_glu (ι := [5, 2, 1, 3, 4, 7, 8, 9, 6, 10, 11, 12, 13, 14]) hA14 eA14 (by decide +kernel)) (any_subA (l' := [3, 9, 10, 11, 12, 13, 14]) rfl)) (pf14_2_0) (pf14_8_0) (pf14_7_7) (pf14_7_8) (pf14_7_1) (pf14_7_2) (pf14_7_3) (m14_3) ((congrArg (fun q : Nat => (q : Int)) (eN14 3)).trans em14_3) (m14_7) ((congrArg (fun q : Nat => (q : Int)) (eN14 9)).trans em14_7) (m14_9) ((congrArg (fun q : Nat => (q : Int)) (eN14 10)).trans em14_9) (m14_10) ((congrArg (fun q : Nat => (q : Int)) (eN14 11)).trans em14_10) (m14_11) ((congrArg (fun q : Nat => (q : Int)) (eN14 12)).trans em14_11) (m14_12) ((congrArg (fun q : Nat => (q : Int)) (eN14 13)).trans em14_12) (m14_13) ((congrArg (fun q : Nat => (q : Int)) (eN14 14)).trans em14_13) (y14_1_1) (((eF14 2 1).trans ey14_1_1)) (y14_6_1) (((eF14 8 1).trans ey14_6_1)) (show inr ((-1)) by omega) (show 0 ≤ (y14_1_1) ∧ (y14_1_1) ≤ (m14_3) ∧ (m14_3) ≤ 65536 by have qh0 := HIDe r15; have qh1 := HIDe r22; omega) (show 0 ≤ (y14_6_1) ∧ (y14_6_1) ≤ (m14_7) ∧ (m14_7) ≤ 65536 by have qh0 := HIDe r16; have qh1 := HIDe r24; omega) (show (m14_9) = 0 ∨ (m14_9) = 2048 by have qh0 := HIDe r17; omega) (show (m14_10) ≤ 16384 by have qh0 := HIDe r18; omega) (show (m14_11) = (m14_12) ∧ (m14_13) = (m14_12) ∧ (m14_12) ≤ 65536 ∧ ((m14_12) = 0 ∨ 64 ≤ (m14_12)) ∧ lgq ((m14_12)) = 0 by have qh0 := HIDe r19; have qh1 := HIDe r20; have qh2 := HIDe r21; omega))
abbrev V17_vd3 : vV := [(0, 0, [(4, 0), (4, 0), (4, 0), (4, 0), (4, 0), (4, 0), (4, 0), (4, 0), (4, 0), (4, 0), (4, 0), (4, 0), (4, 0), (4, 0), (4, 0), (4, 0), (4, 0), (0, 0), (0, 0)]), (0, 7, [(4, 0), (0, 0), (1, 0), (0, 0), (0, 0)]), (0, 7, [(4, 0), (0, 0), (1, 0), (0, 0), (0, 0)]), (1, 0, []), (1, 0, []), (0, 10, [(4, 0), (4, 0), (4, 0), (4, 0), (0, 0), (4, 0), (0, 0), (2, 0), (0, 0)]), (1, 1, []), (0, 5, [(4, 0), (4, 0), (4, 0), (4, 0), (0, 0), (0, 0), (0, 0), (4, 0), (4, 0), (0, 0), (0, 0), (0, 0), (0, 0), (0, 0), (0, 0), (0, 0), (0, 0), (0, 0), (0, 0)]), (0, 7, [(4, 0), (0, 0), (1, 0), (0, 0), (0, 0)]), (1, 0, []), (0, 7, [(4, 0), (0, 0), (1, 0), (0, 0), (0, 0)]), (1, 0, []), (1, 1, []), (1, 1, []), (1, 1, []), (1, 1, []), (1, 1, []), (1, 1, [])]
/-- PackHouse.write: this, @F, this.written, this.written.bytes, @F.bytes, this.tags, this.tags.settings, this.tags.finder, this.tags.finder.data, this.tags.finder.data.bytes, this.tags.packed, this.tags.packed.bytes, this.tags.finder.heads, this.tags.finder.back, this.tags.finder.literals, this.tags.finder.lengths, this.tags.finder.distances, this.checkCounts -/
theorem C17_vd3 {σE : rS} {D N : Nat → Nat} {F : hF} {A : hA} {d c s : Nat} {Q : wQ} (H : HW V17_vd3 σE D N F A) (HT : STC σE) {x1 : Int} (pf2 : F 0 5 = (D 2 : Int)) (pf3 : F 2 0 = (D 3 : Int)) (pf4 : F 1 0 = (D 4 : Int)) (pf5 : F 0 9 = (D 5 : Int)) (pf6 : F 5 0 = (D 6 : Int)) (pf7 : F 5 1 = (D 7 : Int)) (pf8 : F 7 0 = (D 8 : Int)) (pf9 : F 8 0 = (D 9 : Int)) (pf10 : F 5 2 = (D 10 : Int)) (pf11 : F 10 0 = (D 11 : Int)) (pf12 : F 7 7 = (D 12 : Int)) (pf13 : F 7 8 = (D 13 : Int)) (pf14 : F 7 1 = (D 14 : Int)) (pf15 : F 7 2 = (D 15 : Int)) (pf16 : F 7 3 = (D 16 : Int)) (pf17 : F 0 15 = (D 17 : Int)) (n3 : Int) (en3 : (N 3 : Int) = n3) (n4 : Int) (en4 : (N 4 : Int) = n4) (n6 : Int) (en6 : (N 6 : Int) = n6) (n9 : Int) (en9 : (N 9 : Int) = n9) (n11 : Int) (en11 : (N 11 : Int) = n11) (n12 : Int) (en12 : (N 12 : Int) = n12) (n13 : Int) (en13 : (N 13 : Int) = n13) (n14 : Int) (en14 : (N 14 : Int) = n14) (n15 : Int) (en15 : (N 15 : Int) = n15) (n16 : Int) (en16 : (N 16 : Int) = n16) (n17 : Int) (en17 : (N 17 : Int) = n17) (u1_1 : Int) (eu1_1 : F 1 1 = u1_1) (u2_1 : Int) (eu2_1 : F 2 1 = u2_1) (u8_1 : Int) (eu8_1 : F 8 1 = u8_1) (u10_1 : Int) (eu10_1 : F 10 1 = u10_1) (w6 : Int → Int) (ew6 : A 6 = w6) {ls : rO} (hl0 : rlook ls 0 = some (.ref (D 0))) (hl1 : rlook ls 1 = some (I (x1))) (hl3 : rlook ls 3 = some (I (3))) (hl4 : rlook ls 4 = some (.ref (D 1))) (hl5 : rlook ls 5 = some (I (1))) (h0 : inr (x1)) (h1 : 0 ≤ (u2_1) ∧ (u2_1) ≤ (n3) ∧ (n3) ≤ 65536) (h2 : (u2_1) = 0) (h3 : 0 ≤ (u1_1) ∧ (u1_1) ≤ (n4) ∧ (n4) ≤ 65536) (h4 : (n6) = 10) (h5 : (u1_1) ≤ 16384) (h6 : 0 ≤ (u8_1) ∧ (u8_1) ≤ (n9) ∧ (n9) ≤ 65536) (h7 : 0 ≤ (u10_1) ∧ (u10_1) ≤ (n11) ∧ (n11) ≤ 65536) (h8 : (n12) = 0 ∨ (n12) = 2048) (h9 : (n13) ≤ 16384) (h10 : (n14) = (n15) ∧ (n16) = (n15) ∧ (n15) ≤ 65536 ∧ ((n15) = 0 ∨ 64 ≤ (n15)) ∧ lgq ((n15)) = 0) (h11 : 1 ≤ ((w6)) 2 ∧ ((w6)) 2 ≤ 65536) (hc236 : ∀ (tc236_2 : Int), ∀ (tc236_3 : Int), ∀ (ls : rO) (σ : rS) (D_c236 N_c236 : Nat → Nat) (c_c236 s_c236 : Nat) (F_c236 : hF) (A_c236 : hA) , rlook ls 0 = some (.ref (D_c236 0)) → rlook ls 1 = some (I (x1)) → rlook ls 3 = some (I (3)) → rlook ls 4 = some (.ref (D_c236 1)) → HW V17_vd3 σ D_c236 N_c236 F_c236 A_c236 → OUT (V17_vd3).length D N σE c s D_c236 N_c236 σ c_c236 s_c236 → SD [3, 9, 11, 12, 13, 14, 15, 16] D D_c236 → SD [3, 9, 11, 12, 13, 14, 15, 16] N N_c236 → SF [(2, 0), (2, 1), (2, 2), (7, 1), (7, 2), (7, 3), (7, 4), (7, 5), (7, 6), (7, 7), (7, 8), (7, 9), (7, 10), (7, 11), (7, 12), (7, 13), (7, 14), (7, 15), (7, 16), (7, 17), (7, 18), (8, 0), (8, 1), (8, 2), (8, 3), (8, 4), (10, 0), (10, 1), (10, 2), (10, 3), (10, 4)] F F_c236 → SA [3, 9, 11, 12, 13, 14, 15, 16] A A_c236 → F_c236 2 0 = (D_c236 3 : Int) → F_c236 8 0 = (D_c236 9 : Int) → F_c236 10 0 = (D_c236 11 : Int) → F_c236 7 7 = (D_c236 12 : Int) → F_c236 7 8 = (D_c236 13 : Int) → F_c236 7 1 = (D_c236 14 : Int) → F_c236 7 2 = (D_c236 15 : Int) → F_c236 7 3 = (D_c236 16 : Int) → ∀ mc236_3 : Int, (N_c236 3 : Int) = mc236_3 → ∀ mc236_9 : Int, (N_c236 9 : Int) = mc236_9 → ∀ mc236_11 : Int, (N_c236 11 : Int) = mc236_11 → ∀ mc236_12 : Int, (N_c236 12 : Int) = mc236_12 → ∀ mc236_13 : Int, (N_c236 13 : Int) = mc236_13 → ∀ mc236_14 : Int, (N_c236 14 : Int) = mc236_14 → ∀ mc236_15 : Int, (N_c236 15 : Int) = mc236_15 → ∀ mc236_16 : Int, (N_c236 16 : Int) = mc236_16 → ∀ yc236_2_1 : Int, F_c236 2 1 = yc236_2_1 → ∀ yc236_8_1 : Int, F_c236 8 1 = yc236_8_1 → ∀ yc236_10_1 : Int, F_c236 10 1 = yc236_10_1 → (inr (tc236_2)) → (inr (tc236_3)) → (0 ≤ (yc236_2_1) ∧ (yc236_2_1) ≤ (mc236_3) ∧ (mc236_3) ≤ 65536) → (0 ≤ (yc236_8_1) ∧ (yc236_8_1) ≤ (mc236_9) ∧ (mc236_9) ≤ 65536) → (0 ≤ (yc236_10_1) ∧ (yc236_10_1) ≤ (mc236_11) ∧ (mc236_11) ≤ 65536) → ((mc236_12) = 0 ∨ (mc236_12) = 2048) → ((mc236_13) ≤ 16384) → ((mc236_14) = (mc236_15) ∧ (mc236_16) = (mc236_15) ∧ (mc236_15) ≤ 65536 ∧ ((mc236_15) = 0 ∨ 64 ≤ (mc236_15)) ∧ lgq ((mc236_15)) = 0) → ((tc236_2) = 3) → ((tc236_3) = (u1_1)) → Ew 17 (d + 6) 236 ls [.ref (D_c236 17), I (tc236_3), I (tc236_2), .ref (D_c236 2), .ref (D_c236 0)] σ c_c236 s_c236 Q) (k : ∀ (z : Int) (σ : rS) (D' N' : Nat → Nat) (F' : hF) (A' : hA) (c' s' : Nat), HW V17_vd3 σ D' N' F' A' → OUT (V17_vd3).length D N σE c s D' N' σ c' s' → SD [3, 9, 11, 12, 13, 14, 15, 16] D D' → SD [3, 9, 11, 12, 13, 14, 15, 16] N N' → SF [(2, 0), (2, 1), (2, 2), (7, 1), (7, 2), (7, 3), (7, 4), (7, 5), (7, 6), (7, 7), (7, 8), (7, 9), (7, 10), (7, 11), (7, 12), (7, 13), (7, 14), (7, 15), (7, 16), (7, 17), (7, 18), (8, 0), (8, 1), (8, 2), (8, 3), (8, 4), (10, 0), (10, 1), (10, 2), (10, 3), (10, 4)] F F' → SA [3, 9, 11, 12, 13, 14, 15, 16] A A' → F' 2 0 = (D' 3 : Int) → F' 8 0 = (D' 9 : Int) → F' 10 0 = (D' 11 : Int) → F' 7 7 = (D' 12 : Int) → F' 7 8 = (D' 13 : Int) → F' 7 1 = (D' 14 : Int) → F' 7 2 = (D' 15 : Int) → F' 7 3 = (D' 16 : Int) → ∀ m3 : Int, (N' 3 : Int) = m3 → ∀ m9 : Int, (N' 9 : Int) = m9 → ∀ m11 : Int, (N' 11 : Int) = m11 → ∀ m12 : Int, (N' 12 : Int) = m12 → ∀ m13 : Int, (N' 13 : Int) = m13 → ∀ m14 : Int, (N' 14 : Int) = m14 → ∀ m15 : Int, (N' 15 : Int) = m15 → ∀ m16 : Int, (N' 16 : Int) = m16 → ∀ y2_1 : Int, F' 2 1 = y2_1 → ∀ y8_1 : Int, F' 8 1 = y8_1 → ∀ y10_1 : Int, F' 10 1 = y10_1 → (inr (z)) → (0 ≤ (y2_1) ∧ (y2_1) ≤ (m3) ∧ (m3) ≤ 65536) → (0 ≤ (y8_1) ∧ (y8_1) ≤ (m9) ∧ (m9) ≤ 65536) → (0 ≤ (y10_1) ∧ (y10_1) ≤ (m11) ∧ (m11) ≤ 65536) → ((m12) = 0 ∨ (m12) = 2048) → ((m13) ≤ 16384) → ((m14) = (m15) ∧ (m16) = (m15) ∧ (m15) ≤ 65536 ∧ ((m15) = 0 ∨ 64 ≤ (m15)) ∧ lgq ((m15)) = 0) → Q (some (I z)) σ c' s') : Ew 17 (d + 6) 152 ls [.ref (D 5)] σE c s Q := by
  have O := OUT_refl (n := (V17_vd3).length) (D := D) (N := N) (σ := σE) (c := c) (s := s)
  have HE := H
  have r1 : HID ((-2147483648 : Int) ≤ u1_1 ∧ u1_1 ≤ 2147483647) := krg_e (show (-2147483648 : Int) ≤ F 1 1 ∧ F 1 1 ≤ 2147483647 from H.krg 1 1 (by decide)) (show F 1 1 = u1_1 from (eu1_1))
  have r2 : HID ((-2147483648 : Int) ≤ u2_1 ∧ u2_1 ≤ 2147483647) := krg_e (show (-2147483648 : Int) ≤ F 2 1 ∧ F 2 1 ≤ 2147483647 from H.krg 2 1 (by decide)) (show F 2 1 = u2_1 from (eu2_1))
  have r3 : HID ((-2147483648 : Int) ≤ u8_1 ∧ u8_1 ≤ 2147483647) := krg_e (show (-2147483648 : Int) ≤ F 8 1 ∧ F 8 1 ≤ 2147483647 from H.krg 8 1 (by decide)) (show F 8 1 = u8_1 from (eu8_1))
  have r4 : HID ((-2147483648 : Int) ≤ u10_1 ∧ u10_1 ≤ 2147483647) := krg_e (show (-2147483648 : Int) ≤ F 10 1 ∧ F 10 1 ≤ 2147483647 from H.krg 10 1 (by decide)) (show F 10 1 = u10_1 from (eu10_1))
  replace pf2 := HIDm pf2
  replace pf3 := HIDm pf3
  replace pf4 := HIDm pf4
  replace pf5 := HIDm pf5
  replace pf6 := HIDm pf6
  replace pf7 := HIDm pf7
  replace pf8 := HIDm pf8
  replace pf9 := HIDm pf9
  replace pf10 := HIDm pf10
  replace pf11 := HIDm pf11
  replace pf12 := HIDm pf12
  replace pf13 := HIDm pf13
  replace pf14 := HIDm pf14
  replace pf15 := HIDm pf15
  replace pf16 := HIDm pf16
  replace pf17 := HIDm pf17
  replace en3 := HIDm en3
  replace en4 := HIDm en4
  replace en6 := HIDm en6
  replace en9 := HIDm en9
  replace en11 := HIDm en11
  replace en12 := HIDm en12
  replace en13 := HIDm en13
  replace en14 := HIDm en14
  replace en15 := HIDm en15
  replace en16 := HIDm en16
  replace en17 := HIDm en17
  replace eu1_1 := HIDm eu1_1
  replace eu2_1 := HIDm eu2_1
  replace eu8_1 := HIDm eu8_1
  replace eu10_1 := HIDm eu10_1
  have r5 : HID ((0 : Int) ≤ n3 ∧ n3 ≤ 1000000) := nrng (H.nle 3 (by decide)) (show (N 3 : Int) = n3 from en3)
  have r6 : HID ((0 : Int) ≤ n4 ∧ n4 ≤ 1000000) := nrng (H.nle 4 (by decide)) (show (N 4 : Int) = n4 from en4)
  have r7 : HID ((0 : Int) ≤ n6 ∧ n6 ≤ 1000000) := nrng (H.nle 6 (by decide)) (show (N 6 : Int) = n6 from en6)
  have r8 : HID ((0 : Int) ≤ n9 ∧ n9 ≤ 1000000) := nrng (H.nle 9 (by decide)) (show (N 9 : Int) = n9 from en9)
  have r9 : HID ((0 : Int) ≤ n11 ∧ n11 ≤ 1000000) := nrng (H.nle 11 (by decide)) (show (N 11 : Int) = n11 from en11)
  have r10 : HID ((0 : Int) ≤ n12 ∧ n12 ≤ 1000000) := nrng (H.nle 12 (by decide)) (show (N 12 : Int) = n12 from en12)
  have r11 : HID ((0 : Int) ≤ n13 ∧ n13 ≤ 1000000) := nrng (H.nle 13 (by decide)) (show (N 13 : Int) = n13 from en13)
  have r12 : HID ((0 : Int) ≤ n14 ∧ n14 ≤ 1000000) := nrng (H.nle 14 (by decide)) (show (N 14 : Int) = n14 from en14)
  have r13 : HID ((0 : Int) ≤ n15 ∧ n15 ≤ 1000000) := nrng (H.nle 15 (by decide)) (show (N 15 : Int) = n15 from en15)
  have r14 : HID ((0 : Int) ≤ n16 ∧ n16 ≤ 1000000) := nrng (H.nle 16 (by decide)) (show (N 16 : Int) = n16 from en16)
  refine Ew_of (pc' := 153) (fun _ => x_aload_n rfl hl0) ?_
  refine v_g H (o := 0) (v := .ref (D 2)) rfl rfl rfl rfl rfl (vrf (pf2)) ?_
  refine Ew_of (pc' := 158) (fun _ => x_aload rfl hl4) ?_
  have r15 : HID ((0 : Int) ≤ F 2 2 ∧ F 2 2 ≤ 1) := krg_e (show (0 : Int) ≤ F 2 2 ∧ F 2 2 ≤ 1 from H.krg 2 2 (by decide)) (show F 2 2 = F 2 2 from rfl)
  refine v_inv H (o := 5) rfl rfl rfl rfl rfl rfl (by rfl) (C201_Row_Row (D := pul [5, 2, 1, 3, 4, 7, 8, 9, 10, 11, 6, 12, 13, 14, 15, 16] D) (N := pul [5, 2, 1, 3, 4, 7, 8, 9, 10, 11, 6, 12, 13, 14, 15, 16] N) (HW_sub H (VS_of (show vsub V17_vd3 V201_Row_Row [5, 2, 1, 3, 4, 7, 8, 9, 10, 11, 6, 12, 13, 14, 15, 16] = true by decide +kernel))) (STC_out HT HE O) (pf3) (pf4) (pf7) (pf8) (pf9) (pf10) (pf11) (pf6) (pf12) (pf13) (pf14) (pf15) (pf16) (n3) (en3) (n4) (en4) (n9) (en9) (n11) (en11) (n6) (en6) (n12) (en12) (n13) (en13) (n14) (en14) (n15) (en15) (n16) (en16) (u2_1) ((eu2_1)) (F 2 2) (rfl) (u1_1) ((eu1_1)) (u8_1) ((eu8_1)) (u10_1) ((eu10_1)) (A 3) (rfl) (A 4) (rfl) (w6) (ew6) (show 0 ≤ (u2_1) ∧ (u2_1) ≤ (n3) ∧ (n3) ≤ 65536 by have qh0 := HIDe r2; have qh1 := HIDe r5; omega) (show 0 ≤ (u1_1) ∧ (u1_1) ≤ (n4) ∧ (n4) ≤ 65536 by have qh0 := HIDe r1; have qh1 := HIDe r6; omega) (show 0 ≤ (u8_1) ∧ (u8_1) ≤ (n9) ∧ (n9) ≤ 65536 by have qh0 := HIDe r3; have qh1 := HIDe r8; omega) (show 0 ≤ (u10_1) ∧ (u10_1) ≤ (n11) ∧ (n11) ≤ 65536 by have qh0 := HIDe r4; have qh1 := HIDe r9; omega) (show (n6) = 10 by have qh0 := HIDe r7; omega) (show (u1_1) ≤ 16384 by have qh0 := HIDe r1; omega) (show 1 ≤ ((w6)) 2 ∧ ((w6)) 2 ≤ 65536 by omega) (show (u2_1) = 0 ∧ (F 2 2) = 0 by have qh0 := HIDe r15; have qh1 := HIDe r2; omega) (show 0 ≤ ((w6)) 6 ∧ ((w6)) 6 ≤ 255 by omega) (show (n12) = 0 ∨ (n12) = 2048 by have qh0 := HIDe r10; omega) (show (n13) ≤ 16384 by have qh0 := HIDe r11; omega) (show (n14) = (n15) ∧ (n16) = (n15) ∧ (n15) ≤ 65536 ∧ ((n15) = 0 ∨ 64 ≤ (n15)) ∧ lgq ((n15)) = 0 by have qh0 := HIDe r12; have qh1 := HIDe r13; have qh2 := HIDe r14; omega) (fun σ16 D16' N16' F16' A16' c16 s16 H' O' hD16 hN16 hS16 hA16 pm16_3 pm16_7 pm16_9 pm16_11 pm16_12 pm16_13 pm16_14 pm16_15 m16_3 em16_3 m16_7 em16_7 m16_9 em16_9 m16_11 em16_11 m16_12 em16_12 m16_13 em16_13 m16_14 em16_14 m16_15 em16_15 y16_1_1 ey16_1_1 y16_1_2 ey16_1_2 y16_6_1 ey16_6_1 y16_8_1 ey16_8_1 w16_3 ew16_3 pz16_0 pz16_1 pz16_2 pz16_3 pz16_4 pz16_5 pz16_6 => ⟨rfl, ?_⟩))
  replace pm16_3 := HIDm pm16_3
  replace pm16_7 := HIDm pm16_7
  replace pm16_9 := HIDm pm16_9
  replace pm16_11 := HIDm pm16_11
  replace pm16_12 := HIDm pm16_12
  replace pm16_13 := HIDm pm16_13
  replace pm16_14 := HIDm pm16_14
  replace pm16_15 := HIDm pm16_15
  replace em16_3 := HIDm em16_3
  replace em16_7 := HIDm em16_7
  replace em16_9 := HIDm em16_9
  replace em16_11 := HIDm em16_11
  replace em16_12 := HIDm em16_12
  replace em16_13 := HIDm em16_13
  replace em16_14 := HIDm em16_14
  replace em16_15 := HIDm em16_15
  replace ey16_1_1 := HIDm ey16_1_1
  replace ey16_1_2 := HIDm ey16_1_2
  replace ey16_6_1 := HIDm ey16_6_1
  replace ey16_8_1 := HIDm ey16_8_1
  refine v_backM (c := c) (s := s) H (show vsub V17_vd3 V201_Row_Row [5, 2, 1, 3, 4, 7, 8, 9, 10, 11, 6, 12, 13, 14, 15, 16] = true by decide +kernel) H' O' hD16 (show vmov V17_vd3 [5, 2, 1, 3, 4, 7, 8, 9, 10, 11, 6, 12, 13, 14, 15, 16] [3, 7, 9, 11, 12, 13, 14, 15] = true by decide +kernel) (fun D16 N16 F16 A16 H O' eD16 eN16 eF16 eA16 => ?_)
  have O := OUT_trans O O'
  -- Tags.packStream
  have pf16_0_15 : HID (F16 0 15 = (D16 17 : Int)) := ((show F16 0 15 = F 0 15 from (eF16 0 15))).trans ((pf17).trans (congrArg (fun q : Nat => (q : Int)) ((show D16 17 = D 17 from (eD16 17))).symm))
  have pf16_0_5 : HID (F16 0 5 = (D16 2 : Int)) := ((show F16 0 5 = F 0 5 from (eF16 0 5))).trans ((pf2).trans (congrArg (fun q : Nat => (q : Int)) ((show D16 2 = D 2 from (eD16 2).trans (hD16 1 rfl))).symm))
  have pf16_0_9 : HID (F16 0 9 = (D16 5 : Int)) := ((show F16 0 9 = F 0 9 from (eF16 0 9))).trans ((pf5).trans (congrArg (fun q : Nat => (q : Int)) ((show D16 5 = D 5 from (eD16 5).trans (hD16 0 rfl))).symm))
  have pf16_1_0 : HID (F16 1 0 = (D16 4 : Int)) := ((show F16 1 0 = F 1 0 from (eF16 1 0).trans (hS16 2 0 rfl))).trans ((pf4).trans (congrArg (fun q : Nat => (q : Int)) ((show D16 4 = D 4 from (eD16 4).trans (hD16 4 rfl))).symm))
  have pf16_10_0 : HID (F16 10 0 = (D16 11 : Int)) := (eF16 10 0).trans (pm16_9.trans (congrArg (fun q : Nat => (q : Int)) (eD16 11).symm))
  have pf16_2_0 : HID (F16 2 0 = (D16 3 : Int)) := (eF16 2 0).trans (pm16_3.trans (congrArg (fun q : Nat => (q : Int)) (eD16 3).symm))
  have pf16_5_0 : HID (F16 5 0 = (D16 6 : Int)) := ((show F16 5 0 = F 5 0 from (eF16 5 0).trans (hS16 0 0 rfl))).trans ((pf6).trans (congrArg (fun q : Nat => (q : Int)) ((show D16 6 = D 6 from (eD16 6).trans (hD16 10 rfl))).symm))
  have pf16_5_1 : HID (F16 5 1 = (D16 7 : Int)) := ((show F16 5 1 = F 5 1 from (eF16 5 1).trans (hS16 0 1 rfl))).trans ((pf7).trans (congrArg (fun q : Nat => (q : Int)) ((show D16 7 = D 7 from (eD16 7).trans (hD16 5 rfl))).symm))
  have pf16_5_2 : HID (F16 5 2 = (D16 10 : Int)) := ((show F16 5 2 = F 5 2 from (eF16 5 2).trans (hS16 0 2 rfl))).trans ((pf10).trans (congrArg (fun q : Nat => (q : Int)) ((show D16 10 = D 10 from (eD16 10).trans (hD16 8 rfl))).symm))
  have pf16_7_0 : HID (F16 7 0 = (D16 8 : Int)) := ((show F16 7 0 = F 7 0 from (eF16 7 0).trans (hS16 5 0 rfl))).trans ((pf8).trans (congrArg (fun q : Nat => (q : Int)) ((show D16 8 = D 8 from (eD16 8).trans (hD16 6 rfl))).symm))
  have pf16_7_1 : HID (F16 7 1 = (D16 14 : Int)) := (eF16 7 1).trans (pm16_13.trans (congrArg (fun q : Nat => (q : Int)) (eD16 14).symm))
  have pf16_7_2 : HID (F16 7 2 = (D16 15 : Int)) := (eF16 7 2).trans (pm16_14.trans (congrArg (fun q : Nat => (q : Int)) (eD16 15).symm))
  have pf16_7_3 : HID (F16 7 3 = (D16 16 : Int)) := (eF16 7 3).trans (pm16_15.trans (congrArg (fun q : Nat => (q : Int)) (eD16 16).symm))
  have pf16_7_7 : HID (F16 7 7 = (D16 12 : Int)) := (eF16 7 7).trans (pm16_11.trans (congrArg (fun q : Nat => (q : Int)) (eD16 12).symm))
  have pf16_7_8 : HID (F16 7 8 = (D16 13 : Int)) := (eF16 7 8).trans (pm16_12.trans (congrArg (fun q : Nat => (q : Int)) (eD16 13).symm))
  have pf16_8_0 : HID (F16 8 0 = (D16 9 : Int)) := (eF16 8 0).trans (pm16_7.trans (congrArg (fun q : Nat => (q : Int)) (eD16 9).symm))
  have r17 : HID ((0 : Int) ≤ m16_3 ∧ m16_3 ≤ 1000000) := nrng (H.nle 3 (by decide)) (show (N16 3 : Int) = m16_3 from (congrArg (fun q : Nat => (q : Int)) (eN16 3)).trans em16_3)
  have r18 : HID ((0 : Int) ≤ m16_7 ∧ m16_7 ≤ 1000000) := nrng (H.nle 9 (by decide)) (show (N16 9 : Int) = m16_7 from (congrArg (fun q : Nat => (q : Int)) (eN16 9)).trans em16_7)
  have r19 : HID ((0 : Int) ≤ m16_9 ∧ m16_9 ≤ 1000000) := nrng (H.nle 11 (by decide)) (show (N16 11 : Int) = m16_9 from (congrArg (fun q : Nat => (q : Int)) (eN16 11)).trans em16_9)
  have r20 : HID ((0 : Int) ≤ m16_11 ∧ m16_11 ≤ 1000000) := nrng (H.nle 12 (by decide)) (show (N16 12 : Int) = m16_11 from (congrArg (fun q : Nat => (q : Int)) (eN16 12)).trans em16_11)
  have r21 : HID ((0 : Int) ≤ m16_12 ∧ m16_12 ≤ 1000000) := nrng (H.nle 13 (by decide)) (show (N16 13 : Int) = m16_12 from (congrArg (fun q : Nat => (q : Int)) (eN16 13)).trans em16_12)
  have r22 : HID ((0 : Int) ≤ m16_13 ∧ m16_13 ≤ 1000000) := nrng (H.nle 14 (by decide)) (show (N16 14 : Int) = m16_13 from (congrArg (fun q : Nat => (q : Int)) (eN16 14)).trans em16_13)
  have r23 : HID ((0 : Int) ≤ m16_14 ∧ m16_14 ≤ 1000000) := nrng (H.nle 15 (by decide)) (show (N16 15 : Int) = m16_14 from (congrArg (fun q : Nat => (q : Int)) (eN16 15)).trans em16_14)
  have r24 : HID ((0 : Int) ≤ m16_15 ∧ m16_15 ≤ 1000000) := nrng (H.nle 16 (by decide)) (show (N16 16 : Int) = m16_15 from (congrArg (fun q : Nat => (q : Int)) (eN16 16)).trans em16_15)
  have r25 : HID ((-2147483648 : Int) ≤ y16_1_1 ∧ y16_1_1 ≤ 2147483647) := krg_e (show (-2147483648 : Int) ≤ F16 2 1 ∧ F16 2 1 ≤ 2147483647 from H.krg 2 1 (by decide)) (show F16 2 1 = y16_1_1 from ((eF16 2 1).trans ey16_1_1))
  have r26 : HID ((0 : Int) ≤ y16_1_2 ∧ y16_1_2 ≤ 1) := krg_e (show (0 : Int) ≤ F16 2 2 ∧ F16 2 2 ≤ 1 from H.krg 2 2 (by decide)) (show F16 2 2 = y16_1_2 from ((eF16 2 2).trans ey16_1_2))
  have r27 : HID ((-2147483648 : Int) ≤ y16_6_1 ∧ y16_6_1 ≤ 2147483647) := krg_e (show (-2147483648 : Int) ≤ F16 8 1 ∧ F16 8 1 ≤ 2147483647 from H.krg 8 1 (by decide)) (show F16 8 1 = y16_6_1 from ((eF16 8 1).trans ey16_6_1))
  have r28 : HID ((-2147483648 : Int) ≤ y16_8_1 ∧ y16_8_1 ≤ 2147483647) := krg_e (show (-2147483648 : Int) ≤ F16 10 1 ∧ F16 10 1 ≤ 2147483647 from H.krg 10 1 (by decide)) (show F16 10 1 = y16_8_1 from ((eF16 10 1).trans ey16_8_1))
  refine Ew_of (pc' := 199) (fun _ => x_goto rfl rfl) ?_
  refine Ew_of (pc' := 201) (fun _ => x_iload rfl hl5) ?_
  refine w_ifeq (t := 214) rfl rfl (show inr (1) by omega) (fun b29 => ?_) (fun b29 => ?_)
  · exact absurd b29 (by omega)
  · refine Ew_of (pc' := 205) (fun _ => x_aload_n rfl hl0) ?_
    refine Ew_stk (show ([.ref (D 0)] : List Value) = [.ref (D16 0)] by rw [show D16 0 = D 0 from ((show D16 0 = D 0 from (eD16 0)))]) ?_
    refine v_g H (o := 0) (v := .ref (D16 2)) rfl rfl rfl rfl rfl (vrf (pf16_0_5)) ?_
    refine v_g H (o := 2) (v := I (y16_1_2)) rfl rfl rfl rfl rfl (congrArg (fun z : Int => I z) (((eF16 2 2).trans ey16_1_2) : F16 2 2 = y16_1_2)) ?_
    refine w_ifeq (t := 216) rfl rfl (show inr (y16_1_2) by have qh0 := HIDe r26; omega) (fun b30 => ?_) (fun b30 => ?_)
    · refine Ew_of (pc' := 217) (fun _ => x_iload_n rfl hl3) ?_
      refine Ew_of (pc' := 218) (fun _ => x_iconst rfl) ?_
      refine w_icmpeq (t := 277) rfl rfl (show inr (3) by omega) (show inr (5) by omega) (fun b31 => ?_) (fun b31 => ?_)
      · exact absurd b31 (by omega)
      · refine Ew_of (pc' := 222) (fun _ => x_aload_n rfl hl0) ?_
        refine Ew_of (pc' := 223) (fun _ => x_aload_n rfl hl0) ?_
        refine Ew_stk (show ([.ref (D 0), .ref (D 0)] : List Value) = [.ref (D16 0), .ref (D16 0)] by rw [show D16 0 = D 0 from ((show D16 0 = D 0 from (eD16 0)))]) ?_
        refine v_g H (o := 0) (v := .ref (D16 2)) rfl rfl rfl rfl rfl (vrf (pf16_0_5)) ?_
        refine Ew_of (pc' := 227) (fun _ => x_iload_n rfl hl3) ?_
        refine Ew_of (pc' := 229) (fun _ => x_aload rfl hl4) ?_
        refine Ew_stk (show ([.ref (D 1), I (3), .ref (D16 2), .ref (D16 0)] : List Value) = [.ref (D16 1), I (3), .ref (D16 2), .ref (D16 0)] by rw [show D16 1 = D 1 from ((show D16 1 = D 1 from (eD16 1).trans (hD16 2 rfl)))]) ?_
        refine v_g H (o := 1) (v := I (u1_1)) rfl rfl rfl rfl rfl (congrArg (fun z : Int => I z) ((((show F16 1 1 = F 1 1 from (eF16 1 1).trans (hS16 2 1 rfl))).trans (eu1_1)) : F16 1 1 = u1_1)) ?_
        refine Ew_of (pc' := 233) (fun _ => x_aload_n rfl hl0) ?_
        refine Ew_stk (show ([.ref (D 0), I (u1_1), I (3), .ref (D16 2), .ref (D16 0)] : List Value) = [.ref (D16 0), I (u1_1), I (3), .ref (D16 2), .ref (D16 0)] by rw [show D16 0 = D 0 from ((show D16 0 = D 0 from (eD16 0)))]) ?_
        refine v_g H (o := 0) (v := .ref (D16 17)) rfl rfl rfl rfl rfl (vrf (pf16_0_15)) ?_
        exact hc236 (3) (u1_1) _ _ _ _ _ _ _ _  ((hl0).trans (congrArg (fun q : Nat => some (Value.ref q)) (((show D16 0 = D 0 from (eD16 0)))).symm)) (hl1) (hl3) ((hl4).trans (congrArg (fun q : Nat => some (Value.ref q)) (((show D16 1 = D 1 from (eD16 1).trans (hD16 2 rfl)))).symm)) H O (SD_trans (SD_refl) (SD_glu (ι := [5, 2, 1, 3, 4, 7, 8, 9, 10, 11, 6, 12, 13, 14, 15, 16]) hD16 eD16 (by decide +kernel)) (any_subA (l' := [3, 9, 11, 12, 13, 14, 15, 16]) rfl)) (SD_trans (SD_refl) (SD_glu (ι := [5, 2, 1, 3, 4, 7, 8, 9, 10, 11, 6, 12, 13, 14, 15, 16]) hN16 eN16 (by decide +kernel)) (any_subA (l' := [3, 9, 11, 12, 13, 14, 15, 16]) rfl)) (SF_trans (SF_refl) (SF_glu (ι := [5, 2, 1, 3, 4, 7, 8, 9, 10, 11, 6, 12, 13, 14, 15, 16]) hS16 eF16 (by decide +kernel)) (any_sub (l' := [(2, 0), (2, 1), (2, 2), (7, 1), (7, 2), (7, 3), (7, 4), (7, 5), (7, 6), (7, 7), (7, 8), (7, 9), (7, 10), (7, 11), (7, 12), (7, 13), (7, 14), (7, 15), (7, 16), (7, 17), (7, 18), (8, 0), (8, 1), (8, 2), (8, 3), (8, 4), (10, 0), (10, 1), (10, 2), (10, 3), (10, 4)]) rfl)) (SA_trans (SA_refl) (SA_glu (ι := [5, 2, 1, 3, 4, 7, 8, 9, 10, 11, 6, 12, 13, 14, 15, 16]) hA16 eA16 (by decide +kernel)) (any_subA (l' := [3, 9, 11, 12, 13, 14, 15, 16]) rfl)) (pf16_2_0) (pf16_8_0) (pf16_10_0) (pf16_7_7) (pf16_7_8) (pf16_7_1) (pf16_7_2) (pf16_7_3) (m16_3) ((congrArg (fun q : Nat => (q : Int)) (eN16 3)).trans em16_3) (m16_7) ((congrArg (fun q : Nat => (q : Int)) (eN16 9)).trans em16_7) (m16_9) ((congrArg (fun q : Nat => (q : Int)) (eN16 11)).trans em16_9) (m16_11) ((congrArg (fun q : Nat => (q : Int)) (eN16 12)).trans em16_11) (m16_12) ((congrArg (fun q : Nat => (q : Int)) (eN16 13)).trans em16_12) (m16_13) ((congrArg (fun q : Nat => (q : Int)) (eN16 14)).trans em16_13) (m16_14) ((congrArg (fun q : Nat => (q : Int)) (eN16 15)).trans em16_14) (m16_15) ((congrArg (fun q : Nat => (q : Int)) (eN16 16)).trans em16_15) (y16_1_1) (((eF16 2 1).trans ey16_1_1)) (y16_6_1) (((eF16 8 1).trans ey16_6_1)) (y16_8_1) (((eF16 10 1).trans ey16_8_1))  (show inr (3) by omega) (show inr (u1_1) by have qh0 := HIDe r1; omega) (show 0 ≤ (y16_1_1) ∧ (y16_1_1) ≤ (m16_3) ∧ (m16_3) ≤ 65536 by have qh0 := HIDe r17; have qh1 := HIDe r25; omega) (show 0 ≤ (y16_6_1) ∧ (y16_6_1) ≤ (m16_7) ∧ (m16_7) ≤ 65536 by have qh0 := HIDe r18; have qh1 := HIDe r27; omega) (show 0 ≤ (y16_8_1) ∧ (y16_8_1) ≤ (m16_9) ∧ (m16_9) ≤ 65536 by have qh0 := HIDe r19; have qh1 := HIDe r28; omega) (show (m16_11) = 0 ∨ (m16_11) = 2048 by have qh0 := HIDe r20; omega) (show (m16_12) ≤ 16384 by have qh0 := HIDe r21; omega) (show (m16_13) = (m16_14) ∧ (m16_15) = (m16_14) ∧ (m16_14) ≤ 65536 ∧ ((m16_14) = 0 ∨ 64 ≤ (m16_14)) ∧ lgq ((m16_14)) = 0 by have qh0 := HIDe r22; have qh1 := HIDe r23; have qh2 := HIDe r24; omega) (show (3) = 3 by omega) (show (u1_1) = (u1_1) by have qh0 := HIDe r1; omega)
    · refine Ew_of (pc' := 215) (fun _ => x_iconst rfl) ?_
      exact w_ireturn rfl (k ((-1)) _ _ _ _ _ _ _ H O (SD_trans (SD_refl) (SD_glu (ι := [5, 2, 1, 3, 4, 7, 8, 9, 10, 11, 6, 12, 13, 14, 15, 16]) hD16 eD16 (by decide +kernel)) (any_subA (l' := [3, 9, 11, 12, 13, 14, 15, 16]) rfl)) (SD_trans (SD_refl) (SD_glu (ι := [5, 2, 1, 3, 4, 7, 8, 9, 10, 11, 6, 12, 13, 14, 15, 16]) hN16 eN16 (by decide +kernel)) (any_subA (l' := [3, 9, 11, 12, 13, 14, 15, 16]) rfl)) (SF_trans (SF_refl) (SF_glu (ι := [5, 2, 1, 3, 4, 7, 8, 9, 10, 11, 6, 12, 13, 14, 15, 16]) hS16 eF16 (by decide +kernel)) (any_sub (l' := [(2, 0), (2, 1), (2, 2), (7, 1), (7, 2), (7, 3), (7, 4), (7, 5), (7, 6), (7, 7), (7, 8), (7, 9), (7, 10), (7, 11), (7, 12), (7, 13), (7, 14), (7, 15), (7, 16), (7, 17), (7, 18), (8, 0), (8, 1), (8, 2), (8, 3), (8, 4), (10, 0), (10, 1), (10, 2), (10, 3), (10, 4)]) rfl)) (SA_trans (SA_refl) (SA_glu (ι := [5, 2, 1, 3, 4, 7, 8, 9, 10, 11, 6, 12, 13, 14, 15, 16]) hA16 eA16 (by decide +kernel)) (any_subA (l' := [3, 9, 11, 12, 13, 14, 15, 16]) rfl)) (pf16_2_0) (pf16_8_0) (pf16_10_0) (pf16_7_7) (pf16_7_8) (pf16_7_1) (pf16_7_2) (pf16_7_3) (m16_3) ((congrArg (fun q : Nat => (q : Int)) (eN16 3)).trans em16_3) (m16_7) ((congrArg (fun q : Nat => (q : Int)) (eN16 9)).trans em16_7) (m16_9) ((congrArg (fun q : Nat => (q : Int)) (eN16 11)).trans em16_9) (m16_11) ((congrArg (fun q : Nat => (q : Int)) (eN16 12)).trans em16_11) (m16_12) ((congrArg (fun q : Nat => (q : Int)) (eN16 13)).trans em16_12) (m16_13) ((congrArg (fun q : Nat => (q : Int)) (eN16 14)).trans em16_13) (m16_14) ((congrArg (fun q : Nat => (q : Int)) (eN16 15)).trans em16_14) (m16_15) ((congrArg (fun q : Nat => (q : Int)) (eN16 16)).trans em16_15) (y16_1_1) (((eF16 2 1).trans ey16_1_1)) (y16_6_1) (((eF16 8 1).trans ey16_6_1)) (y16_8_1) (((eF16 10 1).trans ey16_8_1)) (show inr ((-1)) by omega) (show 0 ≤ (y16_1_1) ∧ (y16_1_1) ≤ (m16_3) ∧ (m16_3) ≤ 65536 by have qh0 := HIDe r17; have qh1 := HIDe r25; omega) (show 0 ≤ (y16_6_1) ∧ (y16_6_1) ≤ (m16_7) ∧ (m16_7) ≤ 65536 by have qh0 := HIDe r18; have qh1 := HIDe r27; omega) (show 0 ≤ (y16_8_1) ∧ (y16_8_1) ≤ (m16_9) ∧ (m16_9) ≤ 65536 by have qh0 := HIDe r19; have qh1 := HIDe r28; omega) (show (m16_11) = 0 ∨ (m16_11) = 2048 by have qh0 := HIDe r20; omega) (show (m16_12) ≤ 16384 by have qh0 := HIDe r21; omega) (show (m16_13) = (m16_14) ∧ (m16_15) = (m16_14) ∧ (m16_14) ≤ 65536 ∧ ((m16_14) = 0 ∨ 64 ≤ (m16_14)) ∧ lgq ((m16_14)) = 0 by have qh0 := HIDe r22; have qh1 := HIDe r23; have qh2 := HIDe r24; omega))
