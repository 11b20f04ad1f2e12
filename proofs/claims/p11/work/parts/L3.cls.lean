abbrev V143 : vV := [(0, 6, [(4, 0), (4, 0), (4, 0), (4, 0), (4, 0), (4, 0), (4, 0), (4, 0), (4, 0), (4, 0), (4, 0), (4, 0), (4, 0), (4, 0), (4, 0), (0, 0), (0, 0), (4, 0), (4, 0)]), (0, 5, [(4, 0), (4, 0), (4, 0), (4, 0), (0, 0), (0, 0), (0, 0), (4, 0), (4, 0), (0, 0), (0, 0), (0, 0), (0, 0), (0, 0), (0, 0), (0, 0), (0, 0), (0, 0), (0, 0)]), (1, 1, []), (1, 1, []), (1, 1, []), (1, 7, []), (1, 1, []), (1, 1, []), (1, 1, []), (1, 1, []), (0, 9, [(4, 0), (4, 0), (4, 0)]), (1, 2, []), (0, 7, [(4, 0), (0, 0), (1, 0), (0, 0), (0, 0)]), (1, 0, [])]
set_option maxHeartbeats 16000000 in
/-- Packer.packNumber: this, this.finder, this.finder.literals, this.finder.lengths, this.finder.distances, this.symbols, this.symbols.0, this.numbers, this.symbols.1, this.symbols.2, this.next, this.next.latest, this.packed, this.packed.bytes -/
theorem C143 {σE : rS} {D N : Nat → Nat} {F : hF} {A : hA} {d c s : Nat} {Q : wQ} (H : HW V143 σE D N F A) (HT : STC σE)  (pf1 : F 0 1 = (D 1 : Int)) (pf2 : F 1 1 = (D 2 : Int)) (pf3 : F 1 2 = (D 3 : Int)) (pf4 : F 1 3 = (D 4 : Int)) (pf5 : F 0 13 = (D 5 : Int)) (pf6 : A 5 0 = (D 6 : Int)) (pf7 : F 0 14 = (D 7 : Int)) (pf8 : A 5 1 = (D 8 : Int)) (pf9 : A 5 2 = (D 9 : Int)) (pf10 : F 0 7 = (D 10 : Int)) (pf11 : F 10 2 = (D 11 : Int)) (pf12 : F 0 8 = (D 12 : Int)) (pf13 : F 12 0 = (D 13 : Int)) (n2 : Int) (en2 : (N 2 : Int) = n2) (n3 : Int) (en3 : (N 3 : Int) = n3) (n4 : Int) (en4 : (N 4 : Int) = n4) (n5 : Int) (en5 : (N 5 : Int) = n5) (n6 : Int) (en6 : (N 6 : Int) = n6) (n7 : Int) (en7 : (N 7 : Int) = n7) (n8 : Int) (en8 : (N 8 : Int) = n8) (n9 : Int) (en9 : (N 9 : Int) = n9) (n11 : Int) (en11 : (N 11 : Int) = n11) (n13 : Int) (en13 : (N 13 : Int) = n13) (u1_4 : Int) (eu1_4 : F 1 4 = u1_4) (u12_1 : Int) (eu12_1 : F 12 1 = u12_1) (w4 : Int → Int) (ew4 : A 4 = w4) (w6 : Int → Int) (ew6 : A 6 = w6) (w8 : Int → Int) (ew8 : A 8 = w8) (w9 : Int → Int) (ew9 : A 9 = w9) (h0 : (n2) = (n3) ∧ (n4) = (n3) ∧ (n3) ≤ 65536 ∧ ((n3) = 0 ∨ 64 ≤ (n3)) ∧ lgq ((n3)) = 0) (h1 : 0 ≤ (u1_4) ∧ (u1_4) ≤ (n3)) (h2 : DSI ((w4)) ((u1_4))) (h3 : (n5) = 3 ∧ (n6) = (n7) ∧ (n8) = (n7) ∧ (n9) = (n7) ∧ lgq ((n7)) = 0 ∧ (n7) ≤ 16384) (h4 : (n11) = 3) (h5 : 0 ≤ (u12_1) ∧ (u12_1) ≤ (n13) ∧ (n13) ≤ 65536) (k : ∀ (z : Int) (σ : rS) (Dₚ Nₚ : Nat → Nat) (Fₚ : hF) (Aₚ : hA) (cₚ sₚ : Nat), HW V143 σ Dₚ Nₚ Fₚ Aₚ → OUT (V143).length D N σE c s Dₚ Nₚ σ cₚ sₚ → SD [5, 6, 7, 8, 9, 13] D Dₚ → SD [5, 6, 7, 8, 9, 13] N Nₚ → SF [(0, 13), (0, 14), (12, 0), (12, 1), (12, 2)] F Fₚ → SA [5, 6, 7, 8, 9, 11, 13] A Aₚ → Fₚ 0 13 = (Dₚ 5 : Int) → Aₚ 5 0 = (Dₚ 6 : Int) → Fₚ 0 14 = (Dₚ 7 : Int) → Aₚ 5 1 = (Dₚ 8 : Int) → Aₚ 5 2 = (Dₚ 9 : Int) → Fₚ 12 0 = (Dₚ 13 : Int) → ∀ m5 : Int, (Nₚ 5 : Int) = m5 → ∀ m6 : Int, (Nₚ 6 : Int) = m6 → ∀ m7 : Int, (Nₚ 7 : Int) = m7 → ∀ m8 : Int, (Nₚ 8 : Int) = m8 → ∀ m9 : Int, (Nₚ 9 : Int) = m9 → ∀ m13 : Int, (Nₚ 13 : Int) = m13 → ∀ y12_1 : Int, Fₚ 12 1 = y12_1 → ∀ v6 : Int → Int, Aₚ 6 = v6 → ∀ v8 : Int → Int, Aₚ 8 = v8 → ∀ v9 : Int → Int, Aₚ 9 = v9 → (inr (z)) → (0 ≤ (z)) → ((m5) = 3 ∧ (m6) = (m7) ∧ (m8) = (m7) ∧ (m9) = (m7) ∧ lgq ((m7)) = 0 ∧ (m7) ≤ 16384) → ((u1_4) ≤ (m7)) → (0 ≤ (y12_1) ∧ (y12_1) ≤ (m13) ∧ (m13) ≤ 65536) → (IMP (1 ≤ (u1_4)) (RNG ((v6)) ((u1_4)) 36)) → (IMP (1 ≤ (u1_4)) (RNG ((v8)) ((u1_4)) 32)) → (IMP (1 ≤ (u1_4)) (RNG ((v9)) ((u1_4)) 53)) → Q (some (I z)) σ cₚ sₚ) : Ew 143 (d + 3) 0 (rargs 0 [.ref (D 0)]) [] σE c s Q := by
  have O := OUT_refl (n := (V143).length) (D := D) (N := N) (σ := σE) (c := c) (s := s)
  have HE := H
  have r1 : HID ((-2147483648 : Int) ≤ u1_4 ∧ u1_4 ≤ 2147483647) := krg_e (show (-2147483648 : Int) ≤ F 1 4 ∧ F 1 4 ≤ 2147483647 from H.krg 1 4 (by decide)) (show F 1 4 = u1_4 from (eu1_4))
  have r2 : HID ((-2147483648 : Int) ≤ u12_1 ∧ u12_1 ≤ 2147483647) := krg_e (show (-2147483648 : Int) ≤ F 12 1 ∧ F 12 1 ≤ 2147483647 from H.krg 12 1 (by decide)) (show F 12 1 = u12_1 from (eu12_1))
  replace pf1 := HIDm pf1
  replace pf2 := HIDm pf2
  replace pf3 := HIDm pf3
  replace pf4 := HIDm pf4
  replace pf5 := HIDm pf5
  replace pf6 := HIDm pf6
  replace pf7 := HIDm pf7
  replace pf8 := HIDm pf8
  replace pf9 := HIDm pf9
  replace pf10 := HIDm pf10
  replace pf11 := HIDm pf11
  replace pf12 := HIDm pf12
  replace pf13 := HIDm pf13
  replace en2 := HIDm en2
  replace en3 := HIDm en3
  replace en4 := HIDm en4
  replace en5 := HIDm en5
  replace en6 := HIDm en6
  replace en7 := HIDm en7
  replace en8 := HIDm en8
  replace en9 := HIDm en9
  replace en11 := HIDm en11
  replace en13 := HIDm en13
  replace eu1_4 := HIDm eu1_4
  replace eu12_1 := HIDm eu12_1
  have r3 : HID ((0 : Int) ≤ n2 ∧ n2 ≤ 1000000) := nrng (H.nle 2 (by decide)) (show (N 2 : Int) = n2 from en2)
  have r4 : HID ((0 : Int) ≤ n3 ∧ n3 ≤ 1000000) := nrng (H.nle 3 (by decide)) (show (N 3 : Int) = n3 from en3)
  have r5 : HID ((0 : Int) ≤ n4 ∧ n4 ≤ 1000000) := nrng (H.nle 4 (by decide)) (show (N 4 : Int) = n4 from en4)
  have r6 : HID ((0 : Int) ≤ n5 ∧ n5 ≤ 1000000) := nrng (H.nle 5 (by decide)) (show (N 5 : Int) = n5 from en5)
  have r7 : HID ((0 : Int) ≤ n6 ∧ n6 ≤ 1000000) := nrng (H.nle 6 (by decide)) (show (N 6 : Int) = n6 from en6)
  have r8 : HID ((0 : Int) ≤ n7 ∧ n7 ≤ 1000000) := nrng (H.nle 7 (by decide)) (show (N 7 : Int) = n7 from en7)
  have r9 : HID ((0 : Int) ≤ n8 ∧ n8 ≤ 1000000) := nrng (H.nle 8 (by decide)) (show (N 8 : Int) = n8 from en8)
  have r10 : HID ((0 : Int) ≤ n9 ∧ n9 ≤ 1000000) := nrng (H.nle 9 (by decide)) (show (N 9 : Int) = n9 from en9)
  have r11 : HID ((0 : Int) ≤ n11 ∧ n11 ≤ 1000000) := nrng (H.nle 11 (by decide)) (show (N 11 : Int) = n11 from en11)
  have r12 : HID ((0 : Int) ≤ n13 ∧ n13 ≤ 1000000) := nrng (H.nle 13 (by decide)) (show (N 13 : Int) = n13 from en13)
  refine Ew_of (pcₚ := 1) (fun _ => x_aload_n rfl rfl) ?_
  refine v_g H (o := 0) (v := .ref (D 1)) rfl rfl rfl rfl rfl (vrf (pf1)) ?_
  refine v_g H (o := 1) (v := I (u1_4)) rfl rfl rfl rfl rfl (congrArg (fun z : Int => I z) ((eu1_4) : F 1 4 = u1_4)) ?_
  refine Ew_of (pcₚ := 8) (fun _ => x_istore_n rfl) ?_
  have hc30 : ∀ (ls : rO) (σ : rS) (D_c30 N_c30 : Nat → Nat) (c_c30 s_c30 : Nat) (F_c30 : hF) (A_c30 : hA) , rlook ls 0 = some (.ref (D_c30 0)) → rlook ls 1 = some (I (u1_4)) → HW V143 σ D_c30 N_c30 F_c30 A_c30 → OUT (V143).length D N σE c s D_c30 N_c30 σ c_c30 s_c30 → SD [13] D D_c30 → SD [13] N N_c30 → SF [(12, 0), (12, 1), (12, 2)] F F_c30 → SA [13] A A_c30 → F_c30 12 0 = (D_c30 13 : Int) → ∀ mc30_13 : Int, (N_c30 13 : Int) = mc30_13 → ∀ yc30_12_1 : Int, F_c30 12 1 = yc30_12_1 → (0 ≤ (yc30_12_1) ∧ (yc30_12_1) ≤ (mc30_13) ∧ (mc30_13) ≤ 65536) → Ew 143 (d + 3) 30 ls [] σ c_c30 s_c30 Q := by
   as_aux_lemma =>
    intro  ls σ D_c30 N_c30 c_c30 s_c30 F_c30 A_c30  lc30_0 lc30_1 H O hD_c30 hN_c30 hS_c30 hA_c30 pmc30_13 mc30_13 emc30_13 yc30_12_1 eyc30_12_1  jc30_0
    replace pmc30_13 := HIDm pmc30_13
    replace emc30_13 := HIDm emc30_13
    replace eyc30_12_1 := HIDm eyc30_12_1
    have pe_c30_5_0 : HID (A_c30 5 0 = (D_c30 6 : Int)) := (hA_c30 5 rfl 0).trans ((pf6).trans (congrArg (fun q : Nat => (q : Int)) (hD_c30 6 rfl).symm))
    have pe_c30_5_1 : HID (A_c30 5 1 = (D_c30 8 : Int)) := (hA_c30 5 rfl 1).trans ((pf8).trans (congrArg (fun q : Nat => (q : Int)) (hD_c30 8 rfl).symm))
    have pe_c30_5_2 : HID (A_c30 5 2 = (D_c30 9 : Int)) := (hA_c30 5 rfl 2).trans ((pf9).trans (congrArg (fun q : Nat => (q : Int)) (hD_c30 9 rfl).symm))
    have pf_c30_0_1 : HID (F_c30 0 1 = (D_c30 1 : Int)) := (hS_c30 0 1 rfl).trans ((pf1).trans (congrArg (fun q : Nat => (q : Int)) (hD_c30 1 rfl).symm))
    have pf_c30_0_13 : HID (F_c30 0 13 = (D_c30 5 : Int)) := (hS_c30 0 13 rfl).trans ((pf5).trans (congrArg (fun q : Nat => (q : Int)) (hD_c30 5 rfl).symm))
    have pf_c30_0_14 : HID (F_c30 0 14 = (D_c30 7 : Int)) := (hS_c30 0 14 rfl).trans ((pf7).trans (congrArg (fun q : Nat => (q : Int)) (hD_c30 7 rfl).symm))
    have pf_c30_0_7 : HID (F_c30 0 7 = (D_c30 10 : Int)) := (hS_c30 0 7 rfl).trans ((pf10).trans (congrArg (fun q : Nat => (q : Int)) (hD_c30 10 rfl).symm))
    have pf_c30_0_8 : HID (F_c30 0 8 = (D_c30 12 : Int)) := (hS_c30 0 8 rfl).trans ((pf12).trans (congrArg (fun q : Nat => (q : Int)) (hD_c30 12 rfl).symm))
    have pf_c30_1_1 : HID (F_c30 1 1 = (D_c30 2 : Int)) := (hS_c30 1 1 rfl).trans ((pf2).trans (congrArg (fun q : Nat => (q : Int)) (hD_c30 2 rfl).symm))
    have pf_c30_1_2 : HID (F_c30 1 2 = (D_c30 3 : Int)) := (hS_c30 1 2 rfl).trans ((pf3).trans (congrArg (fun q : Nat => (q : Int)) (hD_c30 3 rfl).symm))
    have pf_c30_1_3 : HID (F_c30 1 3 = (D_c30 4 : Int)) := (hS_c30 1 3 rfl).trans ((pf4).trans (congrArg (fun q : Nat => (q : Int)) (hD_c30 4 rfl).symm))
    have pf_c30_10_2 : HID (F_c30 10 2 = (D_c30 11 : Int)) := (hS_c30 10 2 rfl).trans ((pf11).trans (congrArg (fun q : Nat => (q : Int)) (hD_c30 11 rfl).symm))
    have r13 : HID ((0 : Int) ≤ mc30_13 ∧ mc30_13 ≤ 1000000) := nrng (H.nle 13 (by decide)) (show (N_c30 13 : Int) = mc30_13 from emc30_13)
    have r14 : HID ((-2147483648 : Int) ≤ yc30_12_1 ∧ yc30_12_1 ≤ 2147483647) := krg_e (show (-2147483648 : Int) ≤ F_c30 12 1 ∧ F_c30 12 1 ≤ 2147483647 from H.krg 12 1 (by decide)) (show F_c30 12 1 = yc30_12_1 from (eyc30_12_1))
    refine Ew_of (pcₚ := 31) (fun _ => x_aload_n rfl lc30_0) ?_
    refine v_g H (o := 0) (v := .ref (D_c30 12)) rfl rfl rfl rfl rfl (vrf (pf_c30_0_8)) ?_
    refine Ew_of (pcₚ := 35) (fun _ => x_iload_n rfl lc30_1) ?_
    refine v_inv H (o := 12) rfl rfl rfl rfl rfl rfl (by rfl) (C159 (D := pul [12, 13] D_c30) (N := pul [12, 13] N_c30) (HW_sub H (VS_of (show vsub V143 V159 [12, 13] = true by decide +kernel))) (pmc30_13) (mc30_13) (emc30_13) (yc30_12_1) ((eyc30_12_1)) (show inr (u1_4) by have qh0 := HIDe r1; omega) (show 0 ≤ (yc30_12_1) ∧ (yc30_12_1) ≤ (mc30_13) ∧ (mc30_13) ≤ 65536 by have qh0 := HIDe r13; have qh1 := HIDe r14; omega) (fun σ15 D15ₚ N15ₚ F15ₚ A15ₚ c15 s15 Hₚ Oₚ hD15 hN15 hS15 hA15 pm15_1 m15_1 em15_1 y15_0_1 ey15_0_1 pz15_0 pz15_1 pz15_2 => ⟨rfl, ?_⟩))
    replace pm15_1 := HIDm pm15_1
    replace em15_1 := HIDm em15_1
    replace ey15_0_1 := HIDm ey15_0_1
    refine v_backM (c := c_c30) (s := s_c30) H (show vsub V143 V159 [12, 13] = true by decide +kernel) Hₚ Oₚ hD15 (show vmov V143 [12, 13] [1] = true by decide +kernel) (fun D15 N15 F15 A15 H Oₚ eD15 eN15 eF15 eA15 => ?_)
    have O := OUT_trans O Oₚ
    -- Row.add
    have pe15_5_0 : HID (A15 5 0 = (D15 6 : Int)) := (congrFun ((show A15 5 = A_c30 5 from (eA15 5))) 0).trans ((pe_c30_5_0).trans (congrArg (fun q : Nat => (q : Int)) ((show D15 6 = D_c30 6 from (eD15 6))).symm))
    have pe15_5_1 : HID (A15 5 1 = (D15 8 : Int)) := (congrFun ((show A15 5 = A_c30 5 from (eA15 5))) 1).trans ((pe_c30_5_1).trans (congrArg (fun q : Nat => (q : Int)) ((show D15 8 = D_c30 8 from (eD15 8))).symm))
    have pe15_5_2 : HID (A15 5 2 = (D15 9 : Int)) := (congrFun ((show A15 5 = A_c30 5 from (eA15 5))) 2).trans ((pe_c30_5_2).trans (congrArg (fun q : Nat => (q : Int)) ((show D15 9 = D_c30 9 from (eD15 9))).symm))
    have pf15_0_1 : HID (F15 0 1 = (D15 1 : Int)) := ((show F15 0 1 = F_c30 0 1 from (eF15 0 1))).trans ((pf_c30_0_1).trans (congrArg (fun q : Nat => (q : Int)) ((show D15 1 = D_c30 1 from (eD15 1))).symm))
    have pf15_0_13 : HID (F15 0 13 = (D15 5 : Int)) := ((show F15 0 13 = F_c30 0 13 from (eF15 0 13))).trans ((pf_c30_0_13).trans (congrArg (fun q : Nat => (q : Int)) ((show D15 5 = D_c30 5 from (eD15 5))).symm))
    have pf15_0_14 : HID (F15 0 14 = (D15 7 : Int)) := ((show F15 0 14 = F_c30 0 14 from (eF15 0 14))).trans ((pf_c30_0_14).trans (congrArg (fun q : Nat => (q : Int)) ((show D15 7 = D_c30 7 from (eD15 7))).symm))
    have pf15_0_7 : HID (F15 0 7 = (D15 10 : Int)) := ((show F15 0 7 = F_c30 0 7 from (eF15 0 7))).trans ((pf_c30_0_7).trans (congrArg (fun q : Nat => (q : Int)) ((show D15 10 = D_c30 10 from (eD15 10))).symm))
    have pf15_0_8 : HID (F15 0 8 = (D15 12 : Int)) := ((show F15 0 8 = F_c30 0 8 from (eF15 0 8))).trans ((pf_c30_0_8).trans (congrArg (fun q : Nat => (q : Int)) ((show D15 12 = D_c30 12 from (eD15 12).trans (hD15 0 rfl))).symm))
    have pf15_1_1 : HID (F15 1 1 = (D15 2 : Int)) := ((show F15 1 1 = F_c30 1 1 from (eF15 1 1))).trans ((pf_c30_1_1).trans (congrArg (fun q : Nat => (q : Int)) ((show D15 2 = D_c30 2 from (eD15 2))).symm))
    have pf15_1_2 : HID (F15 1 2 = (D15 3 : Int)) := ((show F15 1 2 = F_c30 1 2 from (eF15 1 2))).trans ((pf_c30_1_2).trans (congrArg (fun q : Nat => (q : Int)) ((show D15 3 = D_c30 3 from (eD15 3))).symm))
    have pf15_1_3 : HID (F15 1 3 = (D15 4 : Int)) := ((show F15 1 3 = F_c30 1 3 from (eF15 1 3))).trans ((pf_c30_1_3).trans (congrArg (fun q : Nat => (q : Int)) ((show D15 4 = D_c30 4 from (eD15 4))).symm))
    have pf15_10_2 : HID (F15 10 2 = (D15 11 : Int)) := ((show F15 10 2 = F_c30 10 2 from (eF15 10 2))).trans ((pf_c30_10_2).trans (congrArg (fun q : Nat => (q : Int)) ((show D15 11 = D_c30 11 from (eD15 11))).symm))
    have pf15_12_0 : HID (F15 12 0 = (D15 13 : Int)) := (eF15 12 0).trans (pm15_1.trans (congrArg (fun q : Nat => (q : Int)) (eD15 13).symm))
    have r16 : HID ((0 : Int) ≤ m15_1 ∧ m15_1 ≤ 1000000) := nrng (H.nle 13 (by decide)) (show (N15 13 : Int) = m15_1 from (congrArg (fun q : Nat => (q : Int)) (eN15 13)).trans em15_1)
    have r17 : HID ((-2147483648 : Int) ≤ y15_0_1 ∧ y15_0_1 ≤ 2147483647) := krg_e (show (-2147483648 : Int) ≤ F15 12 1 ∧ F15 12 1 ≤ 2147483647 from H.krg 12 1 (by decide)) (show F15 12 1 = y15_0_1 from ((eF15 12 1).trans ey15_0_1))
    try clear pz15_1
    refine Ew_of (pcₚ := 39) (fun _ => x_aload_n rfl lc30_0) ?_
    refine Ew_stk (show ([.ref (D_c30 0)] : List Value) = [.ref (D15 0)] by rw [show D15 0 = D_c30 0 from ((show D15 0 = D_c30 0 from (eD15 0)))]) ?_
    refine v_g H (o := 0) (v := .ref (D15 12)) rfl rfl rfl rfl rfl (vrf (pf15_0_8)) ?_
    refine v_g H (o := 12) (v := I (y15_0_1)) rfl rfl rfl rfl rfl (congrArg (fun z : Int => I z) (((eF15 12 1).trans ey15_0_1) : F15 12 1 = y15_0_1)) ?_
    refine Ew_of (pcₚ := 46) (fun _ => x_istore_n rfl) ?_
    have hc62 : ∀ (ls : rO) (σ : rS) (D_c62 N_c62 : Nat → Nat) (c_c62 s_c62 : Nat) (F_c62 : hF) (A_c62 : hA) , rlook ls 2 = some (I (y15_0_1)) → HW V143 σ D_c62 N_c62 F_c62 A_c62 → OUT (V143).length D N σE c s D_c62 N_c62 σ c_c62 s_c62 → SD [5, 6, 7, 8, 9, 13] D15 D_c62 → SD [5, 6, 7, 8, 9, 13] N15 N_c62 → SF [(0, 13), (0, 14), (12, 0), (12, 1), (12, 2)] F15 F_c62 → SA [5, 6, 7, 8, 9, 11, 13] A15 A_c62 → F_c62 0 13 = (D_c62 5 : Int) → A_c62 5 0 = (D_c62 6 : Int) → F_c62 0 14 = (D_c62 7 : Int) → A_c62 5 1 = (D_c62 8 : Int) → A_c62 5 2 = (D_c62 9 : Int) → F_c62 12 0 = (D_c62 13 : Int) → ∀ mc62_5 : Int, (N_c62 5 : Int) = mc62_5 → ∀ mc62_6 : Int, (N_c62 6 : Int) = mc62_6 → ∀ mc62_7 : Int, (N_c62 7 : Int) = mc62_7 → ∀ mc62_8 : Int, (N_c62 8 : Int) = mc62_8 → ∀ mc62_9 : Int, (N_c62 9 : Int) = mc62_9 → ∀ mc62_13 : Int, (N_c62 13 : Int) = mc62_13 → ∀ yc62_12_1 : Int, F_c62 12 1 = yc62_12_1 → ∀ wc62_6 : Int → Int, A_c62 6 = wc62_6 → ∀ wc62_8 : Int → Int, A_c62 8 = wc62_8 → ∀ wc62_9 : Int → Int, A_c62 9 = wc62_9 → ((mc62_5) = 3 ∧ (mc62_6) = (mc62_7) ∧ (mc62_8) = (mc62_7) ∧ (mc62_9) = (mc62_7) ∧ lgq ((mc62_7)) = 0 ∧ (mc62_7) ≤ 16384) → ((u1_4) ≤ (mc62_7)) → (0 ≤ (yc62_12_1) ∧ (yc62_12_1) ≤ (mc62_13) ∧ (mc62_13) ≤ 65536) → (IMP (1 ≤ (u1_4)) (RNG ((wc62_6)) ((u1_4)) 36)) → (IMP (1 ≤ (u1_4)) (RNG ((wc62_8)) ((u1_4)) 32)) → (IMP (1 ≤ (u1_4)) (RNG ((wc62_9)) ((u1_4)) 53)) → Ew 143 (d + 3) 62 ls [] σ c_c62 s_c62 Q := by
     as_aux_lemma =>
      intro  ls σ D_c62 N_c62 c_c62 s_c62 F_c62 A_c62  lc62_2 H O hD_c62 hN_c62 hS_c62 hA_c62 pmc62_5 pmc62_6 pmc62_7 pmc62_8 pmc62_9 pmc62_13 mc62_5 emc62_5 mc62_6 emc62_6 mc62_7 emc62_7 mc62_8 emc62_8 mc62_9 emc62_9 mc62_13 emc62_13 yc62_12_1 eyc62_12_1 wc62_6 ewc62_6 wc62_8 ewc62_8 wc62_9 ewc62_9 jc62_0 jc62_1 jc62_2 jc62_3 jc62_4 jc62_5
      replace pmc62_5 := HIDm pmc62_5
      replace pmc62_6 := HIDm pmc62_6
      replace pmc62_7 := HIDm pmc62_7
      replace pmc62_8 := HIDm pmc62_8
      replace pmc62_9 := HIDm pmc62_9
      replace pmc62_13 := HIDm pmc62_13
      replace emc62_5 := HIDm emc62_5
      replace emc62_6 := HIDm emc62_6
      replace emc62_7 := HIDm emc62_7
      replace emc62_8 := HIDm emc62_8
      replace emc62_9 := HIDm emc62_9
      replace emc62_13 := HIDm emc62_13
      replace eyc62_12_1 := HIDm eyc62_12_1
      try clear pz15_1
      have pf_c62_0_1 : HID (F_c62 0 1 = (D_c62 1 : Int)) := (hS_c62 0 1 rfl).trans ((pf15_0_1).trans (congrArg (fun q : Nat => (q : Int)) (hD_c62 1 rfl).symm))
      have pf_c62_0_7 : HID (F_c62 0 7 = (D_c62 10 : Int)) := (hS_c62 0 7 rfl).trans ((pf15_0_7).trans (congrArg (fun q : Nat => (q : Int)) (hD_c62 10 rfl).symm))
      have pf_c62_0_8 : HID (F_c62 0 8 = (D_c62 12 : Int)) := (hS_c62 0 8 rfl).trans ((pf15_0_8).trans (congrArg (fun q : Nat => (q : Int)) (hD_c62 12 rfl).symm))
      have pf_c62_1_1 : HID (F_c62 1 1 = (D_c62 2 : Int)) := (hS_c62 1 1 rfl).trans ((pf15_1_1).trans (congrArg (fun q : Nat => (q : Int)) (hD_c62 2 rfl).symm))
      have pf_c62_1_2 : HID (F_c62 1 2 = (D_c62 3 : Int)) := (hS_c62 1 2 rfl).trans ((pf15_1_2).trans (congrArg (fun q : Nat => (q : Int)) (hD_c62 3 rfl).symm))
      have pf_c62_1_3 : HID (F_c62 1 3 = (D_c62 4 : Int)) := (hS_c62 1 3 rfl).trans ((pf15_1_3).trans (congrArg (fun q : Nat => (q : Int)) (hD_c62 4 rfl).symm))
      have pf_c62_10_2 : HID (F_c62 10 2 = (D_c62 11 : Int)) := (hS_c62 10 2 rfl).trans ((pf15_10_2).trans (congrArg (fun q : Nat => (q : Int)) (hD_c62 11 rfl).symm))
      have r18 : HID ((0 : Int) ≤ mc62_5 ∧ mc62_5 ≤ 1000000) := nrng (H.nle 5 (by decide)) (show (N_c62 5 : Int) = mc62_5 from emc62_5)
      have r19 : HID ((0 : Int) ≤ mc62_6 ∧ mc62_6 ≤ 1000000) := nrng (H.nle 6 (by decide)) (show (N_c62 6 : Int) = mc62_6 from emc62_6)
      have r20 : HID ((0 : Int) ≤ mc62_7 ∧ mc62_7 ≤ 1000000) := nrng (H.nle 7 (by decide)) (show (N_c62 7 : Int) = mc62_7 from emc62_7)
      have r21 : HID ((0 : Int) ≤ mc62_8 ∧ mc62_8 ≤ 1000000) := nrng (H.nle 8 (by decide)) (show (N_c62 8 : Int) = mc62_8 from emc62_8)
      have r22 : HID ((0 : Int) ≤ mc62_9 ∧ mc62_9 ≤ 1000000) := nrng (H.nle 9 (by decide)) (show (N_c62 9 : Int) = mc62_9 from emc62_9)
      have r23 : HID ((0 : Int) ≤ mc62_13 ∧ mc62_13 ≤ 1000000) := nrng (H.nle 13 (by decide)) (show (N_c62 13 : Int) = mc62_13 from emc62_13)
      have r24 : HID ((-2147483648 : Int) ≤ yc62_12_1 ∧ yc62_12_1 ≤ 2147483647) := krg_e (show (-2147483648 : Int) ≤ F_c62 12 1 ∧ F_c62 12 1 ≤ 2147483647 from H.krg 12 1 (by decide)) (show F_c62 12 1 = yc62_12_1 from (eyc62_12_1))
      refine Ew_of (pcₚ := 63) (fun _ => x_iload_n rfl lc62_2) ?_
      exact w_ireturn rfl (k (y15_0_1) _ _ _ _ _ _ _ H O (SD_trans (SD_trans (SD_trans (SD_refl) hD_c30 (any_subA rfl)) (SD_glu (ι := [12, 13]) hD15 eD15 (by decide +kernel)) (any_subA (lₚ := [13]) rfl)) hD_c62 (any_subA rfl)) (SD_trans (SD_trans (SD_trans (SD_refl) hN_c30 (any_subA rfl)) (SD_glu (ι := [12, 13]) hN15 eN15 (by decide +kernel)) (any_subA (lₚ := [13]) rfl)) hN_c62 (any_subA rfl)) (SF_trans (SF_trans (SF_trans (SF_refl) hS_c30 (any_sub rfl)) (SF_glu (ι := [12, 13]) hS15 eF15 (by decide +kernel)) (any_sub (lₚ := [(12, 0), (12, 1), (12, 2)]) rfl)) hS_c62 (any_sub rfl)) (SA_trans (SA_trans (SA_trans (SA_refl) hA_c30 (any_subA rfl)) (SA_glu (ι := [12, 13]) hA15 eA15 (by decide +kernel)) (any_subA (lₚ := [13]) rfl)) hA_c62 (any_subA rfl)) (pmc62_5) (pmc62_6) (pmc62_7) (pmc62_8) (pmc62_9) (pmc62_13) (mc62_5) (emc62_5) (mc62_6) (emc62_6) (mc62_7) (emc62_7) (mc62_8) (emc62_8) (mc62_9) (emc62_9) (mc62_13) (emc62_13) (yc62_12_1) ((eyc62_12_1)) (wc62_6) (ewc62_6) (wc62_8) (ewc62_8) (wc62_9) (ewc62_9) (show inr (y15_0_1) by have qh0 := HIDe r17; omega) (show 0 ≤ (y15_0_1) by have qh0 := HIDe r17; omega) (show (mc62_5) = 3 ∧ (mc62_6) = (mc62_7) ∧ (mc62_8) = (mc62_7) ∧ (mc62_9) = (mc62_7) ∧ lgq ((mc62_7)) = 0 ∧ (mc62_7) ≤ 16384 by have qh0 := HIDe r18; have qh1 := HIDe r19; have qh2 := HIDe r20; have qh3 := HIDe r21; have qh4 := HIDe r22; omega) (show (u1_4) ≤ (mc62_7) by have qh0 := HIDe r1; have qh1 := HIDe r20; omega) (show 0 ≤ (yc62_12_1) ∧ (yc62_12_1) ≤ (mc62_13) ∧ (mc62_13) ≤ 65536 by have qh0 := HIDe r23; have qh1 := HIDe r24; omega) (show IMP (1 ≤ (u1_4)) (RNG ((wc62_6)) ((u1_4)) 36) by assumption) (show IMP (1 ≤ (u1_4)) (RNG ((wc62_8)) ((u1_4)) 32) by assumption) (show IMP (1 ≤ (u1_4)) (RNG ((wc62_9)) ((u1_4)) 53) by assumption))
    refine Ew_of (pcₚ := 47) (fun _ => x_iload_n rfl (rk_o (lc30_1) rfl rfl)) ?_
    refine w_ifle (t := 62) rfl rfl (show inr (u1_4) by have qh0 := HIDe r1; omega) (fun b25 => ?_) (fun b25 => ?_)
    · have hi0 : IMP (1 ≤ (u1_4)) (RNG ((w6)) ((u1_4)) 36) := by first | exact fun q => absurd q (by (have qg0 := HIDe r1; omega)) | exact fun _ => pNONE_2
      have hi1 : IMP (1 ≤ (u1_4)) (RNG ((w8)) ((u1_4)) 32) := by first | exact fun q => absurd q (by (have qg0 := HIDe r1; omega)) | exact fun _ => pNONE_3
      have hi2 : IMP (1 ≤ (u1_4)) (RNG ((w9)) ((u1_4)) 53) := by first | exact fun q => absurd q (by (have qg0 := HIDe r1; omega)) | exact fun _ => pNONE_4
      exact hc62  _ _ _ _ _ _ _ _  (rk_s) H O (SD_refl) (SD_refl) (SF_refl) (SA_refl) (pf15_0_13) (pe15_5_0) (pf15_0_14) (pe15_5_1) (pe15_5_2) (pf15_12_0) (n5) ((congrArg (fun q : Nat => (q : Int)) (show N15 5 = N_c30 5 from (eN15 5))).trans ((congrArg (fun q : Nat => (q : Int)) (hN_c30 5 rfl)).trans (en5))) (n6) ((congrArg (fun q : Nat => (q : Int)) (show N15 6 = N_c30 6 from (eN15 6))).trans ((congrArg (fun q : Nat => (q : Int)) (hN_c30 6 rfl)).trans (en6))) (n7) ((congrArg (fun q : Nat => (q : Int)) (show N15 7 = N_c30 7 from (eN15 7))).trans ((congrArg (fun q : Nat => (q : Int)) (hN_c30 7 rfl)).trans (en7))) (n8) ((congrArg (fun q : Nat => (q : Int)) (show N15 8 = N_c30 8 from (eN15 8))).trans ((congrArg (fun q : Nat => (q : Int)) (hN_c30 8 rfl)).trans (en8))) (n9) ((congrArg (fun q : Nat => (q : Int)) (show N15 9 = N_c30 9 from (eN15 9))).trans ((congrArg (fun q : Nat => (q : Int)) (hN_c30 9 rfl)).trans (en9))) (m15_1) ((congrArg (fun q : Nat => (q : Int)) (eN15 13)).trans em15_1) (y15_0_1) (((eF15 12 1).trans ey15_0_1)) (w6) (((show A15 6 = A_c30 6 from (eA15 6))).trans ((funext (hA_c30 6 rfl)).trans (ew6))) (w8) (((show A15 8 = A_c30 8 from (eA15 8))).trans ((funext (hA_c30 8 rfl)).trans (ew8))) (w9) (((show A15 9 = A_c30 9 from (eA15 9))).trans ((funext (hA_c30 9 rfl)).trans (ew9))) (show (n5) = 3 ∧ (n6) = (n7) ∧ (n8) = (n7) ∧ (n9) = (n7) ∧ lgq ((n7)) = 0 ∧ (n7) ≤ 16384 by have qh0 := HIDe r10; have qh1 := HIDe r6; have qh2 := HIDe r7; have qh3 := HIDe r8; have qh4 := HIDe r9; omega) (show (u1_4) ≤ (n7) by have qh0 := HIDe r1; have qh1 := HIDe r8; omega) (show 0 ≤ (y15_0_1) ∧ (y15_0_1) ≤ (m15_1) ∧ (m15_1) ≤ 65536 by have qh0 := HIDe r16; have qh1 := HIDe r17; omega) (show IMP (1 ≤ (u1_4)) (RNG ((w6)) ((u1_4)) 36) by assumption) (show IMP (1 ≤ (u1_4)) (RNG ((w8)) ((u1_4)) 32) by assumption) (show IMP (1 ≤ (u1_4)) (RNG ((w9)) ((u1_4)) 53) by assumption)
    · refine Ew_of (pcₚ := 51) (fun _ => x_aload_n rfl (rk_o (lc30_0) rfl rfl)) ?_
      refine Ew_stk (show ([.ref (D_c30 0)] : List Value) = [.ref (D15 0)] by rw [show D15 0 = D_c30 0 from ((show D15 0 = D_c30 0 from (eD15 0)))]) ?_
      refine v_g H (o := 0) (v := .ref (D15 12)) rfl rfl rfl rfl rfl (vrf (pf15_0_8)) ?_
      refine Ew_of (pcₚ := 55) (fun _ => x_iconst rfl) ?_
      refine v_inv H (o := 12) rfl rfl rfl rfl rfl rfl (by rfl) (C159 (D := pul [12, 13] D15) (N := pul [12, 13] N15) (HW_sub H (VS_of (show vsub V143 V159 [12, 13] = true by decide +kernel))) (pf15_12_0) (m15_1) ((congrArg (fun q : Nat => (q : Int)) (eN15 13)).trans em15_1) (y15_0_1) (((eF15 12 1).trans ey15_0_1)) (show inr (0) by omega) (show 0 ≤ (y15_0_1) ∧ (y15_0_1) ≤ (m15_1) ∧ (m15_1) ≤ 65536 by have qh0 := HIDe r16; have qh1 := HIDe r17; omega) (fun σ26 D26ₚ N26ₚ F26ₚ A26ₚ c26 s26 Hₚ Oₚ hD26 hN26 hS26 hA26 pm26_1 m26_1 em26_1 y26_0_1 ey26_0_1 pz26_0 pz26_1 pz26_2 => ⟨rfl, ?_⟩))
      replace pm26_1 := HIDm pm26_1
      replace em26_1 := HIDm em26_1
      replace ey26_0_1 := HIDm ey26_0_1
      refine v_backM (c := (c_c30 + c15)) (s := (s_c30 + s15)) H (show vsub V143 V159 [12, 13] = true by decide +kernel) Hₚ Oₚ hD26 (show vmov V143 [12, 13] [1] = true by decide +kernel) (fun D26 N26 F26 A26 H Oₚ eD26 eN26 eF26 eA26 => ?_)
      have O := OUT_trans O Oₚ
      -- Row.add
      have pe26_5_0 : HID (A26 5 0 = (D26 6 : Int)) := (congrFun ((show A26 5 = A15 5 from (eA26 5))) 0).trans ((pe15_5_0).trans (congrArg (fun q : Nat => (q : Int)) ((show D26 6 = D15 6 from (eD26 6))).symm))
      have pe26_5_1 : HID (A26 5 1 = (D26 8 : Int)) := (congrFun ((show A26 5 = A15 5 from (eA26 5))) 1).trans ((pe15_5_1).trans (congrArg (fun q : Nat => (q : Int)) ((show D26 8 = D15 8 from (eD26 8))).symm))
      have pe26_5_2 : HID (A26 5 2 = (D26 9 : Int)) := (congrFun ((show A26 5 = A15 5 from (eA26 5))) 2).trans ((pe15_5_2).trans (congrArg (fun q : Nat => (q : Int)) ((show D26 9 = D15 9 from (eD26 9))).symm))
      have pf26_0_1 : HID (F26 0 1 = (D26 1 : Int)) := ((show F26 0 1 = F15 0 1 from (eF26 0 1))).trans ((pf15_0_1).trans (congrArg (fun q : Nat => (q : Int)) ((show D26 1 = D15 1 from (eD26 1))).symm))
      have pf26_0_13 : HID (F26 0 13 = (D26 5 : Int)) := ((show F26 0 13 = F15 0 13 from (eF26 0 13))).trans ((pf15_0_13).trans (congrArg (fun q : Nat => (q : Int)) ((show D26 5 = D15 5 from (eD26 5))).symm))
      have pf26_0_14 : HID (F26 0 14 = (D26 7 : Int)) := ((show F26 0 14 = F15 0 14 from (eF26 0 14))).trans ((pf15_0_14).trans (congrArg (fun q : Nat => (q : Int)) ((show D26 7 = D15 7 from (eD26 7))).symm))
      have pf26_0_7 : HID (F26 0 7 = (D26 10 : Int)) := ((show F26 0 7 = F15 0 7 from (eF26 0 7))).trans ((pf15_0_7).trans (congrArg (fun q : Nat => (q : Int)) ((show D26 10 = D15 10 from (eD26 10))).symm))
      have pf26_0_8 : HID (F26 0 8 = (D26 12 : Int)) := ((show F26 0 8 = F15 0 8 from (eF26 0 8))).trans ((pf15_0_8).trans (congrArg (fun q : Nat => (q : Int)) ((show D26 12 = D15 12 from (eD26 12).trans (hD26 0 rfl))).symm))
      have pf26_1_1 : HID (F26 1 1 = (D26 2 : Int)) := ((show F26 1 1 = F15 1 1 from (eF26 1 1))).trans ((pf15_1_1).trans (congrArg (fun q : Nat => (q : Int)) ((show D26 2 = D15 2 from (eD26 2))).symm))
      have pf26_1_2 : HID (F26 1 2 = (D26 3 : Int)) := ((show F26 1 2 = F15 1 2 from (eF26 1 2))).trans ((pf15_1_2).trans (congrArg (fun q : Nat => (q : Int)) ((show D26 3 = D15 3 from (eD26 3))).symm))
      have pf26_1_3 : HID (F26 1 3 = (D26 4 : Int)) := ((show F26 1 3 = F15 1 3 from (eF26 1 3))).trans ((pf15_1_3).trans (congrArg (fun q : Nat => (q : Int)) ((show D26 4 = D15 4 from (eD26 4))).symm))
      have pf26_10_2 : HID (F26 10 2 = (D26 11 : Int)) := ((show F26 10 2 = F15 10 2 from (eF26 10 2))).trans ((pf15_10_2).trans (congrArg (fun q : Nat => (q : Int)) ((show D26 11 = D15 11 from (eD26 11))).symm))
      have pf26_12_0 : HID (F26 12 0 = (D26 13 : Int)) := (eF26 12 0).trans (pm26_1.trans (congrArg (fun q : Nat => (q : Int)) (eD26 13).symm))
      have r27 : HID ((0 : Int) ≤ m26_1 ∧ m26_1 ≤ 1000000) := nrng (H.nle 13 (by decide)) (show (N26 13 : Int) = m26_1 from (congrArg (fun q : Nat => (q : Int)) (eN26 13)).trans em26_1)
      have r28 : HID ((-2147483648 : Int) ≤ y26_0_1 ∧ y26_0_1 ≤ 2147483647) := krg_e (show (-2147483648 : Int) ≤ F26 12 1 ∧ F26 12 1 ≤ 2147483647 from H.krg 12 1 (by decide)) (show F26 12 1 = y26_0_1 from ((eF26 12 1).trans ey26_0_1))
      try clear pz26_1
      refine Ew_of (pcₚ := 59) (fun _ => x_aload_n rfl (rk_o (lc30_0) rfl rfl)) ?_
      refine Ew_stk (show ([.ref (D_c30 0)] : List Value) = [.ref (D26 0)] by rw [show D26 0 = D_c30 0 from (((show D26 0 = D15 0 from (eD26 0))).trans ((show D15 0 = D_c30 0 from (eD15 0))))]) ?_
      refine v_inv H (o := 0) rfl rfl rfl rfl rfl rfl (by rfl) (C144 (D := pul [0, 1, 2, 3, 4, 5, 6, 7, 8, 9, 10, 11] D26) (N := pul [0, 1, 2, 3, 4, 5, 6, 7, 8, 9, 10, 11] N26) (HW_sub H (VS_of (show vsub V143 V144 [0, 1, 2, 3, 4, 5, 6, 7, 8, 9, 10, 11] = true by decide +kernel))) (STC_out HT HE O) (pf26_0_1) (pf26_1_1) (pf26_1_2) (pf26_1_3) (pf26_0_13) (pe26_5_0) (pf26_0_14) (pe26_5_1) (pe26_5_2) (pf26_0_7) (pf26_10_2) (n2) ((congrArg (fun q : Nat => (q : Int)) (show N26 2 = N15 2 from (eN26 2))).trans ((congrArg (fun q : Nat => (q : Int)) (show N15 2 = N_c30 2 from (eN15 2))).trans ((congrArg (fun q : Nat => (q : Int)) (hN_c30 2 rfl)).trans (en2)))) (n3) ((congrArg (fun q : Nat => (q : Int)) (show N26 3 = N15 3 from (eN26 3))).trans ((congrArg (fun q : Nat => (q : Int)) (show N15 3 = N_c30 3 from (eN15 3))).trans ((congrArg (fun q : Nat => (q : Int)) (hN_c30 3 rfl)).trans (en3)))) (n4) ((congrArg (fun q : Nat => (q : Int)) (show N26 4 = N15 4 from (eN26 4))).trans ((congrArg (fun q : Nat => (q : Int)) (show N15 4 = N_c30 4 from (eN15 4))).trans ((congrArg (fun q : Nat => (q : Int)) (hN_c30 4 rfl)).trans (en4)))) (n5) ((congrArg (fun q : Nat => (q : Int)) (show N26 5 = N15 5 from (eN26 5))).trans ((congrArg (fun q : Nat => (q : Int)) (show N15 5 = N_c30 5 from (eN15 5))).trans ((congrArg (fun q : Nat => (q : Int)) (hN_c30 5 rfl)).trans (en5)))) (n6) ((congrArg (fun q : Nat => (q : Int)) (show N26 6 = N15 6 from (eN26 6))).trans ((congrArg (fun q : Nat => (q : Int)) (show N15 6 = N_c30 6 from (eN15 6))).trans ((congrArg (fun q : Nat => (q : Int)) (hN_c30 6 rfl)).trans (en6)))) (n7) ((congrArg (fun q : Nat => (q : Int)) (show N26 7 = N15 7 from (eN26 7))).trans ((congrArg (fun q : Nat => (q : Int)) (show N15 7 = N_c30 7 from (eN15 7))).trans ((congrArg (fun q : Nat => (q : Int)) (hN_c30 7 rfl)).trans (en7)))) (n8) ((congrArg (fun q : Nat => (q : Int)) (show N26 8 = N15 8 from (eN26 8))).trans ((congrArg (fun q : Nat => (q : Int)) (show N15 8 = N_c30 8 from (eN15 8))).trans ((congrArg (fun q : Nat => (q : Int)) (hN_c30 8 rfl)).trans (en8)))) (n9) ((congrArg (fun q : Nat => (q : Int)) (show N26 9 = N15 9 from (eN26 9))).trans ((congrArg (fun q : Nat => (q : Int)) (show N15 9 = N_c30 9 from (eN15 9))).trans ((congrArg (fun q : Nat => (q : Int)) (hN_c30 9 rfl)).trans (en9)))) (n11) ((congrArg (fun q : Nat => (q : Int)) (show N26 11 = N15 11 from (eN26 11))).trans ((congrArg (fun q : Nat => (q : Int)) (show N15 11 = N_c30 11 from (eN15 11))).trans ((congrArg (fun q : Nat => (q : Int)) (hN_c30 11 rfl)).trans (en11)))) (u1_4) ((((((show F26 1 4 = F15 1 4 from (eF26 1 4))).trans ((show F15 1 4 = F_c30 1 4 from (eF15 1 4)))).trans (hS_c30 1 4 rfl)).trans (eu1_4))) (w4) (((show A26 4 = A15 4 from (eA26 4))).trans (((show A15 4 = A_c30 4 from (eA15 4))).trans ((funext (hA_c30 4 rfl)).trans (ew4)))) (w6) (((show A26 6 = A15 6 from (eA26 6))).trans (((show A15 6 = A_c30 6 from (eA15 6))).trans ((funext (hA_c30 6 rfl)).trans (ew6)))) (w8) (((show A26 8 = A15 8 from (eA26 8))).trans (((show A15 8 = A_c30 8 from (eA15 8))).trans ((funext (hA_c30 8 rfl)).trans (ew8)))) (w9) (((show A26 9 = A15 9 from (eA26 9))).trans (((show A15 9 = A_c30 9 from (eA15 9))).trans ((funext (hA_c30 9 rfl)).trans (ew9)))) (show (n2) = (n3) ∧ (n4) = (n3) ∧ (n3) ≤ 65536 ∧ ((n3) = 0 ∨ 64 ≤ (n3)) ∧ lgq ((n3)) = 0 by have qh0 := HIDe r3; have qh1 := HIDe r4; have qh2 := HIDe r5; omega) (show 0 ≤ (u1_4) ∧ (u1_4) ≤ (n3) by have qh0 := HIDe r1; have qh1 := HIDe r4; omega) (show DSI ((w4)) ((u1_4)) by assumption) (show (n5) = 3 ∧ (n6) = (n7) ∧ (n8) = (n7) ∧ (n9) = (n7) ∧ lgq ((n7)) = 0 ∧ (n7) ≤ 16384 by have qh0 := HIDe r10; have qh1 := HIDe r6; have qh2 := HIDe r7; have qh3 := HIDe r8; have qh4 := HIDe r9; omega) (show (n11) = 3 by have qh0 := HIDe r11; omega) (fun σ29 D29ₚ N29ₚ F29ₚ A29ₚ c29 s29 Hₚ Oₚ hD29 hN29 hS29 hA29 pm29_5 pm29_6 pm29_7 pm29_8 pm29_9 m29_5 em29_5 m29_6 em29_6 m29_7 em29_7 m29_8 em29_8 m29_9 em29_9 w29_6 ew29_6 w29_8 ew29_8 w29_9 ew29_9 pz29_0 pz29_1 pz29_2 pz29_3 pz29_4 => ⟨rfl, ?_⟩))
      replace pm29_5 := HIDm pm29_5
      replace pm29_6 := HIDm pm29_6
      replace pm29_7 := HIDm pm29_7
      replace pm29_8 := HIDm pm29_8
      replace pm29_9 := HIDm pm29_9
      replace em29_5 := HIDm em29_5
      replace em29_6 := HIDm em29_6
      replace em29_7 := HIDm em29_7
      replace em29_8 := HIDm em29_8
      replace em29_9 := HIDm em29_9
      refine v_backM (c := ((c_c30 + c15) + c26)) (s := ((s_c30 + s15) + s26)) H (show vsub V143 V144 [0, 1, 2, 3, 4, 5, 6, 7, 8, 9, 10, 11] = true by decide +kernel) Hₚ Oₚ hD29 (show vmov V143 [0, 1, 2, 3, 4, 5, 6, 7, 8, 9, 10, 11] [5, 6, 7, 8, 9] = true by decide +kernel) (fun D29 N29 F29 A29 H Oₚ eD29 eN29 eF29 eA29 => ?_)
      have O := OUT_trans O Oₚ
      -- Packer.tellSymbols
      have pe29_5_0 : HID (A29 5 0 = (D29 6 : Int)) := (congrFun (eA29 5) 0).trans (pm29_6.trans (congrArg (fun q : Nat => (q : Int)) (eD29 6).symm))
      have pe29_5_1 : HID (A29 5 1 = (D29 8 : Int)) := (congrFun (eA29 5) 1).trans (pm29_8.trans (congrArg (fun q : Nat => (q : Int)) (eD29 8).symm))
      have pe29_5_2 : HID (A29 5 2 = (D29 9 : Int)) := (congrFun (eA29 5) 2).trans (pm29_9.trans (congrArg (fun q : Nat => (q : Int)) (eD29 9).symm))
      have pf29_0_1 : HID (F29 0 1 = (D29 1 : Int)) := ((show F29 0 1 = F26 0 1 from (eF29 0 1).trans (hS29 0 1 rfl))).trans ((pf26_0_1).trans (congrArg (fun q : Nat => (q : Int)) ((show D29 1 = D26 1 from (eD29 1).trans (hD29 1 rfl))).symm))
      have pf29_0_13 : HID (F29 0 13 = (D29 5 : Int)) := (eF29 0 13).trans (pm29_5.trans (congrArg (fun q : Nat => (q : Int)) (eD29 5).symm))
      have pf29_0_14 : HID (F29 0 14 = (D29 7 : Int)) := (eF29 0 14).trans (pm29_7.trans (congrArg (fun q : Nat => (q : Int)) (eD29 7).symm))
      have pf29_0_7 : HID (F29 0 7 = (D29 10 : Int)) := ((show F29 0 7 = F26 0 7 from (eF29 0 7).trans (hS29 0 7 rfl))).trans ((pf26_0_7).trans (congrArg (fun q : Nat => (q : Int)) ((show D29 10 = D26 10 from (eD29 10).trans (hD29 10 rfl))).symm))
      have pf29_0_8 : HID (F29 0 8 = (D29 12 : Int)) := ((show F29 0 8 = F26 0 8 from (eF29 0 8).trans (hS29 0 8 rfl))).trans ((pf26_0_8).trans (congrArg (fun q : Nat => (q : Int)) ((show D29 12 = D26 12 from (eD29 12))).symm))
      have pf29_1_1 : HID (F29 1 1 = (D29 2 : Int)) := ((show F29 1 1 = F26 1 1 from (eF29 1 1).trans (hS29 1 1 rfl))).trans ((pf26_1_1).trans (congrArg (fun q : Nat => (q : Int)) ((show D29 2 = D26 2 from (eD29 2).trans (hD29 2 rfl))).symm))
      have pf29_1_2 : HID (F29 1 2 = (D29 3 : Int)) := ((show F29 1 2 = F26 1 2 from (eF29 1 2).trans (hS29 1 2 rfl))).trans ((pf26_1_2).trans (congrArg (fun q : Nat => (q : Int)) ((show D29 3 = D26 3 from (eD29 3).trans (hD29 3 rfl))).symm))
      have pf29_1_3 : HID (F29 1 3 = (D29 4 : Int)) := ((show F29 1 3 = F26 1 3 from (eF29 1 3).trans (hS29 1 3 rfl))).trans ((pf26_1_3).trans (congrArg (fun q : Nat => (q : Int)) ((show D29 4 = D26 4 from (eD29 4).trans (hD29 4 rfl))).symm))
      have pf29_10_2 : HID (F29 10 2 = (D29 11 : Int)) := ((show F29 10 2 = F26 10 2 from (eF29 10 2).trans (hS29 10 2 rfl))).trans ((pf26_10_2).trans (congrArg (fun q : Nat => (q : Int)) ((show D29 11 = D26 11 from (eD29 11).trans (hD29 11 rfl))).symm))
      have pf29_12_0 : HID (F29 12 0 = (D29 13 : Int)) := ((show F29 12 0 = F26 12 0 from (eF29 12 0))).trans ((pf26_12_0).trans (congrArg (fun q : Nat => (q : Int)) ((show D29 13 = D26 13 from (eD29 13))).symm))
      have r30 : HID ((0 : Int) ≤ m29_5 ∧ m29_5 ≤ 1000000) := nrng (H.nle 5 (by decide)) (show (N29 5 : Int) = m29_5 from (congrArg (fun q : Nat => (q : Int)) (eN29 5)).trans em29_5)
      have r31 : HID ((0 : Int) ≤ m29_6 ∧ m29_6 ≤ 1000000) := nrng (H.nle 6 (by decide)) (show (N29 6 : Int) = m29_6 from (congrArg (fun q : Nat => (q : Int)) (eN29 6)).trans em29_6)
      have r32 : HID ((0 : Int) ≤ m29_7 ∧ m29_7 ≤ 1000000) := nrng (H.nle 7 (by decide)) (show (N29 7 : Int) = m29_7 from (congrArg (fun q : Nat => (q : Int)) (eN29 7)).trans em29_7)
      have r33 : HID ((0 : Int) ≤ m29_8 ∧ m29_8 ≤ 1000000) := nrng (H.nle 8 (by decide)) (show (N29 8 : Int) = m29_8 from (congrArg (fun q : Nat => (q : Int)) (eN29 8)).trans em29_8)
      have r34 : HID ((0 : Int) ≤ m29_9 ∧ m29_9 ≤ 1000000) := nrng (H.nle 9 (by decide)) (show (N29 9 : Int) = m29_9 from (congrArg (fun q : Nat => (q : Int)) (eN29 9)).trans em29_9)
      have hi0 : IMP (1 ≤ (u1_4)) (RNG ((w29_6)) ((u1_4)) 36) := by first | exact fun q => absurd q (by (have qg0 := HIDe r1; omega)) | exact fun _ => pz29_2
      have hi1 : IMP (1 ≤ (u1_4)) (RNG ((w29_8)) ((u1_4)) 32) := by first | exact fun q => absurd q (by (have qg0 := HIDe r1; omega)) | exact fun _ => pz29_3
      have hi2 : IMP (1 ≤ (u1_4)) (RNG ((w29_9)) ((u1_4)) 53) := by first | exact fun q => absurd q (by (have qg0 := HIDe r1; omega)) | exact fun _ => pz29_4
      exact hc62  _ _ _ _ _ _ _ _  (rk_s) H O (SD_trans (SD_trans (SD_refl) (SD_glu (ι := [12, 13]) hD26 eD26 (by decide +kernel)) (any_subA (lₚ := [13]) rfl)) (SD_glu (ι := [0, 1, 2, 3, 4, 5, 6, 7, 8, 9, 10, 11]) hD29 eD29 (by decide +kernel)) (any_subA (lₚ := [5, 6, 7, 8, 9]) rfl)) (SD_trans (SD_trans (SD_refl) (SD_glu (ι := [12, 13]) hN26 eN26 (by decide +kernel)) (any_subA (lₚ := [13]) rfl)) (SD_glu (ι := [0, 1, 2, 3, 4, 5, 6, 7, 8, 9, 10, 11]) hN29 eN29 (by decide +kernel)) (any_subA (lₚ := [5, 6, 7, 8, 9]) rfl)) (SF_trans (SF_trans (SF_refl) (SF_glu (ι := [12, 13]) hS26 eF26 (by decide +kernel)) (any_sub (lₚ := [(12, 0), (12, 1), (12, 2)]) rfl)) (SF_glu (ι := [0, 1, 2, 3, 4, 5, 6, 7, 8, 9, 10, 11]) hS29 eF29 (by decide +kernel)) (any_sub (lₚ := [(0, 13), (0, 14)]) rfl)) (SA_trans (SA_trans (SA_refl) (SA_glu (ι := [12, 13]) hA26 eA26 (by decide +kernel)) (any_subA (lₚ := [13]) rfl)) (SA_glu (ι := [0, 1, 2, 3, 4, 5, 6, 7, 8, 9, 10, 11]) hA29 eA29 (by decide +kernel)) (any_subA (lₚ := [5, 6, 7, 8, 9, 11]) rfl)) (pf29_0_13) (pe29_5_0) (pf29_0_14) (pe29_5_1) (pe29_5_2) (pf29_12_0) (m29_5) ((congrArg (fun q : Nat => (q : Int)) (eN29 5)).trans em29_5) (m29_6) ((congrArg (fun q : Nat => (q : Int)) (eN29 6)).trans em29_6) (m29_7) ((congrArg (fun q : Nat => (q : Int)) (eN29 7)).trans em29_7) (m29_8) ((congrArg (fun q : Nat => (q : Int)) (eN29 8)).trans em29_8) (m29_9) ((congrArg (fun q : Nat => (q : Int)) (eN29 9)).trans em29_9) (m26_1) ((congrArg (fun q : Nat => (q : Int)) (show N29 13 = N26 13 from (eN29 13))).trans ((congrArg (fun q : Nat => (q : Int)) (eN26 13)).trans em26_1)) (y26_0_1) ((((show F29 12 1 = F26 12 1 from (eF29 12 1))).trans ((eF26 12 1).trans ey26_0_1))) (w29_6) ((eA29 6).trans ew29_6) (w29_8) ((eA29 8).trans ew29_8) (w29_9) ((eA29 9).trans ew29_9) (show (m29_5) = 3 ∧ (m29_6) = (m29_7) ∧ (m29_8) = (m29_7) ∧ (m29_9) = (m29_7) ∧ lgq ((m29_7)) = 0 ∧ (m29_7) ≤ 16384 by have qh0 := HIDe r30; have qh1 := HIDe r31; have qh2 := HIDe r32; have qh3 := HIDe r33; have qh4 := HIDe r34; omega) (show (u1_4) ≤ (m29_7) by have qh0 := HIDe r1; have qh1 := HIDe r32; omega) (show 0 ≤ (y26_0_1) ∧ (y26_0_1) ≤ (m26_1) ∧ (m26_1) ≤ 65536 by have qh0 := HIDe r27; have qh1 := HIDe r28; omega) (show IMP (1 ≤ (u1_4)) (RNG ((w29_6)) ((u1_4)) 36) by assumption) (show IMP (1 ≤ (u1_4)) (RNG ((w29_8)) ((u1_4)) 32) by assumption) (show IMP (1 ≤ (u1_4)) (RNG ((w29_9)) ((u1_4)) 53) by assumption)
  refine Ew_of (pcₚ := 9) (fun _ => x_iload_n rfl rk_s) ?_
  refine Ew_of (pcₚ := 12) (fun _ => x_sipush (z := 128) rfl (by decide)) ?_
  refine w_icmplt (t := 30) rfl rfl (show inr (u1_4) by have qh0 := HIDe r1; omega) (show inr (128) by omega) (fun b35 => ?_) (fun b35 => ?_)
  · exact hc30  _ _ _ _ _ _ _ _  (rk_o (rfl) rfl rfl) (rk_s) H O (SD_refl) (SD_refl) (SF_refl) (SA_refl) (pf13) (n13) (en13) (u12_1) ((eu12_1))  (show 0 ≤ (u12_1) ∧ (u12_1) ≤ (n13) ∧ (n13) ≤ 65536 by have qh0 := HIDe r12; have qh1 := HIDe r2; omega)
  · refine Ew_of (pcₚ := 16) (fun _ => x_aload_n rfl (rk_o (rfl) rfl rfl)) ?_
    refine v_g H (o := 0) (v := .ref (D 12)) rfl rfl rfl rfl rfl (vrf (pf12)) ?_
    refine Ew_of (pcₚ := 22) (fun _ => x_sipush (z := 128) rfl (by decide)) ?_
    refine Ew_of (pcₚ := 23) (fun _ => x_iload_n rfl rk_s) ?_
    refine Ew_of (pcₚ := 25) (fun _ => x_bipush (z := 8) rfl (by decide)) ?_
    refine w_ishrK 8 256 (by decide) (by decide) rfl (show inr (u1_4) by have qh0 := HIDe r1; omega) (fun z36 gz36 dz36 => ?_)
    refine w_iadd rfl ?_
    refine v_inv H (o := 12) rfl rfl rfl rfl rfl rfl (by rfl) (C159 (D := pul [12, 13] D) (N := pul [12, 13] N) (HW_sub H (VS_of (show vsub V143 V159 [12, 13] = true by decide +kernel))) (pf13) (n13) (en13) (u12_1) ((eu12_1)) (show inr ((128 + z36)) by omega) (show 0 ≤ (u12_1) ∧ (u12_1) ≤ (n13) ∧ (n13) ≤ 65536 by have qh0 := HIDe r12; have qh1 := HIDe r2; omega) (fun σ37 D37ₚ N37ₚ F37ₚ A37ₚ c37 s37 Hₚ Oₚ hD37 hN37 hS37 hA37 pm37_1 m37_1 em37_1 y37_0_1 ey37_0_1 pz37_0 pz37_1 pz37_2 => ⟨rfl, ?_⟩))
    replace pm37_1 := HIDm pm37_1
    replace em37_1 := HIDm em37_1
    replace ey37_0_1 := HIDm ey37_0_1
    refine v_backM (c := c) (s := s) H (show vsub V143 V159 [12, 13] = true by decide +kernel) Hₚ Oₚ hD37 (show vmov V143 [12, 13] [1] = true by decide +kernel) (fun D37 N37 F37 A37 H Oₚ eD37 eN37 eF37 eA37 => ?_)
    have O := OUT_trans O Oₚ
    -- Row.add
    have pe37_5_0 : HID (A37 5 0 = (D37 6 : Int)) := (congrFun ((show A37 5 = A 5 from (eA37 5))) 0).trans ((pf6).trans (congrArg (fun q : Nat => (q : Int)) ((show D37 6 = D 6 from (eD37 6))).symm))
    have pe37_5_1 : HID (A37 5 1 = (D37 8 : Int)) := (congrFun ((show A37 5 = A 5 from (eA37 5))) 1).trans ((pf8).trans (congrArg (fun q : Nat => (q : Int)) ((show D37 8 = D 8 from (eD37 8))).symm))
    have pe37_5_2 : HID (A37 5 2 = (D37 9 : Int)) := (congrFun ((show A37 5 = A 5 from (eA37 5))) 2).trans ((pf9).trans (congrArg (fun q : Nat => (q : Int)) ((show D37 9 = D 9 from (eD37 9))).symm))
    have pf37_0_1 : HID (F37 0 1 = (D37 1 : Int)) := ((show F37 0 1 = F 0 1 from (eF37 0 1))).trans ((pf1).trans (congrArg (fun q : Nat => (q : Int)) ((show D37 1 = D 1 from (eD37 1))).symm))
    have pf37_0_13 : HID (F37 0 13 = (D37 5 : Int)) := ((show F37 0 13 = F 0 13 from (eF37 0 13))).trans ((pf5).trans (congrArg (fun q : Nat => (q : Int)) ((show D37 5 = D 5 from (eD37 5))).symm))
    have pf37_0_14 : HID (F37 0 14 = (D37 7 : Int)) := ((show F37 0 14 = F 0 14 from (eF37 0 14))).trans ((pf7).trans (congrArg (fun q : Nat => (q : Int)) ((show D37 7 = D 7 from (eD37 7))).symm))
    have pf37_0_7 : HID (F37 0 7 = (D37 10 : Int)) := ((show F37 0 7 = F 0 7 from (eF37 0 7))).trans ((pf10).trans (congrArg (fun q : Nat => (q : Int)) ((show D37 10 = D 10 from (eD37 10))).symm))
    have pf37_0_8 : HID (F37 0 8 = (D37 12 : Int)) := ((show F37 0 8 = F 0 8 from (eF37 0 8))).trans ((pf12).trans (congrArg (fun q : Nat => (q : Int)) ((show D37 12 = D 12 from (eD37 12).trans (hD37 0 rfl))).symm))
    have pf37_1_1 : HID (F37 1 1 = (D37 2 : Int)) := ((show F37 1 1 = F 1 1 from (eF37 1 1))).trans ((pf2).trans (congrArg (fun q : Nat => (q : Int)) ((show D37 2 = D 2 from (eD37 2))).symm))
    have pf37_1_2 : HID (F37 1 2 = (D37 3 : Int)) := ((show F37 1 2 = F 1 2 from (eF37 1 2))).trans ((pf3).trans (congrArg (fun q : Nat => (q : Int)) ((show D37 3 = D 3 from (eD37 3))).symm))
    have pf37_1_3 : HID (F37 1 3 = (D37 4 : Int)) := ((show F37 1 3 = F 1 3 from (eF37 1 3))).trans ((pf4).trans (congrArg (fun q : Nat => (q : Int)) ((show D37 4 = D 4 from (eD37 4))).symm))
    have pf37_10_2 : HID (F37 10 2 = (D37 11 : Int)) := ((show F37 10 2 = F 10 2 from (eF37 10 2))).trans ((pf11).trans (congrArg (fun q : Nat => (q : Int)) ((show D37 11 = D 11 from (eD37 11))).symm))
    have pf37_12_0 : HID (F37 12 0 = (D37 13 : Int)) := (eF37 12 0).trans (pm37_1.trans (congrArg (fun q : Nat => (q : Int)) (eD37 13).symm))
    have r38 : HID ((0 : Int) ≤ m37_1 ∧ m37_1 ≤ 1000000) := nrng (H.nle 13 (by decide)) (show (N37 13 : Int) = m37_1 from (congrArg (fun q : Nat => (q : Int)) (eN37 13)).trans em37_1)
    have r39 : HID ((-2147483648 : Int) ≤ y37_0_1 ∧ y37_0_1 ≤ 2147483647) := krg_e (show (-2147483648 : Int) ≤ F37 12 1 ∧ F37 12 1 ≤ 2147483647 from H.krg 12 1 (by decide)) (show F37 12 1 = y37_0_1 from ((eF37 12 1).trans ey37_0_1))
    exact hc30  _ _ _ _ _ _ _ _  ((rk_o (rfl) rfl rfl).trans (congrArg (fun q : Nat => some (Value.ref q)) (((show D37 0 = D 0 from (eD37 0)))).symm)) (rk_s) H O (SD_trans (SD_refl) (SD_glu (ι := [12, 13]) hD37 eD37 (by decide +kernel)) (any_subA (lₚ := [13]) rfl)) (SD_trans (SD_refl) (SD_glu (ι := [12, 13]) hN37 eN37 (by decide +kernel)) (any_subA (lₚ := [13]) rfl)) (SF_trans (SF_refl) (SF_glu (ι := [12, 13]) hS37 eF37 (by decide +kernel)) (any_sub (lₚ := [(12, 0), (12, 1), (12, 2)]) rfl)) (SA_trans (SA_refl) (SA_glu (ι := [12, 13]) hA37 eA37 (by decide +kernel)) (any_subA (lₚ := [13]) rfl)) (pf37_12_0) (m37_1) ((congrArg (fun q : Nat => (q : Int)) (eN37 13)).trans em37_1) (y37_0_1) (((eF37 12 1).trans ey37_0_1))  (show 0 ≤ (y37_0_1) ∧ (y37_0_1) ≤ (m37_1) ∧ (m37_1) ≤ 65536 by have qh0 := HIDe r38; have qh1 := HIDe r39; omega)
