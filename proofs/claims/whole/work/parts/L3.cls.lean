abbrev V143 : vV := [(0, 6, [(4, 0), (4, 0), (4, 0), (4, 0), (4, 0), (4, 0), (4, 0), (4, 0), (4, 0), (4, 0), (4, 0), (4, 0), (4, 0), (4, 0), (4, 0), (0, 0), (0, 0), (4, 0), (4, 0)]), (0, 5, [(4, 0), (4, 0), (4, 0), (4, 0), (0, 0), (0, 0), (0, 0), (4, 0), (4, 0), (0, 0), (0, 0), (0, 0), (0, 0), (0, 0), (0, 0), (0, 0), (0, 0), (0, 0), (0, 0)]), (1, 1, []), (1, 1, []), (1, 1, []), (1, 7, []), (1, 1, []), (1, 1, []), (1, 1, []), (1, 1, []), (0, 9, [(4, 0), (4, 0), (4, 0)]), (1, 2, []), (0, 7, [(4, 0), (0, 0), (1, 0), (0, 0), (0, 0)]), (1, 0, [])]
set_option maxHeartbeats 16000000 in
/-- Packer.packNumber: this, this.finder, this.finder.literals, this.finder.lengths, this.finder.distances, this.symbols, this.symbols.0, this.numbers, this.symbols.1, this.symbols.2, this.next, this.next.latest, this.packed, this.packed.bytes -/
theorem C143 {σE : rS} {D N : Nat → Nat} {F : hF} {A : hA} {d c s : Nat} {Q : wQ} (H : HW V143 σE D N F A) (HT : STC σE)  (pf1 : F 0 1 = (D 1 : Int)) (pf2 : F 1 1 = (D 2 : Int)) (pf3 : F 1 2 = (D 3 : Int)) (pf4 : F 1 3 = (D 4 : Int)) (pf5 : F 0 13 = (D 5 : Int)) (pf6 : A 5 0 = (D 6 : Int)) (pf7 : F 0 14 = (D 7 : Int)) (pf8 : A 5 1 = (D 8 : Int)) (pf9 : A 5 2 = (D 9 : Int)) (pf10 : F 0 7 = (D 10 : Int)) (pf11 : F 10 2 = (D 11 : Int)) (pf12 : F 0 8 = (D 12 : Int)) (pf13 : F 12 0 = (D 13 : Int)) (n2 : Int) (en2 : (N 2 : Int) = n2) (n3 : Int) (en3 : (N 3 : Int) = n3) (n4 : Int) (en4 : (N 4 : Int) = n4) (n5 : Int) (en5 : (N 5 : Int) = n5) (n6 : Int) (en6 : (N 6 : Int) = n6) (n7 : Int) (en7 : (N 7 : Int) = n7) (n8 : Int) (en8 : (N 8 : Int) = n8) (n9 : Int) (en9 : (N 9 : Int) = n9) (n11 : Int) (en11 : (N 11 : Int) = n11) (n13 : Int) (en13 : (N 13 : Int) = n13) (u1_4 : Int) (eu1_4 : F 1 4 = u1_4) (u12_1 : Int) (eu12_1 : F 12 1 = u12_1) (w4 : Int → Int) (ew4 : A 4 = w4) (w6 : Int → Int) (ew6 : A 6 = w6) (w8 : Int → Int) (ew8 : A 8 = w8) (w9 : Int → Int) (ew9 : A 9 = w9) (h0 : (n2) = (n3) ∧ (n4) = (n3) ∧ (n3) ≤ 65536 ∧ ((n3) = 0 ∨ 64 ≤ (n3)) ∧ lgq ((n3)) = 0) (h1 : 0 ≤ (u1_4) ∧ (u1_4) ≤ (n3)) (h2 : DSI ((w4)) ((u1_4))) (h3 : (n5) = 3 ∧ (n6) = (n7) ∧ (n8) = (n7) ∧ (n9) = (n7) ∧ lgq ((n7)) = 0 ∧ (n7) ≤ 16384) (h4 : (n11) = 3) (h5 : 0 ≤ (u12_1) ∧ (u12_1) ≤ (n13) ∧ (n13) ≤ 65536) (k : ∀ (z : Int) (σ : rS) (D' N' : Nat → Nat) (F' : hF) (A' : hA) (c' s' : Nat), HW V143 σ D' N' F' A' → OUT (V143).length D N σE c s D' N' σ c' s' → SD [5, 6, 7, 8, 9, 13] D D' → SD [5, 6, 7, 8, 9, 13] N N' → SF [(0, 13), (0, 14), (12, 0), (12, 1), (12, 2)] F F' → SA [5, 6, 7, 8, 9, 11, 13] A A' → F' 0 13 = (D' 5 : Int) → A' 5 0 = (D' 6 : Int) → F' 0 14 = (D' 7 : Int) → A' 5 1 = (D' 8 : Int) → A' 5 2 = (D' 9 : Int) → F' 12 0 = (D' 13 : Int) → ∀ m5 : Int, (N' 5 : Int) = m5 → ∀ m6 : Int, (N' 6 : Int) = m6 → ∀ m7 : Int, (N' 7 : Int) = m7 → ∀ m8 : Int, (N' 8 : Int) = m8 → ∀ m9 : Int, (N' 9 : Int) = m9 → ∀ m13 : Int, (N' 13 : Int) = m13 → ∀ y12_1 : Int, F' 12 1 = y12_1 → ∀ v6 : Int → Int, A' 6 = v6 → ∀ v8 : Int → Int, A' 8 = v8 → ∀ v9 : Int → Int, A' 9 = v9 → (inr (z)) → (0 ≤ (z)) → ((m5) = 3 ∧ (m6) = (m7) ∧ (m8) = (m7) ∧ (m9) = (m7) ∧ lgq ((m7)) = 0 ∧ (m7) ≤ 16384) → ((u1_4) ≤ (m7)) → (0 ≤ (y12_1) ∧ (y12_1) ≤ (m13) ∧ (m13) ≤ 65536) → (IMP (1 ≤ (u1_4)) (RNG ((v6)) ((u1_4)) 36)) → (IMP (1 ≤ (u1_4)) (RNG ((v8)) ((u1_4)) 32)) → (IMP (1 ≤ (u1_4)) (RNG ((v9)) ((u1_4)) 53)) → Q (some (I z)) σ c' s') : Ew 143 (d + 3) 0 (rargs 0 [.ref (D 0)]) [] σE c s Q := by
  have O := OUT_refl (n := (V143).length) (D := D) (N := N) (σ := σE) (c := c) (s := s)
  have HE := H
  have r1 : HID ((-2147483648 : Int) ≤ u1_4 ∧ u1_4 ≤ 2147483647) := krg_e (show (-2147483648 : Int) ≤ F 1 4 ∧ F 1 4 ≤ 2147483647 from H.krg 1 4 (by decide)) (show F 1 4 = u1_4 from (eu1_4))
  have r2 : HID ((-2147483648 : Int) ≤ u12_1 ∧ u12_1 ≤ 2147483647) := krg_e (show (-2147483648 : Int) ≤ F 12 1 ∧ F 12 1 ≤ 2147483647 from H.krg 12 1 (by decide)) (show F 12 1 = u12_1 from (eu12_1))
  replace pf1 := HIDm pf1
  replace pf2 := HIDm pf2
  replace pf3 := HIDm pf3
  replace pf4 := HIDm pf4
  replace pf5 := HIDm pf5
  replace pf6 := HIDm pf6
  replace pf7 := HIDm pf7
  replace pf8 := HIDm pf8
  replace pf9 := HIDm pf9
  replace pf10 := HIDm pf10
  replace pf11 := HIDm pf11
  replace pf12 := HIDm pf12
  replace pf13 := HIDm pf13
  replace en2 := HIDm en2
  replace en3 := HIDm en3
  replace en4 := HIDm en4
  replace en5 := HIDm en5
  replace en6 := HIDm en6
  replace en7 := HIDm en7
  replace en8 := HIDm en8
  replace en9 := HIDm en9
  replace en11 := HIDm en11
  replace en13 := HIDm en13
  replace eu1_4 := HIDm eu1_4
  replace eu12_1 := HIDm eu12_1
  have r3 : HID ((0 : Int) ≤ n2 ∧ n2 ≤ 1000000) := nrng (H.nle 2 (by decide)) (show (N 2 : Int) = n2 from en2)
  have r4 : HID ((0 : Int) ≤ n3 ∧ n3 ≤ 1000000) := nrng (H.nle 3 (by decide)) (show (N 3 : Int) = n3 from en3)
  have r5 : HID ((0 : Int) ≤ n4 ∧ n4 ≤ 1000000) := nrng (H.nle 4 (by decide)) (show (N 4 : Int) = n4 from en4)
  have r6 : HID ((0 : Int) ≤ n5 ∧ n5 ≤ 1000000) := nrng (H.nle 5 (by decide)) (show (N 5 : Int) = n5 from en5)
  have r7 : HID ((0 : Int) ≤ n6 ∧ n6 ≤ 1000000) := nrng (H.nle 6 (by decide)) (show (N 6 : Int) = n6 from en6)
  have r8 : HID ((0 : Int) ≤ n7 ∧ n7 ≤ 1000000) := nrng (H.nle 7 (by decide)) (show (N 7 : Int) = n7 from en7)
  have r9 : HID ((0 : Int) ≤ n8 ∧ n8 ≤ 1000000) := nrng (H.nle 8 (by decide)) (show (N 8 : Int) = n8 from en8)
  have r10 : HID ((0 : Int) ≤ n9 ∧ n9 ≤ 1000000) := nrng (H.nle 9 (by decide)) (show (N 9 : Int) = n9 from en9)
  have r11 : HID ((0 : Int) ≤ n11 ∧ n11 ≤ 1000000) := nrng (H.nle 11 (by decide)) (show (N 11 : Int) = n11 from en11)
  have r12 : HID ((0 : Int) ≤ n13 ∧ n13 ≤ 1000000) := nrng (H.nle 13 (by decide)) (show (N 13 : Int) = n13 from en13)
  refine Ew_of (pc' := 1) (fun _ => x_aload_n rfl rfl) ?_
  refine v_g H (o := 0) (v := .ref (D 1)) rfl rfl rfl rfl rfl (vrf (pf1)) ?_
  refine v_g H (o := 1) (v := I (u1_4)) rfl rfl rfl rfl rfl (congrArg (fun z : Int => I z) ((eu1_4) : F 1 4 = u1_4)) ?_
  refine Ew_of (pc' := 8) (fun _ => x_istore_n rfl) ?_
  have hc30 : ∀ (ls : rO) (σ : rS) (D_c30 N_c30 : Nat → Nat) (c_c30 s_c30 : Nat) (F_c30 : hF) (A_c30 : hA) , rlook ls 0 = some (.ref (D_c30 0)) → rlook ls 1 = some (I (u1_4)) → HW V143 σ D_c30 N_c30 F_c30 A_c30 → OUT (V143).length D N σE c s D_c30 N_c30 σ c_c30 s_c30 → SD [13] D D_c30 → SD [13] N N_c30 → SF [(12, 0), (12, 1), (12, 2)] F F_c30 → SA [13] A A_c30 → F_c30 12 0 = (D_c30 13 : Int) → ∀ mc30_13 : Int, (N_c30 13 : Int) = mc30_13 → ∀ yc30_12_1 : Int, F_c30 12 1 = yc30_12_1 → (0 ≤ (yc30_12_1) ∧ (yc30_12_1) ≤ (mc30_13) ∧ (mc30_13) ≤ 65536) → Ew 143 (d + 3) 30 ls [] σ c_c30 s_c30 Q := by
   as_aux_lemma =>
    intro  ls σ D_c30 N_c30 c_c30 s_c30 F_c30 A_c30  lc30_0 lc30_1 H O hD_c30 hN_c30 hS_c30 hA_c30 pmc30_13 mc30_13 emc30_13 yc30_12_1 eyc30_12_1  jc30_0
    replace pmc30_13 := HIDm pmc30_13
    replace emc30_13 := HIDm emc30_13
    replace eyc30_12_1 := HIDm eyc30_12_1
    have pe_c30_5_0 : HID (A_c30 5 0 = (D_c30 6 : Int)) := (hA_c30 5 rfl 0).trans ((pf6).trans (congrArg (fun q : Nat => (q : Int)) (hD_c30 6 rfl).symm))
    have pe_c30_5_1 : HID (A_c30 5 1 = (D_c30 8 : Int)) := (hA_c30 5 rfl 1).trans ((pf8).trans (congrArg (fun q : Nat => (q : Int)) (hD_c30 8 rfl).symm))
    have pe_c30_5_2 : HID (A_c30 5 2 = (D_c30 9 : Int)) := (hA_c30 5 rfl 2).trans ((pf9).trans (congrArg (fun q : Nat => (q : Int)) (hD_c30 9 rfl).symm))
    have pf_c30_0_1 : HID (F_c30 0 1 = (D_c30 1 : Int)) := (hS_c30 0 1 rfl).trans ((pf1).trans (congrArg (fun q : Nat => (q : Int)) (hD_c30 1 rfl).symm))
    have pf_c30_0_13 : HID (F_c30 0 13 = (D_c30 5 : Int)) := (hS_c30 0 13 rfl).trans ((pf5).trans (congrArg (fun q : Nat => (q : Int)) (hD_c30 5 rfl).symm))
    have pf_c30_0_14 : HID (F_c30 0 14 = (D_c30 7 : Int)) := (hS_c30 0 14 rfl).trans ((pf7).trans (congrArg (fun q : Nat => (q : Int)) (hD_c30 7 rfl).symm))
    have pf_c30_0_7 : HID (F_c30 0 7 = (D_c30 10 : Int)) := (hS_c30 0 7 rfl).trans ((pf10).trans (congrArg (fun q : Nat => (q : Int)) (hD_c30 10 rfl).symm))
    have pf_c30_0_8 : HID (F_c30 0 8 = (D_c30 12 : Int)) := (hS_c30 0 8 rfl).trans ((pf12).trans (congrArg (fun q : Nat => (q : Int)) (hD_c30 12 rfl).symm))
    have pf_c30_1_1 : HID (F_c30 1 1 = (D_c30 2 : Int)) := (hS_c30 1 1 rfl).trans ((pf2).trans (congrArg (fun q : Nat => (q : Int)) (hD_c30 2 rfl).symm))
    have pf_c30_1_2 : HID (F_c30 1 2 = (D_c30 3 : Int)) := (hS_c30 1 2 rfl).trans ((pf3).trans (congrArg (fun q : Nat => (q : Int)) (hD_c30 3 rfl).symm))
    have pf_c30_1_3 : HID (F_c30 1 3 = (D_c30 4 : Int)) := (hS_c30 1 3 rfl).trans ((pf4).trans (congrArg (fun q : Nat => (q : Int)) (hD_c30 4 rfl).symm))
    have pf_c30_10_2 : HID (F_c30 10 2 = (D_c30 11 : Int)) := (hS_c30 10 2 rfl).trans ((pf11).trans (congrArg (fun q : Nat => (q : Int)) (hD_c30 11 rfl).symm))
    have r13 : HID ((0 : Int) ≤ mc30_13 ∧ mc30_13 ≤ 1000000) := nrng (H.nle 13 (by decide)) (show (N_c30 13 : Int) = mc30_13 from emc30_13)
    have r14 : HID ((-2147483648 : Int) ≤ yc30_12_1 ∧ yc30_12_1 ≤ 2147483647) := krg_e (show (-2147483648 : Int) ≤ F_c30 12 1 ∧ F_c30 12 1 ≤ 2147483647 from H.krg 12 1 (by decide)) (show F_c30 12 1 = yc30_12_1 from (eyc30_12_1))
    refine Ew_of (pc' := 31) (fun _ => x_aload_n rfl lc30_0) ?_
    refine v_g H (o := 0) (v := .ref (D_c30 12)) rfl rfl rfl rfl rfl (vrf (pf_c30_0_8)) ?_
    refine Ew_of (pc' := 35) (fun _ => x_iload_n rfl lc30_1) ?_
    have r15 : HID ((0 : Int) ≤ F_c30 12 2 ∧ F_c30 12 2 ≤ 1) := krg_e (show (0 : Int) ≤ F_c30 12 2 ∧ F_c30 12 2 ≤ 1 from H.krg 12 2 (by decide)) (show F_c30 12 2 = F_c30 12 2 from rfl)
    refine v_inv H (o := 12) rfl rfl rfl rfl rfl rfl (by rfl) (C159 (D := pul [12, 13] D_c30) (N := pul [12, 13] N_c30) (HW_sub H (VS_of (show vsub V143 V159 [12, 13] = true by decide +kernel))) (pmc30_13) (mc30_13) (emc30_13) (yc30_12_1) ((eyc30_12_1)) (F_c30 12 2) (rfl) (A_c30 13) (rfl) (show inr (u1_4) by have qh0 := HIDe r1; omega) (show 0 ≤ (yc30_12_1) ∧ (yc30_12_1) ≤ (mc30_13) ∧ (mc30_13) ≤ 65536 by have qh0 := HIDe r13; have qh1 := HIDe r14; omega) (fun σ16 D16' N16' F16' A16' c16 s16 H' O' hD16 hN16 hS16 hA16 pm16_1 m16_1 em16_1 y16_0_1 ey16_0_1 y16_0_2 ey16_0_2 w16_1 ew16_1 pz16_0 pz16_1 pz16_2 pz16_3 => ⟨rfl, ?_⟩))
    replace pm16_1 := HIDm pm16_1
    replace em16_1 := HIDm em16_1
    replace ey16_0_1 := HIDm ey16_0_1
    replace ey16_0_2 := HIDm ey16_0_2
    refine v_backM (c := c_c30) (s := s_c30) H (show vsub V143 V159 [12, 13] = true by decide +kernel) H' O' hD16 (show vmov V143 [12, 13] [1] = true by decide +kernel) (fun D16 N16 F16 A16 H O' eD16 eN16 eF16 eA16 => ?_)
    have O := OUT_trans O O'
    -- Row.add
    have pe16_5_0 : HID (A16 5 0 = (D16 6 : Int)) := (congrFun ((show A16 5 = A_c30 5 from (eA16 5))) 0).trans ((pe_c30_5_0).trans (congrArg (fun q : Nat => (q : Int)) ((show D16 6 = D_c30 6 from (eD16 6))).symm))
    have pe16_5_1 : HID (A16 5 1 = (D16 8 : Int)) := (congrFun ((show A16 5 = A_c30 5 from (eA16 5))) 1).trans ((pe_c30_5_1).trans (congrArg (fun q : Nat => (q : Int)) ((show D16 8 = D_c30 8 from (eD16 8))).symm))
    have pe16_5_2 : HID (A16 5 2 = (D16 9 : Int)) := (congrFun ((show A16 5 = A_c30 5 from (eA16 5))) 2).trans ((pe_c30_5_2).trans (congrArg (fun q : Nat => (q : Int)) ((show D16 9 = D_c30 9 from (eD16 9))).symm))
    have pf16_0_1 : HID (F16 0 1 = (D16 1 : Int)) := ((show F16 0 1 = F_c30 0 1 from (eF16 0 1))).trans ((pf_c30_0_1).trans (congrArg (fun q : Nat => (q : Int)) ((show D16 1 = D_c30 1 from (eD16 1))).symm))
    have pf16_0_13 : HID (F16 0 13 = (D16 5 : Int)) := ((show F16 0 13 = F_c30 0 13 from (eF16 0 13))).trans ((pf_c30_0_13).trans (congrArg (fun q : Nat => (q : Int)) ((show D16 5 = D_c30 5 from (eD16 5))).symm))
    have pf16_0_14 : HID (F16 0 14 = (D16 7 : Int)) := ((show F16 0 14 = F_c30 0 14 from (eF16 0 14))).trans ((pf_c30_0_14).trans (congrArg (fun q : Nat => (q : Int)) ((show D16 7 = D_c30 7 from (eD16 7))).symm))
    have pf16_0_7 : HID (F16 0 7 = (D16 10 : Int)) := ((show F16 0 7 = F_c30 0 7 from (eF16 0 7))).trans ((pf_c30_0_7).trans (congrArg (fun q : Nat => (q : Int)) ((show D16 10 = D_c30 10 from (eD16 10))).symm))
    have pf16_0_8 : HID (F16 0 8 = (D16 12 : Int)) := ((show F16 0 8 = F_c30 0 8 from (eF16 0 8))).trans ((pf_c30_0_8).trans (congrArg (fun q : Nat => (q : Int)) ((show D16 12 = D_c30 12 from (eD16 12).trans (hD16 0 rfl))).symm))
    have pf16_1_1 : HID (F16 1 1 = (D16 2 : Int)) := ((show F16 1 1 = F_c30 1 1 from (eF16 1 1))).trans ((pf_c30_1_1).trans (congrArg (fun q : Nat => (q : Int)) ((show D16 2 = D_c30 2 from (eD16 2))).symm))
    have pf16_1_2 : HID (F16 1 2 = (D16 3 : Int)) := ((show F16 1 2 = F_c30 1 2 from (eF16 1 2))).trans ((pf_c30_1_2).trans (congrArg (fun q : Nat => (q : Int)) ((show D16 3 = D_c30 3 from (eD16 3))).symm))
    have pf16_1_3 : HID (F16 1 3 = (D16 4 : Int)) := ((show F16 1 3 = F_c30 1 3 from (eF16 1 3))).trans ((pf_c30_1_3).trans (congrArg (fun q : Nat => (q : Int)) ((show D16 4 = D_c30 4 from (eD16 4))).symm))
    have pf16_10_2 : HID (F16 10 2 = (D16 11 : Int)) := ((show F16 10 2 = F_c30 10 2 from (eF16 10 2))).trans ((pf_c30_10_2).trans (congrArg (fun q : Nat => (q : Int)) ((show D16 11 = D_c30 11 from (eD16 11))).symm))
    have pf16_12_0 : HID (F16 12 0 = (D16 13 : Int)) := (eF16 12 0).trans (pm16_1.trans (congrArg (fun q : Nat => (q : Int)) (eD16 13).symm))
    have r17 : HID ((0 : Int) ≤ m16_1 ∧ m16_1 ≤ 1000000) := nrng (H.nle 13 (by decide)) (show (N16 13 : Int) = m16_1 from (congrArg (fun q : Nat => (q : Int)) (eN16 13)).trans em16_1)
    have r18 : HID ((-2147483648 : Int) ≤ y16_0_1 ∧ y16_0_1 ≤ 2147483647) := krg_e (show (-2147483648 : Int) ≤ F16 12 1 ∧ F16 12 1 ≤ 2147483647 from H.krg 12 1 (by decide)) (show F16 12 1 = y16_0_1 from ((eF16 12 1).trans ey16_0_1))
    have r19 : HID ((0 : Int) ≤ y16_0_2 ∧ y16_0_2 ≤ 1) := krg_e (show (0 : Int) ≤ F16 12 2 ∧ F16 12 2 ≤ 1 from H.krg 12 2 (by decide)) (show F16 12 2 = y16_0_2 from ((eF16 12 2).trans ey16_0_2))
    try clear pz16_1
    refine Ew_of (pc' := 39) (fun _ => x_aload_n rfl lc30_0) ?_
    refine Ew_stk (show ([.ref (D_c30 0)] : List Value) = [.ref (D16 0)] by rw [show D16 0 = D_c30 0 from ((show D16 0 = D_c30 0 from (eD16 0)))]) ?_
    refine v_g H (o := 0) (v := .ref (D16 12)) rfl rfl rfl rfl rfl (vrf (pf16_0_8)) ?_
    refine v_g H (o := 12) (v := I (y16_0_1)) rfl rfl rfl rfl rfl (congrArg (fun z : Int => I z) (((eF16 12 1).trans ey16_0_1) : F16 12 1 = y16_0_1)) ?_
    refine Ew_of (pc' := 46) (fun _ => x_istore_n rfl) ?_
    have hc62 : ∀ (ls : rO) (σ : rS) (D_c62 N_c62 : Nat → Nat) (c_c62 s_c62 : Nat) (F_c62 : hF) (A_c62 : hA) , rlook ls 2 = some (I (y16_0_1)) → HW V143 σ D_c62 N_c62 F_c62 A_c62 → OUT (V143).length D N σE c s D_c62 N_c62 σ c_c62 s_c62 → SD [5, 6, 7, 8, 9, 13] D16 D_c62 → SD [5, 6, 7, 8, 9, 13] N16 N_c62 → SF [(0, 13), (0, 14), (12, 0), (12, 1), (12, 2)] F16 F_c62 → SA [5, 6, 7, 8, 9, 11, 13] A16 A_c62 → F_c62 0 13 = (D_c62 5 : Int) → A_c62 5 0 = (D_c62 6 : Int) → F_c62 0 14 = (D_c62 7 : Int) → A_c62 5 1 = (D_c62 8 : Int) → A_c62 5 2 = (D_c62 9 : Int) → F_c62 12 0 = (D_c62 13 : Int) → ∀ mc62_5 : Int, (N_c62 5 : Int) = mc62_5 → ∀ mc62_6 : Int, (N_c62 6 : Int) = mc62_6 → ∀ mc62_7 : Int, (N_c62 7 : Int) = mc62_7 → ∀ mc62_8 : Int, (N_c62 8 : Int) = mc62_8 → ∀ mc62_9 : Int, (N_c62 9 : Int) = mc62_9 → ∀ mc62_13 : Int, (N_c62 13 : Int) = mc62_13 → ∀ yc62_12_1 : Int, F_c62 12 1 = yc62_12_1 → ∀ wc62_6 : Int → Int, A_c62 6 = wc62_6 → ∀ wc62_8 : Int → Int, A_c62 8 = wc62_8 → ∀ wc62_9 : Int → Int, A_c62 9 = wc62_9 → ((mc62_5) = 3 ∧ (mc62_6) = (mc62_7) ∧ (mc62_8) = (mc62_7) ∧ (mc62_9) = (mc62_7) ∧ lgq ((mc62_7)) = 0 ∧ (mc62_7) ≤ 16384) → ((u1_4) ≤ (mc62_7)) → (0 ≤ (yc62_12_1) ∧ (yc62_12_1) ≤ (mc62_13) ∧ (mc62_13) ≤ 65536) → (IMP (1 ≤ (u1_4)) (RNG ((wc62_6)) ((u1_4)) 36)) → (IMP (1 ≤ (u1_4)) (RNG ((wc62_8)) ((u1_4)) 32)) → (IMP (1 ≤ (u1_4)) (RNG ((wc62_9)) ((u1_4)) 53)) → Ew 143 (d + 3) 62 ls [] σ c_c62 s_c62 Q := by
     as_aux_lemma =>
      intro  ls σ D_c62 N_c62 c_c62 s_c62 F_c62 A_c62  lc62_2 H O hD_c62 hN_c62 hS_c62 hA_c62 pmc62_5 pmc62_6 pmc62_7 pmc62_8 pmc62_9 pmc62_13 mc62_5 emc62_5 mc62_6 emc62_6 mc62_7 emc62_7 mc62_8 emc62_8 mc62_9 emc62_9 mc62_13 emc62_13 yc62_12_1 eyc62_12_1 wc62_6 ewc62_6 wc62_8 ewc62_8 wc62_9 ewc62_9 jc62_0 jc62_1 jc62_2 jc62_3 jc62_4 jc62_5
      replace pmc62_5 := HIDm pmc62_5
      replace pmc62_6 := HIDm pmc62_6
      replace pmc62_7 := HIDm pmc62_7
      replace pmc62_8 := HIDm pmc62_8
      replace pmc62_9 := HIDm pmc62_9
      replace pmc62_13 := HIDm pmc62_13
      replace emc62_5 := HIDm emc62_5
      replace emc62_6 := HIDm emc62_6
      replace emc62_7 := HIDm emc62_7
      replace emc62_8 := HIDm emc62_8
      replace emc62_9 := HIDm emc62_9
      replace emc62_13 := HIDm emc62_13
      replace eyc62_12_1 := HIDm eyc62_12_1
      try clear pz16_1
      have pf_c62_0_1 : HID (F_c62 0 1 = (D_c62 1 : Int)) := (hS_c62 0 1 rfl).trans ((pf16_0_1).trans (congrArg (fun q : Nat => (q : Int)) (hD_c62 1 rfl).symm))
      have pf_c62_0_7 : HID (F_c62 0 7 = (D_c62 10 : Int)) := (hS_c62 0 7 rfl).trans ((pf16_0_7).trans (congrArg (fun q : Nat => (q : Int)) (hD_c62 10 rfl).symm))
      have pf_c62_0_8 : HID (F_c62 0 8 = (D_c62 12 : Int)) := (hS_c62 0 8 rfl).trans ((pf16_0_8).trans (congrArg (fun q : Nat => (q : Int)) (hD_c62 12 rfl).symm))
      have pf_c62_1_1 : HID (F_c62 1 1 = (D_c62 2 : Int)) := (hS_c62 1 1 rfl).trans ((pf16_1_1).trans (congrArg (fun q : Nat => (q : Int)) (hD_c62 2 rfl).symm))
      have pf_c62_1_2 : HID (F_c62 1 2 = (D_c62 3 : Int)) := (hS_c62 1 2 rfl).trans ((pf16_1_2).trans (congrArg (fun q : Nat => (q : Int)) (hD_c62 3 rfl).symm))
      have pf_c62_1_3 : HID (F_c62 1 3 = (D_c62 4 : Int)) := (hS_c62 1 3 rfl).trans ((pf16_1_3).trans (congrArg (fun q : Nat => (q : Int)) (hD_c62 4 rfl).symm))
      have pf_c62_10_2 : HID (F_c62 10 2 = (D_c62 11 : Int)) := (hS_c62 10 2 rfl).trans ((pf16_10_2).trans (congrArg (fun q : Nat => (q : Int)) (hD_c62 11 rfl).symm))
      have r20 : HID ((0 : Int) ≤ mc62_5 ∧ mc62_5 ≤ 1000000) := nrng (H.nle 5 (by decide)) (show (N_c62 5 : Int) = mc62_5 from emc62_5)
      have r21 : HID ((0 : Int) ≤ mc62_6 ∧ mc62_6 ≤ 1000000) := nrng (H.nle 6 (by decide)) (show (N_c62 6 : Int) = mc62_6 from emc62_6)
      have r22 : HID ((0 : Int) ≤ mc62_7 ∧ mc62_7 ≤ 1000000) := nrng (H.nle 7 (by decide)) (show (N_c62 7 : Int) = mc62_7 from emc62_7)
      have r23 : HID ((0 : Int) ≤ mc62_8 ∧ mc62_8 ≤ 1000000) := nrng (H.nle 8 (by decide)) (show (N_c62 8 : Int) = mc62_8 from emc62_8)
      have r24 : HID ((0 : Int) ≤ mc62_9 ∧ mc62_9 ≤ 1000000) := nrng (H.nle 9 (by decide)) (show (N_c62 9 : Int) = mc62_9 from emc62_9)
      have r25 : HID ((0 : Int) ≤ mc62_13 ∧ mc62_13 ≤ 1000000) := nrng (H.nle 13 (by decide)) (show (N_c62 13 : Int) = mc62_13 from emc62_13)
      have r26 : HID ((-2147483648 : Int) ≤ yc62_12_1 ∧ yc62_12_1 ≤ 2147483647) := krg_e (show (-2147483648 : Int) ≤ F_c62 12 1 ∧ F_c62 12 1 ≤ 2147483647 from H.krg 12 1 (by decide)) (show F_c62 12 1 = yc62_12_1 from (eyc62_12_1))
      refine Ew_of (pc' := 63) (fun _ => x_iload_n rfl lc62_2) ?_
      exact w_ireturn rfl (k (y16_0_1) _ _ _ _ _ _ _ H O (SD_trans (SD_trans (SD_trans (SD_refl) hD_c30 (any_subA rfl)) (SD_glu (ι := [12, 13]) hD16 eD16 (by decide +kernel)) (any_subA (l' := [13]) rfl)) hD_c62 (any_subA rfl)) (SD_trans (SD_trans (SD_trans (SD_refl) hN_c30 (any_subA rfl)) (SD_glu (ι := [12, 13]) hN16 eN16 (by decide +kernel)) (any_subA (l' := [13]) rfl)) hN_c62 (any_subA rfl)) (SF_trans (SF_trans (SF_trans (SF_refl) hS_c30 (any_sub rfl)) (SF_glu (ι := [12, 13]) hS16 eF16 (by decide +kernel)) (any_sub (l' := [(12, 0), (12, 1), (12, 2)]) rfl)) hS_c62 (any_sub rfl)) (SA_trans (SA_trans (SA_trans (SA_refl) hA_c30 (any_subA rfl)) (SA_glu (ι := [12, 13]) hA16 eA16 (by decide +kernel)) (any_subA (l' := [13]) rfl)) hA_c62 (any_subA rfl)) (pmc62_5) (pmc62_6) (pmc62_7) (pmc62_8) (pmc62_9) (pmc62_13) (mc62_5) (emc62_5) (mc62_6) (emc62_6) (mc62_7) (emc62_7) (mc62_8) (emc62_8) (mc62_9) (emc62_9) (mc62_13) (emc62_13) (yc62_12_1) ((eyc62_12_1)) (wc62_6) (ewc62_6) (wc62_8) (ewc62_8) (wc62_9) (ewc62_9) (show inr (y16_0_1) by have qh0 := HIDe r18; omega) (show 0 ≤ (y16_0_1) by have qh0 := HIDe r18; omega) (show (mc62_5) = 3 ∧ (mc62_6) = (mc62_7) ∧ (mc62_8) = (mc62_7) ∧ (mc62_9) = (mc62_7) ∧ lgq ((mc62_7)) = 0 ∧ (mc62_7) ≤ 16384 by have qh0 := HIDe r20; have qh1 := HIDe r21; have qh2 := HIDe r22; have qh3 := HIDe r23; have qh4 := HIDe r24; omega) (show (u1_4) ≤ (mc62_7) by have qh0 := HIDe r1; have qh1 := HIDe r22; omega) (show 0 ≤ (yc62_12_1) ∧ (yc62_12_1) ≤ (mc62_13) ∧ (mc62_13) ≤ 65536 by have qh0 := HIDe r25; have qh1 := HIDe r26; omega) (show IMP (1 ≤ (u1_4)) (RNG ((wc62_6)) ((u1_4)) 36) by assumption) (show IMP (1 ≤ (u1_4)) (RNG ((wc62_8)) ((u1_4)) 32) by assumption) (show IMP (1 ≤ (u1_4)) (RNG ((wc62_9)) ((u1_4)) 53) by assumption))
    refine Ew_of (pc' := 47) (fun _ => x_iload_n rfl (rk_o (lc30_1) rfl rfl)) ?_
    refine w_ifle (t := 62) rfl rfl (show inr (u1_4) by have qh0 := HIDe r1; omega) (fun b27 => ?_) (fun b27 => ?_)
    · have hi0 : IMP (1 ≤ (u1_4)) (RNG ((w6)) ((u1_4)) 36) := by first | exact fun q => absurd q (by (have qg0 := HIDe r1; omega)) | exact fun _ => pNONE_2
      have hi1 : IMP (1 ≤ (u1_4)) (RNG ((w8)) ((u1_4)) 32) := by first | exact fun q => absurd q (by (have qg0 := HIDe r1; omega)) | exact fun _ => pNONE_3
      have hi2 : IMP (1 ≤ (u1_4)) (RNG ((w9)) ((u1_4)) 53) := by first | exact fun q => absurd q (by (have qg0 := HIDe r1; omega)) | exact fun _ => pNONE_4
      exact hc62  _ _ _ _ _ _ _ _  (rk_s) H O (SD_refl) (SD_refl) (SF_refl) (SA_refl) (pf16_0_13) (pe16_5_0) (pf16_0_14) (pe16_5_1) (pe16_5_2) (pf16_12_0) (n5) ((congrArg (fun q : Nat => (q : Int)) (show N16 5 = N_c30 5 from (eN16 5))).trans ((congrArg (fun q : Nat => (q : Int)) (hN_c30 5 rfl)).trans (en5))) (n6) ((congrArg (fun q : Nat => (q : Int)) (show N16 6 = N_c30 6 from (eN16 6))).trans ((congrArg (fun q : Nat => (q : Int)) (hN_c30 6 rfl)).trans (en6))) (n7) ((congrArg (fun q : Nat => (q : Int)) (show N16 7 = N_c30 7 from (eN16 7))).trans ((congrArg (fun q : Nat => (q : Int)) (hN_c30 7 rfl)).trans (en7))) (n8) ((congrArg (fun q : Nat => (q : Int)) (show N16 8 = N_c30 8 from (eN16 8))).trans ((congrArg (fun q : Nat => (q : Int)) (hN_c30 8 rfl)).trans (en8))) (n9) ((congrArg (fun q : Nat => (q : Int)) (show N16 9 = N_c30 9 from (eN16 9))).trans ((congrArg (fun q : Nat => (q : Int)) (hN_c30 9 rfl)).trans (en9))) (m16_1) ((congrArg (fun q : Nat => (q : Int)) (eN16 13)).trans em16_1) (y16_0_1) (((eF16 12 1).trans ey16_0_1)) (w6) (((show A16 6 = A_c30 6 from (eA16 6))).trans ((funext (hA_c30 6 rfl)).trans (ew6))) (w8) (((show A16 8 = A_c30 8 from (eA16 8))).trans ((funext (hA_c30 8 rfl)).trans (ew8))) (w9) (((show A16 9 = A_c30 9 from (eA16 9))).trans ((funext (hA_c30 9 rfl)).trans (ew9))) (show (n5) = 3 ∧ (n6) = (n7) ∧ (n8) = (n7) ∧ (n9) = (n7) ∧ lgq ((n7)) = 0 ∧ (n7) ≤ 16384 by have qh0 := HIDe r10; have qh1 := HIDe r6; have qh2 := HIDe r7; have qh3 := HIDe r8; have qh4 := HIDe r9; omega) (show (u1_4) ≤ (n7) by have qh0 := HIDe r1; have qh1 := HIDe r8; omega) (show 0 ≤ (y16_0_1) ∧ (y16_0_1) ≤ (m16_1) ∧ (m16_1) ≤ 65536 by have qh0 := HIDe r17; have qh1 := HIDe r18; omega) (show IMP (1 ≤ (u1_4)) (RNG ((w6)) ((u1_4)) 36) by assumption) (show IMP (1 ≤ (u1_4)) (RNG ((w8)) ((u1_4)) 32) by assumption) (show IMP (1 ≤ (u1_4)) (RNG ((w9)) ((u1_4)) 53) by assumption)
    · refine Ew_of (pc' := 51) (fun _ => x_aload_n rfl (rk_o (lc30_0) rfl rfl)) ?_
      refine Ew_stk (show ([.ref (D_c30 0)] : List Value) = [.ref (D16 0)] by rw [show D16 0 = D_c30 0 from ((show D16 0 = D_c30 0 from (eD16 0)))]) ?_
      refine v_g H (o := 0) (v := .ref (D16 12)) rfl rfl rfl rfl rfl (vrf (pf16_0_8)) ?_
      refine Ew_of (pc' := 55) (fun _ => x_iconst rfl) ?_
      refine v_inv H (o := 12) rfl rfl rfl rfl rfl rfl (by rfl) (C159 (D := pul [12, 13] D16) (N := pul [12, 13] N16) (HW_sub H (VS_of (show vsub V143 V159 [12, 13] = true by decide +kernel))) (pf16_12_0) (m16_1) ((congrArg (fun q : Nat => (q : Int)) (eN16 13)).trans em16_1) (y16_0_1) (((eF16 12 1).trans ey16_0_1)) (y16_0_2) (((eF16 12 2).trans ey16_0_2)) (w16_1) ((eA16 13).trans ew16_1) (show inr (0) by omega) (show 0 ≤ (y16_0_1) ∧ (y16_0_1) ≤ (m16_1) ∧ (m16_1) ≤ 65536 by have qh0 := HIDe r17; have qh1 := HIDe r18; omega) (fun σ28 D28' N28' F28' A28' c28 s28 H' O' hD28 hN28 hS28 hA28 pm28_1 m28_1 em28_1 y28_0_1 ey28_0_1 y28_0_2 ey28_0_2 w28_1 ew28_1 pz28_0 pz28_1 pz28_2 pz28_3 => ⟨rfl, ?_⟩))
      replace pm28_1 := HIDm pm28_1
      replace em28_1 := HIDm em28_1
      replace ey28_0_1 := HIDm ey28_0_1
      replace ey28_0_2 := HIDm ey28_0_2
      refine v_backM (c := (c_c30 + c16)) (s := (s_c30 + s16)) H (show vsub V143 V159 [12, 13] = true by decide +kernel) H' O' hD28 (show vmov V143 [12, 13] [1] = true by decide +kernel) (fun D28 N28 F28 A28 H O' eD28 eN28 eF28 eA28 => ?_)
      have O := OUT_trans O O'
      -- Row.add
      have pe28_5_0 : HID (A28 5 0 = (D28 6 : Int)) := (congrFun ((show A28 5 = A16 5 from (eA28 5))) 0).trans ((pe16_5_0).trans (congrArg (fun q : Nat => (q : Int)) ((show D28 6 = D16 6 from (eD28 6))).symm))
      have pe28_5_1 : HID (A28 5 1 = (D28 8 : Int)) := (congrFun ((show A28 5 = A16 5 from (eA28 5))) 1).trans ((pe16_5_1).trans (congrArg (fun q : Nat => (q : Int)) ((show D28 8 = D16 8 from (eD28 8))).symm))
      have pe28_5_2 : HID (A28 5 2 = (D28 9 : Int)) := (congrFun ((show A28 5 = A16 5 from (eA28 5))) 2).trans ((pe16_5_2).trans (congrArg (fun q : Nat => (q : Int)) ((show D28 9 = D16 9 from (eD28 9))).symm))
      have pf28_0_1 : HID (F28 0 1 = (D28 1 : Int)) := ((show F28 0 1 = F16 0 1 from (eF28 0 1))).trans ((pf16_0_1).trans (congrArg (fun q : Nat => (q : Int)) ((show D28 1 = D16 1 from (eD28 1))).symm))
      have pf28_0_13 : HID (F28 0 13 = (D28 5 : Int)) := ((show F28 0 13 = F16 0 13 from (eF28 0 13))).trans ((pf16_0_13).trans (congrArg (fun q : Nat => (q : Int)) ((show D28 5 = D16 5 from (eD28 5))).symm))
      have pf28_0_14 : HID (F28 0 14 = (D28 7 : Int)) := ((show F28 0 14 = F16 0 14 from (eF28 0 14))).trans ((pf16_0_14).trans (congrArg (fun q : Nat => (q : Int)) ((show D28 7 = D16 7 from (eD28 7))).symm))
      have pf28_0_7 : HID (F28 0 7 = (D28 10 : Int)) := ((show F28 0 7 = F16 0 7 from (eF28 0 7))).trans ((pf16_0_7).trans (congrArg (fun q : Nat => (q : Int)) ((show D28 10 = D16 10 from (eD28 10))).symm))
      have pf28_0_8 : HID (F28 0 8 = (D28 12 : Int)) := ((show F28 0 8 = F16 0 8 from (eF28 0 8))).trans ((pf16_0_8).trans (congrArg (fun q : Nat => (q : Int)) ((show D28 12 = D16 12 from (eD28 12).trans (hD28 0 rfl))).symm))
      have pf28_1_1 : HID (F28 1 1 = (D28 2 : Int)) := ((show F28 1 1 = F16 1 1 from (eF28 1 1))).trans ((pf16_1_1).trans (congrArg (fun q : Nat => (q : Int)) ((show D28 2 = D16 2 from (eD28 2))).symm))
      have pf28_1_2 : HID (F28 1 2 = (D28 3 : Int)) := ((show F28 1 2 = F16 1 2 from (eF28 1 2))).trans ((pf16_1_2).trans (congrArg (fun q : Nat => (q : Int)) ((show D28 3 = D16 3 from (eD28 3))).symm))
      have pf28_1_3 : HID (F28 1 3 = (D28 4 : Int)) := ((show F28 1 3 = F16 1 3 from (eF28 1 3))).trans ((pf16_1_3).trans (congrArg (fun q : Nat => (q : Int)) ((show D28 4 = D16 4 from (eD28 4))).symm))
      have pf28_10_2 : HID (F28 10 2 = (D28 11 : Int)) := ((show F28 10 2 = F16 10 2 from (eF28 10 2))).trans ((pf16_10_2).trans (congrArg (fun q : Nat => (q : Int)) ((show D28 11 = D16 11 from (eD28 11))).symm))
      have pf28_12_0 : HID (F28 12 0 = (D28 13 : Int)) := (eF28 12 0).trans (pm28_1.trans (congrArg (fun q : Nat => (q : Int)) (eD28 13).symm))
      have r29 : HID ((0 : Int) ≤ m28_1 ∧ m28_1 ≤ 1000000) := nrng (H.nle 13 (by decide)) (show (N28 13 : Int) = m28_1 from (congrArg (fun q : Nat => (q : Int)) (eN28 13)).trans em28_1)
      have r30 : HID ((-2147483648 : Int) ≤ y28_0_1 ∧ y28_0_1 ≤ 2147483647) := krg_e (show (-2147483648 : Int) ≤ F28 12 1 ∧ F28 12 1 ≤ 2147483647 from H.krg 12 1 (by decide)) (show F28 12 1 = y28_0_1 from ((eF28 12 1).trans ey28_0_1))
      have r31 : HID ((0 : Int) ≤ y28_0_2 ∧ y28_0_2 ≤ 1) := krg_e (show (0 : Int) ≤ F28 12 2 ∧ F28 12 2 ≤ 1 from H.krg 12 2 (by decide)) (show F28 12 2 = y28_0_2 from ((eF28 12 2).trans ey28_0_2))
      try clear pz28_1
      refine Ew_of (pc' := 59) (fun _ => x_aload_n rfl (rk_o (lc30_0) rfl rfl)) ?_
      refine Ew_stk (show ([.ref (D_c30 0)] : List Value) = [.ref (D28 0)] by rw [show D28 0 = D_c30 0 from (((show D28 0 = D16 0 from (eD28 0))).trans ((show D16 0 = D_c30 0 from (eD16 0))))]) ?_
      refine v_inv H (o := 0) rfl rfl rfl rfl rfl rfl (by rfl) (C144 (D := pul [0, 1, 2, 3, 4, 5, 6, 7, 8, 9, 10, 11] D28) (N := pul [0, 1, 2, 3, 4, 5, 6, 7, 8, 9, 10, 11] N28) (HW_sub H (VS_of (show vsub V143 V144 [0, 1, 2, 3, 4, 5, 6, 7, 8, 9, 10, 11] = true by decide +kernel))) (STC_out HT HE O) (pf28_0_1) (pf28_1_1) (pf28_1_2) (pf28_1_3) (pf28_0_13) (pe28_5_0) (pf28_0_14) (pe28_5_1) (pe28_5_2) (pf28_0_7) (pf28_10_2) (n2) ((congrArg (fun q : Nat => (q : Int)) (show N28 2 = N16 2 from (eN28 2))).trans ((congrArg (fun q : Nat => (q : Int)) (show N16 2 = N_c30 2 from (eN16 2))).trans ((congrArg (fun q : Nat => (q : Int)) (hN_c30 2 rfl)).trans (en2)))) (n3) ((congrArg (fun q : Nat => (q : Int)) (show N28 3 = N16 3 from (eN28 3))).trans ((congrArg (fun q : Nat => (q : Int)) (show N16 3 = N_c30 3 from (eN16 3))).trans ((congrArg (fun q : Nat => (q : Int)) (hN_c30 3 rfl)).trans (en3)))) (n4) ((congrArg (fun q : Nat => (q : Int)) (show N28 4 = N16 4 from (eN28 4))).trans ((congrArg (fun q : Nat => (q : Int)) (show N16 4 = N_c30 4 from (eN16 4))).trans ((congrArg (fun q : Nat => (q : Int)) (hN_c30 4 rfl)).trans (en4)))) (n5) ((congrArg (fun q : Nat => (q : Int)) (show N28 5 = N16 5 from (eN28 5))).trans ((congrArg (fun q : Nat => (q : Int)) (show N16 5 = N_c30 5 from (eN16 5))).trans ((congrArg (fun q : Nat => (q : Int)) (hN_c30 5 rfl)).trans (en5)))) (n6) ((congrArg (fun q : Nat => (q : Int)) (show N28 6 = N16 6 from (eN28 6))).trans ((congrArg (fun q : Nat => (q : Int)) (show N16 6 = N_c30 6 from (eN16 6))).trans ((congrArg (fun q : Nat => (q : Int)) (hN_c30 6 rfl)).trans (en6)))) (n7) ((congrArg (fun q : Nat => (q : Int)) (show N28 7 = N16 7 from (eN28 7))).trans ((congrArg (fun q : Nat => (q : Int)) (show N16 7 = N_c30 7 from (eN16 7))).trans ((congrArg (fun q : Nat => (q : Int)) (hN_c30 7 rfl)).trans (en7)))) (n8) ((congrArg (fun q : Nat => (q : Int)) (show N28 8 = N16 8 from (eN28 8))).trans ((congrArg (fun q : Nat => (q : Int)) (show N16 8 = N_c30 8 from (eN16 8))).trans ((congrArg (fun q : Nat => (q : Int)) (hN_c30 8 rfl)).trans (en8)))) (n9) ((congrArg (fun q : Nat => (q : Int)) (show N28 9 = N16 9 from (eN28 9))).trans ((congrArg (fun q : Nat => (q : Int)) (show N16 9 = N_c30 9 from (eN16 9))).trans ((congrArg (fun q : Nat => (q : Int)) (hN_c30 9 rfl)).trans (en9)))) (n11) ((congrArg (fun q : Nat => (q : Int)) (show N28 11 = N16 11 from (eN28 11))).trans ((congrArg (fun q : Nat => (q : Int)) (show N16 11 = N_c30 11 from (eN16 11))).trans ((congrArg (fun q : Nat => (q : Int)) (hN_c30 11 rfl)).trans (en11)))) (u1_4) ((((((show F28 1 4 = F16 1 4 from (eF28 1 4))).trans ((show F16 1 4 = F_c30 1 4 from (eF16 1 4)))).trans (hS_c30 1 4 rfl)).trans (eu1_4))) (A 2) (((show A28 2 = A16 2 from (eA28 2))).trans (((show A16 2 = A_c30 2 from (eA16 2))).trans (funext (hA_c30 2 rfl)))) (A 3) (((show A28 3 = A16 3 from (eA28 3))).trans (((show A16 3 = A_c30 3 from (eA16 3))).trans (funext (hA_c30 3 rfl)))) (w4) (((show A28 4 = A16 4 from (eA28 4))).trans (((show A16 4 = A_c30 4 from (eA16 4))).trans ((funext (hA_c30 4 rfl)).trans (ew4)))) (w6) (((show A28 6 = A16 6 from (eA28 6))).trans (((show A16 6 = A_c30 6 from (eA16 6))).trans ((funext (hA_c30 6 rfl)).trans (ew6)))) (A 7) (((show A28 7 = A16 7 from (eA28 7))).trans (((show A16 7 = A_c30 7 from (eA16 7))).trans (funext (hA_c30 7 rfl)))) (w8) (((show A28 8 = A16 8 from (eA28 8))).trans (((show A16 8 = A_c30 8 from (eA16 8))).trans ((funext (hA_c30 8 rfl)).trans (ew8)))) (w9) (((show A28 9 = A16 9 from (eA28 9))).trans (((show A16 9 = A_c30 9 from (eA16 9))).trans ((funext (hA_c30 9 rfl)).trans (ew9)))) (A 11) (((show A28 11 = A16 11 from (eA28 11))).trans (((show A16 11 = A_c30 11 from (eA16 11))).trans (funext (hA_c30 11 rfl)))) (show (n2) = (n3) ∧ (n4) = (n3) ∧ (n3) ≤ 65536 ∧ ((n3) = 0 ∨ 64 ≤ (n3)) ∧ lgq ((n3)) = 0 by have qh0 := HIDe r3; have qh1 := HIDe r4; have qh2 := HIDe r5; omega) (show 0 ≤ (u1_4) ∧ (u1_4) ≤ (n3) by have qh0 := HIDe r1; have qh1 := HIDe r4; omega) (show DSI ((w4)) ((u1_4)) by assumption) (show (n5) = 3 ∧ (n6) = (n7) ∧ (n8) = (n7) ∧ (n9) = (n7) ∧ lgq ((n7)) = 0 ∧ (n7) ≤ 16384 by have qh0 := HIDe r10; have qh1 := HIDe r6; have qh2 := HIDe r7; have qh3 := HIDe r8; have qh4 := HIDe r9; omega) (show (n11) = 3 by have qh0 := HIDe r11; omega) (fun σ32 D32' N32' F32' A32' c32 s32 H' O' hD32 hN32 hS32 hA32 pm32_5 pm32_6 pm32_7 pm32_8 pm32_9 m32_5 em32_5 m32_6 em32_6 m32_7 em32_7 m32_8 em32_8 m32_9 em32_9 w32_6 ew32_6 w32_7 ew32_7 w32_8 ew32_8 w32_9 ew32_9 w32_11 ew32_11 pz32_0 pz32_1 pz32_2 pz32_3 pz32_4 pz32_5 => ⟨rfl, ?_⟩))
      replace pm32_5 := HIDm pm32_5
      replace pm32_6 := HIDm pm32_6
      replace pm32_7 := HIDm pm32_7
      replace pm32_8 := HIDm pm32_8
      replace pm32_9 := HIDm pm32_9
      replace em32_5 := HIDm em32_5
      replace em32_6 := HIDm em32_6
      replace em32_7 := HIDm em32_7
      replace em32_8 := HIDm em32_8
      replace em32_9 := HIDm em32_9
      refine v_backM (c := ((c_c30 + c16) + c28)) (s := ((s_c30 + s16) + s28)) H (show vsub V143 V144 [0, 1, 2, 3, 4, 5, 6, 7, 8, 9, 10, 11] = true by decide +kernel) H' O' hD32 (show vmov V143 [0, 1, 2, 3, 4, 5, 6, 7, 8, 9, 10, 11] [5, 6, 7, 8, 9] = true by decide +kernel) (fun D32 N32 F32 A32 H O' eD32 eN32 eF32 eA32 => ?_)
      have O := OUT_trans O O'
      -- Packer.tellSymbols
      have pe32_5_0 : HID (A32 5 0 = (D32 6 : Int)) := (congrFun (eA32 5) 0).trans (pm32_6.trans (congrArg (fun q : Nat => (q : Int)) (eD32 6).symm))
      have pe32_5_1 : HID (A32 5 1 = (D32 8 : Int)) := (congrFun (eA32 5) 1).trans (pm32_8.trans (congrArg (fun q : Nat => (q : Int)) (eD32 8).symm))
      have pe32_5_2 : HID (A32 5 2 = (D32 9 : Int)) := (congrFun (eA32 5) 2).trans (pm32_9.trans (congrArg (fun q : Nat => (q : Int)) (eD32 9).symm))
      have pf32_0_1 : HID (F32 0 1 = (D32 1 : Int)) := ((show F32 0 1 = F28 0 1 from (eF32 0 1).trans (hS32 0 1 rfl))).trans ((pf28_0_1).trans (congrArg (fun q : Nat => (q : Int)) ((show D32 1 = D28 1 from (eD32 1).trans (hD32 1 rfl))).symm))
      have pf32_0_13 : HID (F32 0 13 = (D32 5 : Int)) := (eF32 0 13).trans (pm32_5.trans (congrArg (fun q : Nat => (q : Int)) (eD32 5).symm))
      have pf32_0_14 : HID (F32 0 14 = (D32 7 : Int)) := (eF32 0 14).trans (pm32_7.trans (congrArg (fun q : Nat => (q : Int)) (eD32 7).symm))
      have pf32_0_7 : HID (F32 0 7 = (D32 10 : Int)) := ((show F32 0 7 = F28 0 7 from (eF32 0 7).trans (hS32 0 7 rfl))).trans ((pf28_0_7).trans (congrArg (fun q : Nat => (q : Int)) ((show D32 10 = D28 10 from (eD32 10).trans (hD32 10 rfl))).symm))
      have pf32_0_8 : HID (F32 0 8 = (D32 12 : Int)) := ((show F32 0 8 = F28 0 8 from (eF32 0 8).trans (hS32 0 8 rfl))).trans ((pf28_0_8).trans (congrArg (fun q : Nat => (q : Int)) ((show D32 12 = D28 12 from (eD32 12))).symm))
      have pf32_1_1 : HID (F32 1 1 = (D32 2 : Int)) := ((show F32 1 1 = F28 1 1 from (eF32 1 1).trans (hS32 1 1 rfl))).trans ((pf28_1_1).trans (congrArg (fun q : Nat => (q : Int)) ((show D32 2 = D28 2 from (eD32 2).trans (hD32 2 rfl))).symm))
      have pf32_1_2 : HID (F32 1 2 = (D32 3 : Int)) := ((show F32 1 2 = F28 1 2 from (eF32 1 2).trans (hS32 1 2 rfl))).trans ((pf28_1_2).trans (congrArg (fun q : Nat => (q : Int)) ((show D32 3 = D28 3 from (eD32 3).trans (hD32 3 rfl))).symm))
      have pf32_1_3 : HID (F32 1 3 = (D32 4 : Int)) := ((show F32 1 3 = F28 1 3 from (eF32 1 3).trans (hS32 1 3 rfl))).trans ((pf28_1_3).trans (congrArg (fun q : Nat => (q : Int)) ((show D32 4 = D28 4 from (eD32 4).trans (hD32 4 rfl))).symm))
      have pf32_10_2 : HID (F32 10 2 = (D32 11 : Int)) := ((show F32 10 2 = F28 10 2 from (eF32 10 2).trans (hS32 10 2 rfl))).trans ((pf28_10_2).trans (congrArg (fun q : Nat => (q : Int)) ((show D32 11 = D28 11 from (eD32 11).trans (hD32 11 rfl))).symm))
      have pf32_12_0 : HID (F32 12 0 = (D32 13 : Int)) := ((show F32 12 0 = F28 12 0 from (eF32 12 0))).trans ((pf28_12_0).trans (congrArg (fun q : Nat => (q : Int)) ((show D32 13 = D28 13 from (eD32 13))).symm))
      have r33 : HID ((0 : Int) ≤ m32_5 ∧ m32_5 ≤ 1000000) := nrng (H.nle 5 (by decide)) (show (N32 5 : Int) = m32_5 from (congrArg (fun q : Nat => (q : Int)) (eN32 5)).trans em32_5)
      have r34 : HID ((0 : Int) ≤ m32_6 ∧ m32_6 ≤ 1000000) := nrng (H.nle 6 (by decide)) (show (N32 6 : Int) = m32_6 from (congrArg (fun q : Nat => (q : Int)) (eN32 6)).trans em32_6)
      have r35 : HID ((0 : Int) ≤ m32_7 ∧ m32_7 ≤ 1000000) := nrng (H.nle 7 (by decide)) (show (N32 7 : Int) = m32_7 from (congrArg (fun q : Nat => (q : Int)) (eN32 7)).trans em32_7)
      have r36 : HID ((0 : Int) ≤ m32_8 ∧ m32_8 ≤ 1000000) := nrng (H.nle 8 (by decide)) (show (N32 8 : Int) = m32_8 from (congrArg (fun q : Nat => (q : Int)) (eN32 8)).trans em32_8)
      have r37 : HID ((0 : Int) ≤ m32_9 ∧ m32_9 ≤ 1000000) := nrng (H.nle 9 (by decide)) (show (N32 9 : Int) = m32_9 from (congrArg (fun q : Nat => (q : Int)) (eN32 9)).trans em32_9)
      have hi0 : IMP (1 ≤ (u1_4)) (RNG ((w32_6)) ((u1_4)) 36) := by first | exact fun q => absurd q (by (have qg0 := HIDe r1; omega)) | exact fun _ => pz32_2
      have hi1 : IMP (1 ≤ (u1_4)) (RNG ((w32_8)) ((u1_4)) 32) := by first | exact fun q => absurd q (by (have qg0 := HIDe r1; omega)) | exact fun _ => pz32_3
      have hi2 : IMP (1 ≤ (u1_4)) (RNG ((w32_9)) ((u1_4)) 53) := by first | exact fun q => absurd q (by (have qg0 := HIDe r1; omega)) | exact fun _ => pz32_4
      exact hc62  _ _ _ _ _ _ _ _  (rk_s) H O (SD_trans (SD_trans (SD_refl) (SD_glu (ι := [12, 13]) hD28 eD28 (by decide +kernel)) (any_subA (l' := [13]) rfl)) (SD_glu (ι := [0, 1, 2, 3, 4, 5, 6, 7, 8, 9, 10, 11]) hD32 eD32 (by decide +kernel)) (any_subA (l' := [5, 6, 7, 8, 9]) rfl)) (SD_trans (SD_trans (SD_refl) (SD_glu (ι := [12, 13]) hN28 eN28 (by decide +kernel)) (any_subA (l' := [13]) rfl)) (SD_glu (ι := [0, 1, 2, 3, 4, 5, 6, 7, 8, 9, 10, 11]) hN32 eN32 (by decide +kernel)) (any_subA (l' := [5, 6, 7, 8, 9]) rfl)) (SF_trans (SF_trans (SF_refl) (SF_glu (ι := [12, 13]) hS28 eF28 (by decide +kernel)) (any_sub (l' := [(12, 0), (12, 1), (12, 2)]) rfl)) (SF_glu (ι := [0, 1, 2, 3, 4, 5, 6, 7, 8, 9, 10, 11]) hS32 eF32 (by decide +kernel)) (any_sub (l' := [(0, 13), (0, 14)]) rfl)) (SA_trans (SA_trans (SA_refl) (SA_glu (ι := [12, 13]) hA28 eA28 (by decide +kernel)) (any_subA (l' := [13]) rfl)) (SA_glu (ι := [0, 1, 2, 3, 4, 5, 6, 7, 8, 9, 10, 11]) hA32 eA32 (by decide +kernel)) (any_subA (l' := [5, 6, 7, 8, 9, 11]) rfl)) (pf32_0_13) (pe32_5_0) (pf32_0_14) (pe32_5_1) (pe32_5_2) (pf32_12_0) (m32_5) ((congrArg (fun q : Nat => (q : Int)) (eN32 5)).trans em32_5) (m32_6) ((congrArg (fun q : Nat => (q : Int)) (eN32 6)).trans em32_6) (m32_7) ((congrArg (fun q : Nat => (q : Int)) (eN32 7)).trans em32_7) (m32_8) ((congrArg (fun q : Nat => (q : Int)) (eN32 8)).trans em32_8) (m32_9) ((congrArg (fun q : Nat => (q : Int)) (eN32 9)).trans em32_9) (m28_1) ((congrArg (fun q : Nat => (q : Int)) (show N32 13 = N28 13 from (eN32 13))).trans ((congrArg (fun q : Nat => (q : Int)) (eN28 13)).trans em28_1)) (y28_0_1) ((((show F32 12 1 = F28 12 1 from (eF32 12 1))).trans ((eF28 12 1).trans ey28_0_1))) (w32_6) ((eA32 6).trans ew32_6) (w32_8) ((eA32 8).trans ew32_8) (w32_9) ((eA32 9).trans ew32_9) (show (m32_5) = 3 ∧ (m32_6) = (m32_7) ∧ (m32_8) = (m32_7) ∧ (m32_9) = (m32_7) ∧ lgq ((m32_7)) = 0 ∧ (m32_7) ≤ 16384 by have qh0 := HIDe r33; have qh1 := HIDe r34; have qh2 := HIDe r35; have qh3 := HIDe r36; have qh4 := HIDe r37; omega) (show (u1_4) ≤ (m32_7) by have qh0 := HIDe r1; have qh1 := HIDe r35; omega) (show 0 ≤ (y28_0_1) ∧ (y28_0_1) ≤ (m28_1) ∧ (m28_1) ≤ 65536 by have qh0 := HIDe r29; have qh1 := HIDe r30; omega) (show IMP (1 ≤ (u1_4)) (RNG ((w32_6)) ((u1_4)) 36) by assumption) (show IMP (1 ≤ (u1_4)) (RNG ((w32_8)) ((u1_4)) 32) by assumption) (show IMP (1 ≤ (u1_4)) (RNG ((w32_9)) ((u1_4)) 53) by assumption)
  refine Ew_of (pc' := 9) (fun _ => x_iload_n rfl rk_s) ?_
  refine Ew_of (pc' := 12) (fun _ => x_sipush (z := 128) rfl (by decide)) ?_
  refine w_icmplt (t := 30) rfl rfl (show inr (u1_4) by have qh0 := HIDe r1; omega) (show inr (128) by omega) (fun b38 => ?_) (fun b38 => ?_)
  · exact hc30  _ _ _ _ _ _ _ _  (rk_o (rfl) rfl rfl) (rk_s) H O (SD_refl) (SD_refl) (SF_refl) (SA_refl) (pf13) (n13) (en13) (u12_1) ((eu12_1))  (show 0 ≤ (u12_1) ∧ (u12_1) ≤ (n13) ∧ (n13) ≤ 65536 by have qh0 := HIDe r12; have qh1 := HIDe r2; omega)
  · refine Ew_of (pc' := 16) (fun _ => x_aload_n rfl (rk_o (rfl) rfl rfl)) ?_
    refine v_g H (o := 0) (v := .ref (D 12)) rfl rfl rfl rfl rfl (vrf (pf12)) ?_
    refine Ew_of (pc' := 22) (fun _ => x_sipush (z := 128) rfl (by decide)) ?_
    refine Ew_of (pc' := 23) (fun _ => x_iload_n rfl rk_s) ?_
    refine Ew_of (pc' := 25) (fun _ => x_bipush (z := 8) rfl (by decide)) ?_
    refine w_ishrK 8 256 (by decide) (by decide) rfl (show inr (u1_4) by have qh0 := HIDe r1; omega) (fun z39 gz39 dz39 => ?_)
    refine w_iadd rfl ?_
    have r40 : HID ((0 : Int) ≤ F 12 2 ∧ F 12 2 ≤ 1) := krg_e (show (0 : Int) ≤ F 12 2 ∧ F 12 2 ≤ 1 from H.krg 12 2 (by decide)) (show F 12 2 = F 12 2 from rfl)
    refine v_inv H (o := 12) rfl rfl rfl rfl rfl rfl (by rfl) (C159 (D := pul [12, 13] D) (N := pul [12, 13] N) (HW_sub H (VS_of (show vsub V143 V159 [12, 13] = true by decide +kernel))) (pf13) (n13) (en13) (u12_1) ((eu12_1)) (F 12 2) (rfl) (A 13) (rfl) (show inr ((128 + z39)) by omega) (show 0 ≤ (u12_1) ∧ (u12_1) ≤ (n13) ∧ (n13) ≤ 65536 by have qh0 := HIDe r12; have qh1 := HIDe r2; omega) (fun σ41 D41' N41' F41' A41' c41 s41 H' O' hD41 hN41 hS41 hA41 pm41_1 m41_1 em41_1 y41_0_1 ey41_0_1 y41_0_2 ey41_0_2 w41_1 ew41_1 pz41_0 pz41_1 pz41_2 pz41_3 => ⟨rfl, ?_⟩))
    replace pm41_1 := HIDm pm41_1
    replace em41_1 := HIDm em41_1
    replace ey41_0_1 := HIDm ey41_0_1
    replace ey41_0_2 := HIDm ey41_0_2
    refine v_backM (c := c) (s := s) H (show vsub V143 V159 [12, 13] = true by decide +kernel) H' O' hD41 (show vmov V143 [12, 13] [1] = true by decide +kernel) (fun D41 N41 F41 A41 H O' eD41 eN41 eF41 eA41 => ?_)
    have O := OUT_trans O O'
    -- Row.add
    have pe41_5_0 : HID (A41 5 0 = (D41 6 : Int)) := (congrFun ((show A41 5 = A 5 from (eA41 5))) 0).trans ((pf6).trans (congrArg (fun q : Nat => (q : Int)) ((show D41 6 = D 6 from (eD41 6))).symm))
    have pe41_5_1 : HID (A41 5 1 = (D41 8 : Int)) := (congrFun ((show A41 5 = A 5 from (eA41 5))) 1).trans ((pf8).trans (congrArg (fun q : Nat => (q : Int)) ((show D41 8 = D 8 from (eD41 8))).symm))
    have pe41_5_2 : HID (A41 5 2 = (D41 9 : Int)) := (congrFun ((show A41 5 = A 5 from (eA41 5))) 2).trans ((pf9).trans (congrArg (fun q : Nat => (q : Int)) ((show D41 9 = D 9 from (eD41 9))).symm))
    have pf41_0_1 : HID (F41 0 1 = (D41 1 : Int)) := ((show F41 0 1 = F 0 1 from (eF41 0 1))).trans ((pf1).trans (congrArg (fun q : Nat => (q : Int)) ((show D41 1 = D 1 from (eD41 1))).symm))
    have pf41_0_13 : HID (F41 0 13 = (D41 5 : Int)) := ((show F41 0 13 = F 0 13 from (eF41 0 13))).trans ((pf5).trans (congrArg (fun q : Nat => (q : Int)) ((show D41 5 = D 5 from (eD41 5))).symm))
    have pf41_0_14 : HID (F41 0 14 = (D41 7 : Int)) := ((show F41 0 14 = F 0 14 from (eF41 0 14))).trans ((pf7).trans (congrArg (fun q : Nat => (q : Int)) ((show D41 7 = D 7 from (eD41 7))).symm))
    have pf41_0_7 : HID (F41 0 7 = (D41 10 : Int)) := ((show F41 0 7 = F 0 7 from (eF41 0 7))).trans ((pf10).trans (congrArg (fun q : Nat => (q : Int)) ((show D41 10 = D 10 from (eD41 10))).symm))
    have pf41_0_8 : HID (F41 0 8 = (D41 12 : Int)) := ((show F41 0 8 = F 0 8 from (eF41 0 8))).trans ((pf12).trans (congrArg (fun q : Nat => (q : Int)) ((show D41 12 = D 12 from (eD41 12).trans (hD41 0 rfl))).symm))
    have pf41_1_1 : HID (F41 1 1 = (D41 2 : Int)) := ((show F41 1 1 = F 1 1 from (eF41 1 1))).trans ((pf2).trans (congrArg (fun q : Nat => (q : Int)) ((show D41 2 = D 2 from (eD41 2))).symm))
    have pf41_1_2 : HID (F41 1 2 = (D41 3 : Int)) := ((show F41 1 2 = F 1 2 from (eF41 1 2))).trans ((pf3).trans (congrArg (fun q : Nat => (q : Int)) ((show D41 3 = D 3 from (eD41 3))).symm))
    have pf41_1_3 : HID (F41 1 3 = (D41 4 : Int)) := ((show F41 1 3 = F 1 3 from (eF41 1 3))).trans ((pf4).trans (congrArg (fun q : Nat => (q : Int)) ((show D41 4 = D 4 from (eD41 4))).symm))
    have pf41_10_2 : HID (F41 10 2 = (D41 11 : Int)) := ((show F41 10 2 = F 10 2 from (eF41 10 2))).trans ((pf11).trans (congrArg (fun q : Nat => (q : Int)) ((show D41 11 = D 11 from (eD41 11))).symm))
    have pf41_12_0 : HID (F41 12 0 = (D41 13 : Int)) := (eF41 12 0).trans (pm41_1.trans (congrArg (fun q : Nat => (q : Int)) (eD41 13).symm))
    have r42 : HID ((0 : Int) ≤ m41_1 ∧ m41_1 ≤ 1000000) := nrng (H.nle 13 (by decide)) (show (N41 13 : Int) = m41_1 from (congrArg (fun q : Nat => (q : Int)) (eN41 13)).trans em41_1)
    have r43 : HID ((-2147483648 : Int) ≤ y41_0_1 ∧ y41_0_1 ≤ 2147483647) := krg_e (show (-2147483648 : Int) ≤ F41 12 1 ∧ F41 12 1 ≤ 2147483647 from H.krg 12 1 (by decide)) (show F41 12 1 = y41_0_1 from ((eF41 12 1).trans ey41_0_1))
    have r44 : HID ((0 : Int) ≤ y41_0_2 ∧ y41_0_2 ≤ 1) := krg_e (show (0 : Int) ≤ F41 12 2 ∧ F41 12 2 ≤ 1 from H.krg 12 2 (by decide)) (show F41 12 2 = y41_0_2 from ((eF41 12 2).trans ey41_0_2))
    exact hc30  _ _ _ _ _ _ _ _  ((rk_o (rfl) rfl rfl).trans (congrArg (fun q : Nat => some (Value.ref q)) (((show D41 0 = D 0 from (eD41 0)))).symm)) (rk_s) H O (SD_trans (SD_refl) (SD_glu (ι := [12, 13]) hD41 eD41 (by decide +kernel)) (any_subA (l' := [13]) rfl)) (SD_trans (SD_refl) (SD_glu (ι := [12, 13]) hN41 eN41 (by decide +kernel)) (any_subA (l' := [13]) rfl)) (SF_trans (SF_refl) (SF_glu (ι := [12, 13]) hS41 eF41 (by decide +kernel)) (any_sub (l' := [(12, 0), (12, 1), (12, 2)]) rfl)) (SA_trans (SA_refl) (SA_glu (ι := [12, 13]) hA41 eA41 (by decide +kernel)) (any_subA (l' := [13]) rfl)) (pf41_12_0) (m41_1) ((congrArg (fun q : Nat => (q : Int)) (eN41 13)).trans em41_1) (y41_0_1) (((eF41 12 1).trans ey41_0_1))  (show 0 ≤ (y41_0_1) ∧ (y41_0_1) ≤ (m41_1) ∧ (m41_1) ≤ 65536 by have qh0 := HIDe r42; have qh1 := HIDe r43; omega)
