abbrev V143 : vV := [(0, 6, [(4, 0), (4, 0), (4, 0), (4, 0), (4, 0), (4, 0), (4, 0), (4, 0), (4, 0), (4, 0), (4, 0), (4, 0), (4, 0), (4, 0), (4, 0), (0, 0), (0, 0), (4, 0), (4, 0)]), (0, 5, [(4, 0), (4, 0), (4, 0), (4, 0), (0, 0), (0, 0), (0, 0), (4, 0), (4, 0), (0, 0), (0, 0), (0, 0), (0, 0), (0, 0), (0, 0), (0, 0), (0, 0), (0, 0), (0, 0)]), (1, 1, []), (1, 1, []), (1, 1, []), (1, 7, []), (1, 1, []), (1, 1, []), (1, 1, []), (1, 1, []), (0, 9, [(4, 0), (4, 0), (4, 0)]), (1, 2, []), (0, 7, [(4, 0), (0, 0), (1, 0), (0, 0), (0, 0)]), (1, 0, [])]
theorem len_V143_oz_L3cls : (V143).length = 14 := by decide +kernel
theorem oz_L3cls_1 : vsub V143 V159 [12, 13] = true := by decide +kernel
theorem oz_L3cls_2 : vmov V143 [12, 13] [1] = true := by decide +kernel
theorem oz_L3cls_3 : vsub V143 V144 [0, 1, 2, 3, 4, 5, 6, 7, 8, 9, 10, 11] = true := by decide +kernel
theorem oz_L3cls_4 : vmov V143 [0, 1, 2, 3, 4, 5, 6, 7, 8, 9, 10, 11] [5, 6, 7, 8, 9] = true := by decide +kernel
def oz_L3clsl_0 : List (Nat × Nat) := [(0, 13), (0, 14), (12, 0), (12, 1), (12, 2)]
theorem oz_L3cls_5 : (oz_L3clsl_0).all (fun p => !tbz 275814043374761354485953280701005296635558174893258126675638053829720052400480474279899863784194409485646395932172288 (Nat.add (Nat.mul 32 p.1) p.2)) = true := by decide +kernel
def oz_L3clsl_1 : List Nat := [5, 6, 7, 8, 9, 11, 13]
theorem oz_L3cls_6 : (oz_L3clsl_1).all (fun p => !tbz 11232 p) = true := by decide +kernel
def oz_L3clsl_2 : List Nat := [5, 6, 7, 8, 9, 13]
theorem oz_L3cls_7 : (oz_L3clsl_2).all (fun p => !tbz 9184 p) = true := by decide +kernel
def oz_L3clsl_3 : List Nat := [12, 13]
theorem oz_L3cls_8 : okc oz_L3clsl_3 6668 = true := by decide +kernel
def oz_L3clsl_4 : List Nat := [0, 1, 2, 3, 4, 5, 6, 7, 8, 9, 10, 11]
theorem oz_L3cls_9 : okc oz_L3clsl_4 6984479500156472304109347144192 = true := by decide +kernel
set_option maxHeartbeats 16000000 in
/-- Packer.packNumber: this, this.finder, this.finder.literals, this.finder.lengths, this.finder.distances, this.symbols, this.symbols.0, this.numbers, this.symbols.1, this.symbols.2, this.next, this.next.latest, this.packed, this.packed.bytes -/
theorem C143 {σE : rS} {D N : Nat → Nat} {F : hF} {A : hA} {d c s : Nat} {Q : wQ} (H : HW V143 σE D N F A) (HT : STC σE)  (pf1 : HID (F 0 1 = (D 1 : Int))) (pf2 : HID (F 1 1 = (D 2 : Int))) (pf3 : HID (F 1 2 = (D 3 : Int))) (pf4 : HID (F 1 3 = (D 4 : Int))) (pf5 : HID (F 0 13 = (D 5 : Int))) (pf6 : HID (A 5 0 = (D 6 : Int))) (pf7 : HID (F 0 14 = (D 7 : Int))) (pf8 : HID (A 5 1 = (D 8 : Int))) (pf9 : HID (A 5 2 = (D 9 : Int))) (pf10 : HID (F 0 7 = (D 10 : Int))) (pf11 : HID (F 10 2 = (D 11 : Int))) (pf12 : HID (F 0 8 = (D 12 : Int))) (pf13 : HID (F 12 0 = (D 13 : Int))) (n2 : Int) (en2 : HID ((N 2 : Int) = n2)) (n3 : Int) (en3 : HID ((N 3 : Int) = n3)) (n4 : Int) (en4 : HID ((N 4 : Int) = n4)) (n5 : Int) (en5 : HID ((N 5 : Int) = n5)) (n6 : Int) (en6 : HID ((N 6 : Int) = n6)) (n7 : Int) (en7 : HID ((N 7 : Int) = n7)) (n8 : Int) (en8 : HID ((N 8 : Int) = n8)) (n9 : Int) (en9 : HID ((N 9 : Int) = n9)) (n11 : Int) (en11 : HID ((N 11 : Int) = n11)) (n13 : Int) (en13 : HID ((N 13 : Int) = n13)) (u1_4 : Int) (eu1_4 : HID (F 1 4 = u1_4)) (u12_1 : Int) (eu12_1 : HID (F 12 1 = u12_1)) (w4 : Int → Int) (ew4 : A 4 = w4) (w6 : Int → Int) (ew6 : A 6 = w6) (w8 : Int → Int) (ew8 : A 8 = w8) (w9 : Int → Int) (ew9 : A 9 = w9) (h0 : (n2) = (n3) ∧ (n4) = (n3) ∧ (n3) ≤ 65536 ∧ ((n3) = 0 ∨ 64 ≤ (n3)) ∧ lgq ((n3)) = 0) (h1 : 0 ≤ (u1_4) ∧ (u1_4) ≤ (n3)) (h2 : DSI ((w4)) ((u1_4))) (h3 : (n5) = 3 ∧ (n6) = (n7) ∧ (n8) = (n7) ∧ (n9) = (n7) ∧ lgq ((n7)) = 0 ∧ (n7) ≤ 16384) (h4 : (n11) = 3) (h5 : 0 ≤ (u12_1) ∧ (u12_1) ≤ (n13) ∧ (n13) ≤ 65536) (k : ∀ (z : Int) (σ : rS) (Dₚ Nₚ : Nat → Nat) (Fₚ : hF) (Aₚ : hA) (cₚ sₚ : Nat), HW V143 σ Dₚ Nₚ Fₚ Aₚ → OUT (V143).length D N σE c s Dₚ Nₚ σ cₚ sₚ → SD [5, 6, 7, 8, 9, 13] D Dₚ → SD [5, 6, 7, 8, 9, 13] N Nₚ → SF [(0, 13), (0, 14), (12, 0), (12, 1), (12, 2)] F Fₚ → SA [5, 6, 7, 8, 9, 11, 13] A Aₚ → Fₚ 0 13 = (Dₚ 5 : Int) → Aₚ 5 0 = (Dₚ 6 : Int) → Fₚ 0 14 = (Dₚ 7 : Int) → Aₚ 5 1 = (Dₚ 8 : Int) → Aₚ 5 2 = (Dₚ 9 : Int) → Fₚ 12 0 = (Dₚ 13 : Int) → ∀ m5 : Int, (Nₚ 5 : Int) = m5 → ∀ m6 : Int, (Nₚ 6 : Int) = m6 → ∀ m7 : Int, (Nₚ 7 : Int) = m7 → ∀ m8 : Int, (Nₚ 8 : Int) = m8 → ∀ m9 : Int, (Nₚ 9 : Int) = m9 → ∀ m13 : Int, (Nₚ 13 : Int) = m13 → ∀ y12_1 : Int, Fₚ 12 1 = y12_1 → ∀ v6 : Int → Int, Aₚ 6 = v6 → ∀ v8 : Int → Int, Aₚ 8 = v8 → ∀ v9 : Int → Int, Aₚ 9 = v9 → (inr (z)) → (0 ≤ (z)) → ((m5) = 3 ∧ (m6) = (m7) ∧ (m8) = (m7) ∧ (m9) = (m7) ∧ lgq ((m7)) = 0 ∧ (m7) ≤ 16384) → ((u1_4) ≤ (m7)) → (0 ≤ (y12_1) ∧ (y12_1) ≤ (m13) ∧ (m13) ≤ 65536) → (IMP (1 ≤ (u1_4)) (RNG ((v6)) ((u1_4)) 36)) → (IMP (1 ≤ (u1_4)) (RNG ((v8)) ((u1_4)) 32)) → (IMP (1 ≤ (u1_4)) (RNG ((v9)) ((u1_4)) 53)) → Q (some (I z)) σ cₚ sₚ) : Ew 143 (d + 3) 0 (rargs 0 [.ref (D 0)]) [] σE c s Q := by
  have O := OUT_refl (n := (V143).length) (D := D) (N := N) (σ := σE) (c := c) (s := s)
  have HE := H
  have r1 : HID ((-2147483648 : Int) ≤ u1_4 ∧ u1_4 ≤ 2147483647) := krg_e (show (-2147483648 : Int) ≤ F 1 4 ∧ F 1 4 ≤ 2147483647 from H.krg 1 4 (ltn len_V143_oz_L3cls rfl)) (show F 1 4 = u1_4 from (eu1_4))
  have r8 : HID ((0 : Int) ≤ n7 ∧ n7 ≤ 1000000) := nrng (H.nle 7 (ltn len_V143_oz_L3cls rfl)) (show (N 7 : Int) = n7 from en7)
  refine Ew_of (pcₚ := 1) (fun _ => x_aload_n rfl rfl) ?_
  refine v_g H (o := 0) (v := .ref (D 1)) rfl rfl rfl rfl rfl (vrf (pf1)) ?_
  refine v_g H (o := 1) (v := I (u1_4)) rfl rfl rfl rfl rfl (congrArg (fun z : Int => I z) ((eu1_4) : F 1 4 = u1_4)) ?_
  refine Ew_of (pcₚ := 8) (fun _ => x_istore_n rfl) ?_
  have hc30 : ∀ (ls : rO) (σ : rS) (D_c30 N_c30 : Nat → Nat) (c_c30 s_c30 : Nat) (F_c30 : hF) (A_c30 : hA) , rlook ls 0 = some (.ref (D_c30 0)) → rlook ls 1 = some (I (u1_4)) → HW V143 σ D_c30 N_c30 F_c30 A_c30 → OUT (V143).length D N σE c s D_c30 N_c30 σ c_c30 s_c30 → SD [13] D D_c30 → SD [13] N N_c30 → SF [(12, 0), (12, 1), (12, 2)] F F_c30 → SA [13] A A_c30 → F_c30 12 0 = (D_c30 13 : Int) → ∀ mc30_13 : Int, (N_c30 13 : Int) = mc30_13 → ∀ yc30_12_1 : Int, F_c30 12 1 = yc30_12_1 → (0 ≤ (yc30_12_1) ∧ (yc30_12_1) ≤ (mc30_13) ∧ (mc30_13) ≤ 65536) → Ew 143 (d + 3) 30 ls [] σ c_c30 s_c30 Q := by
   as_aux_lemma =>
    intro  ls σ D_c30 N_c30 c_c30 s_c30 F_c30 A_c30  lc30_0 lc30_1 H O hD_c30 hN_c30 hS_c30 hA_c30 pmc30_13 mc30_13 emc30_13 yc30_12_1 eyc30_12_1  jc30_0
    have cF_c30 : SF oz_L3clsl_0 F F_c30 := SF_trans (SF_refl) hS_c30 (any_sub (by decide +kernel))
    have mF_c30 := SFm_of cF_c30 oz_L3cls_5
    have cA_c30 : SA oz_L3clsl_1 A A_c30 := SA_trans (SA_refl) hA_c30 (any_subA (by decide +kernel))
    have mA_c30 := SAm_of cA_c30 oz_L3cls_6
    have cD_c30 : SD oz_L3clsl_2 D D_c30 := SD_trans (SD_refl) hD_c30 (any_subA (by decide +kernel))
    have mD_c30 := SDm_of cD_c30 oz_L3cls_7
    have cN_c30 : SD oz_L3clsl_2 N N_c30 := SD_trans (SD_refl) hN_c30 (any_subA (by decide +kernel))
    have mN_c30 := SDm_of cN_c30 oz_L3cls_7
    replace pmc30_13 := HIDm pmc30_13
    replace emc30_13 := HIDm emc30_13
    replace eyc30_12_1 := HIDm eyc30_12_1
    have pe_c30_5_0 : HID (A_c30 5 0 = (D_c30 6 : Int)) := (hA_c30 5 rfl 0).trans ((pf6).trans (congrArg (fun q : Nat => (q : Int)) (hD_c30 6 rfl).symm))
    have pe_c30_5_1 : HID (A_c30 5 1 = (D_c30 8 : Int)) := (hA_c30 5 rfl 1).trans ((pf8).trans (congrArg (fun q : Nat => (q : Int)) (hD_c30 8 rfl).symm))
    have pe_c30_5_2 : HID (A_c30 5 2 = (D_c30 9 : Int)) := (hA_c30 5 rfl 2).trans ((pf9).trans (congrArg (fun q : Nat => (q : Int)) (hD_c30 9 rfl).symm))
    have pf_c30_0_13 : HID (F_c30 0 13 = (D_c30 5 : Int)) := (hS_c30 0 13 rfl).trans ((pf5).trans (congrArg (fun q : Nat => (q : Int)) (hD_c30 5 rfl).symm))
    have pf_c30_0_14 : HID (F_c30 0 14 = (D_c30 7 : Int)) := (hS_c30 0 14 rfl).trans ((pf7).trans (congrArg (fun q : Nat => (q : Int)) (hD_c30 7 rfl).symm))
    refine Ew_of (pcₚ := 31) (fun _ => x_aload_n rfl lc30_0) ?_
    refine v_g H (o := 0) (v := .ref (D_c30 12)) rfl rfl rfl rfl rfl (vrf ((mF_c30 0 8 rfl).trans ((pf12).trans (congrArg (fun q : Nat => (q : Int)) (mD_c30 12 rfl).symm)))) ?_
    refine Ew_of (pcₚ := 35) (fun _ => x_iload_n rfl lc30_1) ?_
    refine v_inv H (o := 12) rfl rfl rfl rfl rfl rfl (by rfl) (C159 (D := puc 6668 D_c30) (N := puc 6668 N_c30) (HW_subc H oz_L3cls_1 oz_L3cls_8) (pmc30_13) (mc30_13) (emc30_13) (yc30_12_1) ((eyc30_12_1)) (show inr (u1_4) from q_4000 (HIDe r1) h1) (show 0 ≤ (yc30_12_1) ∧ (yc30_12_1) ≤ (mc30_13) ∧ (mc30_13) ≤ 65536 from jc30_0) (fun σ15 D15ₚ N15ₚ F15ₚ A15ₚ c15 s15 Hₚ Oₚ hD15 hN15 hS15 hA15 (pm15_1 : HID _) m15_1 (em15_1 : HID _) y15_0_1 (ey15_0_1 : HID _) pz15_0 pz15_1 pz15_2 => ⟨rfl, ?_⟩))
    refine v_backMc (c := c_c30) (s := s_c30) H oz_L3cls_1 oz_L3cls_8 Hₚ Oₚ hD15 oz_L3cls_2 (fun D15 N15 F15 A15 H Oₚ eD15 eN15 eF15 eA15 => ?_)
    have O := OUT_trans O Oₚ
    -- Row.add
    have cF15 : SF oz_L3clsl_0 F F15 := SF_trans (cF_c30) (SF_gluc (ι := oz_L3clsl_3) oz_L3cls_8 hS15 eF15 (by decide +kernel)) (any_sub (lₚ := [(12, 0), (12, 1), (12, 2)]) (by decide +kernel))
    have mF15 := SFm_of cF15 oz_L3cls_5
    have cA15 : SA oz_L3clsl_1 A A15 := SA_trans (cA_c30) (SA_gluc (ι := oz_L3clsl_3) oz_L3cls_8 hA15 eA15 (by decide +kernel)) (any_subA (lₚ := [13]) (by decide +kernel))
    have mA15 := SAm_of cA15 oz_L3cls_6
    have cD15 : SD oz_L3clsl_2 D D15 := SD_trans (cD_c30) (SD_gluc (ι := oz_L3clsl_3) oz_L3cls_8 hD15 eD15 (by decide +kernel)) (any_subA (lₚ := [13]) (by decide +kernel))
    have mD15 := SDm_of cD15 oz_L3cls_7
    have cN15 : SD oz_L3clsl_2 N N15 := SD_trans (cN_c30) (SD_gluc (ι := oz_L3clsl_3) oz_L3cls_8 hN15 eN15 (by decide +kernel)) (any_subA (lₚ := [13]) (by decide +kernel))
    have mN15 := SDm_of cN15 oz_L3cls_7
    have pe15_5_0 : HID (A15 5 0 = (D15 6 : Int)) := (congrFun ((show A15 5 = A_c30 5 from (eA15 5))) 0).trans ((pe_c30_5_0).trans (congrArg (fun q : Nat => (q : Int)) ((show D15 6 = D_c30 6 from (eD15 6))).symm))
    have pe15_5_1 : HID (A15 5 1 = (D15 8 : Int)) := (congrFun ((show A15 5 = A_c30 5 from (eA15 5))) 1).trans ((pe_c30_5_1).trans (congrArg (fun q : Nat => (q : Int)) ((show D15 8 = D_c30 8 from (eD15 8))).symm))
    have pe15_5_2 : HID (A15 5 2 = (D15 9 : Int)) := (congrFun ((show A15 5 = A_c30 5 from (eA15 5))) 2).trans ((pe_c30_5_2).trans (congrArg (fun q : Nat => (q : Int)) ((show D15 9 = D_c30 9 from (eD15 9))).symm))
    have pf15_0_13 : HID (F15 0 13 = (D15 5 : Int)) := ((show F15 0 13 = F_c30 0 13 from (eF15 0 13))).trans ((pf_c30_0_13).trans (congrArg (fun q : Nat => (q : Int)) ((show D15 5 = D_c30 5 from (eD15 5))).symm))
    have pf15_0_14 : HID (F15 0 14 = (D15 7 : Int)) := ((show F15 0 14 = F_c30 0 14 from (eF15 0 14))).trans ((pf_c30_0_14).trans (congrArg (fun q : Nat => (q : Int)) ((show D15 7 = D_c30 7 from (eD15 7))).symm))
    have pf15_12_0 : HID (F15 12 0 = (D15 13 : Int)) := (eF15 12 0).trans (pm15_1.trans (congrArg (fun q : Nat => (q : Int)) (eD15 13).symm))
    try clear pz15_1
    refine Ew_of (pcₚ := 39) (fun _ => x_aload_n rfl lc30_0) ?_
    refine Ew_stk (congrArg (fun qz : Nat => ([.ref qz] : List Value)) (show D15 0 = D_c30 0 from ((show D15 0 = D_c30 0 from (eD15 0)))).symm) ?_
    refine v_g H (o := 0) (v := .ref (D15 12)) rfl rfl rfl rfl rfl (vrf ((mF15 0 8 rfl).trans ((pf12).trans (congrArg (fun q : Nat => (q : Int)) (mD15 12 rfl).symm)))) ?_
    refine v_g H (o := 12) (v := I (y15_0_1)) rfl rfl rfl rfl rfl (congrArg (fun z : Int => I z) (((eF15 12 1).trans ey15_0_1) : F15 12 1 = y15_0_1)) ?_
    refine Ew_of (pcₚ := 46) (fun _ => x_istore_n rfl) ?_
    have hc62 : ∀ (ls : rO) (σ : rS) (D_c62 N_c62 : Nat → Nat) (c_c62 s_c62 : Nat) (F_c62 : hF) (A_c62 : hA) , rlook ls 2 = some (I (y15_0_1)) → HW V143 σ D_c62 N_c62 F_c62 A_c62 → OUT (V143).length D N σE c s D_c62 N_c62 σ c_c62 s_c62 → SD [5, 6, 7, 8, 9, 13] D15 D_c62 → SD [5, 6, 7, 8, 9, 13] N15 N_c62 → SF [(0, 13), (0, 14), (12, 0), (12, 1), (12, 2)] F15 F_c62 → SA [5, 6, 7, 8, 9, 11, 13] A15 A_c62 → F_c62 0 13 = (D_c62 5 : Int) → A_c62 5 0 = (D_c62 6 : Int) → F_c62 0 14 = (D_c62 7 : Int) → A_c62 5 1 = (D_c62 8 : Int) → A_c62 5 2 = (D_c62 9 : Int) → F_c62 12 0 = (D_c62 13 : Int) → ∀ mc62_5 : Int, (N_c62 5 : Int) = mc62_5 → ∀ mc62_6 : Int, (N_c62 6 : Int) = mc62_6 → ∀ mc62_7 : Int, (N_c62 7 : Int) = mc62_7 → ∀ mc62_8 : Int, (N_c62 8 : Int) = mc62_8 → ∀ mc62_9 : Int, (N_c62 9 : Int) = mc62_9 → ∀ mc62_13 : Int, (N_c62 13 : Int) = mc62_13 → ∀ yc62_12_1 : Int, F_c62 12 1 = yc62_12_1 → ∀ wc62_6 : Int → Int, A_c62 6 = wc62_6 → ∀ wc62_8 : Int → Int, A_c62 8 = wc62_8 → ∀ wc62_9 : Int → Int, A_c62 9 = wc62_9 → ((mc62_5) = 3 ∧ (mc62_6) = (mc62_7) ∧ (mc62_8) = (mc62_7) ∧ (mc62_9) = (mc62_7) ∧ lgq ((mc62_7)) = 0 ∧ (mc62_7) ≤ 16384) → ((u1_4) ≤ (mc62_7)) → (0 ≤ (yc62_12_1) ∧ (yc62_12_1) ≤ (mc62_13) ∧ (mc62_13) ≤ 65536) → (IMP (1 ≤ (u1_4)) (RNG ((wc62_6)) ((u1_4)) 36)) → (IMP (1 ≤ (u1_4)) (RNG ((wc62_8)) ((u1_4)) 32)) → (IMP (1 ≤ (u1_4)) (RNG ((wc62_9)) ((u1_4)) 53)) → Ew 143 (d + 3) 62 ls [] σ c_c62 s_c62 Q := by
     as_aux_lemma =>
      intro  ls σ D_c62 N_c62 c_c62 s_c62 F_c62 A_c62  lc62_2 H O hD_c62 hN_c62 hS_c62 hA_c62 pmc62_5 pmc62_6 pmc62_7 pmc62_8 pmc62_9 pmc62_13 mc62_5 emc62_5 mc62_6 emc62_6 mc62_7 emc62_7 mc62_8 emc62_8 mc62_9 emc62_9 mc62_13 emc62_13 yc62_12_1 eyc62_12_1 wc62_6 ewc62_6 wc62_8 ewc62_8 wc62_9 ewc62_9 jc62_0 jc62_1 jc62_2 jc62_3 jc62_4 jc62_5
      have cF_c62 : SF oz_L3clsl_0 F F_c62 := SF_trans (cF15) hS_c62 (any_sub (by decide +kernel))
      have mF_c62 := SFm_of cF_c62 oz_L3cls_5
      have cA_c62 : SA oz_L3clsl_1 A A_c62 := SA_trans (cA15) hA_c62 (any_subA (by decide +kernel))
      have mA_c62 := SAm_of cA_c62 oz_L3cls_6
      have cD_c62 : SD oz_L3clsl_2 D D_c62 := SD_trans (cD15) hD_c62 (any_subA (by decide +kernel))
      have mD_c62 := SDm_of cD_c62 oz_L3cls_7
      have cN_c62 : SD oz_L3clsl_2 N N_c62 := SD_trans (cN15) hN_c62 (any_subA (by decide +kernel))
      have mN_c62 := SDm_of cN_c62 oz_L3cls_7
      replace pmc62_5 := HIDm pmc62_5
      replace pmc62_6 := HIDm pmc62_6
      replace pmc62_7 := HIDm pmc62_7
      replace pmc62_8 := HIDm pmc62_8
      replace pmc62_9 := HIDm pmc62_9
      replace pmc62_13 := HIDm pmc62_13
      replace emc62_5 := HIDm emc62_5
      replace emc62_6 := HIDm emc62_6
      replace emc62_7 := HIDm emc62_7
      replace emc62_8 := HIDm emc62_8
      replace emc62_9 := HIDm emc62_9
      replace emc62_13 := HIDm emc62_13
      replace eyc62_12_1 := HIDm eyc62_12_1
      try clear pz15_1
      refine Ew_of (pcₚ := 63) (fun _ => x_iload_n rfl lc62_2) ?_
      exact w_ireturn rfl (k (y15_0_1) _ _ _ _ _ _ _ H O (cD_c62) (cN_c62) (cF_c62) (cA_c62) (pmc62_5) (pmc62_6) (pmc62_7) (pmc62_8) (pmc62_9) (pmc62_13) (mc62_5) (emc62_5) (mc62_6) (emc62_6) (mc62_7) (emc62_7) (mc62_8) (emc62_8) (mc62_9) (emc62_9) (mc62_13) (emc62_13) (yc62_12_1) ((eyc62_12_1)) (wc62_6) (ewc62_6) (wc62_8) (ewc62_8) (wc62_9) (ewc62_9) (show inr (y15_0_1) from q_884 pz15_0) (show 0 ≤ (y15_0_1) from q_4019 pz15_0) (show (mc62_5) = 3 ∧ (mc62_6) = (mc62_7) ∧ (mc62_8) = (mc62_7) ∧ (mc62_9) = (mc62_7) ∧ lgq ((mc62_7)) = 0 ∧ (mc62_7) ≤ 16384 from jc62_0) (show (u1_4) ≤ (mc62_7) from jc62_1) (show 0 ≤ (yc62_12_1) ∧ (yc62_12_1) ≤ (mc62_13) ∧ (mc62_13) ≤ 65536 from jc62_2) (show IMP (1 ≤ (u1_4)) (RNG ((wc62_6)) ((u1_4)) 36) from jc62_3) (show IMP (1 ≤ (u1_4)) (RNG ((wc62_8)) ((u1_4)) 32) from jc62_4) (show IMP (1 ≤ (u1_4)) (RNG ((wc62_9)) ((u1_4)) 53) from jc62_5))
    refine Ew_of (pcₚ := 47) (fun _ => x_iload_n rfl (rk_o (lc30_1) rfl rfl)) ?_
    refine w_ifle (t := 62) rfl rfl (show inr (u1_4) from q_4000 (HIDe r1) h1) (fun b25 => ?_) (fun b25 => ?_)
    · have hi0 : IMP (1 ≤ (u1_4)) (RNG ((w6)) ((u1_4)) 36) := by first | exact fun q => absurd q (by (have qg0 := HIDe r1; omega)) | exact fun _ => pNONE_2
      have hi1 : IMP (1 ≤ (u1_4)) (RNG ((w8)) ((u1_4)) 32) := by first | exact fun q => absurd q (by (have qg0 := HIDe r1; omega)) | exact fun _ => pNONE_3
      have hi2 : IMP (1 ≤ (u1_4)) (RNG ((w9)) ((u1_4)) 53) := by first | exact fun q => absurd q (by (have qg0 := HIDe r1; omega)) | exact fun _ => pNONE_4
      exact hc62  _ _ _ _ _ _ _ _  (rk_s) H O (SD_refl) (SD_refl) (SF_refl) (SA_refl) (pf15_0_13) (pe15_5_0) (pf15_0_14) (pe15_5_1) (pe15_5_2) (pf15_12_0) (n5) ((congrArg (fun q : Nat => (q : Int)) (show N15 5 = N_c30 5 from (eN15 5))).trans ((congrArg (fun q : Nat => (q : Int)) (hN_c30 5 rfl)).trans (en5))) (n6) ((congrArg (fun q : Nat => (q : Int)) (show N15 6 = N_c30 6 from (eN15 6))).trans ((congrArg (fun q : Nat => (q : Int)) (hN_c30 6 rfl)).trans (en6))) (n7) ((congrArg (fun q : Nat => (q : Int)) (show N15 7 = N_c30 7 from (eN15 7))).trans ((congrArg (fun q : Nat => (q : Int)) (hN_c30 7 rfl)).trans (en7))) (n8) ((congrArg (fun q : Nat => (q : Int)) (show N15 8 = N_c30 8 from (eN15 8))).trans ((congrArg (fun q : Nat => (q : Int)) (hN_c30 8 rfl)).trans (en8))) (n9) ((congrArg (fun q : Nat => (q : Int)) (show N15 9 = N_c30 9 from (eN15 9))).trans ((congrArg (fun q : Nat => (q : Int)) (hN_c30 9 rfl)).trans (en9))) (m15_1) ((congrArg (fun q : Nat => (q : Int)) (eN15 13)).trans em15_1) (y15_0_1) (((eF15 12 1).trans ey15_0_1)) (w6) (((show A15 6 = A_c30 6 from (eA15 6))).trans ((funext (hA_c30 6 rfl)).trans (ew6))) (w8) (((show A15 8 = A_c30 8 from (eA15 8))).trans ((funext (hA_c30 8 rfl)).trans (ew8))) (w9) (((show A15 9 = A_c30 9 from (eA15 9))).trans ((funext (hA_c30 9 rfl)).trans (ew9))) (show (n5) = 3 ∧ (n6) = (n7) ∧ (n8) = (n7) ∧ (n9) = (n7) ∧ lgq ((n7)) = 0 ∧ (n7) ≤ 16384 from h3) (show (u1_4) ≤ (n7) from q_4020 (HIDe r8) b25) (show 0 ≤ (y15_0_1) ∧ (y15_0_1) ≤ (m15_1) ∧ (m15_1) ≤ 65536 from pz15_0) (show IMP (1 ≤ (u1_4)) (RNG ((w6)) ((u1_4)) 36) from hi0) (show IMP (1 ≤ (u1_4)) (RNG ((w8)) ((u1_4)) 32) from hi1) (show IMP (1 ≤ (u1_4)) (RNG ((w9)) ((u1_4)) 53) from hi2)
    · refine Ew_of (pcₚ := 51) (fun _ => x_aload_n rfl (rk_o (lc30_0) rfl rfl)) ?_
      refine Ew_stk (congrArg (fun qz : Nat => ([.ref qz] : List Value)) (show D15 0 = D_c30 0 from ((show D15 0 = D_c30 0 from (eD15 0)))).symm) ?_
      refine v_g H (o := 0) (v := .ref (D15 12)) rfl rfl rfl rfl rfl (vrf ((mF15 0 8 rfl).trans ((pf12).trans (congrArg (fun q : Nat => (q : Int)) (mD15 12 rfl).symm)))) ?_
      refine Ew_of (pcₚ := 55) (fun _ => x_iconst rfl) ?_
      refine v_inv H (o := 12) rfl rfl rfl rfl rfl rfl (by rfl) (C159 (D := puc 6668 D15) (N := puc 6668 N15) (HW_subc H oz_L3cls_1 oz_L3cls_8) (pf15_12_0) (m15_1) ((congrArg (fun q : Nat => (q : Int)) (eN15 13)).trans em15_1) (y15_0_1) (((eF15 12 1).trans ey15_0_1)) (show inr (0) from q_20) (show 0 ≤ (y15_0_1) ∧ (y15_0_1) ≤ (m15_1) ∧ (m15_1) ≤ 65536 from pz15_0) (fun σ26 D26ₚ N26ₚ F26ₚ A26ₚ c26 s26 Hₚ Oₚ hD26 hN26 hS26 hA26 (pm26_1 : HID _) m26_1 (em26_1 : HID _) y26_0_1 (ey26_0_1 : HID _) pz26_0 pz26_1 pz26_2 => ⟨rfl, ?_⟩))
      refine v_backMc (c := (c_c30 + c15)) (s := (s_c30 + s15)) H oz_L3cls_1 oz_L3cls_8 Hₚ Oₚ hD26 oz_L3cls_2 (fun D26 N26 F26 A26 H Oₚ eD26 eN26 eF26 eA26 => ?_)
      have O := OUT_trans O Oₚ
      -- Row.add
      have cF26 : SF oz_L3clsl_0 F F26 := SF_trans (cF15) (SF_gluc (ι := oz_L3clsl_3) oz_L3cls_8 hS26 eF26 (by decide +kernel)) (any_sub (lₚ := [(12, 0), (12, 1), (12, 2)]) (by decide +kernel))
      have mF26 := SFm_of cF26 oz_L3cls_5
      have cA26 : SA oz_L3clsl_1 A A26 := SA_trans (cA15) (SA_gluc (ι := oz_L3clsl_3) oz_L3cls_8 hA26 eA26 (by decide +kernel)) (any_subA (lₚ := [13]) (by decide +kernel))
      have mA26 := SAm_of cA26 oz_L3cls_6
      have cD26 : SD oz_L3clsl_2 D D26 := SD_trans (cD15) (SD_gluc (ι := oz_L3clsl_3) oz_L3cls_8 hD26 eD26 (by decide +kernel)) (any_subA (lₚ := [13]) (by decide +kernel))
      have mD26 := SDm_of cD26 oz_L3cls_7
      have cN26 : SD oz_L3clsl_2 N N26 := SD_trans (cN15) (SD_gluc (ι := oz_L3clsl_3) oz_L3cls_8 hN26 eN26 (by decide +kernel)) (any_subA (lₚ := [13]) (by decide +kernel))
      have mN26 := SDm_of cN26 oz_L3cls_7
      have pe26_5_0 : HID (A26 5 0 = (D26 6 : Int)) := (congrFun ((show A26 5 = A15 5 from (eA26 5))) 0).trans ((pe15_5_0).trans (congrArg (fun q : Nat => (q : Int)) ((show D26 6 = D15 6 from (eD26 6))).symm))
      have pe26_5_1 : HID (A26 5 1 = (D26 8 : Int)) := (congrFun ((show A26 5 = A15 5 from (eA26 5))) 1).trans ((pe15_5_1).trans (congrArg (fun q : Nat => (q : Int)) ((show D26 8 = D15 8 from (eD26 8))).symm))
      have pe26_5_2 : HID (A26 5 2 = (D26 9 : Int)) := (congrFun ((show A26 5 = A15 5 from (eA26 5))) 2).trans ((pe15_5_2).trans (congrArg (fun q : Nat => (q : Int)) ((show D26 9 = D15 9 from (eD26 9))).symm))
      have pf26_0_13 : HID (F26 0 13 = (D26 5 : Int)) := ((show F26 0 13 = F15 0 13 from (eF26 0 13))).trans ((pf15_0_13).trans (congrArg (fun q : Nat => (q : Int)) ((show D26 5 = D15 5 from (eD26 5))).symm))
      have pf26_0_14 : HID (F26 0 14 = (D26 7 : Int)) := ((show F26 0 14 = F15 0 14 from (eF26 0 14))).trans ((pf15_0_14).trans (congrArg (fun q : Nat => (q : Int)) ((show D26 7 = D15 7 from (eD26 7))).symm))
      have pf26_12_0 : HID (F26 12 0 = (D26 13 : Int)) := (eF26 12 0).trans (pm26_1.trans (congrArg (fun q : Nat => (q : Int)) (eD26 13).symm))
      try clear pz26_1
      refine Ew_of (pcₚ := 59) (fun _ => x_aload_n rfl (rk_o (lc30_0) rfl rfl)) ?_
      refine Ew_stk (congrArg (fun qz : Nat => ([.ref qz] : List Value)) (show D26 0 = D_c30 0 from (((show D26 0 = D15 0 from (eD26 0))).trans ((show D15 0 = D_c30 0 from (eD15 0))))).symm) ?_
      refine v_inv H (o := 0) rfl rfl rfl rfl rfl rfl (by rfl) (C144 (D := puc 6984479500156472304109347144192 D26) (N := puc 6984479500156472304109347144192 N26) (HW_subc H oz_L3cls_3 oz_L3cls_9) (STC_out HT HE O) ((mF26 0 1 rfl).trans ((pf1).trans (congrArg (fun q : Nat => (q : Int)) (mD26 1 rfl).symm))) ((mF26 1 1 rfl).trans ((pf2).trans (congrArg (fun q : Nat => (q : Int)) (mD26 2 rfl).symm))) ((mF26 1 2 rfl).trans ((pf3).trans (congrArg (fun q : Nat => (q : Int)) (mD26 3 rfl).symm))) ((mF26 1 3 rfl).trans ((pf4).trans (congrArg (fun q : Nat => (q : Int)) (mD26 4 rfl).symm))) (pf26_0_13) (pe26_5_0) (pf26_0_14) (pe26_5_1) (pe26_5_2) ((mF26 0 7 rfl).trans ((pf10).trans (congrArg (fun q : Nat => (q : Int)) (mD26 10 rfl).symm))) ((mF26 10 2 rfl).trans ((pf11).trans (congrArg (fun q : Nat => (q : Int)) (mD26 11 rfl).symm))) (n2) ((congrArg (fun q : Nat => (q : Int)) (mN26 2 rfl)).trans (en2)) (n3) ((congrArg (fun q : Nat => (q : Int)) (mN26 3 rfl)).trans (en3)) (n4) ((congrArg (fun q : Nat => (q : Int)) (mN26 4 rfl)).trans (en4)) (n5) ((congrArg (fun q : Nat => (q : Int)) (show N26 5 = N15 5 from (eN26 5))).trans ((congrArg (fun q : Nat => (q : Int)) (show N15 5 = N_c30 5 from (eN15 5))).trans ((congrArg (fun q : Nat => (q : Int)) (hN_c30 5 rfl)).trans (en5)))) (n6) ((congrArg (fun q : Nat => (q : Int)) (show N26 6 = N15 6 from (eN26 6))).trans ((congrArg (fun q : Nat => (q : Int)) (show N15 6 = N_c30 6 from (eN15 6))).trans ((congrArg (fun q : Nat => (q : Int)) (hN_c30 6 rfl)).trans (en6)))) (n7) ((congrArg (fun q : Nat => (q : Int)) (show N26 7 = N15 7 from (eN26 7))).trans ((congrArg (fun q : Nat => (q : Int)) (show N15 7 = N_c30 7 from (eN15 7))).trans ((congrArg (fun q : Nat => (q : Int)) (hN_c30 7 rfl)).trans (en7)))) (n8) ((congrArg (fun q : Nat => (q : Int)) (show N26 8 = N15 8 from (eN26 8))).trans ((congrArg (fun q : Nat => (q : Int)) (show N15 8 = N_c30 8 from (eN15 8))).trans ((congrArg (fun q : Nat => (q : Int)) (hN_c30 8 rfl)).trans (en8)))) (n9) ((congrArg (fun q : Nat => (q : Int)) (show N26 9 = N15 9 from (eN26 9))).trans ((congrArg (fun q : Nat => (q : Int)) (show N15 9 = N_c30 9 from (eN15 9))).trans ((congrArg (fun q : Nat => (q : Int)) (hN_c30 9 rfl)).trans (en9)))) (n11) ((congrArg (fun q : Nat => (q : Int)) (mN26 11 rfl)).trans (en11)) (u1_4) (((mF26 1 4 rfl).trans (eu1_4))) (w4) ((funext (mA26 4 rfl)).trans (ew4)) (w6) (((show A26 6 = A15 6 from (eA26 6))).trans (((show A15 6 = A_c30 6 from (eA15 6))).trans ((funext (hA_c30 6 rfl)).trans (ew6)))) (w8) (((show A26 8 = A15 8 from (eA26 8))).trans (((show A15 8 = A_c30 8 from (eA15 8))).trans ((funext (hA_c30 8 rfl)).trans (ew8)))) (w9) (((show A26 9 = A15 9 from (eA26 9))).trans (((show A15 9 = A_c30 9 from (eA15 9))).trans ((funext (hA_c30 9 rfl)).trans (ew9)))) (show (n2) = (n3) ∧ (n4) = (n3) ∧ (n3) ≤ 65536 ∧ ((n3) = 0 ∨ 64 ≤ (n3)) ∧ lgq ((n3)) = 0 from h0) (show 0 ≤ (u1_4) ∧ (u1_4) ≤ (n3) from h1) (show DSI ((w4)) ((u1_4)) from h2) (show (n5) = 3 ∧ (n6) = (n7) ∧ (n8) = (n7) ∧ (n9) = (n7) ∧ lgq ((n7)) = 0 ∧ (n7) ≤ 16384 from h3) (show (n11) = 3 from h4) (fun σ29 D29ₚ N29ₚ F29ₚ A29ₚ c29 s29 Hₚ Oₚ hD29 hN29 hS29 hA29 (pm29_5 : HID _) (pm29_6 : HID _) (pm29_7 : HID _) (pm29_8 : HID _) (pm29_9 : HID _) m29_5 (em29_5 : HID _) m29_6 (em29_6 : HID _) m29_7 (em29_7 : HID _) m29_8 (em29_8 : HID _) m29_9 (em29_9 : HID _) w29_6 ew29_6 w29_8 ew29_8 w29_9 ew29_9 pz29_0 pz29_1 pz29_2 pz29_3 pz29_4 => ⟨rfl, ?_⟩))
      refine v_backMc (c := ((c_c30 + c15) + c26)) (s := ((s_c30 + s15) + s26)) H oz_L3cls_3 oz_L3cls_9 Hₚ Oₚ hD29 oz_L3cls_4 (fun D29 N29 F29 A29 H Oₚ eD29 eN29 eF29 eA29 => ?_)
      have O := OUT_trans O Oₚ
      -- Packer.tellSymbols
      have cF29 : SF oz_L3clsl_0 F F29 := SF_trans (cF26) (SF_gluc (ι := oz_L3clsl_4) oz_L3cls_9 hS29 eF29 (by decide +kernel)) (any_sub (lₚ := [(0, 13), (0, 14)]) (by decide +kernel))
      have mF29 := SFm_of cF29 oz_L3cls_5
      have cA29 : SA oz_L3clsl_1 A A29 := SA_trans (cA26) (SA_gluc (ι := oz_L3clsl_4) oz_L3cls_9 hA29 eA29 (by decide +kernel)) (any_subA (lₚ := [5, 6, 7, 8, 9, 11]) (by decide +kernel))
      have mA29 := SAm_of cA29 oz_L3cls_6
      have cD29 : SD oz_L3clsl_2 D D29 := SD_trans (cD26) (SD_gluc (ι := oz_L3clsl_4) oz_L3cls_9 hD29 eD29 (by decide +kernel)) (any_subA (lₚ := [5, 6, 7, 8, 9]) (by decide +kernel))
      have mD29 := SDm_of cD29 oz_L3cls_7
      have cN29 : SD oz_L3clsl_2 N N29 := SD_trans (cN26) (SD_gluc (ι := oz_L3clsl_4) oz_L3cls_9 hN29 eN29 (by decide +kernel)) (any_subA (lₚ := [5, 6, 7, 8, 9]) (by decide +kernel))
      have mN29 := SDm_of cN29 oz_L3cls_7
      have pe29_5_0 : HID (A29 5 0 = (D29 6 : Int)) := (congrFun (eA29 5) 0).trans (pm29_6.trans (congrArg (fun q : Nat => (q : Int)) (eD29 6).symm))
      have pe29_5_1 : HID (A29 5 1 = (D29 8 : Int)) := (congrFun (eA29 5) 1).trans (pm29_8.trans (congrArg (fun q : Nat => (q : Int)) (eD29 8).symm))
      have pe29_5_2 : HID (A29 5 2 = (D29 9 : Int)) := (congrFun (eA29 5) 2).trans (pm29_9.trans (congrArg (fun q : Nat => (q : Int)) (eD29 9).symm))
      have pf29_0_13 : HID (F29 0 13 = (D29 5 : Int)) := (eF29 0 13).trans (pm29_5.trans (congrArg (fun q : Nat => (q : Int)) (eD29 5).symm))
      have pf29_0_14 : HID (F29 0 14 = (D29 7 : Int)) := (eF29 0 14).trans (pm29_7.trans (congrArg (fun q : Nat => (q : Int)) (eD29 7).symm))
      have pf29_12_0 : HID (F29 12 0 = (D29 13 : Int)) := ((show F29 12 0 = F26 12 0 from (eF29 12 0))).trans ((pf26_12_0).trans (congrArg (fun q : Nat => (q : Int)) ((show D29 13 = D26 13 from (eD29 13))).symm))
      have hi0 : IMP (1 ≤ (u1_4)) (RNG ((w29_6)) ((u1_4)) 36) := by first | exact fun q => absurd q (by (have qg0 := HIDe r1; omega)) | exact fun _ => pz29_2
      have hi1 : IMP (1 ≤ (u1_4)) (RNG ((w29_8)) ((u1_4)) 32) := by first | exact fun q => absurd q (by (have qg0 := HIDe r1; omega)) | exact fun _ => pz29_3
      have hi2 : IMP (1 ≤ (u1_4)) (RNG ((w29_9)) ((u1_4)) 53) := by first | exact fun q => absurd q (by (have qg0 := HIDe r1; omega)) | exact fun _ => pz29_4
      exact hc62  _ _ _ _ _ _ _ _  (rk_s) H O (SD_trans (SD_trans (SD_refl) (SD_gluc (ι := oz_L3clsl_3) oz_L3cls_8 hD26 eD26 (by decide +kernel)) (any_subA (lₚ := [13]) (by decide +kernel))) (SD_gluc (ι := oz_L3clsl_4) oz_L3cls_9 hD29 eD29 (by decide +kernel)) (any_subA (lₚ := [5, 6, 7, 8, 9]) (by decide +kernel))) (SD_trans (SD_trans (SD_refl) (SD_gluc (ι := oz_L3clsl_3) oz_L3cls_8 hN26 eN26 (by decide +kernel)) (any_subA (lₚ := [13]) (by decide +kernel))) (SD_gluc (ι := oz_L3clsl_4) oz_L3cls_9 hN29 eN29 (by decide +kernel)) (any_subA (lₚ := [5, 6, 7, 8, 9]) (by decide +kernel))) (SF_trans (SF_trans (SF_refl) (SF_gluc (ι := oz_L3clsl_3) oz_L3cls_8 hS26 eF26 (by decide +kernel)) (any_sub (lₚ := [(12, 0), (12, 1), (12, 2)]) (by decide +kernel))) (SF_gluc (ι := oz_L3clsl_4) oz_L3cls_9 hS29 eF29 (by decide +kernel)) (any_sub (lₚ := [(0, 13), (0, 14)]) (by decide +kernel))) (SA_trans (SA_trans (SA_refl) (SA_gluc (ι := oz_L3clsl_3) oz_L3cls_8 hA26 eA26 (by decide +kernel)) (any_subA (lₚ := [13]) (by decide +kernel))) (SA_gluc (ι := oz_L3clsl_4) oz_L3cls_9 hA29 eA29 (by decide +kernel)) (any_subA (lₚ := [5, 6, 7, 8, 9, 11]) (by decide +kernel))) (pf29_0_13) (pe29_5_0) (pf29_0_14) (pe29_5_1) (pe29_5_2) (pf29_12_0) (m29_5) ((congrArg (fun q : Nat => (q : Int)) (eN29 5)).trans em29_5) (m29_6) ((congrArg (fun q : Nat => (q : Int)) (eN29 6)).trans em29_6) (m29_7) ((congrArg (fun q : Nat => (q : Int)) (eN29 7)).trans em29_7) (m29_8) ((congrArg (fun q : Nat => (q : Int)) (eN29 8)).trans em29_8) (m29_9) ((congrArg (fun q : Nat => (q : Int)) (eN29 9)).trans em29_9) (m26_1) ((congrArg (fun q : Nat => (q : Int)) (show N29 13 = N26 13 from (eN29 13))).trans ((congrArg (fun q : Nat => (q : Int)) (eN26 13)).trans em26_1)) (y26_0_1) ((((show F29 12 1 = F26 12 1 from (eF29 12 1))).trans ((eF26 12 1).trans ey26_0_1))) (w29_6) ((eA29 6).trans ew29_6) (w29_8) ((eA29 8).trans ew29_8) (w29_9) ((eA29 9).trans ew29_9) (show (m29_5) = 3 ∧ (m29_6) = (m29_7) ∧ (m29_8) = (m29_7) ∧ (m29_9) = (m29_7) ∧ lgq ((m29_7)) = 0 ∧ (m29_7) ≤ 16384 from pz29_0) (show (u1_4) ≤ (m29_7) from pz29_1) (show 0 ≤ (y26_0_1) ∧ (y26_0_1) ≤ (m26_1) ∧ (m26_1) ≤ 65536 from pz26_0) (show IMP (1 ≤ (u1_4)) (RNG ((w29_6)) ((u1_4)) 36) from hi0) (show IMP (1 ≤ (u1_4)) (RNG ((w29_8)) ((u1_4)) 32) from hi1) (show IMP (1 ≤ (u1_4)) (RNG ((w29_9)) ((u1_4)) 53) from hi2)
  refine Ew_of (pcₚ := 9) (fun _ => x_iload_n rfl rk_s) ?_
  refine Ew_of (pcₚ := 12) (fun _ => x_sipush (z := 128) rfl (by decide)) ?_
  refine w_icmplt (t := 30) rfl rfl (show inr (u1_4) from q_4000 (HIDe r1) h1) (show inr (128) from q_53) (fun b35 => ?_) (fun b35 => ?_)
  · exact hc30  _ _ _ _ _ _ _ _  (rk_o (rfl) rfl rfl) (rk_s) H O (SD_refl) (SD_refl) (SF_refl) (SA_refl) (pf13) (n13) (en13) (u12_1) ((eu12_1))  (show 0 ≤ (u12_1) ∧ (u12_1) ≤ (n13) ∧ (n13) ≤ 65536 from h5)
  · refine Ew_of (pcₚ := 16) (fun _ => x_aload_n rfl (rk_o (rfl) rfl rfl)) ?_
    refine v_g H (o := 0) (v := .ref (D 12)) rfl rfl rfl rfl rfl (vrf (pf12)) ?_
    refine Ew_of (pcₚ := 22) (fun _ => x_sipush (z := 128) rfl (by decide)) ?_
    refine Ew_of (pcₚ := 23) (fun _ => x_iload_n rfl rk_s) ?_
    refine Ew_of (pcₚ := 25) (fun _ => x_bipush (z := 8) rfl (by decide)) ?_
    refine w_ishrK 8 256 (by decide) (by decide) rfl (show inr (u1_4) from q_4021 (HIDe r1) b35) (fun z36 gz36 dz36 => ?_)
    refine w_iadd rfl ?_
    refine v_inv H (o := 12) rfl rfl rfl rfl rfl rfl (by rfl) (C159 (D := puc 6668 D) (N := puc 6668 N) (HW_subc H oz_L3cls_1 oz_L3cls_8) (pf13) (n13) (en13) (u12_1) ((eu12_1)) (show inr ((128 + z36)) by omega) (show 0 ≤ (u12_1) ∧ (u12_1) ≤ (n13) ∧ (n13) ≤ 65536 from h5) (fun σ37 D37ₚ N37ₚ F37ₚ A37ₚ c37 s37 Hₚ Oₚ hD37 hN37 hS37 hA37 (pm37_1 : HID _) m37_1 (em37_1 : HID _) y37_0_1 (ey37_0_1 : HID _) pz37_0 pz37_1 pz37_2 => ⟨rfl, ?_⟩))
    refine v_backMc (c := c) (s := s) H oz_L3cls_1 oz_L3cls_8 Hₚ Oₚ hD37 oz_L3cls_2 (fun D37 N37 F37 A37 H Oₚ eD37 eN37 eF37 eA37 => ?_)
    have O := OUT_trans O Oₚ
    -- Row.add
    have cF37 : SF oz_L3clsl_0 F F37 := SF_trans (SF_refl) (SF_gluc (ι := oz_L3clsl_3) oz_L3cls_8 hS37 eF37 (by decide +kernel)) (any_sub (lₚ := [(12, 0), (12, 1), (12, 2)]) (by decide +kernel))
    have mF37 := SFm_of cF37 oz_L3cls_5
    have cA37 : SA oz_L3clsl_1 A A37 := SA_trans (SA_refl) (SA_gluc (ι := oz_L3clsl_3) oz_L3cls_8 hA37 eA37 (by decide +kernel)) (any_subA (lₚ := [13]) (by decide +kernel))
    have mA37 := SAm_of cA37 oz_L3cls_6
    have cD37 : SD oz_L3clsl_2 D D37 := SD_trans (SD_refl) (SD_gluc (ι := oz_L3clsl_3) oz_L3cls_8 hD37 eD37 (by decide +kernel)) (any_subA (lₚ := [13]) (by decide +kernel))
    have mD37 := SDm_of cD37 oz_L3cls_7
    have cN37 : SD oz_L3clsl_2 N N37 := SD_trans (SD_refl) (SD_gluc (ι := oz_L3clsl_3) oz_L3cls_8 hN37 eN37 (by decide +kernel)) (any_subA (lₚ := [13]) (by decide +kernel))
    have mN37 := SDm_of cN37 oz_L3cls_7
    have pe37_5_0 : HID (A37 5 0 = (D37 6 : Int)) := (congrFun ((show A37 5 = A 5 from (eA37 5))) 0).trans ((pf6).trans (congrArg (fun q : Nat => (q : Int)) ((show D37 6 = D 6 from (eD37 6))).symm))
    have pe37_5_1 : HID (A37 5 1 = (D37 8 : Int)) := (congrFun ((show A37 5 = A 5 from (eA37 5))) 1).trans ((pf8).trans (congrArg (fun q : Nat => (q : Int)) ((show D37 8 = D 8 from (eD37 8))).symm))
    have pe37_5_2 : HID (A37 5 2 = (D37 9 : Int)) := (congrFun ((show A37 5 = A 5 from (eA37 5))) 2).trans ((pf9).trans (congrArg (fun q : Nat => (q : Int)) ((show D37 9 = D 9 from (eD37 9))).symm))
    have pf37_0_13 : HID (F37 0 13 = (D37 5 : Int)) := ((show F37 0 13 = F 0 13 from (eF37 0 13))).trans ((pf5).trans (congrArg (fun q : Nat => (q : Int)) ((show D37 5 = D 5 from (eD37 5))).symm))
    have pf37_0_14 : HID (F37 0 14 = (D37 7 : Int)) := ((show F37 0 14 = F 0 14 from (eF37 0 14))).trans ((pf7).trans (congrArg (fun q : Nat => (q : Int)) ((show D37 7 = D 7 from (eD37 7))).symm))
    have pf37_12_0 : HID (F37 12 0 = (D37 13 : Int)) := (eF37 12 0).trans (pm37_1.trans (congrArg (fun q : Nat => (q : Int)) (eD37 13).symm))
    exact hc30  _ _ _ _ _ _ _ _  ((rk_o (rfl) rfl rfl).trans (congrArg (fun q : Nat => some (Value.ref q)) (mD37 0 rfl).symm)) (rk_s) H O (SD_trans (SD_refl) (SD_gluc (ι := oz_L3clsl_3) oz_L3cls_8 hD37 eD37 (by decide +kernel)) (any_subA (lₚ := [13]) (by decide +kernel))) (SD_trans (SD_refl) (SD_gluc (ι := oz_L3clsl_3) oz_L3cls_8 hN37 eN37 (by decide +kernel)) (any_subA (lₚ := [13]) (by decide +kernel))) (SF_trans (SF_refl) (SF_gluc (ι := oz_L3clsl_3) oz_L3cls_8 hS37 eF37 (by decide +kernel)) (any_sub (lₚ := [(12, 0), (12, 1), (12, 2)]) (by decide +kernel))) (SA_trans (SA_refl) (SA_gluc (ι := oz_L3clsl_3) oz_L3cls_8 hA37 eA37 (by decide +kernel)) (any_subA (lₚ := [13]) (by decide +kernel))) (pf37_12_0) (m37_1) ((congrArg (fun q : Nat => (q : Int)) (eN37 13)).trans em37_1) (y37_0_1) (((eF37 12 1).trans ey37_0_1))  (show 0 ≤ (y37_0_1) ∧ (y37_0_1) ≤ (m37_1) ∧ (m37_1) ≤ 65536 from pz37_0)
