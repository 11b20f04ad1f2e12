abbrev V106_thisorderFivea : vV := [(0, 3, [(4, 0), (4, 0), (4, 0), (0, 0), (4, 0), (4, 0), (4, 0), (4, 0), (4, 0), (4, 0), (4, 0), (4, 0), (4, 0), (0, 0), (0, 0), (0, 0), (0, 0)]), (0, 7, [(4, 0), (0, 0), (1, 0), (0, 0), (0, 0)]), (1, 0, []), (0, 8, [(0, 0), (0, 0), (4, 0), (4, 0), (4, 0), (4, 0), (4, 0), (4, 0), (4, 0), (4, 0), (4, 0), (0, 0), (0, 0)]), (1, 1, []), (1, 1, []), (1, 1, []), (1, 1, []), (1, 1, []), (1, 1, []), (1, 1, []), (1, 1, []), (1, 1, []), (1, 1, [])]
theorem len_V106_thisorderFivea_oz_F5cls : (V106_thisorderFivea).length = 14 := by decide +kernel
theorem oz_F5cls_1 : vsub V106_thisorderFivea V156 [1] = true := by decide +kernel
theorem oz_F5cls_2 : vsub V106_thisorderFivea V157 [1, 2] = true := by decide +kernel
theorem oz_F5cls_3 : vmov V106_thisorderFivea [1, 2] [1] = true := by decide +kernel
theorem oz_F5cls_4 : vsub V106_thisorderFivea V178_Ir [3, 13, 4] = true := by decide +kernel
theorem oz_F5cls_5 : vsub V106_thisorderFivea V169 [3, 4, 5, 6, 7, 8, 9, 10, 11] = true := by decide +kernel
theorem oz_F5cls_6 : vsub V106_thisorderFivea V181_Row [3, 1, 4, 2] = true := by decide +kernel
theorem oz_F5cls_7 : vsub V106_thisorderFivea V174 [3, 4, 5, 6, 7, 10, 9, 11, 8] = true := by decide +kernel
theorem oz_F5cls_8 : vsub V106_thisorderFivea V164 [1, 2] = true := by decide +kernel
theorem oz_F5cls_9 : vsub V106_thisorderFivea V165 [1, 2] = true := by decide +kernel
theorem oz_F5cls_10 : vsub V106_thisorderFivea V175 [3, 4, 5, 6, 7, 10, 9, 11, 8] = true := by decide +kernel
theorem oz_F5cls_11 : vsub V106_thisorderFivea V176 [3, 4, 5, 6, 7, 10, 9, 11, 8] = true := by decide +kernel
def oz_F5clsl_0 : List (Nat × Nat) := [(1, 0), (1, 1), (1, 2), (1, 3), (1, 4), (3, 0)]
theorem oz_F5cls_12 : (oz_F5clsl_0).all (fun p => !tbz 79228162514264337726687936512 (Nat.add (Nat.mul 32 p.1) p.2)) = true := by decide +kernel
def oz_F5clsl_1 : List Nat := [2, 4, 5, 6, 7, 8, 9, 10, 11]
theorem oz_F5cls_13 : (oz_F5clsl_1).all (fun p => !tbz 4084 p) = true := by decide +kernel
def oz_F5clsl_2 : List Nat := [2]
theorem oz_F5cls_14 : (oz_F5clsl_2).all (fun p => !tbz 4 p) = true := by decide +kernel
def oz_F5clsl_3 : List Nat := [1]
theorem oz_F5cls_15 : okc oz_F5clsl_3 1 = true := by decide +kernel
def oz_F5clsl_4 : List Nat := [1, 2]
theorem oz_F5cls_16 : okc oz_F5clsl_4 1025 = true := by decide +kernel
def oz_F5clsl_5 : List Nat := [3, 13, 4]
theorem oz_F5cls_17 : okc oz_F5clsl_5 1055235 = true := by decide +kernel
def oz_F5clsl_6 : List Nat := [3, 4, 5, 6, 7, 8, 9, 10, 11]
theorem oz_F5cls_18 : okc oz_F5clsl_6 52038427443478050113539 = true := by decide +kernel
def oz_F5clsl_7 : List Nat := [3, 1, 4, 2]
theorem oz_F5cls_19 : okc oz_F5clsl_7 269484547 = true := by decide +kernel
def oz_F5clsl_8 : List Nat := [3, 4, 5, 6, 7, 10, 9, 11, 8]
theorem oz_F5cls_20 : okc oz_F5clsl_8 37880551437274713425923 = true := by decide +kernel
set_option maxHeartbeats 16000000 in
/-- Codes.describeByStates: this, this.orderFive, this.orderFive.bytes, this.weightShare, this.weightShare.points, this.weightShare.masses, this.weightShare.mostBits, this.weightShare.starts, this.weightShare.used, this.weightShare.numberAt, this.weightShare.symbolAt, this.weightShare.placeOf, this.weights, this.weightCounts -/
theorem C106_thisorderFivea {σE : rS} {D N : Nat → Nat} {F : hF} {A : hA} {d c s : Nat} {Q : wQ} (H : HW V106_thisorderFivea σE D N F A) {a2 a3 : Int} (pf1 : F 0 7 = (D 1 : Int)) (pf2 : F 1 0 = (D 2 : Int)) (pf3 : F 0 6 = (D 3 : Int)) (pf4 : F 3 2 = (D 4 : Int)) (pf5 : F 3 3 = (D 5 : Int)) (pf6 : F 3 4 = (D 6 : Int)) (pf7 : F 3 5 = (D 7 : Int)) (pf8 : F 3 6 = (D 8 : Int)) (pf9 : F 3 8 = (D 9 : Int)) (pf10 : F 3 7 = (D 10 : Int)) (pf11 : F 3 9 = (D 11 : Int)) (pf12 : F 0 4 = (D 12 : Int)) (pf13 : F 0 5 = (D 13 : Int)) (n2 : Int) (en2 : (N 2 : Int) = n2) (n4 : Int) (en4 : (N 4 : Int) = n4) (n5 : Int) (en5 : (N 5 : Int) = n5) (n6 : Int) (en6 : (N 6 : Int) = n6) (n7 : Int) (en7 : (N 7 : Int) = n7) (n8 : Int) (en8 : (N 8 : Int) = n8) (n9 : Int) (en9 : (N 9 : Int) = n9) (n10 : Int) (en10 : (N 10 : Int) = n10) (n11 : Int) (en11 : (N 11 : Int) = n11) (n12 : Int) (en12 : (N 12 : Int) = n12) (n13 : Int) (en13 : (N 13 : Int) = n13) (u1_1 : Int) (eu1_1 : F 1 1 = u1_1) (u1_4 : Int) (eu1_4 : F 1 4 = u1_4) (u3_1 : Int) (eu3_1 : F 3 1 = u3_1) (w12 : Int → Int) (ew12 : A 12 = w12) (w13 : Int → Int) (ew13 : A 13 = w13) (h0 : inr (a2)) (h1 : inr (a3)) (h2 : 0 ≤ (u1_1) ∧ (u1_1) ≤ (n2) ∧ (n2) ≤ 65536) (h3 : (n4) = (u3_1) ∧ (n5) = (u3_1) ∧ (n6) = (u3_1) ∧ (n7) = (u3_1) ∧ (n8) = (u3_1) ∧ (n9) = (n10) ∧ (n11) = (n10) ∧ 1 ≤ (u3_1) ∧ (u3_1) ≤ 64 ∧ (u3_1) = 12 ∧ (n10) = 64) (h4 : 2 ≤ (a2) ∧ (a2) ≤ 255) (h5 : 5 ≤ (a3) ∧ (a3) ≤ 6) (h6 : (n12) = 256 ∧ (n13) = 12) (h7 : WGB ((w12)) 11 (a2)) (h8 : WCN ((w12)) ((w13)) (a2)) (k : ∀ (σ : rS) (Dₚ Nₚ : Nat → Nat) (Fₚ : hF) (Aₚ : hA) (cₚ sₚ : Nat), HW V106_thisorderFivea σ Dₚ Nₚ Fₚ Aₚ → OUT (V106_thisorderFivea).length D N σE c s Dₚ Nₚ σ cₚ sₚ → SD [2] D Dₚ → SD [2] N Nₚ → SF [(1, 0), (1, 1), (1, 2), (1, 3), (1, 4), (3, 0)] F Fₚ → SA [2, 4, 5, 6, 7, 8, 9, 10, 11] A Aₚ → Fₚ 1 0 = (Dₚ 2 : Int) → ∀ m2 : Int, (Nₚ 2 : Int) = m2 → ∀ y1_1 : Int, Fₚ 1 1 = y1_1 → ∀ y1_4 : Int, Fₚ 1 4 = y1_4 → (0 ≤ (y1_1) ∧ (y1_1) ≤ (m2) ∧ (m2) ≤ 65536) → ((y1_4) = 0) → Q none σ cₚ sₚ) : Ew 106 (d + 2) 0 (rargs 0 [.ref (D 0), .ref (D 1), I a2, I a3]) [] σE c s Q := by
  have O := OUT_refl (n := (V106_thisorderFivea).length) (D := D) (N := N) (σ := σE) (c := c) (s := s)
  have HE := H
  have r1 : (-2147483648 : Int) ≤ u1_1 ∧ u1_1 ≤ 2147483647 := rngE (show (-2147483648 : Int) ≤ F 1 1 ∧ F 1 1 ≤ 2147483647 from H.krg 1 1 (ltn len_V106_thisorderFivea_oz_F5cls rfl)) (show F 1 1 = u1_1 from (eu1_1))
  have r2 : (-2147483648 : Int) ≤ u1_4 ∧ u1_4 ≤ 2147483647 := rngE (show (-2147483648 : Int) ≤ F 1 4 ∧ F 1 4 ≤ 2147483647 from H.krg 1 4 (ltn len_V106_thisorderFivea_oz_F5cls rfl)) (show F 1 4 = u1_4 from (eu1_4))
  have r3 : (-2147483648 : Int) ≤ u3_1 ∧ u3_1 ≤ 2147483647 := rngE (show (-2147483648 : Int) ≤ F 3 1 ∧ F 3 1 ≤ 2147483647 from H.krg 3 1 (ltn len_V106_thisorderFivea_oz_F5cls rfl)) (show F 3 1 = u3_1 from (eu3_1))
  have r4 : (0 : Int) ≤ n2 ∧ n2 ≤ 1000000 := nleE (H.nle 2 (ltn len_V106_thisorderFivea_oz_F5cls rfl)) (show (N 2 : Int) = n2 from en2)
  have r5 : (0 : Int) ≤ n4 ∧ n4 ≤ 1000000 := nleE (H.nle 4 (ltn len_V106_thisorderFivea_oz_F5cls rfl)) (show (N 4 : Int) = n4 from en4)
  have r6 : (0 : Int) ≤ n5 ∧ n5 ≤ 1000000 := nleE (H.nle 5 (ltn len_V106_thisorderFivea_oz_F5cls rfl)) (show (N 5 : Int) = n5 from en5)
  have r7 : (0 : Int) ≤ n6 ∧ n6 ≤ 1000000 := nleE (H.nle 6 (ltn len_V106_thisorderFivea_oz_F5cls rfl)) (show (N 6 : Int) = n6 from en6)
  have r8 : (0 : Int) ≤ n7 ∧ n7 ≤ 1000000 := nleE (H.nle 7 (ltn len_V106_thisorderFivea_oz_F5cls rfl)) (show (N 7 : Int) = n7 from en7)
  have r9 : (0 : Int) ≤ n8 ∧ n8 ≤ 1000000 := nleE (H.nle 8 (ltn len_V106_thisorderFivea_oz_F5cls rfl)) (show (N 8 : Int) = n8 from en8)
  have r10 : (0 : Int) ≤ n9 ∧ n9 ≤ 1000000 := nleE (H.nle 9 (ltn len_V106_thisorderFivea_oz_F5cls rfl)) (show (N 9 : Int) = n9 from en9)
  have r11 : (0 : Int) ≤ n10 ∧ n10 ≤ 1000000 := nleE (H.nle 10 (ltn len_V106_thisorderFivea_oz_F5cls rfl)) (show (N 10 : Int) = n10 from en10)
  have r12 : (0 : Int) ≤ n11 ∧ n11 ≤ 1000000 := nleE (H.nle 11 (ltn len_V106_thisorderFivea_oz_F5cls rfl)) (show (N 11 : Int) = n11 from en11)
  have r13 : (0 : Int) ≤ n12 ∧ n12 ≤ 1000000 := nleE (H.nle 12 (ltn len_V106_thisorderFivea_oz_F5cls rfl)) (show (N 12 : Int) = n12 from en12)
  have r14 : (0 : Int) ≤ n13 ∧ n13 ≤ 1000000 := nleE (H.nle 13 (ltn len_V106_thisorderFivea_oz_F5cls rfl)) (show (N 13 : Int) = n13 from en13)
  have hwg : WGB ((w12)) 11 (a2) := h7
  have hwc : WCN ((w12)) ((w13)) (a2) := h8
  have hp6 : p2 6 = 64 := by decide
  refine Ew_of (pcₚ := 1) (fun _ => x_aload_n rfl rfl) ?_
  have r15 : (0 : Int) ≤ F 1 2 ∧ F 1 2 ≤ 1 := H.krg 1 2 (ltn len_V106_thisorderFivea_oz_F5cls rfl)
  refine v_inv H (o := 1) rfl rfl rfl rfl rfl rfl (by rfl) (C156h (D := puc 1 D) (N := puc 1 N) (HW_subc H oz_F5cls_1 oz_F5cls_15) (u1_1) ((eu1_1)) (F 1 2) (rfl) (u1_4) ((eu1_4))  (fun σ16 F16ₚ A16ₚ Hₚ Oₚ hS16 hA16 y16_0_1 ey16_0_1 y16_0_2 ey16_0_2 y16_0_4 ey16_0_4 pz16_0 => ⟨rfl, ?_⟩))
  refine v_backc (c := c) (s := s) H oz_F5cls_1 oz_F5cls_15 Hₚ Oₚ (fun F16 A16 H Oₚ eF16 eA16 => ?_)
  have O := OUT_trans O Oₚ
  -- Row.clear
  have cF16 : SF oz_F5clsl_0 F F16 := SF_trans (SF_refl) (SF_gluc (ι := oz_F5clsl_3) oz_F5cls_15 hS16 eF16 (by decide +kernel)) (any_sub (lₚ := [(1, 1), (1, 2), (1, 3), (1, 4)]) (by decide +kernel))
  have mF16 := SFm_of cF16 oz_F5cls_12
  have cA16 : SA oz_F5clsl_1 A A16 := SA_trans (SA_refl) (SA_gluc (ι := oz_F5clsl_3) oz_F5cls_15 hA16 eA16 (by decide +kernel)) (any_subA (lₚ := []) (by decide +kernel))
  have mA16 := SAm_of cA16 oz_F5cls_13
  have r17 : (-2147483648 : Int) ≤ y16_0_1 ∧ y16_0_1 ≤ 2147483647 := rngE (show (-2147483648 : Int) ≤ F16 1 1 ∧ F16 1 1 ≤ 2147483647 from H.krg 1 1 (ltn len_V106_thisorderFivea_oz_F5cls rfl)) (show F16 1 1 = y16_0_1 from ((eF16 1 1).trans ey16_0_1))
  have r18 : (0 : Int) ≤ y16_0_2 ∧ y16_0_2 ≤ 1 := rngE (show (0 : Int) ≤ F16 1 2 ∧ F16 1 2 ≤ 1 from H.krg 1 2 (ltn len_V106_thisorderFivea_oz_F5cls rfl)) (show F16 1 2 = y16_0_2 from ((eF16 1 2).trans ey16_0_2))
  have r19 : (-2147483648 : Int) ≤ y16_0_4 ∧ y16_0_4 ≤ 2147483647 := rngE (show (-2147483648 : Int) ≤ F16 1 4 ∧ F16 1 4 ≤ 2147483647 from H.krg 1 4 (ltn len_V106_thisorderFivea_oz_F5cls rfl)) (show F16 1 4 = y16_0_4 from ((eF16 1 4).trans ey16_0_4))
  refine Ew_of (pcₚ := 5) (fun _ => x_aload_n rfl rfl) ?_
  refine Ew_of (pcₚ := 8) (fun _ => x_sipush (z := 128) rfl (by decide)) ?_
  refine Ew_of (pcₚ := 9) (fun _ => x_iload_n rfl rfl) ?_
  refine w_iadd rfl ?_
  refine v_inv H (o := 1) rfl rfl rfl rfl rfl rfl (by rfl) (C157 (D := puc 1025 D) (N := puc 1025 N) (HW_subc H oz_F5cls_2 oz_F5cls_16) ((((show F16 1 0 = F 1 0 from (eF16 1 0).trans (hS16 0 0 rfl)))).trans (pf2)) (n2) (en2) (y16_0_1) (((eF16 1 1).trans ey16_0_1)) (A 2) ((show A16 2 = A 2 from (eA16 2))) (show inr ((128 + a2)) from q_3429 h4) (show 0 ≤ (y16_0_1) ∧ (y16_0_1) ≤ (n2) ∧ (n2) ≤ 65536 from q_3428 h2 pz16_0 r4) (fun z20 σ20 D20ₚ N20ₚ F20ₚ A20ₚ c20 s20 Hₚ Oₚ hD20 hN20 hS20 hA20 pm20_1 m20_1 em20_1 w20_1 ew20_1 pz20_0 pz20_1 pz20_2 pz20_3 pz20_4 => ⟨rretB rfl pz20_0, ?_⟩))
  refine v_backMc (c := c) (s := s) H oz_F5cls_2 oz_F5cls_16 Hₚ Oₚ hD20 oz_F5cls_3 (fun D20 N20 F20 A20 H Oₚ eD20 eN20 eF20 eA20 => ?_)
  have O := OUT_trans O Oₚ
  -- Row.reserve
  have cF20 : SF oz_F5clsl_0 F F20 := SF_trans (cF16) (SF_gluc (ι := oz_F5clsl_4) oz_F5cls_16 hS20 eF20 (by decide +kernel)) (any_sub (lₚ := [(1, 0)]) (by decide +kernel))
  have mF20 := SFm_of cF20 oz_F5cls_12
  have cA20 : SA oz_F5clsl_1 A A20 := SA_trans (cA16) (SA_gluc (ι := oz_F5clsl_4) oz_F5cls_16 hA20 eA20 (by decide +kernel)) (any_subA (lₚ := [2]) (by decide +kernel))
  have mA20 := SAm_of cA20 oz_F5cls_13
  have cD20 : SD oz_F5clsl_2 D D20 := SD_trans (SD_refl) (SD_gluc (ι := oz_F5clsl_4) oz_F5cls_16 hD20 eD20 (by decide +kernel)) (any_subA (lₚ := [2]) (by decide +kernel))
  have mD20 := SDm_of cD20 oz_F5cls_14
  have cN20 : SD oz_F5clsl_2 N N20 := SD_trans (SD_refl) (SD_gluc (ι := oz_F5clsl_4) oz_F5cls_16 hN20 eN20 (by decide +kernel)) (any_subA (lₚ := [2]) (by decide +kernel))
  have mN20 := SDm_of cN20 oz_F5cls_14
  have pf20_1_0 : F20 1 0 = (D20 2 : Int) := (eF20 1 0).trans (pm20_1.trans (congrArg (fun q : Nat => (q : Int)) (eD20 2).symm))
  have r21 : (0 : Int) ≤ m20_1 ∧ m20_1 ≤ 1000000 := nleE (H.nle 2 (ltn len_V106_thisorderFivea_oz_F5cls rfl)) (show (N20 2 : Int) = m20_1 from (congrArg (fun q : Nat => (q : Int)) (eN20 2)).trans em20_1)
  refine Ew_of (pcₚ := 14) (fun _ => x_pop rfl rfl) ?_
  refine Ew_of (pcₚ := 15) (fun _ => x_aload_n rfl rfl) ?_
  refine Ew_stk (congrArg (fun qz : Nat => ([.ref qz] : List Value)) (show D20 0 = D 0 from mD20 0 rfl).symm) ?_
  refine v_g H (o := 0) (v := .ref (D20 3)) rfl rfl rfl rfl rfl (vrf ((mF20 0 6 rfl).trans ((pf3).trans (congrArg (fun q : Nat => (q : Int)) (mD20 3 rfl).symm)))) ?_
  refine Ew_of (pcₚ := 19) (fun _ => x_aload_n rfl rfl) ?_
  refine Ew_stk (congrArg (fun qz : Nat => ([.ref qz, .ref (D20 3)] : List Value)) (show D20 0 = D 0 from mD20 0 rfl).symm) ?_
  refine v_g H (o := 0) (v := .ref (D20 13)) rfl rfl rfl rfl rfl (vrf ((mF20 0 5 rfl).trans ((pf13).trans (congrArg (fun q : Nat => (q : Int)) (mD20 13 rfl).symm)))) ?_
  refine Ew_of (pcₚ := 23) (fun _ => x_iload_n rfl rfl) ?_
  refine Ew_of (pcₚ := 24) (fun _ => x_iload_n rfl rfl) ?_
  have hcn : CNT ((w13)) ((u3_1)) (a2) (a3) := by rw [show ((u3_1)) = 12 by omega]; exact WCN_CNT hwc hwg (by omega) (by omega) ⟨by omega, by omega⟩
  have r22 : (-2147483648 : Int) ≤ F 3 0 ∧ F 3 0 ≤ 2147483647 := rngE (show (-2147483648 : Int) ≤ F20 3 0 ∧ F20 3 0 ≤ 2147483647 from H.krg 3 0 (ltn len_V106_thisorderFivea_oz_F5cls rfl)) (show F20 3 0 = F 3 0 from (((show F20 3 0 = F16 3 0 from (eF20 3 0))).trans ((show F16 3 0 = F 3 0 from (eF16 3 0)))))
  refine v_inv H (o := 3) rfl rfl rfl rfl rfl rfl (by rfl) (C178_Ir (D := puc 1055235 D20) (N := puc 1055235 N20) (HW_subc H oz_F5cls_4 oz_F5cls_17) ((mF20 3 2 rfl).trans ((pf4).trans (congrArg (fun q : Nat => (q : Int)) (mD20 4 rfl).symm))) (n13) ((congrArg (fun q : Nat => (q : Int)) (mN20 13 rfl)).trans (en13)) (n4) ((congrArg (fun q : Nat => (q : Int)) (mN20 4 rfl)).trans (en4)) (F 3 0) ((((show F20 3 0 = F16 3 0 from (eF20 3 0))).trans ((show F16 3 0 = F 3 0 from (eF16 3 0))))) (u3_1) (((mF20 3 1 rfl).trans (eu3_1))) (w13) ((funext (mA20 13 rfl)).trans (ew13)) (A 4) (((show A20 4 = A16 4 from (eA20 4))).trans ((show A16 4 = A 4 from (eA16 4)))) (show inr (a2) from h0) (show inr (a3) from h1) (show CNT ((w13)) ((u3_1)) (a2) (a3) from hcn) (show ((u3_1)) ≤ (n13) ∧ (n4) = ((u3_1)) from q_3430 h3 h6) (fun σ23 F23ₚ A23ₚ Hₚ Oₚ hS23 hA23 y23_0_0 ey23_0_0 w23_2 ew23_2 pz23_0 pz23_1 pz23_2 => ⟨rfl, ?_⟩))
  refine v_backc (c := (c + c20)) (s := (s + s20)) H oz_F5cls_4 oz_F5cls_17 Hₚ Oₚ (fun F23 A23 H Oₚ eF23 eA23 => ?_)
  have O := OUT_trans O Oₚ
  -- Share.takeCounts
  have cF23 : SF oz_F5clsl_0 F F23 := SF_trans (cF20) (SF_gluc (ι := oz_F5clsl_5) oz_F5cls_17 hS23 eF23 (by decide +kernel)) (any_sub (lₚ := [(3, 0)]) (by decide +kernel))
  have mF23 := SFm_of cF23 oz_F5cls_12
  have cA23 : SA oz_F5clsl_1 A A23 := SA_trans (cA20) (SA_gluc (ι := oz_F5clsl_5) oz_F5cls_17 hA23 eA23 (by decide +kernel)) (any_subA (lₚ := [4]) (by decide +kernel))
  have mA23 := SAm_of cA23 oz_F5cls_13
  have r24 : (-2147483648 : Int) ≤ y23_0_0 ∧ y23_0_0 ≤ 2147483647 := rngE (show (-2147483648 : Int) ≤ F23 3 0 ∧ F23 3 0 ≤ 2147483647 from H.krg 3 0 (ltn len_V106_thisorderFivea_oz_F5cls rfl)) (show F23 3 0 = y23_0_0 from ((eF23 3 0).trans ey23_0_0))
  refine Ew_of (pcₚ := 28) (fun _ => x_aload_n rfl rfl) ?_
  refine Ew_stk (congrArg (fun qz : Nat => ([.ref qz] : List Value)) (show D20 0 = D 0 from mD20 0 rfl).symm) ?_
  refine v_g H (o := 0) (v := .ref (D20 3)) rfl rfl rfl rfl rfl (vrf ((mF23 0 6 rfl).trans ((pf3).trans (congrArg (fun q : Nat => (q : Int)) (mD20 3 rfl).symm)))) ?_
  have hpo : p2 ((y23_0_0)) ≤ p2 6 := p2_mono (by omega)
  have hdv := pz23_1
  refine v_inv H (o := 3) rfl rfl rfl rfl rfl rfl (by rfl) (C169 (D := puc 52038427443478050113539 D20) (N := puc 52038427443478050113539 N20) (HW_subc H oz_F5cls_5 oz_F5cls_18) ((mF23 3 2 rfl).trans ((pf4).trans (congrArg (fun q : Nat => (q : Int)) (mD20 4 rfl).symm))) ((mF23 3 3 rfl).trans ((pf5).trans (congrArg (fun q : Nat => (q : Int)) (mD20 5 rfl).symm))) ((mF23 3 4 rfl).trans ((pf6).trans (congrArg (fun q : Nat => (q : Int)) (mD20 6 rfl).symm))) ((mF23 3 5 rfl).trans ((pf7).trans (congrArg (fun q : Nat => (q : Int)) (mD20 7 rfl).symm))) ((mF23 3 6 rfl).trans ((pf8).trans (congrArg (fun q : Nat => (q : Int)) (mD20 8 rfl).symm))) ((mF23 3 8 rfl).trans ((pf9).trans (congrArg (fun q : Nat => (q : Int)) (mD20 9 rfl).symm))) ((mF23 3 7 rfl).trans ((pf10).trans (congrArg (fun q : Nat => (q : Int)) (mD20 10 rfl).symm))) ((mF23 3 9 rfl).trans ((pf11).trans (congrArg (fun q : Nat => (q : Int)) (mD20 11 rfl).symm))) (n4) ((congrArg (fun q : Nat => (q : Int)) (mN20 4 rfl)).trans (en4)) (n5) ((congrArg (fun q : Nat => (q : Int)) (mN20 5 rfl)).trans (en5)) (n6) ((congrArg (fun q : Nat => (q : Int)) (mN20 6 rfl)).trans (en6)) (n7) ((congrArg (fun q : Nat => (q : Int)) (mN20 7 rfl)).trans (en7)) (n8) ((congrArg (fun q : Nat => (q : Int)) (mN20 8 rfl)).trans (en8)) (n9) ((congrArg (fun q : Nat => (q : Int)) (mN20 9 rfl)).trans (en9)) (n10) ((congrArg (fun q : Nat => (q : Int)) (mN20 10 rfl)).trans (en10)) (n11) ((congrArg (fun q : Nat => (q : Int)) (mN20 11 rfl)).trans (en11)) (y23_0_0) (((eF23 3 0).trans ey23_0_0)) (u3_1) (((mF23 3 1 rfl).trans (eu3_1))) (w23_2) ((eA23 4).trans ew23_2) (A 5) (((show A23 5 = A20 5 from (eA23 5))).trans (((show A20 5 = A16 5 from (eA20 5))).trans ((show A16 5 = A 5 from (eA16 5))))) (A 6) (((show A23 6 = A20 6 from (eA23 6))).trans (((show A20 6 = A16 6 from (eA20 6))).trans ((show A16 6 = A 6 from (eA16 6))))) (A 7) (((show A23 7 = A20 7 from (eA23 7))).trans (((show A20 7 = A16 7 from (eA20 7))).trans ((show A16 7 = A 7 from (eA16 7))))) (A 9) (((show A23 9 = A20 9 from (eA23 9))).trans (((show A20 9 = A16 9 from (eA20 9))).trans ((show A16 9 = A 9 from (eA16 9))))) (A 10) (((show A23 10 = A20 10 from (eA23 10))).trans (((show A20 10 = A16 10 from (eA20 10))).trans ((show A16 10 = A 10 from (eA16 10))))) (A 11) (((show A23 11 = A20 11 from (eA23 11))).trans (((show A20 11 = A16 11 from (eA20 11))).trans ((show A16 11 = A 11 from (eA16 11))))) (show SHD ((w23_2)) ((u3_1)) ((y23_0_0)) from pz23_0) (show (n4) = (u3_1) ∧ (n5) = (u3_1) ∧ (n6) = (u3_1) ∧ (n7) = (u3_1) ∧ (n8) = (u3_1) ∧ (n9) = (n10) ∧ (n11) = (n10) ∧ p2 ((y23_0_0)) ≤ (n10) from q_3374 h3 hp6 hpo) (fun σ25 F25ₚ A25ₚ Hₚ Oₚ hS25 hA25 w25_2 ew25_2 w25_3 ew25_3 w25_4 ew25_4 w25_6 ew25_6 w25_7 ew25_7 w25_8 ew25_8 pz25_0 => ⟨rfl, ?_⟩))
  refine v_backc (c := (c + c20)) (s := (s + s20)) H oz_F5cls_5 oz_F5cls_18 Hₚ Oₚ (fun F25 A25 H Oₚ eF25 eA25 => ?_)
  have O := OUT_trans O Oₚ
  -- Share.lay
  have cF25 : SF oz_F5clsl_0 F F25 := SF_trans (cF23) (SF_gluc (ι := oz_F5clsl_6) oz_F5cls_18 hS25 eF25 (by decide +kernel)) (any_sub (lₚ := []) (by decide +kernel))
  have mF25 := SFm_of cF25 oz_F5cls_12
  have cA25 : SA oz_F5clsl_1 A A25 := SA_trans (cA23) (SA_gluc (ι := oz_F5clsl_6) oz_F5cls_18 hA25 eA25 (by decide +kernel)) (any_subA (lₚ := [5, 6, 7, 8, 9, 10, 11]) (by decide +kernel))
  have mA25 := SAm_of cA25 oz_F5cls_13
  refine Ew_of (pcₚ := 35) (fun _ => x_aload_n rfl rfl) ?_
  refine Ew_stk (congrArg (fun qz : Nat => ([.ref qz] : List Value)) (show D20 0 = D 0 from mD20 0 rfl).symm) ?_
  refine v_g H (o := 0) (v := .ref (D20 3)) rfl rfl rfl rfl rfl (vrf ((mF25 0 6 rfl).trans ((pf3).trans (congrArg (fun q : Nat => (q : Int)) (mD20 3 rfl).symm)))) ?_
  refine Ew_of (pcₚ := 39) (fun _ => x_aload_n rfl rfl) ?_
  refine Ew_stk (congrArg (fun qz : Nat => ([.ref qz, .ref (D20 3)] : List Value)) (show D20 1 = D 1 from mD20 1 rfl).symm) ?_
  refine v_inv H (o := 3) rfl rfl rfl rfl rfl rfl (by rfl) (C181_Row (D := puc 269484547 D20) (N := puc 269484547 N20) (HW_subc H oz_F5cls_6 oz_F5cls_19) ((mF25 3 2 rfl).trans ((pf4).trans (congrArg (fun q : Nat => (q : Int)) (mD20 4 rfl).symm))) (((((show F25 1 0 = F23 1 0 from (eF25 1 0))).trans ((show F23 1 0 = F20 1 0 from (eF23 1 0))))).trans (pf20_1_0)) (n4) ((congrArg (fun q : Nat => (q : Int)) (mN20 4 rfl)).trans (en4)) (m20_1) ((congrArg (fun q : Nat => (q : Int)) (eN20 2)).trans em20_1) (y23_0_0) ((((show F25 3 0 = F23 3 0 from (eF25 3 0).trans (hS25 0 0 rfl))).trans ((eF23 3 0).trans ey23_0_0))) (u3_1) (((mF25 3 1 rfl).trans (eu3_1))) (y16_0_1) ((((((show F25 1 1 = F23 1 1 from (eF25 1 1))).trans ((show F23 1 1 = F20 1 1 from (eF23 1 1)))).trans ((show F20 1 1 = F16 1 1 from (eF20 1 1).trans (hS20 0 1 rfl)))).trans ((eF16 1 1).trans ey16_0_1))) (y16_0_4) ((((((show F25 1 4 = F23 1 4 from (eF25 1 4))).trans ((show F23 1 4 = F20 1 4 from (eF23 1 4)))).trans ((show F20 1 4 = F16 1 4 from (eF20 1 4).trans (hS20 0 4 rfl)))).trans ((eF16 1 4).trans ey16_0_4))) (w23_2) (((show A25 4 = A23 4 from (eA25 4).trans (funext (hA25 1 rfl)))).trans ((eA23 4).trans ew23_2)) (show SHD ((w23_2)) ((u3_1)) ((y23_0_0)) from pz23_0) (show 5 ≤ ((y23_0_0)) from q_3433 h5 pz23_2) (show (n4) = ((u3_1)) from q_3432 h3) (show 0 ≤ (y16_0_1) ∧ (y16_0_1) ≤ (m20_1) ∧ (m20_1) ≤ 65536 from pz20_1) (show 0 ≤ (y16_0_4) ∧ (y16_0_4) ≤ 7 from q_3431 pz16_0) (fun σ26 F26ₚ A26ₚ Hₚ Oₚ hS26 hA26 y26_1_1 ey26_1_1 y26_1_4 ey26_1_4 pz26_0 pz26_1 pz26_2 => ⟨rfl, ?_⟩))
  refine v_backc (c := (c + c20)) (s := (s + s20)) H oz_F5cls_6 oz_F5cls_19 Hₚ Oₚ (fun F26 A26 H Oₚ eF26 eA26 => ?_)
  have O := OUT_trans O Oₚ
  -- Share.tell
  have cF26 : SF oz_F5clsl_0 F F26 := SF_trans (cF25) (SF_gluc (ι := oz_F5clsl_7) oz_F5cls_19 hS26 eF26 (by decide +kernel)) (any_sub (lₚ := [(1, 1), (1, 2), (1, 3), (1, 4)]) (by decide +kernel))
  have mF26 := SFm_of cF26 oz_F5cls_12
  have cA26 : SA oz_F5clsl_1 A A26 := SA_trans (cA25) (SA_gluc (ι := oz_F5clsl_7) oz_F5cls_19 hA26 eA26 (by decide +kernel)) (any_subA (lₚ := [2]) (by decide +kernel))
  have mA26 := SAm_of cA26 oz_F5cls_13
  have r27 : (-2147483648 : Int) ≤ y26_1_1 ∧ y26_1_1 ≤ 2147483647 := rngE (show (-2147483648 : Int) ≤ F26 1 1 ∧ F26 1 1 ≤ 2147483647 from H.krg 1 1 (ltn len_V106_thisorderFivea_oz_F5cls rfl)) (show F26 1 1 = y26_1_1 from ((eF26 1 1).trans ey26_1_1))
  have r28 : (-2147483648 : Int) ≤ y26_1_4 ∧ y26_1_4 ≤ 2147483647 := rngE (show (-2147483648 : Int) ≤ F26 1 4 ∧ F26 1 4 ≤ 2147483647 from H.krg 1 4 (ltn len_V106_thisorderFivea_oz_F5cls rfl)) (show F26 1 4 = y26_1_4 from ((eF26 1 4).trans ey26_1_4))
  refine Ew_of (pcₚ := 43) (fun _ => x_aload_n rfl rfl) ?_
  refine Ew_stk (congrArg (fun qz : Nat => ([.ref qz] : List Value)) (show D20 0 = D 0 from mD20 0 rfl).symm) ?_
  refine v_g H (o := 0) (v := .ref (D20 3)) rfl rfl rfl rfl rfl (vrf ((mF26 0 6 rfl).trans ((pf3).trans (congrArg (fun q : Nat => (q : Int)) (mD20 3 rfl).symm)))) ?_
  refine Ew_of (pcₚ := 47) (fun _ => x_aload_n rfl rfl) ?_
  refine Ew_stk (congrArg (fun qz : Nat => ([.ref qz, .ref (D20 3)] : List Value)) (show D20 0 = D 0 from mD20 0 rfl).symm) ?_
  refine v_g H (o := 0) (v := .ref (D20 12)) rfl rfl rfl rfl rfl (vrf ((mF26 0 4 rfl).trans ((pf12).trans (congrArg (fun q : Nat => (q : Int)) (mD20 12 rfl).symm)))) ?_
  refine Ew_of (pcₚ := 51) (fun _ => x_iload_n rfl rfl) ?_
  refine Ew_of (pcₚ := 52) (fun _ => x_iconst rfl) ?_
  refine w_isub rfl ?_
  refine v_lI H (o := 12) rfl rfl rfl rfl (n := n12) ((congrArg (fun q : Nat => (q : Int)) (mN20 12 rfl)).trans (en12)) (show 0 ≤ (a2 - 1) ∧ (a2 - 1) < n12 from q_3434 h4 h6 r13) (fun v29 ev29 qv29 => ?_)
  have ev29 : (w12) ((a2 - 1)) = v29 := (congrFun ((funext (mA26 12 rfl)).trans (ew12)) ((a2 - 1))).symm.trans ev29
  have hwax := hwg ((a2) - 1) (by omega) (by omega)
  have heax := ev29
  rw [heax] at hwax
  have hcpx := WCN_pos hwc (by omega) (by omega) heax (by omega) (by omega)
  have hdpx := hdv ((v29)) (by omega) (by omega)
  refine v_inv H (o := 3) rfl rfl rfl rfl rfl rfl (by rfl) (C174 (D := puc 37880551437274713425923 D20) (N := puc 37880551437274713425923 N20) (HW_subc H oz_F5cls_7 oz_F5cls_20) ((mF26 3 2 rfl).trans ((pf4).trans (congrArg (fun q : Nat => (q : Int)) (mD20 4 rfl).symm))) ((mF26 3 3 rfl).trans ((pf5).trans (congrArg (fun q : Nat => (q : Int)) (mD20 5 rfl).symm))) ((mF26 3 4 rfl).trans ((pf6).trans (congrArg (fun q : Nat => (q : Int)) (mD20 6 rfl).symm))) ((mF26 3 5 rfl).trans ((pf7).trans (congrArg (fun q : Nat => (q : Int)) (mD20 7 rfl).symm))) ((mF26 3 7 rfl).trans ((pf10).trans (congrArg (fun q : Nat => (q : Int)) (mD20 10 rfl).symm))) ((mF26 3 8 rfl).trans ((pf9).trans (congrArg (fun q : Nat => (q : Int)) (mD20 9 rfl).symm))) ((mF26 3 9 rfl).trans ((pf11).trans (congrArg (fun q : Nat => (q : Int)) (mD20 11 rfl).symm))) ((mF26 3 6 rfl).trans ((pf8).trans (congrArg (fun q : Nat => (q : Int)) (mD20 8 rfl).symm))) (n4) ((congrArg (fun q : Nat => (q : Int)) (mN20 4 rfl)).trans (en4)) (n5) ((congrArg (fun q : Nat => (q : Int)) (mN20 5 rfl)).trans (en5)) (n6) ((congrArg (fun q : Nat => (q : Int)) (mN20 6 rfl)).trans (en6)) (n7) ((congrArg (fun q : Nat => (q : Int)) (mN20 7 rfl)).trans (en7)) (n10) ((congrArg (fun q : Nat => (q : Int)) (mN20 10 rfl)).trans (en10)) (n9) ((congrArg (fun q : Nat => (q : Int)) (mN20 9 rfl)).trans (en9)) (n11) ((congrArg (fun q : Nat => (q : Int)) (mN20 11 rfl)).trans (en11)) (n8) ((congrArg (fun q : Nat => (q : Int)) (mN20 8 rfl)).trans (en8)) (y23_0_0) (((((show F26 3 0 = F25 3 0 from (eF26 3 0).trans (hS26 0 0 rfl))).trans ((show F25 3 0 = F23 3 0 from (eF25 3 0).trans (hS25 0 0 rfl)))).trans ((eF23 3 0).trans ey23_0_0))) (u3_1) (((mF26 3 1 rfl).trans (eu3_1))) (w23_2) (((show A26 4 = A25 4 from (eA26 4).trans (funext (hA26 2 rfl)))).trans (((show A25 4 = A23 4 from (eA25 4).trans (funext (hA25 1 rfl)))).trans ((eA23 4).trans ew23_2))) (w25_2) (((show A26 5 = A25 5 from (eA26 5))).trans ((eA25 5).trans ew25_2)) (w25_3) (((show A26 6 = A25 6 from (eA26 6))).trans ((eA25 6).trans ew25_3)) (w25_4) (((show A26 7 = A25 7 from (eA26 7))).trans ((eA25 7).trans ew25_4)) (w25_7) (((show A26 10 = A25 10 from (eA26 10))).trans ((eA25 10).trans ew25_7)) (w25_6) (((show A26 9 = A25 9 from (eA26 9))).trans ((eA25 9).trans ew25_6)) (w25_8) (((show A26 11 = A25 11 from (eA26 11))).trans ((eA25 11).trans ew25_8)) (show inr (v29) from qv29) (show SL ((w23_2)) ((u3_1)) ((y23_0_0)) ((w25_2)) ((w25_3)) ((w25_4)) ((w25_7)) ((w25_6)) ((w25_8)) from pz25_0) (show (n4) = (u3_1) ∧ (n5) = (u3_1) ∧ (n6) = (u3_1) ∧ (n7) = (u3_1) ∧ (n8) = (u3_1) ∧ (n9) = (n10) ∧ (n11) = (n10) ∧ p2 ((y23_0_0)) ≤ (n10) from q_3374 h3 hp6 hpo) (show 0 ≤ (v29) ∧ (v29) < ((u3_1)) ∧ ((w23_2)) (v29) ≠ 0 by omega) (fun z30 σ30 F30ₚ A30ₚ Hₚ Oₚ hS30 hA30 pz30_0 pz30_1 pz30_2 => ⟨rfl, ?_⟩))
  refine v_backc (c := (c + c20)) (s := (s + s20)) H oz_F5cls_7 oz_F5cls_20 Hₚ Oₚ (fun F30 A30 H Oₚ eF30 eA30 => ?_)
  have O := OUT_trans O Oₚ
  -- Share.lowestPlace
  have cF30 : SF oz_F5clsl_0 F F30 := SF_trans (cF26) (SF_gluc (ι := oz_F5clsl_8) oz_F5cls_20 hS30 eF30 (by decide +kernel)) (any_sub (lₚ := []) (by decide +kernel))
  have mF30 := SFm_of cF30 oz_F5cls_12
  have cA30 : SA oz_F5clsl_1 A A30 := SA_trans (cA26) (SA_gluc (ι := oz_F5clsl_8) oz_F5cls_20 hA30 eA30 (by decide +kernel)) (any_subA (lₚ := []) (by decide +kernel))
  have mA30 := SAm_of cA30 oz_F5cls_13
  refine Ew_of (pcₚ := 59) (fun _ => x_istore rfl) ?_
  refine Ew_of (pcₚ := 60) (fun _ => x_aload_n rfl (rk_o (rfl) rfl rfl)) ?_
  refine Ew_stk (congrArg (fun qz : Nat => ([.ref qz] : List Value)) (show D20 0 = D 0 from mD20 0 rfl).symm) ?_
  refine v_g H (o := 0) (v := .ref (D20 3)) rfl rfl rfl rfl rfl (vrf ((mF30 0 6 rfl).trans ((pf3).trans (congrArg (fun q : Nat => (q : Int)) (mD20 3 rfl).symm)))) ?_
  refine Ew_of (pcₚ := 64) (fun _ => x_aload_n rfl (rk_o (rfl) rfl rfl)) ?_
  refine Ew_stk (congrArg (fun qz : Nat => ([.ref qz, .ref (D20 3)] : List Value)) (show D20 0 = D 0 from mD20 0 rfl).symm) ?_
  refine v_g H (o := 0) (v := .ref (D20 12)) rfl rfl rfl rfl rfl (vrf ((mF30 0 4 rfl).trans ((pf12).trans (congrArg (fun q : Nat => (q : Int)) (mD20 12 rfl).symm)))) ?_
  refine Ew_of (pcₚ := 68) (fun _ => x_iload_n rfl (rk_o (rfl) rfl rfl)) ?_
  refine Ew_of (pcₚ := 69) (fun _ => x_iconst rfl) ?_
  refine w_isub rfl ?_
  refine v_lI H (o := 12) rfl rfl rfl rfl (n := n12) ((congrArg (fun q : Nat => (q : Int)) (mN20 12 rfl)).trans (en12)) (show 0 ≤ (a2 - 2) ∧ (a2 - 2) < n12 from q_3435 h4 h6 r13) (fun v31 ev31 qv31 => ?_)
  have ev31 : (w12) ((a2 - 2)) = v31 := (congrFun ((funext (mA30 12 rfl)).trans (ew12)) ((a2 - 2))).symm.trans ev31
  have hway := hwg ((a2) - 2) (by omega) (by omega)
  have heay := ev31
  rw [heay] at hway
  have hcpy := WCN_pos hwc (by omega) (by omega) heay (by omega) (by omega)
  have hdpy := hdv ((v31)) (by omega) (by omega)
  refine v_inv H (o := 3) rfl rfl rfl rfl rfl rfl (by rfl) (C174 (D := puc 37880551437274713425923 D20) (N := puc 37880551437274713425923 N20) (HW_subc H oz_F5cls_7 oz_F5cls_20) ((mF30 3 2 rfl).trans ((pf4).trans (congrArg (fun q : Nat => (q : Int)) (mD20 4 rfl).symm))) ((mF30 3 3 rfl).trans ((pf5).trans (congrArg (fun q : Nat => (q : Int)) (mD20 5 rfl).symm))) ((mF30 3 4 rfl).trans ((pf6).trans (congrArg (fun q : Nat => (q : Int)) (mD20 6 rfl).symm))) ((mF30 3 5 rfl).trans ((pf7).trans (congrArg (fun q : Nat => (q : Int)) (mD20 7 rfl).symm))) ((mF30 3 7 rfl).trans ((pf10).trans (congrArg (fun q : Nat => (q : Int)) (mD20 10 rfl).symm))) ((mF30 3 8 rfl).trans ((pf9).trans (congrArg (fun q : Nat => (q : Int)) (mD20 9 rfl).symm))) ((mF30 3 9 rfl).trans ((pf11).trans (congrArg (fun q : Nat => (q : Int)) (mD20 11 rfl).symm))) ((mF30 3 6 rfl).trans ((pf8).trans (congrArg (fun q : Nat => (q : Int)) (mD20 8 rfl).symm))) (n4) ((congrArg (fun q : Nat => (q : Int)) (mN20 4 rfl)).trans (en4)) (n5) ((congrArg (fun q : Nat => (q : Int)) (mN20 5 rfl)).trans (en5)) (n6) ((congrArg (fun q : Nat => (q : Int)) (mN20 6 rfl)).trans (en6)) (n7) ((congrArg (fun q : Nat => (q : Int)) (mN20 7 rfl)).trans (en7)) (n10) ((congrArg (fun q : Nat => (q : Int)) (mN20 10 rfl)).trans (en10)) (n9) ((congrArg (fun q : Nat => (q : Int)) (mN20 9 rfl)).trans (en9)) (n11) ((congrArg (fun q : Nat => (q : Int)) (mN20 11 rfl)).trans (en11)) (n8) ((congrArg (fun q : Nat => (q : Int)) (mN20 8 rfl)).trans (en8)) (y23_0_0) ((((((show F30 3 0 = F26 3 0 from (eF30 3 0).trans (hS30 0 0 rfl))).trans ((show F26 3 0 = F25 3 0 from (eF26 3 0).trans (hS26 0 0 rfl)))).trans ((show F25 3 0 = F23 3 0 from (eF25 3 0).trans (hS25 0 0 rfl)))).trans ((eF23 3 0).trans ey23_0_0))) (u3_1) (((mF30 3 1 rfl).trans (eu3_1))) (w23_2) (((show A30 4 = A26 4 from (eA30 4).trans (funext (hA30 1 rfl)))).trans (((show A26 4 = A25 4 from (eA26 4).trans (funext (hA26 2 rfl)))).trans (((show A25 4 = A23 4 from (eA25 4).trans (funext (hA25 1 rfl)))).trans ((eA23 4).trans ew23_2)))) (w25_2) (((show A30 5 = A26 5 from (eA30 5).trans (funext (hA30 2 rfl)))).trans (((show A26 5 = A25 5 from (eA26 5))).trans ((eA25 5).trans ew25_2))) (w25_3) (((show A30 6 = A26 6 from (eA30 6).trans (funext (hA30 3 rfl)))).trans (((show A26 6 = A25 6 from (eA26 6))).trans ((eA25 6).trans ew25_3))) (w25_4) (((show A30 7 = A26 7 from (eA30 7).trans (funext (hA30 4 rfl)))).trans (((show A26 7 = A25 7 from (eA26 7))).trans ((eA25 7).trans ew25_4))) (w25_7) (((show A30 10 = A26 10 from (eA30 10).trans (funext (hA30 5 rfl)))).trans (((show A26 10 = A25 10 from (eA26 10))).trans ((eA25 10).trans ew25_7))) (w25_6) (((show A30 9 = A26 9 from (eA30 9).trans (funext (hA30 6 rfl)))).trans (((show A26 9 = A25 9 from (eA26 9))).trans ((eA25 9).trans ew25_6))) (w25_8) (((show A30 11 = A26 11 from (eA30 11).trans (funext (hA30 7 rfl)))).trans (((show A26 11 = A25 11 from (eA26 11))).trans ((eA25 11).trans ew25_8))) (show inr (v31) from qv31) (show SL ((w23_2)) ((u3_1)) ((y23_0_0)) ((w25_2)) ((w25_3)) ((w25_4)) ((w25_7)) ((w25_6)) ((w25_8)) from pz25_0) (show (n4) = (u3_1) ∧ (n5) = (u3_1) ∧ (n6) = (u3_1) ∧ (n7) = (u3_1) ∧ (n8) = (u3_1) ∧ (n9) = (n10) ∧ (n11) = (n10) ∧ p2 ((y23_0_0)) ≤ (n10) from q_3374 h3 hp6 hpo) (show 0 ≤ (v31) ∧ (v31) < ((u3_1)) ∧ ((w23_2)) (v31) ≠ 0 by omega) (fun z32 σ32 F32ₚ A32ₚ Hₚ Oₚ hS32 hA32 pz32_0 pz32_1 pz32_2 => ⟨rfl, ?_⟩))
  refine v_backc (c := (c + c20)) (s := (s + s20)) H oz_F5cls_7 oz_F5cls_20 Hₚ Oₚ (fun F32 A32 H Oₚ eF32 eA32 => ?_)
  have O := OUT_trans O Oₚ
  -- Share.lowestPlace
  have cF32 : SF oz_F5clsl_0 F F32 := SF_trans (cF30) (SF_gluc (ι := oz_F5clsl_8) oz_F5cls_20 hS32 eF32 (by decide +kernel)) (any_sub (lₚ := []) (by decide +kernel))
  have mF32 := SFm_of cF32 oz_F5cls_12
  have cA32 : SA oz_F5clsl_1 A A32 := SA_trans (cA30) (SA_gluc (ι := oz_F5clsl_8) oz_F5cls_20 hA32 eA32 (by decide +kernel)) (any_subA (lₚ := []) (by decide +kernel))
  have mA32 := SAm_of cA32 oz_F5cls_13
  refine Ew_of (pcₚ := 76) (fun _ => x_istore rfl) ?_
  refine Ew_of (pcₚ := 77) (fun _ => x_iload_n rfl (rk_o (rk_o (rfl) rfl rfl) rfl rfl)) ?_
  refine Ew_of (pcₚ := 78) (fun _ => x_iconst rfl) ?_
  refine w_isub rfl ?_
  refine Ew_of (pcₚ := 81) (fun _ => x_istore rfl) ?_
  suffices hl81 : ∀ (m : Nat), ∀ (ls : rO) (σ : rS) (F_81 : hF) (A_81 : hA) (x81_4 : Int) (x81_5 : Int) (x81_6 : Int), rlook ls 0 = some (.ref (D20 0)) → rlook ls 1 = some (.ref (D20 1)) → rlook ls 3 = some (I (a3)) → rlook ls 4 = some (I (x81_4)) → rlook ls 5 = some (I (x81_5)) → rlook ls 6 = some (I (x81_6)) → HW V106_thisorderFivea σ D20 N20 F_81 A_81 → OUT (V106_thisorderFivea).length D N σE c s D20 N20 σ (c + c20) (s + s20) → SF [(1, 1), (1, 2), (1, 3), (1, 4)] F32 F_81 → SA [2] A32 A_81 → ∀ y81_1_1 : Int, F_81 1 1 = y81_1_1 → ∀ y81_1_4 : Int, F_81 1 4 = y81_1_4 → (inr (x81_4)) → (inr (x81_5)) → (inr (x81_6)) → ((x81_6) ≤ ((a2 - 3))) → (((a2 - 3)) ≤ (x81_6) ∨ ((-1)) ≤ (x81_6)) → (0 ≤ (x81_4) ∧ (x81_4) < p2 ((y23_0_0))) → (0 ≤ (x81_5) ∧ (x81_5) < p2 ((y23_0_0))) → (0 ≤ (y81_1_1) ∧ (y81_1_1) ≤ (m20_1) ∧ (m20_1) ≤ 65536) → (0 ≤ (y81_1_4) ∧ (y81_1_4) ≤ 7) → ((x81_6) - ((-1))).toNat = m → Ew 106 (d + 2) 81 ls [] σ (c + c20) (s + s20) Q from
    hl81 _ _ _ _ _ (z30) (z32) ((a2 - 3)) ((rk_o (rk_o (rk_o (rfl) rfl rfl) rfl rfl) rfl rfl).trans (congrArg (fun q : Nat => some (Value.ref q)) (mD20 0 rfl).symm)) ((rk_o (rk_o (rk_o (rfl) rfl rfl) rfl rfl) rfl rfl).trans (congrArg (fun q : Nat => some (Value.ref q)) (mD20 1 rfl).symm)) (rk_o (rk_o (rk_o (rfl) rfl rfl) rfl rfl) rfl rfl) (rk_o (rk_o (rk_s) rfl rfl) rfl rfl) (rk_o (rk_s) rfl rfl) (rk_s) H O (SF_refl) (SA_refl)   (y26_1_1) (((((show F32 1 1 = F30 1 1 from (eF32 1 1))).trans ((show F30 1 1 = F26 1 1 from (eF30 1 1)))).trans ((eF26 1 1).trans ey26_1_1))) (y26_1_4) (((((show F32 1 4 = F30 1 4 from (eF32 1 4))).trans ((show F30 1 4 = F26 1 4 from (eF30 1 4)))).trans ((eF26 1 4).trans ey26_1_4)))  (show inr (z30) from pz30_0) (show inr (z32) from pz32_0) (show inr ((a2 - 3)) from q_3439 h4) (show ((a2 - 3)) ≤ ((a2 - 3)) from q_3438) (show ((a2 - 3)) ≤ ((a2 - 3)) ∨ ((-1)) ≤ ((a2 - 3)) from q_3437) (show 0 ≤ (z30) ∧ (z30) < p2 ((y23_0_0)) from pz30_1) (show 0 ≤ (z32) ∧ (z32) < p2 ((y23_0_0)) from pz32_1) (show 0 ≤ (y26_1_1) ∧ (y26_1_1) ≤ (m20_1) ∧ (m20_1) ≤ 65536 from pz26_0) (show 0 ≤ (y26_1_4) ∧ (y26_1_4) ≤ 7 from q_3436 pz26_1) rfl
  as_aux_lemma =>
  intro m
  induction m using Nat.strongRecOn with
  | _ m ih81 =>
    intro ls σ F_81 A_81 x81_4 x81_5 x81_6 l81_0 l81_1 l81_3 l81_4 l81_5 l81_6 H O hS_81 hA_81   y81_1_1 ey81_1_1 y81_1_4 ey81_1_4  j81_0 j81_1 j81_2 j81_3 j81_4 j81_5 j81_6 j81_7 j81_8 hm81
    have cF_81 : SF oz_F5clsl_0 F F_81 := SF_trans (cF32) hS_81 (any_sub (by decide +kernel))
    have mF_81 := SFm_of cF_81 oz_F5cls_12
    have cA_81 : SA oz_F5clsl_1 A A_81 := SA_trans (cA32) hA_81 (any_subA (by decide +kernel))
    have mA_81 := SAm_of cA_81 oz_F5cls_13
    try clear pz20_2
    have r33 : (-2147483648 : Int) ≤ y81_1_1 ∧ y81_1_1 ≤ 2147483647 := rngE (show (-2147483648 : Int) ≤ F_81 1 1 ∧ F_81 1 1 ≤ 2147483647 from H.krg 1 1 (ltn len_V106_thisorderFivea_oz_F5cls rfl)) (show F_81 1 1 = y81_1_1 from (ey81_1_1))
    have r34 : (-2147483648 : Int) ≤ y81_1_4 ∧ y81_1_4 ≤ 2147483647 := rngE (show (-2147483648 : Int) ≤ F_81 1 4 ∧ F_81 1 4 ≤ 2147483647 from H.krg 1 4 (ltn len_V106_thisorderFivea_oz_F5cls rfl)) (show F_81 1 4 = y81_1_4 from (ey81_1_4))
    refine Ew_of (pcₚ := 83) (fun _ => x_iload rfl l81_6) ?_
    refine w_iflt (t := 146) rfl rfl (show inr (x81_6) from j81_2) (fun b35 => ?_) (fun b35 => ?_)
    · refine Ew_of (pcₚ := 147) (fun _ => x_aload_n rfl l81_1) ?_
      refine Ew_of (pcₚ := 149) (fun _ => x_iload rfl l81_4) ?_
      refine Ew_of (pcₚ := 150) (fun _ => x_iload_n rfl l81_3) ?_
      refine v_inv H (o := 1) rfl rfl rfl rfl rfl rfl (by rfl) (C164 (D := puc 1025 D20) (N := puc 1025 N20) (HW_subc H oz_F5cls_8 oz_F5cls_16) ((((((((hS_81 1 0 rfl).trans ((show F32 1 0 = F30 1 0 from (eF32 1 0)))).trans ((show F30 1 0 = F26 1 0 from (eF30 1 0)))).trans ((show F26 1 0 = F25 1 0 from (eF26 1 0).trans (hS26 1 0 rfl)))).trans ((show F25 1 0 = F23 1 0 from (eF25 1 0)))).trans ((show F23 1 0 = F20 1 0 from (eF23 1 0))))).trans (pf20_1_0)) (m20_1) ((congrArg (fun q : Nat => (q : Int)) (eN20 2)).trans em20_1) (y81_1_1) ((ey81_1_1)) (y81_1_4) ((ey81_1_4)) (show inr (x81_4) from j81_0) (show inr (a3) from h1) (show 0 ≤ (y81_1_1) ∧ (y81_1_1) ≤ (m20_1) ∧ (m20_1) ≤ 65536 from j81_7) (show 0 ≤ (a3) ∧ (a3) ≤ 31 from q_2207 h5) (show 0 ≤ (y81_1_4) ∧ (y81_1_4) ≤ 7 from j81_8) (fun σ36 F36ₚ A36ₚ Hₚ Oₚ hS36 hA36 y36_0_1 ey36_0_1 y36_0_4 ey36_0_4 pz36_0 pz36_1 pz36_2 => ⟨rfl, ?_⟩))
      refine v_backc (c := (c + c20)) (s := (s + s20)) H oz_F5cls_8 oz_F5cls_16 Hₚ Oₚ (fun F36 A36 H Oₚ eF36 eA36 => ?_)
      have O := OUT_trans O Oₚ
      -- Row.addBits
      have cF36 : SF oz_F5clsl_0 F F36 := SF_trans (cF_81) (SF_gluc (ι := oz_F5clsl_4) oz_F5cls_16 hS36 eF36 (by decide +kernel)) (any_sub (lₚ := [(1, 1), (1, 2), (1, 3), (1, 4)]) (by decide +kernel))
      have mF36 := SFm_of cF36 oz_F5cls_12
      have cA36 : SA oz_F5clsl_1 A A36 := SA_trans (cA_81) (SA_gluc (ι := oz_F5clsl_4) oz_F5cls_16 hA36 eA36 (by decide +kernel)) (any_subA (lₚ := [2]) (by decide +kernel))
      have mA36 := SAm_of cA36 oz_F5cls_13
      have r37 : (-2147483648 : Int) ≤ y36_0_1 ∧ y36_0_1 ≤ 2147483647 := rngE (show (-2147483648 : Int) ≤ F36 1 1 ∧ F36 1 1 ≤ 2147483647 from H.krg 1 1 (ltn len_V106_thisorderFivea_oz_F5cls rfl)) (show F36 1 1 = y36_0_1 from ((eF36 1 1).trans ey36_0_1))
      have r38 : (-2147483648 : Int) ≤ y36_0_4 ∧ y36_0_4 ≤ 2147483647 := rngE (show (-2147483648 : Int) ≤ F36 1 4 ∧ F36 1 4 ≤ 2147483647 from H.krg 1 4 (ltn len_V106_thisorderFivea_oz_F5cls rfl)) (show F36 1 4 = y36_0_4 from ((eF36 1 4).trans ey36_0_4))
      refine Ew_of (pcₚ := 154) (fun _ => x_aload_n rfl l81_1) ?_
      refine Ew_of (pcₚ := 156) (fun _ => x_iload rfl l81_5) ?_
      refine Ew_of (pcₚ := 157) (fun _ => x_iload_n rfl l81_3) ?_
      refine v_inv H (o := 1) rfl rfl rfl rfl rfl rfl (by rfl) (C164 (D := puc 1025 D20) (N := puc 1025 N20) (HW_subc H oz_F5cls_8 oz_F5cls_16) ((((((((((show F36 1 0 = F_81 1 0 from (eF36 1 0).trans (hS36 0 0 rfl))).trans (hS_81 1 0 rfl)).trans ((show F32 1 0 = F30 1 0 from (eF32 1 0)))).trans ((show F30 1 0 = F26 1 0 from (eF30 1 0)))).trans ((show F26 1 0 = F25 1 0 from (eF26 1 0).trans (hS26 1 0 rfl)))).trans ((show F25 1 0 = F23 1 0 from (eF25 1 0)))).trans ((show F23 1 0 = F20 1 0 from (eF23 1 0))))).trans (pf20_1_0)) (m20_1) ((congrArg (fun q : Nat => (q : Int)) (eN20 2)).trans em20_1) (y36_0_1) (((eF36 1 1).trans ey36_0_1)) (y36_0_4) (((eF36 1 4).trans ey36_0_4)) (show inr (x81_5) from j81_1) (show inr (a3) from h1) (show 0 ≤ (y36_0_1) ∧ (y36_0_1) ≤ (m20_1) ∧ (m20_1) ≤ 65536 from pz36_0) (show 0 ≤ (a3) ∧ (a3) ≤ 31 from q_2207 h5) (show 0 ≤ (y36_0_4) ∧ (y36_0_4) ≤ 7 from pz36_2) (fun σ39 F39ₚ A39ₚ Hₚ Oₚ hS39 hA39 y39_0_1 ey39_0_1 y39_0_4 ey39_0_4 pz39_0 pz39_1 pz39_2 => ⟨rfl, ?_⟩))
      refine v_backc (c := (c + c20)) (s := (s + s20)) H oz_F5cls_8 oz_F5cls_16 Hₚ Oₚ (fun F39 A39 H Oₚ eF39 eA39 => ?_)
      have O := OUT_trans O Oₚ
      -- Row.addBits
      have cF39 : SF oz_F5clsl_0 F F39 := SF_trans (cF36) (SF_gluc (ι := oz_F5clsl_4) oz_F5cls_16 hS39 eF39 (by decide +kernel)) (any_sub (lₚ := [(1, 1), (1, 2), (1, 3), (1, 4)]) (by decide +kernel))
      have mF39 := SFm_of cF39 oz_F5cls_12
      have cA39 : SA oz_F5clsl_1 A A39 := SA_trans (cA36) (SA_gluc (ι := oz_F5clsl_4) oz_F5cls_16 hA39 eA39 (by decide +kernel)) (any_subA (lₚ := [2]) (by decide +kernel))
      have mA39 := SAm_of cA39 oz_F5cls_13
      have r40 : (-2147483648 : Int) ≤ y39_0_1 ∧ y39_0_1 ≤ 2147483647 := rngE (show (-2147483648 : Int) ≤ F39 1 1 ∧ F39 1 1 ≤ 2147483647 from H.krg 1 1 (ltn len_V106_thisorderFivea_oz_F5cls rfl)) (show F39 1 1 = y39_0_1 from ((eF39 1 1).trans ey39_0_1))
      have r41 : (-2147483648 : Int) ≤ y39_0_4 ∧ y39_0_4 ≤ 2147483647 := rngE (show (-2147483648 : Int) ≤ F39 1 4 ∧ F39 1 4 ≤ 2147483647 from H.krg 1 4 (ltn len_V106_thisorderFivea_oz_F5cls rfl)) (show F39 1 4 = y39_0_4 from ((eF39 1 4).trans ey39_0_4))
      refine Ew_of (pcₚ := 161) (fun _ => x_aload_n rfl l81_1) ?_
      refine Ew_of (pcₚ := 162) (fun _ => x_iconst rfl) ?_
      refine Ew_of (pcₚ := 163) (fun _ => x_iconst rfl) ?_
      refine v_inv H (o := 1) rfl rfl rfl rfl rfl rfl (by rfl) (C164 (D := puc 1025 D20) (N := puc 1025 N20) (HW_subc H oz_F5cls_8 oz_F5cls_16) (((((((((((show F39 1 0 = F36 1 0 from (eF39 1 0).trans (hS39 0 0 rfl))).trans ((show F36 1 0 = F_81 1 0 from (eF36 1 0).trans (hS36 0 0 rfl)))).trans (hS_81 1 0 rfl)).trans ((show F32 1 0 = F30 1 0 from (eF32 1 0)))).trans ((show F30 1 0 = F26 1 0 from (eF30 1 0)))).trans ((show F26 1 0 = F25 1 0 from (eF26 1 0).trans (hS26 1 0 rfl)))).trans ((show F25 1 0 = F23 1 0 from (eF25 1 0)))).trans ((show F23 1 0 = F20 1 0 from (eF23 1 0))))).trans (pf20_1_0)) (m20_1) ((congrArg (fun q : Nat => (q : Int)) (eN20 2)).trans em20_1) (y39_0_1) (((eF39 1 1).trans ey39_0_1)) (y39_0_4) (((eF39 1 4).trans ey39_0_4)) (show inr (1) from q_23) (show inr (1) from q_23) (show 0 ≤ (y39_0_1) ∧ (y39_0_1) ≤ (m20_1) ∧ (m20_1) ≤ 65536 from pz39_0) (show 0 ≤ (1) ∧ (1) ≤ 31 from q_1911) (show 0 ≤ (y39_0_4) ∧ (y39_0_4) ≤ 7 from pz39_2) (fun σ42 F42ₚ A42ₚ Hₚ Oₚ hS42 hA42 y42_0_1 ey42_0_1 y42_0_4 ey42_0_4 pz42_0 pz42_1 pz42_2 => ⟨rfl, ?_⟩))
      refine v_backc (c := (c + c20)) (s := (s + s20)) H oz_F5cls_8 oz_F5cls_16 Hₚ Oₚ (fun F42 A42 H Oₚ eF42 eA42 => ?_)
      have O := OUT_trans O Oₚ
      -- Row.addBits
      have cF42 : SF oz_F5clsl_0 F F42 := SF_trans (cF39) (SF_gluc (ι := oz_F5clsl_4) oz_F5cls_16 hS42 eF42 (by decide +kernel)) (any_sub (lₚ := [(1, 1), (1, 2), (1, 3), (1, 4)]) (by decide +kernel))
      have mF42 := SFm_of cF42 oz_F5cls_12
      have cA42 : SA oz_F5clsl_1 A A42 := SA_trans (cA39) (SA_gluc (ι := oz_F5clsl_4) oz_F5cls_16 hA42 eA42 (by decide +kernel)) (any_subA (lₚ := [2]) (by decide +kernel))
      have mA42 := SAm_of cA42 oz_F5cls_13
      have r43 : (-2147483648 : Int) ≤ y42_0_1 ∧ y42_0_1 ≤ 2147483647 := rngE (show (-2147483648 : Int) ≤ F42 1 1 ∧ F42 1 1 ≤ 2147483647 from H.krg 1 1 (ltn len_V106_thisorderFivea_oz_F5cls rfl)) (show F42 1 1 = y42_0_1 from ((eF42 1 1).trans ey42_0_1))
      have r44 : (-2147483648 : Int) ≤ y42_0_4 ∧ y42_0_4 ≤ 2147483647 := rngE (show (-2147483648 : Int) ≤ F42 1 4 ∧ F42 1 4 ≤ 2147483647 from H.krg 1 4 (ltn len_V106_thisorderFivea_oz_F5cls rfl)) (show F42 1 4 = y42_0_4 from ((eF42 1 4).trans ey42_0_4))
      refine Ew_of (pcₚ := 167) (fun _ => x_aload_n rfl l81_1) ?_
      refine v_inv H (o := 1) rfl rfl rfl rfl rfl rfl (by rfl) (C165h (D := puc 1025 D20) (N := puc 1025 N20) (HW_subc H oz_F5cls_9 oz_F5cls_16) ((((((((((((show F42 1 0 = F39 1 0 from (eF42 1 0).trans (hS42 0 0 rfl))).trans ((show F39 1 0 = F36 1 0 from (eF39 1 0).trans (hS39 0 0 rfl)))).trans ((show F36 1 0 = F_81 1 0 from (eF36 1 0).trans (hS36 0 0 rfl)))).trans (hS_81 1 0 rfl)).trans ((show F32 1 0 = F30 1 0 from (eF32 1 0)))).trans ((show F30 1 0 = F26 1 0 from (eF30 1 0)))).trans ((show F26 1 0 = F25 1 0 from (eF26 1 0).trans (hS26 1 0 rfl)))).trans ((show F25 1 0 = F23 1 0 from (eF25 1 0)))).trans ((show F23 1 0 = F20 1 0 from (eF23 1 0))))).trans (pf20_1_0)) (m20_1) ((congrArg (fun q : Nat => (q : Int)) (eN20 2)).trans em20_1) (y42_0_1) (((eF42 1 1).trans ey42_0_1)) (y42_0_4) (((eF42 1 4).trans ey42_0_4)) (show 0 ≤ (y42_0_1) ∧ (y42_0_1) ≤ (m20_1) ∧ (m20_1) ≤ 65536 from pz42_0) (fun σ45 F45ₚ A45ₚ Hₚ Oₚ hS45 hA45 y45_0_1 ey45_0_1 y45_0_4 ey45_0_4 pz45_0 pz45_1 => ⟨rfl, ?_⟩))
      refine v_backc (c := (c + c20)) (s := (s + s20)) H oz_F5cls_9 oz_F5cls_16 Hₚ Oₚ (fun F45 A45 H Oₚ eF45 eA45 => ?_)
      have O := OUT_trans O Oₚ
      -- Row.endBits
      have cF45 : SF oz_F5clsl_0 F F45 := SF_trans (cF42) (SF_gluc (ι := oz_F5clsl_4) oz_F5cls_16 hS45 eF45 (by decide +kernel)) (any_sub (lₚ := [(1, 1), (1, 2), (1, 3), (1, 4)]) (by decide +kernel))
      have mF45 := SFm_of cF45 oz_F5cls_12
      have cA45 : SA oz_F5clsl_1 A A45 := SA_trans (cA42) (SA_gluc (ι := oz_F5clsl_4) oz_F5cls_16 hA45 eA45 (by decide +kernel)) (any_subA (lₚ := [2]) (by decide +kernel))
      have mA45 := SAm_of cA45 oz_F5cls_13
      have r46 : (-2147483648 : Int) ≤ y45_0_1 ∧ y45_0_1 ≤ 2147483647 := rngE (show (-2147483648 : Int) ≤ F45 1 1 ∧ F45 1 1 ≤ 2147483647 from H.krg 1 1 (ltn len_V106_thisorderFivea_oz_F5cls rfl)) (show F45 1 1 = y45_0_1 from ((eF45 1 1).trans ey45_0_1))
      have r47 : (-2147483648 : Int) ≤ y45_0_4 ∧ y45_0_4 ≤ 2147483647 := rngE (show (-2147483648 : Int) ≤ F45 1 4 ∧ F45 1 4 ≤ 2147483647 from H.krg 1 4 (ltn len_V106_thisorderFivea_oz_F5cls rfl)) (show F45 1 4 = y45_0_4 from ((eF45 1 4).trans ey45_0_4))
      exact w_ret rfl (k _ _ _ _ _ _ _ H O (cD20) (cN20) (cF45) (cA45) (((((((((((((show F45 1 0 = F42 1 0 from (eF45 1 0).trans (hS45 0 0 rfl))).trans ((show F42 1 0 = F39 1 0 from (eF42 1 0).trans (hS42 0 0 rfl)))).trans ((show F39 1 0 = F36 1 0 from (eF39 1 0).trans (hS39 0 0 rfl)))).trans ((show F36 1 0 = F_81 1 0 from (eF36 1 0).trans (hS36 0 0 rfl)))).trans (hS_81 1 0 rfl)).trans ((show F32 1 0 = F30 1 0 from (eF32 1 0)))).trans ((show F30 1 0 = F26 1 0 from (eF30 1 0)))).trans ((show F26 1 0 = F25 1 0 from (eF26 1 0).trans (hS26 1 0 rfl)))).trans ((show F25 1 0 = F23 1 0 from (eF25 1 0)))).trans ((show F23 1 0 = F20 1 0 from (eF23 1 0))))).trans (pf20_1_0)) (m20_1) ((congrArg (fun q : Nat => (q : Int)) (eN20 2)).trans em20_1) (y45_0_1) (((eF45 1 1).trans ey45_0_1)) (y45_0_4) (((eF45 1 4).trans ey45_0_4)) (show 0 ≤ (y45_0_1) ∧ (y45_0_1) ≤ (m20_1) ∧ (m20_1) ≤ 65536 from pz45_0) (show (y45_0_4) = 0 from q_3250 pz45_1))
    · refine Ew_of (pcₚ := 87) (fun _ => x_aload_n rfl l81_0) ?_
      refine v_g H (o := 0) (v := .ref (D20 3)) rfl rfl rfl rfl rfl (vrf ((mF_81 0 6 rfl).trans ((pf3).trans (congrArg (fun q : Nat => (q : Int)) (mD20 3 rfl).symm)))) ?_
      refine Ew_of (pcₚ := 92) (fun _ => x_iload rfl l81_4) ?_
      refine Ew_of (pcₚ := 93) (fun _ => x_aload_n rfl l81_0) ?_
      refine v_g H (o := 0) (v := .ref (D20 12)) rfl rfl rfl rfl rfl (vrf ((mF_81 0 4 rfl).trans ((pf12).trans (congrArg (fun q : Nat => (q : Int)) (mD20 12 rfl).symm)))) ?_
      refine Ew_of (pcₚ := 98) (fun _ => x_iload rfl l81_6) ?_
      refine v_lI H (o := 12) rfl rfl rfl rfl (n := n12) ((congrArg (fun q : Nat => (q : Int)) (mN20 12 rfl)).trans (en12)) (show 0 ≤ x81_6 ∧ x81_6 < n12 from q_3440 b35 h4 h6 j81_3 r13) (fun v48 ev48 qv48 => ?_)
      have ev48 : (w12) (x81_6) = v48 := (congrFun ((funext (mA_81 12 rfl)).trans (ew12)) (x81_6)).symm.trans ev48
      have hwaz := hwg ((x81_6)) (by omega) (by omega)
      have heaz := ev48
      rw [heaz] at hwaz
      have hcpz := WCN_pos hwc (by omega) (by omega) heaz (by omega) (by omega)
      have hdpz := hdv ((v48)) (by omega) (by omega)
      refine v_inv H (o := 3) rfl rfl rfl rfl rfl rfl (by rfl) (C175 (D := puc 37880551437274713425923 D20) (N := puc 37880551437274713425923 N20) (HW_subc H oz_F5cls_10 oz_F5cls_20) ((mF_81 3 2 rfl).trans ((pf4).trans (congrArg (fun q : Nat => (q : Int)) (mD20 4 rfl).symm))) ((mF_81 3 3 rfl).trans ((pf5).trans (congrArg (fun q : Nat => (q : Int)) (mD20 5 rfl).symm))) ((mF_81 3 4 rfl).trans ((pf6).trans (congrArg (fun q : Nat => (q : Int)) (mD20 6 rfl).symm))) ((mF_81 3 5 rfl).trans ((pf7).trans (congrArg (fun q : Nat => (q : Int)) (mD20 7 rfl).symm))) ((mF_81 3 7 rfl).trans ((pf10).trans (congrArg (fun q : Nat => (q : Int)) (mD20 10 rfl).symm))) ((mF_81 3 8 rfl).trans ((pf9).trans (congrArg (fun q : Nat => (q : Int)) (mD20 9 rfl).symm))) ((mF_81 3 9 rfl).trans ((pf11).trans (congrArg (fun q : Nat => (q : Int)) (mD20 11 rfl).symm))) ((mF_81 3 6 rfl).trans ((pf8).trans (congrArg (fun q : Nat => (q : Int)) (mD20 8 rfl).symm))) (n4) ((congrArg (fun q : Nat => (q : Int)) (mN20 4 rfl)).trans (en4)) (n5) ((congrArg (fun q : Nat => (q : Int)) (mN20 5 rfl)).trans (en5)) (n6) ((congrArg (fun q : Nat => (q : Int)) (mN20 6 rfl)).trans (en6)) (n7) ((congrArg (fun q : Nat => (q : Int)) (mN20 7 rfl)).trans (en7)) (n10) ((congrArg (fun q : Nat => (q : Int)) (mN20 10 rfl)).trans (en10)) (n9) ((congrArg (fun q : Nat => (q : Int)) (mN20 9 rfl)).trans (en9)) (n11) ((congrArg (fun q : Nat => (q : Int)) (mN20 11 rfl)).trans (en11)) (n8) ((congrArg (fun q : Nat => (q : Int)) (mN20 8 rfl)).trans (en8)) (y23_0_0) (((((((hS_81 3 0 rfl).trans ((show F32 3 0 = F30 3 0 from (eF32 3 0).trans (hS32 0 0 rfl)))).trans ((show F30 3 0 = F26 3 0 from (eF30 3 0).trans (hS30 0 0 rfl)))).trans ((show F26 3 0 = F25 3 0 from (eF26 3 0).trans (hS26 0 0 rfl)))).trans ((show F25 3 0 = F23 3 0 from (eF25 3 0).trans (hS25 0 0 rfl)))).trans ((eF23 3 0).trans ey23_0_0))) (u3_1) (((mF_81 3 1 rfl).trans (eu3_1))) (w23_2) ((funext (hA_81 4 rfl)).trans (((show A32 4 = A30 4 from (eA32 4).trans (funext (hA32 1 rfl)))).trans (((show A30 4 = A26 4 from (eA30 4).trans (funext (hA30 1 rfl)))).trans (((show A26 4 = A25 4 from (eA26 4).trans (funext (hA26 2 rfl)))).trans (((show A25 4 = A23 4 from (eA25 4).trans (funext (hA25 1 rfl)))).trans ((eA23 4).trans ew23_2)))))) (w25_2) ((funext (hA_81 5 rfl)).trans (((show A32 5 = A30 5 from (eA32 5).trans (funext (hA32 2 rfl)))).trans (((show A30 5 = A26 5 from (eA30 5).trans (funext (hA30 2 rfl)))).trans (((show A26 5 = A25 5 from (eA26 5))).trans ((eA25 5).trans ew25_2))))) (w25_3) ((funext (hA_81 6 rfl)).trans (((show A32 6 = A30 6 from (eA32 6).trans (funext (hA32 3 rfl)))).trans (((show A30 6 = A26 6 from (eA30 6).trans (funext (hA30 3 rfl)))).trans (((show A26 6 = A25 6 from (eA26 6))).trans ((eA25 6).trans ew25_3))))) (w25_4) ((funext (hA_81 7 rfl)).trans (((show A32 7 = A30 7 from (eA32 7).trans (funext (hA32 4 rfl)))).trans (((show A30 7 = A26 7 from (eA30 7).trans (funext (hA30 4 rfl)))).trans (((show A26 7 = A25 7 from (eA26 7))).trans ((eA25 7).trans ew25_4))))) (w25_7) ((funext (hA_81 10 rfl)).trans (((show A32 10 = A30 10 from (eA32 10).trans (funext (hA32 5 rfl)))).trans (((show A30 10 = A26 10 from (eA30 10).trans (funext (hA30 5 rfl)))).trans (((show A26 10 = A25 10 from (eA26 10))).trans ((eA25 10).trans ew25_7))))) (w25_6) ((funext (hA_81 9 rfl)).trans (((show A32 9 = A30 9 from (eA32 9).trans (funext (hA32 6 rfl)))).trans (((show A30 9 = A26 9 from (eA30 9).trans (funext (hA30 6 rfl)))).trans (((show A26 9 = A25 9 from (eA26 9))).trans ((eA25 9).trans ew25_6))))) (w25_8) ((funext (hA_81 11 rfl)).trans (((show A32 11 = A30 11 from (eA32 11).trans (funext (hA32 7 rfl)))).trans (((show A30 11 = A26 11 from (eA30 11).trans (funext (hA30 7 rfl)))).trans (((show A26 11 = A25 11 from (eA26 11))).trans ((eA25 11).trans ew25_8))))) (show inr (x81_4) from j81_0) (show inr (v48) from qv48) (show SL ((w23_2)) ((u3_1)) ((y23_0_0)) ((w25_2)) ((w25_3)) ((w25_4)) ((w25_7)) ((w25_6)) ((w25_8)) from pz25_0) (show (n4) = (u3_1) ∧ (n5) = (u3_1) ∧ (n6) = (u3_1) ∧ (n7) = (u3_1) ∧ (n8) = (u3_1) ∧ (n9) = (n10) ∧ (n11) = (n10) ∧ p2 ((y23_0_0)) ≤ (n10) from q_3374 h3 hp6 hpo) (show 0 ≤ (x81_4) ∧ (x81_4) < p2 ((y23_0_0)) from j81_5) (show 0 ≤ (v48) ∧ (v48) < ((u3_1)) ∧ ((w23_2)) (v48) ≠ 0 by omega) (fun z49 σ49 F49ₚ A49ₚ Hₚ Oₚ hS49 hA49 pz49_0 pz49_1 pz49_2 => ⟨rfl, ?_⟩))
      refine v_backc (c := (c + c20)) (s := (s + s20)) H oz_F5cls_10 oz_F5cls_20 Hₚ Oₚ (fun F49 A49 H Oₚ eF49 eA49 => ?_)
      have O := OUT_trans O Oₚ
      -- Share.bitsAhead
      have cF49 : SF oz_F5clsl_0 F F49 := SF_trans (cF_81) (SF_gluc (ι := oz_F5clsl_8) oz_F5cls_20 hS49 eF49 (by decide +kernel)) (any_sub (lₚ := []) (by decide +kernel))
      have mF49 := SFm_of cF49 oz_F5cls_12
      have cA49 : SA oz_F5clsl_1 A A49 := SA_trans (cA_81) (SA_gluc (ι := oz_F5clsl_8) oz_F5cls_20 hA49 eA49 (by decide +kernel)) (any_subA (lₚ := []) (by decide +kernel))
      have mA49 := SAm_of cA49 oz_F5cls_13
      refine Ew_of (pcₚ := 104) (fun _ => x_istore rfl) ?_
      refine Ew_of (pcₚ := 105) (fun _ => x_aload_n rfl (rk_o (l81_1) rfl rfl)) ?_
      refine Ew_of (pcₚ := 107) (fun _ => x_iload rfl (rk_o (l81_4) rfl rfl)) ?_
      refine Ew_of (pcₚ := 109) (fun _ => x_iload rfl rk_s) ?_
      refine v_inv H (o := 1) rfl rfl rfl rfl rfl rfl (by rfl) (C164 (D := puc 1025 D20) (N := puc 1025 N20) (HW_subc H oz_F5cls_8 oz_F5cls_16) ((((((((((show F49 1 0 = F_81 1 0 from (eF49 1 0))).trans (hS_81 1 0 rfl)).trans ((show F32 1 0 = F30 1 0 from (eF32 1 0)))).trans ((show F30 1 0 = F26 1 0 from (eF30 1 0)))).trans ((show F26 1 0 = F25 1 0 from (eF26 1 0).trans (hS26 1 0 rfl)))).trans ((show F25 1 0 = F23 1 0 from (eF25 1 0)))).trans ((show F23 1 0 = F20 1 0 from (eF23 1 0))))).trans (pf20_1_0)) (m20_1) ((congrArg (fun q : Nat => (q : Int)) (eN20 2)).trans em20_1) (y81_1_1) ((((show F49 1 1 = F_81 1 1 from (eF49 1 1))).trans (ey81_1_1))) (y81_1_4) ((((show F49 1 4 = F_81 1 4 from (eF49 1 4))).trans (ey81_1_4))) (show inr (x81_4) from j81_0) (show inr (z49) from pz49_0) (show 0 ≤ (y81_1_1) ∧ (y81_1_1) ≤ (m20_1) ∧ (m20_1) ≤ 65536 from j81_7) (show 0 ≤ (z49) ∧ (z49) ≤ 31 from q_3441 h5 pz23_2 pz49_2) (show 0 ≤ (y81_1_4) ∧ (y81_1_4) ≤ 7 from j81_8) (fun σ50 F50ₚ A50ₚ Hₚ Oₚ hS50 hA50 y50_0_1 ey50_0_1 y50_0_4 ey50_0_4 pz50_0 pz50_1 pz50_2 => ⟨rfl, ?_⟩))
      refine v_backc (c := (c + c20)) (s := (s + s20)) H oz_F5cls_8 oz_F5cls_16 Hₚ Oₚ (fun F50 A50 H Oₚ eF50 eA50 => ?_)
      have O := OUT_trans O Oₚ
      -- Row.addBits
      have cF50 : SF oz_F5clsl_0 F F50 := SF_trans (cF49) (SF_gluc (ι := oz_F5clsl_4) oz_F5cls_16 hS50 eF50 (by decide +kernel)) (any_sub (lₚ := [(1, 1), (1, 2), (1, 3), (1, 4)]) (by decide +kernel))
      have mF50 := SFm_of cF50 oz_F5cls_12
      have cA50 : SA oz_F5clsl_1 A A50 := SA_trans (cA49) (SA_gluc (ι := oz_F5clsl_4) oz_F5cls_16 hA50 eA50 (by decide +kernel)) (any_subA (lₚ := [2]) (by decide +kernel))
      have mA50 := SAm_of cA50 oz_F5cls_13
      have r51 : (-2147483648 : Int) ≤ y50_0_1 ∧ y50_0_1 ≤ 2147483647 := rngE (show (-2147483648 : Int) ≤ F50 1 1 ∧ F50 1 1 ≤ 2147483647 from H.krg 1 1 (ltn len_V106_thisorderFivea_oz_F5cls rfl)) (show F50 1 1 = y50_0_1 from ((eF50 1 1).trans ey50_0_1))
      have r52 : (-2147483648 : Int) ≤ y50_0_4 ∧ y50_0_4 ≤ 2147483647 := rngE (show (-2147483648 : Int) ≤ F50 1 4 ∧ F50 1 4 ≤ 2147483647 from H.krg 1 4 (ltn len_V106_thisorderFivea_oz_F5cls rfl)) (show F50 1 4 = y50_0_4 from ((eF50 1 4).trans ey50_0_4))
      refine Ew_of (pcₚ := 113) (fun _ => x_aload_n rfl (rk_o (l81_0) rfl rfl)) ?_
      refine v_g H (o := 0) (v := .ref (D20 3)) rfl rfl rfl rfl rfl (vrf ((mF50 0 6 rfl).trans ((pf3).trans (congrArg (fun q : Nat => (q : Int)) (mD20 3 rfl).symm)))) ?_
      refine Ew_of (pcₚ := 118) (fun _ => x_iload rfl (rk_o (l81_4) rfl rfl)) ?_
      refine Ew_of (pcₚ := 119) (fun _ => x_aload_n rfl (rk_o (l81_0) rfl rfl)) ?_
      refine v_g H (o := 0) (v := .ref (D20 12)) rfl rfl rfl rfl rfl (vrf ((mF50 0 4 rfl).trans ((pf12).trans (congrArg (fun q : Nat => (q : Int)) (mD20 12 rfl).symm)))) ?_
      refine Ew_of (pcₚ := 124) (fun _ => x_iload rfl (rk_o (l81_6) rfl rfl)) ?_
      refine v_lI H (o := 12) rfl rfl rfl rfl (n := n12) ((congrArg (fun q : Nat => (q : Int)) (mN20 12 rfl)).trans (en12)) (show 0 ≤ x81_6 ∧ x81_6 < n12 from q_3440 b35 h4 h6 j81_3 r13) (fun v53 ev53 qv53 => ?_)
      have ev53 : (w12) (x81_6) = v53 := (congrFun ((funext (mA50 12 rfl)).trans (ew12)) (x81_6)).symm.trans ev53
      have hwaw := hwg ((x81_6)) (by omega) (by omega)
      have heaw := ev53
      rw [heaw] at hwaw
      have hcpw := WCN_pos hwc (by omega) (by omega) heaw (by omega) (by omega)
      have hdpw := hdv ((v53)) (by omega) (by omega)
      refine Ew_of (pcₚ := 127) (fun _ => x_iload rfl rk_s) ?_
      have hbx : BA (mass (((w23_2)) ((v53)))) ((y23_0_0)) ((x81_4)) ((z49)) := by rw [← heaw, heaz]; exact pz49_1
      refine v_inv H (o := 3) rfl rfl rfl rfl rfl rfl (by rfl) (C176 (D := puc 37880551437274713425923 D20) (N := puc 37880551437274713425923 N20) (HW_subc H oz_F5cls_11 oz_F5cls_20) ((mF50 3 2 rfl).trans ((pf4).trans (congrArg (fun q : Nat => (q : Int)) (mD20 4 rfl).symm))) ((mF50 3 3 rfl).trans ((pf5).trans (congrArg (fun q : Nat => (q : Int)) (mD20 5 rfl).symm))) ((mF50 3 4 rfl).trans ((pf6).trans (congrArg (fun q : Nat => (q : Int)) (mD20 6 rfl).symm))) ((mF50 3 5 rfl).trans ((pf7).trans (congrArg (fun q : Nat => (q : Int)) (mD20 7 rfl).symm))) ((mF50 3 7 rfl).trans ((pf10).trans (congrArg (fun q : Nat => (q : Int)) (mD20 10 rfl).symm))) ((mF50 3 8 rfl).trans ((pf9).trans (congrArg (fun q : Nat => (q : Int)) (mD20 9 rfl).symm))) ((mF50 3 9 rfl).trans ((pf11).trans (congrArg (fun q : Nat => (q : Int)) (mD20 11 rfl).symm))) ((mF50 3 6 rfl).trans ((pf8).trans (congrArg (fun q : Nat => (q : Int)) (mD20 8 rfl).symm))) (n4) ((congrArg (fun q : Nat => (q : Int)) (mN20 4 rfl)).trans (en4)) (n5) ((congrArg (fun q : Nat => (q : Int)) (mN20 5 rfl)).trans (en5)) (n6) ((congrArg (fun q : Nat => (q : Int)) (mN20 6 rfl)).trans (en6)) (n7) ((congrArg (fun q : Nat => (q : Int)) (mN20 7 rfl)).trans (en7)) (n10) ((congrArg (fun q : Nat => (q : Int)) (mN20 10 rfl)).trans (en10)) (n9) ((congrArg (fun q : Nat => (q : Int)) (mN20 9 rfl)).trans (en9)) (n11) ((congrArg (fun q : Nat => (q : Int)) (mN20 11 rfl)).trans (en11)) (n8) ((congrArg (fun q : Nat => (q : Int)) (mN20 8 rfl)).trans (en8)) (y23_0_0) ((((((((((show F50 3 0 = F49 3 0 from (eF50 3 0))).trans ((show F49 3 0 = F_81 3 0 from (eF49 3 0).trans (hS49 0 0 rfl)))).trans (hS_81 3 0 rfl)).trans ((show F32 3 0 = F30 3 0 from (eF32 3 0).trans (hS32 0 0 rfl)))).trans ((show F30 3 0 = F26 3 0 from (eF30 3 0).trans (hS30 0 0 rfl)))).trans ((show F26 3 0 = F25 3 0 from (eF26 3 0).trans (hS26 0 0 rfl)))).trans ((show F25 3 0 = F23 3 0 from (eF25 3 0).trans (hS25 0 0 rfl)))).trans ((eF23 3 0).trans ey23_0_0))) (u3_1) (((mF50 3 1 rfl).trans (eu3_1))) (w23_2) (((show A50 4 = A49 4 from (eA50 4))).trans (((show A49 4 = A_81 4 from (eA49 4).trans (funext (hA49 1 rfl)))).trans ((funext (hA_81 4 rfl)).trans (((show A32 4 = A30 4 from (eA32 4).trans (funext (hA32 1 rfl)))).trans (((show A30 4 = A26 4 from (eA30 4).trans (funext (hA30 1 rfl)))).trans (((show A26 4 = A25 4 from (eA26 4).trans (funext (hA26 2 rfl)))).trans (((show A25 4 = A23 4 from (eA25 4).trans (funext (hA25 1 rfl)))).trans ((eA23 4).trans ew23_2)))))))) (w25_2) (((show A50 5 = A49 5 from (eA50 5))).trans (((show A49 5 = A_81 5 from (eA49 5).trans (funext (hA49 2 rfl)))).trans ((funext (hA_81 5 rfl)).trans (((show A32 5 = A30 5 from (eA32 5).trans (funext (hA32 2 rfl)))).trans (((show A30 5 = A26 5 from (eA30 5).trans (funext (hA30 2 rfl)))).trans (((show A26 5 = A25 5 from (eA26 5))).trans ((eA25 5).trans ew25_2))))))) (w25_3) (((show A50 6 = A49 6 from (eA50 6))).trans (((show A49 6 = A_81 6 from (eA49 6).trans (funext (hA49 3 rfl)))).trans ((funext (hA_81 6 rfl)).trans (((show A32 6 = A30 6 from (eA32 6).trans (funext (hA32 3 rfl)))).trans (((show A30 6 = A26 6 from (eA30 6).trans (funext (hA30 3 rfl)))).trans (((show A26 6 = A25 6 from (eA26 6))).trans ((eA25 6).trans ew25_3))))))) (w25_4) (((show A50 7 = A49 7 from (eA50 7))).trans (((show A49 7 = A_81 7 from (eA49 7).trans (funext (hA49 4 rfl)))).trans ((funext (hA_81 7 rfl)).trans (((show A32 7 = A30 7 from (eA32 7).trans (funext (hA32 4 rfl)))).trans (((show A30 7 = A26 7 from (eA30 7).trans (funext (hA30 4 rfl)))).trans (((show A26 7 = A25 7 from (eA26 7))).trans ((eA25 7).trans ew25_4))))))) (w25_7) (((show A50 10 = A49 10 from (eA50 10))).trans (((show A49 10 = A_81 10 from (eA49 10).trans (funext (hA49 5 rfl)))).trans ((funext (hA_81 10 rfl)).trans (((show A32 10 = A30 10 from (eA32 10).trans (funext (hA32 5 rfl)))).trans (((show A30 10 = A26 10 from (eA30 10).trans (funext (hA30 5 rfl)))).trans (((show A26 10 = A25 10 from (eA26 10))).trans ((eA25 10).trans ew25_7))))))) (w25_6) (((show A50 9 = A49 9 from (eA50 9))).trans (((show A49 9 = A_81 9 from (eA49 9).trans (funext (hA49 6 rfl)))).trans ((funext (hA_81 9 rfl)).trans (((show A32 9 = A30 9 from (eA32 9).trans (funext (hA32 6 rfl)))).trans (((show A30 9 = A26 9 from (eA30 9).trans (funext (hA30 6 rfl)))).trans (((show A26 9 = A25 9 from (eA26 9))).trans ((eA25 9).trans ew25_6))))))) (w25_8) (((show A50 11 = A49 11 from (eA50 11))).trans (((show A49 11 = A_81 11 from (eA49 11).trans (funext (hA49 7 rfl)))).trans ((funext (hA_81 11 rfl)).trans (((show A32 11 = A30 11 from (eA32 11).trans (funext (hA32 7 rfl)))).trans (((show A30 11 = A26 11 from (eA30 11).trans (funext (hA30 7 rfl)))).trans (((show A26 11 = A25 11 from (eA26 11))).trans ((eA25 11).trans ew25_8))))))) (show inr (x81_4) from j81_0) (show inr (v53) from qv53) (show inr (z49) from pz49_0) (show SL ((w23_2)) ((u3_1)) ((y23_0_0)) ((w25_2)) ((w25_3)) ((w25_4)) ((w25_7)) ((w25_6)) ((w25_8)) from pz25_0) (show (n4) = (u3_1) ∧ (n5) = (u3_1) ∧ (n6) = (u3_1) ∧ (n7) = (u3_1) ∧ (n8) = (u3_1) ∧ (n9) = (n10) ∧ (n11) = (n10) ∧ p2 ((y23_0_0)) ≤ (n10) from q_3374 h3 hp6 hpo) (show 0 ≤ (x81_4) ∧ (x81_4) < p2 ((y23_0_0)) from j81_5) (show 0 ≤ (v53) ∧ (v53) < ((u3_1)) ∧ ((w23_2)) (v53) ≠ 0 by omega) (show BA (mass (((w23_2)) (v53))) ((y23_0_0)) (x81_4) (z49) from hbx) (fun z54 σ54 F54ₚ A54ₚ Hₚ Oₚ hS54 hA54 pz54_0 pz54_1 pz54_2 => ⟨rfl, ?_⟩))
      refine v_backc (c := (c + c20)) (s := (s + s20)) H oz_F5cls_11 oz_F5cls_20 Hₚ Oₚ (fun F54 A54 H Oₚ eF54 eA54 => ?_)
      have O := OUT_trans O Oₚ
      -- Share.placeAhead
      have cF54 : SF oz_F5clsl_0 F F54 := SF_trans (cF50) (SF_gluc (ι := oz_F5clsl_8) oz_F5cls_20 hS54 eF54 (by decide +kernel)) (any_sub (lₚ := []) (by decide +kernel))
      have mF54 := SFm_of cF54 oz_F5cls_12
      have cA54 : SA oz_F5clsl_1 A A54 := SA_trans (cA50) (SA_gluc (ι := oz_F5clsl_8) oz_F5cls_20 hA54 eA54 (by decide +kernel)) (any_subA (lₚ := []) (by decide +kernel))
      have mA54 := SAm_of cA54 oz_F5cls_13
      refine Ew_of (pcₚ := 132) (fun _ => x_istore rfl) ?_
      refine Ew_of (pcₚ := 134) (fun _ => x_iload rfl (rk_o (rk_o (l81_5) rfl rfl) rfl rfl)) ?_
      refine Ew_of (pcₚ := 136) (fun _ => x_istore rfl) ?_
      refine Ew_of (pcₚ := 138) (fun _ => x_iload rfl (rk_o (rk_s) rfl rfl)) ?_
      refine Ew_of (pcₚ := 140) (fun _ => x_istore rfl) ?_
      refine Ew_of (pcₚ := 143) (fun _ => x_iinc (len := 3) rfl (rk_o (rk_o (rk_o (rk_o (l81_6) rfl rfl) rfl rfl) rfl rfl) rfl rfl)) ?_
      refine Ew_of (pcₚ := 81) (fun _ => x_goto rfl rfl) ?_
      exact ih81 _ (msE hm81 q_176 (q_177 b35)) _ _ _ _ (x81_5) (z54) ((x81_6 + (-1))) (rk_o (rk_o (rk_o (rk_o (rk_o (l81_0) rfl rfl) rfl rfl) rfl rfl) rfl rfl) rfl rfl) (rk_o (rk_o (rk_o (rk_o (rk_o (l81_1) rfl rfl) rfl rfl) rfl rfl) rfl rfl) rfl rfl) (rk_o (rk_o (rk_o (rk_o (rk_o (l81_3) rfl rfl) rfl rfl) rfl rfl) rfl rfl) rfl rfl) (rk_o (rk_o (rk_s) rfl rfl) rfl rfl) (rk_o (rk_s) rfl rfl) (rk_s) H O (SF_trans (SF_trans (SF_trans (hS_81) (SF_gluc (ι := oz_F5clsl_8) oz_F5cls_20 hS49 eF49 (by decide +kernel)) (any_sub (lₚ := []) (by decide +kernel))) (SF_gluc (ι := oz_F5clsl_4) oz_F5cls_16 hS50 eF50 (by decide +kernel)) (any_sub (lₚ := [(1, 1), (1, 2), (1, 3), (1, 4)]) (by decide +kernel))) (SF_gluc (ι := oz_F5clsl_8) oz_F5cls_20 hS54 eF54 (by decide +kernel)) (any_sub (lₚ := []) (by decide +kernel))) (SA_trans (SA_trans (SA_trans (hA_81) (SA_gluc (ι := oz_F5clsl_8) oz_F5cls_20 hA49 eA49 (by decide +kernel)) (any_subA (lₚ := []) (by decide +kernel))) (SA_gluc (ι := oz_F5clsl_4) oz_F5cls_16 hA50 eA50 (by decide +kernel)) (any_subA (lₚ := [2]) (by decide +kernel))) (SA_gluc (ι := oz_F5clsl_8) oz_F5cls_20 hA54 eA54 (by decide +kernel)) (any_subA (lₚ := []) (by decide +kernel)))   (y50_0_1) ((((show F54 1 1 = F50 1 1 from (eF54 1 1))).trans ((eF50 1 1).trans ey50_0_1))) (y50_0_4) ((((show F54 1 4 = F50 1 4 from (eF54 1 4))).trans ((eF50 1 4).trans ey50_0_4)))  (show inr (x81_5) from j81_1) (show inr (z54) from pz54_0) (show inr ((x81_6 + (-1))) from q_175 b35 j81_2) (show ((x81_6 + (-1))) ≤ ((a2 - 3)) from q_3443 j81_3) (show ((a2 - 3)) ≤ ((x81_6 + (-1))) ∨ ((-1)) ≤ ((x81_6 + (-1))) from q_3442 b35) (show 0 ≤ (x81_5) ∧ (x81_5) < p2 ((y23_0_0)) from j81_6) (show 0 ≤ (z54) ∧ (z54) < p2 ((y23_0_0)) from pz54_1) (show 0 ≤ (y50_0_1) ∧ (y50_0_1) ≤ (m20_1) ∧ (m20_1) ≤ 65536 from pz50_0) (show 0 ≤ (y50_0_4) ∧ (y50_0_4) ≤ 7 from pz50_2) rfl
abbrev V106_thisorderSixa : vV := [(0, 3, [(4, 0), (4, 0), (4, 0), (0, 0), (4, 0), (4, 0), (4, 0), (4, 0), (4, 0), (4, 0), (4, 0), (4, 0), (4, 0), (0, 0), (0, 0), (0, 0), (0, 0)]), (0, 7, [(4, 0), (0, 0), (1, 0), (0, 0), (0, 0)]), (1, 0, []), (0, 8, [(0, 0), (0, 0), (4, 0), (4, 0), (4, 0), (4, 0), (4, 0), (4, 0), (4, 0), (4, 0), (4, 0), (0, 0), (0, 0)]), (1, 1, []), (1, 1, []), (1, 1, []), (1, 1, []), (1, 1, []), (1, 1, []), (1, 1, []), (1, 1, []), (1, 1, []), (1, 1, [])]
theorem len_V106_thisorderSixa_oz_F5cls : (V106_thisorderSixa).length = 14 := by decide +kernel
theorem oz_F5cls_22 : vsub V106_thisorderSixa V156 [1] = true := by decide +kernel
theorem oz_F5cls_23 : vsub V106_thisorderSixa V157 [1, 2] = true := by decide +kernel
theorem oz_F5cls_24 : vmov V106_thisorderSixa [1, 2] [1] = true := by decide +kernel
theorem oz_F5cls_25 : vsub V106_thisorderSixa V178_Ir [3, 13, 4] = true := by decide +kernel
theorem oz_F5cls_26 : vsub V106_thisorderSixa V169 [3, 4, 5, 6, 7, 8, 9, 10, 11] = true := by decide +kernel
theorem oz_F5cls_27 : vsub V106_thisorderSixa V181_Row [3, 1, 4, 2] = true := by decide +kernel
theorem oz_F5cls_28 : vsub V106_thisorderSixa V174 [3, 4, 5, 6, 7, 10, 9, 11, 8] = true := by decide +kernel
theorem oz_F5cls_29 : vsub V106_thisorderSixa V164 [1, 2] = true := by decide +kernel
theorem oz_F5cls_30 : vsub V106_thisorderSixa V165 [1, 2] = true := by decide +kernel
theorem oz_F5cls_31 : vsub V106_thisorderSixa V175 [3, 4, 5, 6, 7, 10, 9, 11, 8] = true := by decide +kernel
theorem oz_F5cls_32 : vsub V106_thisorderSixa V176 [3, 4, 5, 6, 7, 10, 9, 11, 8] = true := by decide +kernel
set_option maxHeartbeats 16000000 in
/-- Codes.describeByStates: this, this.orderSix, this.orderSix.bytes, this.weightShare, this.weightShare.points, this.weightShare.masses, this.weightShare.mostBits, this.weightShare.starts, this.weightShare.used, this.weightShare.numberAt, this.weightShare.symbolAt, this.weightShare.placeOf, this.weights, this.weightCounts -/
theorem C106_thisorderSixa {σE : rS} {D N : Nat → Nat} {F : hF} {A : hA} {d c s : Nat} {Q : wQ} (H : HW V106_thisorderSixa σE D N F A) {a2 a3 : Int} (pf1 : F 0 8 = (D 1 : Int)) (pf2 : F 1 0 = (D 2 : Int)) (pf3 : F 0 6 = (D 3 : Int)) (pf4 : F 3 2 = (D 4 : Int)) (pf5 : F 3 3 = (D 5 : Int)) (pf6 : F 3 4 = (D 6 : Int)) (pf7 : F 3 5 = (D 7 : Int)) (pf8 : F 3 6 = (D 8 : Int)) (pf9 : F 3 8 = (D 9 : Int)) (pf10 : F 3 7 = (D 10 : Int)) (pf11 : F 3 9 = (D 11 : Int)) (pf12 : F 0 4 = (D 12 : Int)) (pf13 : F 0 5 = (D 13 : Int)) (n2 : Int) (en2 : (N 2 : Int) = n2) (n4 : Int) (en4 : (N 4 : Int) = n4) (n5 : Int) (en5 : (N 5 : Int) = n5) (n6 : Int) (en6 : (N 6 : Int) = n6) (n7 : Int) (en7 : (N 7 : Int) = n7) (n8 : Int) (en8 : (N 8 : Int) = n8) (n9 : Int) (en9 : (N 9 : Int) = n9) (n10 : Int) (en10 : (N 10 : Int) = n10) (n11 : Int) (en11 : (N 11 : Int) = n11) (n12 : Int) (en12 : (N 12 : Int) = n12) (n13 : Int) (en13 : (N 13 : Int) = n13) (u1_1 : Int) (eu1_1 : F 1 1 = u1_1) (u1_4 : Int) (eu1_4 : F 1 4 = u1_4) (u3_1 : Int) (eu3_1 : F 3 1 = u3_1) (w12 : Int → Int) (ew12 : A 12 = w12) (w13 : Int → Int) (ew13 : A 13 = w13) (h0 : inr (a2)) (h1 : inr (a3)) (h2 : 0 ≤ (u1_1) ∧ (u1_1) ≤ (n2) ∧ (n2) ≤ 65536) (h3 : (n4) = (u3_1) ∧ (n5) = (u3_1) ∧ (n6) = (u3_1) ∧ (n7) = (u3_1) ∧ (n8) = (u3_1) ∧ (n9) = (n10) ∧ (n11) = (n10) ∧ 1 ≤ (u3_1) ∧ (u3_1) ≤ 64 ∧ (u3_1) = 12 ∧ (n10) = 64) (h4 : 2 ≤ (a2) ∧ (a2) ≤ 255) (h5 : 5 ≤ (a3) ∧ (a3) ≤ 6) (h6 : (n12) = 256 ∧ (n13) = 12) (h7 : WGB ((w12)) 11 (a2)) (h8 : WCN ((w12)) ((w13)) (a2)) (k : ∀ (σ : rS) (Dₚ Nₚ : Nat → Nat) (Fₚ : hF) (Aₚ : hA) (cₚ sₚ : Nat), HW V106_thisorderSixa σ Dₚ Nₚ Fₚ Aₚ → OUT (V106_thisorderSixa).length D N σE c s Dₚ Nₚ σ cₚ sₚ → SD [2] D Dₚ → SD [2] N Nₚ → SF [(1, 0), (1, 1), (1, 2), (1, 3), (1, 4), (3, 0)] F Fₚ → SA [2, 4, 5, 6, 7, 8, 9, 10, 11] A Aₚ → Fₚ 1 0 = (Dₚ 2 : Int) → ∀ m2 : Int, (Nₚ 2 : Int) = m2 → ∀ y1_1 : Int, Fₚ 1 1 = y1_1 → ∀ y1_4 : Int, Fₚ 1 4 = y1_4 → (0 ≤ (y1_1) ∧ (y1_1) ≤ (m2) ∧ (m2) ≤ 65536) → ((y1_4) = 0) → Q none σ cₚ sₚ) : Ew 106 (d + 2) 0 (rargs 0 [.ref (D 0), .ref (D 1), I a2, I a3]) [] σE c s Q := by
  have O := OUT_refl (n := (V106_thisorderSixa).length) (D := D) (N := N) (σ := σE) (c := c) (s := s)
  have HE := H
  have r1 : (-2147483648 : Int) ≤ u1_1 ∧ u1_1 ≤ 2147483647 := rngE (show (-2147483648 : Int) ≤ F 1 1 ∧ F 1 1 ≤ 2147483647 from H.krg 1 1 (ltn len_V106_thisorderSixa_oz_F5cls rfl)) (show F 1 1 = u1_1 from (eu1_1))
  have r2 : (-2147483648 : Int) ≤ u1_4 ∧ u1_4 ≤ 2147483647 := rngE (show (-2147483648 : Int) ≤ F 1 4 ∧ F 1 4 ≤ 2147483647 from H.krg 1 4 (ltn len_V106_thisorderSixa_oz_F5cls rfl)) (show F 1 4 = u1_4 from (eu1_4))
  have r3 : (-2147483648 : Int) ≤ u3_1 ∧ u3_1 ≤ 2147483647 := rngE (show (-2147483648 : Int) ≤ F 3 1 ∧ F 3 1 ≤ 2147483647 from H.krg 3 1 (ltn len_V106_thisorderSixa_oz_F5cls rfl)) (show F 3 1 = u3_1 from (eu3_1))
  have r4 : (0 : Int) ≤ n2 ∧ n2 ≤ 1000000 := nleE (H.nle 2 (ltn len_V106_thisorderSixa_oz_F5cls rfl)) (show (N 2 : Int) = n2 from en2)
  have r5 : (0 : Int) ≤ n4 ∧ n4 ≤ 1000000 := nleE (H.nle 4 (ltn len_V106_thisorderSixa_oz_F5cls rfl)) (show (N 4 : Int) = n4 from en4)
  have r6 : (0 : Int) ≤ n5 ∧ n5 ≤ 1000000 := nleE (H.nle 5 (ltn len_V106_thisorderSixa_oz_F5cls rfl)) (show (N 5 : Int) = n5 from en5)
  have r7 : (0 : Int) ≤ n6 ∧ n6 ≤ 1000000 := nleE (H.nle 6 (ltn len_V106_thisorderSixa_oz_F5cls rfl)) (show (N 6 : Int) = n6 from en6)
  have r8 : (0 : Int) ≤ n7 ∧ n7 ≤ 1000000 := nleE (H.nle 7 (ltn len_V106_thisorderSixa_oz_F5cls rfl)) (show (N 7 : Int) = n7 from en7)
  have r9 : (0 : Int) ≤ n8 ∧ n8 ≤ 1000000 := nleE (H.nle 8 (ltn len_V106_thisorderSixa_oz_F5cls rfl)) (show (N 8 : Int) = n8 from en8)
  have r10 : (0 : Int) ≤ n9 ∧ n9 ≤ 1000000 := nleE (H.nle 9 (ltn len_V106_thisorderSixa_oz_F5cls rfl)) (show (N 9 : Int) = n9 from en9)
  have r11 : (0 : Int) ≤ n10 ∧ n10 ≤ 1000000 := nleE (H.nle 10 (ltn len_V106_thisorderSixa_oz_F5cls rfl)) (show (N 10 : Int) = n10 from en10)
  have r12 : (0 : Int) ≤ n11 ∧ n11 ≤ 1000000 := nleE (H.nle 11 (ltn len_V106_thisorderSixa_oz_F5cls rfl)) (show (N 11 : Int) = n11 from en11)
  have r13 : (0 : Int) ≤ n12 ∧ n12 ≤ 1000000 := nleE (H.nle 12 (ltn len_V106_thisorderSixa_oz_F5cls rfl)) (show (N 12 : Int) = n12 from en12)
  have r14 : (0 : Int) ≤ n13 ∧ n13 ≤ 1000000 := nleE (H.nle 13 (ltn len_V106_thisorderSixa_oz_F5cls rfl)) (show (N 13 : Int) = n13 from en13)
  have hwg : WGB ((w12)) 11 (a2) := h7
  have hwc : WCN ((w12)) ((w13)) (a2) := h8
  have hp6 : p2 6 = 64 := by decide
  refine Ew_of (pcₚ := 1) (fun _ => x_aload_n rfl rfl) ?_
  have r15 : (0 : Int) ≤ F 1 2 ∧ F 1 2 ≤ 1 := H.krg 1 2 (ltn len_V106_thisorderSixa_oz_F5cls rfl)
  refine v_inv H (o := 1) rfl rfl rfl rfl rfl rfl (by rfl) (C156h (D := puc 1 D) (N := puc 1 N) (HW_subc H oz_F5cls_22 oz_F5cls_15) (u1_1) ((eu1_1)) (F 1 2) (rfl) (u1_4) ((eu1_4))  (fun σ16 F16ₚ A16ₚ Hₚ Oₚ hS16 hA16 y16_0_1 ey16_0_1 y16_0_2 ey16_0_2 y16_0_4 ey16_0_4 pz16_0 => ⟨rfl, ?_⟩))
  refine v_backc (c := c) (s := s) H oz_F5cls_22 oz_F5cls_15 Hₚ Oₚ (fun F16 A16 H Oₚ eF16 eA16 => ?_)
  have O := OUT_trans O Oₚ
  -- Row.clear
  have cF16 : SF oz_F5clsl_0 F F16 := SF_trans (SF_refl) (SF_gluc (ι := oz_F5clsl_3) oz_F5cls_15 hS16 eF16 (by decide +kernel)) (any_sub (lₚ := [(1, 1), (1, 2), (1, 3), (1, 4)]) (by decide +kernel))
  have mF16 := SFm_of cF16 oz_F5cls_12
  have cA16 : SA oz_F5clsl_1 A A16 := SA_trans (SA_refl) (SA_gluc (ι := oz_F5clsl_3) oz_F5cls_15 hA16 eA16 (by decide +kernel)) (any_subA (lₚ := []) (by decide +kernel))
  have mA16 := SAm_of cA16 oz_F5cls_13
  have r17 : (-2147483648 : Int) ≤ y16_0_1 ∧ y16_0_1 ≤ 2147483647 := rngE (show (-2147483648 : Int) ≤ F16 1 1 ∧ F16 1 1 ≤ 2147483647 from H.krg 1 1 (ltn len_V106_thisorderSixa_oz_F5cls rfl)) (show F16 1 1 = y16_0_1 from ((eF16 1 1).trans ey16_0_1))
  have r18 : (0 : Int) ≤ y16_0_2 ∧ y16_0_2 ≤ 1 := rngE (show (0 : Int) ≤ F16 1 2 ∧ F16 1 2 ≤ 1 from H.krg 1 2 (ltn len_V106_thisorderSixa_oz_F5cls rfl)) (show F16 1 2 = y16_0_2 from ((eF16 1 2).trans ey16_0_2))
  have r19 : (-2147483648 : Int) ≤ y16_0_4 ∧ y16_0_4 ≤ 2147483647 := rngE (show (-2147483648 : Int) ≤ F16 1 4 ∧ F16 1 4 ≤ 2147483647 from H.krg 1 4 (ltn len_V106_thisorderSixa_oz_F5cls rfl)) (show F16 1 4 = y16_0_4 from ((eF16 1 4).trans ey16_0_4))
  refine Ew_of (pcₚ := 5) (fun _ => x_aload_n rfl rfl) ?_
  refine Ew_of (pcₚ := 8) (fun _ => x_sipush (z := 128) rfl (by decide)) ?_
  refine Ew_of (pcₚ := 9) (fun _ => x_iload_n rfl rfl) ?_
  refine w_iadd rfl ?_
  refine v_inv H (o := 1) rfl rfl rfl rfl rfl rfl (by rfl) (C157 (D := puc 1025 D) (N := puc 1025 N) (HW_subc H oz_F5cls_23 oz_F5cls_16) ((((show F16 1 0 = F 1 0 from (eF16 1 0).trans (hS16 0 0 rfl)))).trans (pf2)) (n2) (en2) (y16_0_1) (((eF16 1 1).trans ey16_0_1)) (A 2) ((show A16 2 = A 2 from (eA16 2))) (show inr ((128 + a2)) from q_3429 h4) (show 0 ≤ (y16_0_1) ∧ (y16_0_1) ≤ (n2) ∧ (n2) ≤ 65536 from q_3428 h2 pz16_0 r4) (fun z20 σ20 D20ₚ N20ₚ F20ₚ A20ₚ c20 s20 Hₚ Oₚ hD20 hN20 hS20 hA20 pm20_1 m20_1 em20_1 w20_1 ew20_1 pz20_0 pz20_1 pz20_2 pz20_3 pz20_4 => ⟨rretB rfl pz20_0, ?_⟩))
  refine v_backMc (c := c) (s := s) H oz_F5cls_23 oz_F5cls_16 Hₚ Oₚ hD20 oz_F5cls_24 (fun D20 N20 F20 A20 H Oₚ eD20 eN20 eF20 eA20 => ?_)
  have O := OUT_trans O Oₚ
  -- Row.reserve
  have cF20 : SF oz_F5clsl_0 F F20 := SF_trans (cF16) (SF_gluc (ι := oz_F5clsl_4) oz_F5cls_16 hS20 eF20 (by decide +kernel)) (any_sub (lₚ := [(1, 0)]) (by decide +kernel))
  have mF20 := SFm_of cF20 oz_F5cls_12
  have cA20 : SA oz_F5clsl_1 A A20 := SA_trans (cA16) (SA_gluc (ι := oz_F5clsl_4) oz_F5cls_16 hA20 eA20 (by decide +kernel)) (any_subA (lₚ := [2]) (by decide +kernel))
  have mA20 := SAm_of cA20 oz_F5cls_13
  have cD20 : SD oz_F5clsl_2 D D20 := SD_trans (SD_refl) (SD_gluc (ι := oz_F5clsl_4) oz_F5cls_16 hD20 eD20 (by decide +kernel)) (any_subA (lₚ := [2]) (by decide +kernel))
  have mD20 := SDm_of cD20 oz_F5cls_14
  have cN20 : SD oz_F5clsl_2 N N20 := SD_trans (SD_refl) (SD_gluc (ι := oz_F5clsl_4) oz_F5cls_16 hN20 eN20 (by decide +kernel)) (any_subA (lₚ := [2]) (by decide +kernel))
  have mN20 := SDm_of cN20 oz_F5cls_14
  have pf20_1_0 : F20 1 0 = (D20 2 : Int) := (eF20 1 0).trans (pm20_1.trans (congrArg (fun q : Nat => (q : Int)) (eD20 2).symm))
  have r21 : (0 : Int) ≤ m20_1 ∧ m20_1 ≤ 1000000 := nleE (H.nle 2 (ltn len_V106_thisorderSixa_oz_F5cls rfl)) (show (N20 2 : Int) = m20_1 from (congrArg (fun q : Nat => (q : Int)) (eN20 2)).trans em20_1)
  refine Ew_of (pcₚ := 14) (fun _ => x_pop rfl rfl) ?_
  refine Ew_of (pcₚ := 15) (fun _ => x_aload_n rfl rfl) ?_
  refine Ew_stk (congrArg (fun qz : Nat => ([.ref qz] : List Value)) (show D20 0 = D 0 from mD20 0 rfl).symm) ?_
  refine v_g H (o := 0) (v := .ref (D20 3)) rfl rfl rfl rfl rfl (vrf ((mF20 0 6 rfl).trans ((pf3).trans (congrArg (fun q : Nat => (q : Int)) (mD20 3 rfl).symm)))) ?_
  refine Ew_of (pcₚ := 19) (fun _ => x_aload_n rfl rfl) ?_
  refine Ew_stk (congrArg (fun qz : Nat => ([.ref qz, .ref (D20 3)] : List Value)) (show D20 0 = D 0 from mD20 0 rfl).symm) ?_
  refine v_g H (o := 0) (v := .ref (D20 13)) rfl rfl rfl rfl rfl (vrf ((mF20 0 5 rfl).trans ((pf13).trans (congrArg (fun q : Nat => (q : Int)) (mD20 13 rfl).symm)))) ?_
  refine Ew_of (pcₚ := 23) (fun _ => x_iload_n rfl rfl) ?_
  refine Ew_of (pcₚ := 24) (fun _ => x_iload_n rfl rfl) ?_
  have hcn : CNT ((w13)) ((u3_1)) (a2) (a3) := by rw [show ((u3_1)) = 12 by omega]; exact WCN_CNT hwc hwg (by omega) (by omega) ⟨by omega, by omega⟩
  have r22 : (-2147483648 : Int) ≤ F 3 0 ∧ F 3 0 ≤ 2147483647 := rngE (show (-2147483648 : Int) ≤ F20 3 0 ∧ F20 3 0 ≤ 2147483647 from H.krg 3 0 (ltn len_V106_thisorderSixa_oz_F5cls rfl)) (show F20 3 0 = F 3 0 from (((show F20 3 0 = F16 3 0 from (eF20 3 0))).trans ((show F16 3 0 = F 3 0 from (eF16 3 0)))))
  refine v_inv H (o := 3) rfl rfl rfl rfl rfl rfl (by rfl) (C178_Ir (D := puc 1055235 D20) (N := puc 1055235 N20) (HW_subc H oz_F5cls_25 oz_F5cls_17) ((mF20 3 2 rfl).trans ((pf4).trans (congrArg (fun q : Nat => (q : Int)) (mD20 4 rfl).symm))) (n13) ((congrArg (fun q : Nat => (q : Int)) (mN20 13 rfl)).trans (en13)) (n4) ((congrArg (fun q : Nat => (q : Int)) (mN20 4 rfl)).trans (en4)) (F 3 0) ((((show F20 3 0 = F16 3 0 from (eF20 3 0))).trans ((show F16 3 0 = F 3 0 from (eF16 3 0))))) (u3_1) (((mF20 3 1 rfl).trans (eu3_1))) (w13) ((funext (mA20 13 rfl)).trans (ew13)) (A 4) (((show A20 4 = A16 4 from (eA20 4))).trans ((show A16 4 = A 4 from (eA16 4)))) (show inr (a2) from h0) (show inr (a3) from h1) (show CNT ((w13)) ((u3_1)) (a2) (a3) from hcn) (show ((u3_1)) ≤ (n13) ∧ (n4) = ((u3_1)) from q_3430 h3 h6) (fun σ23 F23ₚ A23ₚ Hₚ Oₚ hS23 hA23 y23_0_0 ey23_0_0 w23_2 ew23_2 pz23_0 pz23_1 pz23_2 => ⟨rfl, ?_⟩))
  refine v_backc (c := (c + c20)) (s := (s + s20)) H oz_F5cls_25 oz_F5cls_17 Hₚ Oₚ (fun F23 A23 H Oₚ eF23 eA23 => ?_)
  have O := OUT_trans O Oₚ
  -- Share.takeCounts
  have cF23 : SF oz_F5clsl_0 F F23 := SF_trans (cF20) (SF_gluc (ι := oz_F5clsl_5) oz_F5cls_17 hS23 eF23 (by decide +kernel)) (any_sub (lₚ := [(3, 0)]) (by decide +kernel))
  have mF23 := SFm_of cF23 oz_F5cls_12
  have cA23 : SA oz_F5clsl_1 A A23 := SA_trans (cA20) (SA_gluc (ι := oz_F5clsl_5) oz_F5cls_17 hA23 eA23 (by decide +kernel)) (any_subA (lₚ := [4]) (by decide +kernel))
  have mA23 := SAm_of cA23 oz_F5cls_13
  have r24 : (-2147483648 : Int) ≤ y23_0_0 ∧ y23_0_0 ≤ 2147483647 := rngE (show (-2147483648 : Int) ≤ F23 3 0 ∧ F23 3 0 ≤ 2147483647 from H.krg 3 0 (ltn len_V106_thisorderSixa_oz_F5cls rfl)) (show F23 3 0 = y23_0_0 from ((eF23 3 0).trans ey23_0_0))
  refine Ew_of (pcₚ := 28) (fun _ => x_aload_n rfl rfl) ?_
  refine Ew_stk (congrArg (fun qz : Nat => ([.ref qz] : List Value)) (show D20 0 = D 0 from mD20 0 rfl).symm) ?_
  refine v_g H (o := 0) (v := .ref (D20 3)) rfl rfl rfl rfl rfl (vrf ((mF23 0 6 rfl).trans ((pf3).trans (congrArg (fun q : Nat => (q : Int)) (mD20 3 rfl).symm)))) ?_
  have hpo : p2 ((y23_0_0)) ≤ p2 6 := p2_mono (by omega)
  have hdv := pz23_1
  refine v_inv H (o := 3) rfl rfl rfl rfl rfl rfl (by rfl) (C169 (D := puc 52038427443478050113539 D20) (N := puc 52038427443478050113539 N20) (HW_subc H oz_F5cls_26 oz_F5cls_18) ((mF23 3 2 rfl).trans ((pf4).trans (congrArg (fun q : Nat => (q : Int)) (mD20 4 rfl).symm))) ((mF23 3 3 rfl).trans ((pf5).trans (congrArg (fun q : Nat => (q : Int)) (mD20 5 rfl).symm))) ((mF23 3 4 rfl).trans ((pf6).trans (congrArg (fun q : Nat => (q : Int)) (mD20 6 rfl).symm))) ((mF23 3 5 rfl).trans ((pf7).trans (congrArg (fun q : Nat => (q : Int)) (mD20 7 rfl).symm))) ((mF23 3 6 rfl).trans ((pf8).trans (congrArg (fun q : Nat => (q : Int)) (mD20 8 rfl).symm))) ((mF23 3 8 rfl).trans ((pf9).trans (congrArg (fun q : Nat => (q : Int)) (mD20 9 rfl).symm))) ((mF23 3 7 rfl).trans ((pf10).trans (congrArg (fun q : Nat => (q : Int)) (mD20 10 rfl).symm))) ((mF23 3 9 rfl).trans ((pf11).trans (congrArg (fun q : Nat => (q : Int)) (mD20 11 rfl).symm))) (n4) ((congrArg (fun q : Nat => (q : Int)) (mN20 4 rfl)).trans (en4)) (n5) ((congrArg (fun q : Nat => (q : Int)) (mN20 5 rfl)).trans (en5)) (n6) ((congrArg (fun q : Nat => (q : Int)) (mN20 6 rfl)).trans (en6)) (n7) ((congrArg (fun q : Nat => (q : Int)) (mN20 7 rfl)).trans (en7)) (n8) ((congrArg (fun q : Nat => (q : Int)) (mN20 8 rfl)).trans (en8)) (n9) ((congrArg (fun q : Nat => (q : Int)) (mN20 9 rfl)).trans (en9)) (n10) ((congrArg (fun q : Nat => (q : Int)) (mN20 10 rfl)).trans (en10)) (n11) ((congrArg (fun q : Nat => (q : Int)) (mN20 11 rfl)).trans (en11)) (y23_0_0) (((eF23 3 0).trans ey23_0_0)) (u3_1) (((mF23 3 1 rfl).trans (eu3_1))) (w23_2) ((eA23 4).trans ew23_2) (A 5) (((show A23 5 = A20 5 from (eA23 5))).trans (((show A20 5 = A16 5 from (eA20 5))).trans ((show A16 5 = A 5 from (eA16 5))))) (A 6) (((show A23 6 = A20 6 from (eA23 6))).trans (((show A20 6 = A16 6 from (eA20 6))).trans ((show A16 6 = A 6 from (eA16 6))))) (A 7) (((show A23 7 = A20 7 from (eA23 7))).trans (((show A20 7 = A16 7 from (eA20 7))).trans ((show A16 7 = A 7 from (eA16 7))))) (A 9) (((show A23 9 = A20 9 from (eA23 9))).trans (((show A20 9 = A16 9 from (eA20 9))).trans ((show A16 9 = A 9 from (eA16 9))))) (A 10) (((show A23 10 = A20 10 from (eA23 10))).trans (((show A20 10 = A16 10 from (eA20 10))).trans ((show A16 10 = A 10 from (eA16 10))))) (A 11) (((show A23 11 = A20 11 from (eA23 11))).trans (((show A20 11 = A16 11 from (eA20 11))).trans ((show A16 11 = A 11 from (eA16 11))))) (show SHD ((w23_2)) ((u3_1)) ((y23_0_0)) from pz23_0) (show (n4) = (u3_1) ∧ (n5) = (u3_1) ∧ (n6) = (u3_1) ∧ (n7) = (u3_1) ∧ (n8) = (u3_1) ∧ (n9) = (n10) ∧ (n11) = (n10) ∧ p2 ((y23_0_0)) ≤ (n10) from q_3374 h3 hp6 hpo) (fun σ25 F25ₚ A25ₚ Hₚ Oₚ hS25 hA25 w25_2 ew25_2 w25_3 ew25_3 w25_4 ew25_4 w25_6 ew25_6 w25_7 ew25_7 w25_8 ew25_8 pz25_0 => ⟨rfl, ?_⟩))
  refine v_backc (c := (c + c20)) (s := (s + s20)) H oz_F5cls_26 oz_F5cls_18 Hₚ Oₚ (fun F25 A25 H Oₚ eF25 eA25 => ?_)
  have O := OUT_trans O Oₚ
  -- Share.lay
  have cF25 : SF oz_F5clsl_0 F F25 := SF_trans (cF23) (SF_gluc (ι := oz_F5clsl_6) oz_F5cls_18 hS25 eF25 (by decide +kernel)) (any_sub (lₚ := []) (by decide +kernel))
  have mF25 := SFm_of cF25 oz_F5cls_12
  have cA25 : SA oz_F5clsl_1 A A25 := SA_trans (cA23) (SA_gluc (ι := oz_F5clsl_6) oz_F5cls_18 hA25 eA25 (by decide +kernel)) (any_subA (lₚ := [5, 6, 7, 8, 9, 10, 11]) (by decide +kernel))
  have mA25 := SAm_of cA25 oz_F5cls_13
  refine Ew_of (pcₚ := 35) (fun _ => x_aload_n rfl rfl) ?_
  refine Ew_stk (congrArg (fun qz : Nat => ([.ref qz] : List Value)) (show D20 0 = D 0 from mD20 0 rfl).symm) ?_
  refine v_g H (o := 0) (v := .ref (D20 3)) rfl rfl rfl rfl rfl (vrf ((mF25 0 6 rfl).trans ((pf3).trans (congrArg (fun q : Nat => (q : Int)) (mD20 3 rfl).symm)))) ?_
  refine Ew_of (pcₚ := 39) (fun _ => x_aload_n rfl rfl) ?_
  refine Ew_stk (congrArg (fun qz : Nat => ([.ref qz, .ref (D20 3)] : List Value)) (show D20 1 = D 1 from mD20 1 rfl).symm) ?_
  refine v_inv H (o := 3) rfl rfl rfl rfl rfl rfl (by rfl) (C181_Row (D := puc 269484547 D20) (N := puc 269484547 N20) (HW_subc H oz_F5cls_27 oz_F5cls_19) ((mF25 3 2 rfl).trans ((pf4).trans (congrArg (fun q : Nat => (q : Int)) (mD20 4 rfl).symm))) (((((show F25 1 0 = F23 1 0 from (eF25 1 0))).trans ((show F23 1 0 = F20 1 0 from (eF23 1 0))))).trans (pf20_1_0)) (n4) ((congrArg (fun q : Nat => (q : Int)) (mN20 4 rfl)).trans (en4)) (m20_1) ((congrArg (fun q : Nat => (q : Int)) (eN20 2)).trans em20_1) (y23_0_0) ((((show F25 3 0 = F23 3 0 from (eF25 3 0).trans (hS25 0 0 rfl))).trans ((eF23 3 0).trans ey23_0_0))) (u3_1) (((mF25 3 1 rfl).trans (eu3_1))) (y16_0_1) ((((((show F25 1 1 = F23 1 1 from (eF25 1 1))).trans ((show F23 1 1 = F20 1 1 from (eF23 1 1)))).trans ((show F20 1 1 = F16 1 1 from (eF20 1 1).trans (hS20 0 1 rfl)))).trans ((eF16 1 1).trans ey16_0_1))) (y16_0_4) ((((((show F25 1 4 = F23 1 4 from (eF25 1 4))).trans ((show F23 1 4 = F20 1 4 from (eF23 1 4)))).trans ((show F20 1 4 = F16 1 4 from (eF20 1 4).trans (hS20 0 4 rfl)))).trans ((eF16 1 4).trans ey16_0_4))) (w23_2) (((show A25 4 = A23 4 from (eA25 4).trans (funext (hA25 1 rfl)))).trans ((eA23 4).trans ew23_2)) (show SHD ((w23_2)) ((u3_1)) ((y23_0_0)) from pz23_0) (show 5 ≤ ((y23_0_0)) from q_3433 h5 pz23_2) (show (n4) = ((u3_1)) from q_3432 h3) (show 0 ≤ (y16_0_1) ∧ (y16_0_1) ≤ (m20_1) ∧ (m20_1) ≤ 65536 from pz20_1) (show 0 ≤ (y16_0_4) ∧ (y16_0_4) ≤ 7 from q_3431 pz16_0) (fun σ26 F26ₚ A26ₚ Hₚ Oₚ hS26 hA26 y26_1_1 ey26_1_1 y26_1_4 ey26_1_4 pz26_0 pz26_1 pz26_2 => ⟨rfl, ?_⟩))
  refine v_backc (c := (c + c20)) (s := (s + s20)) H oz_F5cls_27 oz_F5cls_19 Hₚ Oₚ (fun F26 A26 H Oₚ eF26 eA26 => ?_)
  have O := OUT_trans O Oₚ
  -- Share.tell
  have cF26 : SF oz_F5clsl_0 F F26 := SF_trans (cF25) (SF_gluc (ι := oz_F5clsl_7) oz_F5cls_19 hS26 eF26 (by decide +kernel)) (any_sub (lₚ := [(1, 1), (1, 2), (1, 3), (1, 4)]) (by decide +kernel))
  have mF26 := SFm_of cF26 oz_F5cls_12
  have cA26 : SA oz_F5clsl_1 A A26 := SA_trans (cA25) (SA_gluc (ι := oz_F5clsl_7) oz_F5cls_19 hA26 eA26 (by decide +kernel)) (any_subA (lₚ := [2]) (by decide +kernel))
  have mA26 := SAm_of cA26 oz_F5cls_13
  have r27 : (-2147483648 : Int) ≤ y26_1_1 ∧ y26_1_1 ≤ 2147483647 := rngE (show (-2147483648 : Int) ≤ F26 1 1 ∧ F26 1 1 ≤ 2147483647 from H.krg 1 1 (ltn len_V106_thisorderSixa_oz_F5cls rfl)) (show F26 1 1 = y26_1_1 from ((eF26 1 1).trans ey26_1_1))
  have r28 : (-2147483648 : Int) ≤ y26_1_4 ∧ y26_1_4 ≤ 2147483647 := rngE (show (-2147483648 : Int) ≤ F26 1 4 ∧ F26 1 4 ≤ 2147483647 from H.krg 1 4 (ltn len_V106_thisorderSixa_oz_F5cls rfl)) (show F26 1 4 = y26_1_4 from ((eF26 1 4).trans ey26_1_4))
  refine Ew_of (pcₚ := 43) (fun _ => x_aload_n rfl rfl) ?_
  refine Ew_stk (congrArg (fun qz : Nat => ([.ref qz] : List Value)) (show D20 0 = D 0 from mD20 0 rfl).symm) ?_
  refine v_g H (o := 0) (v := .ref (D20 3)) rfl rfl rfl rfl rfl (vrf ((mF26 0 6 rfl).trans ((pf3).trans (congrArg (fun q : Nat => (q : Int)) (mD20 3 rfl).symm)))) ?_
  refine Ew_of (pcₚ := 47) (fun _ => x_aload_n rfl rfl) ?_
  refine Ew_stk (congrArg (fun qz : Nat => ([.ref qz, .ref (D20 3)] : List Value)) (show D20 0 = D 0 from mD20 0 rfl).symm) ?_
  refine v_g H (o := 0) (v := .ref (D20 12)) rfl rfl rfl rfl rfl (vrf ((mF26 0 4 rfl).trans ((pf12).trans (congrArg (fun q : Nat => (q : Int)) (mD20 12 rfl).symm)))) ?_
  refine Ew_of (pcₚ := 51) (fun _ => x_iload_n rfl rfl) ?_
  refine Ew_of (pcₚ := 52) (fun _ => x_iconst rfl) ?_
  refine w_isub rfl ?_
  refine v_lI H (o := 12) rfl rfl rfl rfl (n := n12) ((congrArg (fun q : Nat => (q : Int)) (mN20 12 rfl)).trans (en12)) (show 0 ≤ (a2 - 1) ∧ (a2 - 1) < n12 from q_3434 h4 h6 r13) (fun v29 ev29 qv29 => ?_)
  have ev29 : (w12) ((a2 - 1)) = v29 := (congrFun ((funext (mA26 12 rfl)).trans (ew12)) ((a2 - 1))).symm.trans ev29
  have hwax := hwg ((a2) - 1) (by omega) (by omega)
  have heax := ev29
  rw [heax] at hwax
  have hcpx := WCN_pos hwc (by omega) (by omega) heax (by omega) (by omega)
  have hdpx := hdv ((v29)) (by omega) (by omega)
  refine v_inv H (o := 3) rfl rfl rfl rfl rfl rfl (by rfl) (C174 (D := puc 37880551437274713425923 D20) (N := puc 37880551437274713425923 N20) (HW_subc H oz_F5cls_28 oz_F5cls_20) ((mF26 3 2 rfl).trans ((pf4).trans (congrArg (fun q : Nat => (q : Int)) (mD20 4 rfl).symm))) ((mF26 3 3 rfl).trans ((pf5).trans (congrArg (fun q : Nat => (q : Int)) (mD20 5 rfl).symm))) ((mF26 3 4 rfl).trans ((pf6).trans (congrArg (fun q : Nat => (q : Int)) (mD20 6 rfl).symm))) ((mF26 3 5 rfl).trans ((pf7).trans (congrArg (fun q : Nat => (q : Int)) (mD20 7 rfl).symm))) ((mF26 3 7 rfl).trans ((pf10).trans (congrArg (fun q : Nat => (q : Int)) (mD20 10 rfl).symm))) ((mF26 3 8 rfl).trans ((pf9).trans (congrArg (fun q : Nat => (q : Int)) (mD20 9 rfl).symm))) ((mF26 3 9 rfl).trans ((pf11).trans (congrArg (fun q : Nat => (q : Int)) (mD20 11 rfl).symm))) ((mF26 3 6 rfl).trans ((pf8).trans (congrArg (fun q : Nat => (q : Int)) (mD20 8 rfl).symm))) (n4) ((congrArg (fun q : Nat => (q : Int)) (mN20 4 rfl)).trans (en4)) (n5) ((congrArg (fun q : Nat => (q : Int)) (mN20 5 rfl)).trans (en5)) (n6) ((congrArg (fun q : Nat => (q : Int)) (mN20 6 rfl)).trans (en6)) (n7) ((congrArg (fun q : Nat => (q : Int)) (mN20 7 rfl)).trans (en7)) (n10) ((congrArg (fun q : Nat => (q : Int)) (mN20 10 rfl)).trans (en10)) (n9) ((congrArg (fun q : Nat => (q : Int)) (mN20 9 rfl)).trans (en9)) (n11) ((congrArg (fun q : Nat => (q : Int)) (mN20 11 rfl)).trans (en11)) (n8) ((congrArg (fun q : Nat => (q : Int)) (mN20 8 rfl)).trans (en8)) (y23_0_0) (((((show F26 3 0 = F25 3 0 from (eF26 3 0).trans (hS26 0 0 rfl))).trans ((show F25 3 0 = F23 3 0 from (eF25 3 0).trans (hS25 0 0 rfl)))).trans ((eF23 3 0).trans ey23_0_0))) (u3_1) (((mF26 3 1 rfl).trans (eu3_1))) (w23_2) (((show A26 4 = A25 4 from (eA26 4).trans (funext (hA26 2 rfl)))).trans (((show A25 4 = A23 4 from (eA25 4).trans (funext (hA25 1 rfl)))).trans ((eA23 4).trans ew23_2))) (w25_2) (((show A26 5 = A25 5 from (eA26 5))).trans ((eA25 5).trans ew25_2)) (w25_3) (((show A26 6 = A25 6 from (eA26 6))).trans ((eA25 6).trans ew25_3)) (w25_4) (((show A26 7 = A25 7 from (eA26 7))).trans ((eA25 7).trans ew25_4)) (w25_7) (((show A26 10 = A25 10 from (eA26 10))).trans ((eA25 10).trans ew25_7)) (w25_6) (((show A26 9 = A25 9 from (eA26 9))).trans ((eA25 9).trans ew25_6)) (w25_8) (((show A26 11 = A25 11 from (eA26 11))).trans ((eA25 11).trans ew25_8)) (show inr (v29) from qv29) (show SL ((w23_2)) ((u3_1)) ((y23_0_0)) ((w25_2)) ((w25_3)) ((w25_4)) ((w25_7)) ((w25_6)) ((w25_8)) from pz25_0) (show (n4) = (u3_1) ∧ (n5) = (u3_1) ∧ (n6) = (u3_1) ∧ (n7) = (u3_1) ∧ (n8) = (u3_1) ∧ (n9) = (n10) ∧ (n11) = (n10) ∧ p2 ((y23_0_0)) ≤ (n10) from q_3374 h3 hp6 hpo) (show 0 ≤ (v29) ∧ (v29) < ((u3_1)) ∧ ((w23_2)) (v29) ≠ 0 by omega) (fun z30 σ30 F30ₚ A30ₚ Hₚ Oₚ hS30 hA30 pz30_0 pz30_1 pz30_2 => ⟨rfl, ?_⟩))
  refine v_backc (c := (c + c20)) (s := (s + s20)) H oz_F5cls_28 oz_F5cls_20 Hₚ Oₚ (fun F30 A30 H Oₚ eF30 eA30 => ?_)
  have O := OUT_trans O Oₚ
  -- Share.lowestPlace
  have cF30 : SF oz_F5clsl_0 F F30 := SF_trans (cF26) (SF_gluc (ι := oz_F5clsl_8) oz_F5cls_20 hS30 eF30 (by decide +kernel)) (any_sub (lₚ := []) (by decide +kernel))
  have mF30 := SFm_of cF30 oz_F5cls_12
  have cA30 : SA oz_F5clsl_1 A A30 := SA_trans (cA26) (SA_gluc (ι := oz_F5clsl_8) oz_F5cls_20 hA30 eA30 (by decide +kernel)) (any_subA (lₚ := []) (by decide +kernel))
  have mA30 := SAm_of cA30 oz_F5cls_13
  refine Ew_of (pcₚ := 59) (fun _ => x_istore rfl) ?_
  refine Ew_of (pcₚ := 60) (fun _ => x_aload_n rfl (rk_o (rfl) rfl rfl)) ?_
  refine Ew_stk (congrArg (fun qz : Nat => ([.ref qz] : List Value)) (show D20 0 = D 0 from mD20 0 rfl).symm) ?_
  refine v_g H (o := 0) (v := .ref (D20 3)) rfl rfl rfl rfl rfl (vrf ((mF30 0 6 rfl).trans ((pf3).trans (congrArg (fun q : Nat => (q : Int)) (mD20 3 rfl).symm)))) ?_
  refine Ew_of (pcₚ := 64) (fun _ => x_aload_n rfl (rk_o (rfl) rfl rfl)) ?_
  refine Ew_stk (congrArg (fun qz : Nat => ([.ref qz, .ref (D20 3)] : List Value)) (show D20 0 = D 0 from mD20 0 rfl).symm) ?_
  refine v_g H (o := 0) (v := .ref (D20 12)) rfl rfl rfl rfl rfl (vrf ((mF30 0 4 rfl).trans ((pf12).trans (congrArg (fun q : Nat => (q : Int)) (mD20 12 rfl).symm)))) ?_
  refine Ew_of (pcₚ := 68) (fun _ => x_iload_n rfl (rk_o (rfl) rfl rfl)) ?_
  refine Ew_of (pcₚ := 69) (fun _ => x_iconst rfl) ?_
  refine w_isub rfl ?_
  refine v_lI H (o := 12) rfl rfl rfl rfl (n := n12) ((congrArg (fun q : Nat => (q : Int)) (mN20 12 rfl)).trans (en12)) (show 0 ≤ (a2 - 2) ∧ (a2 - 2) < n12 from q_3435 h4 h6 r13) (fun v31 ev31 qv31 => ?_)
  have ev31 : (w12) ((a2 - 2)) = v31 := (congrFun ((funext (mA30 12 rfl)).trans (ew12)) ((a2 - 2))).symm.trans ev31
  have hway := hwg ((a2) - 2) (by omega) (by omega)
  have heay := ev31
  rw [heay] at hway
  have hcpy := WCN_pos hwc (by omega) (by omega) heay (by omega) (by omega)
  have hdpy := hdv ((v31)) (by omega) (by omega)
  refine v_inv H (o := 3) rfl rfl rfl rfl rfl rfl (by rfl) (C174 (D := puc 37880551437274713425923 D20) (N := puc 37880551437274713425923 N20) (HW_subc H oz_F5cls_28 oz_F5cls_20) ((mF30 3 2 rfl).trans ((pf4).trans (congrArg (fun q : Nat => (q : Int)) (mD20 4 rfl).symm))) ((mF30 3 3 rfl).trans ((pf5).trans (congrArg (fun q : Nat => (q : Int)) (mD20 5 rfl).symm))) ((mF30 3 4 rfl).trans ((pf6).trans (congrArg (fun q : Nat => (q : Int)) (mD20 6 rfl).symm))) ((mF30 3 5 rfl).trans ((pf7).trans (congrArg (fun q : Nat => (q : Int)) (mD20 7 rfl).symm))) ((mF30 3 7 rfl).trans ((pf10).trans (congrArg (fun q : Nat => (q : Int)) (mD20 10 rfl).symm))) ((mF30 3 8 rfl).trans ((pf9).trans (congrArg (fun q : Nat => (q : Int)) (mD20 9 rfl).symm))) ((mF30 3 9 rfl).trans ((pf11).trans (congrArg (fun q : Nat => (q : Int)) (mD20 11 rfl).symm))) ((mF30 3 6 rfl).trans ((pf8).trans (congrArg (fun q : Nat => (q : Int)) (mD20 8 rfl).symm))) (n4) ((congrArg (fun q : Nat => (q : Int)) (mN20 4 rfl)).trans (en4)) (n5) ((congrArg (fun q : Nat => (q : Int)) (mN20 5 rfl)).trans (en5)) (n6) ((congrArg (fun q : Nat => (q : Int)) (mN20 6 rfl)).trans (en6)) (n7) ((congrArg (fun q : Nat => (q : Int)) (mN20 7 rfl)).trans (en7)) (n10) ((congrArg (fun q : Nat => (q : Int)) (mN20 10 rfl)).trans (en10)) (n9) ((congrArg (fun q : Nat => (q : Int)) (mN20 9 rfl)).trans (en9)) (n11) ((congrArg (fun q : Nat => (q : Int)) (mN20 11 rfl)).trans (en11)) (n8) ((congrArg (fun q : Nat => (q : Int)) (mN20 8 rfl)).trans (en8)) (y23_0_0) ((((((show F30 3 0 = F26 3 0 from (eF30 3 0).trans (hS30 0 0 rfl))).trans ((show F26 3 0 = F25 3 0 from (eF26 3 0).trans (hS26 0 0 rfl)))).trans ((show F25 3 0 = F23 3 0 from (eF25 3 0).trans (hS25 0 0 rfl)))).trans ((eF23 3 0).trans ey23_0_0))) (u3_1) (((mF30 3 1 rfl).trans (eu3_1))) (w23_2) (((show A30 4 = A26 4 from (eA30 4).trans (funext (hA30 1 rfl)))).trans (((show A26 4 = A25 4 from (eA26 4).trans (funext (hA26 2 rfl)))).trans (((show A25 4 = A23 4 from (eA25 4).trans (funext (hA25 1 rfl)))).trans ((eA23 4).trans ew23_2)))) (w25_2) (((show A30 5 = A26 5 from (eA30 5).trans (funext (hA30 2 rfl)))).trans (((show A26 5 = A25 5 from (eA26 5))).trans ((eA25 5).trans ew25_2))) (w25_3) (((show A30 6 = A26 6 from (eA30 6).trans (funext (hA30 3 rfl)))).trans (((show A26 6 = A25 6 from (eA26 6))).trans ((eA25 6).trans ew25_3))) (w25_4) (((show A30 7 = A26 7 from (eA30 7).trans (funext (hA30 4 rfl)))).trans (((show A26 7 = A25 7 from (eA26 7))).trans ((eA25 7).trans ew25_4))) (w25_7) (((show A30 10 = A26 10 from (eA30 10).trans (funext (hA30 5 rfl)))).trans (((show A26 10 = A25 10 from (eA26 10))).trans ((eA25 10).trans ew25_7))) (w25_6) (((show A30 9 = A26 9 from (eA30 9).trans (funext (hA30 6 rfl)))).trans (((show A26 9 = A25 9 from (eA26 9))).trans ((eA25 9).trans ew25_6))) (w25_8) (((show A30 11 = A26 11 from (eA30 11).trans (funext (hA30 7 rfl)))).trans (((show A26 11 = A25 11 from (eA26 11))).trans ((eA25 11).trans ew25_8))) (show inr (v31) from qv31) (show SL ((w23_2)) ((u3_1)) ((y23_0_0)) ((w25_2)) ((w25_3)) ((w25_4)) ((w25_7)) ((w25_6)) ((w25_8)) from pz25_0) (show (n4) = (u3_1) ∧ (n5) = (u3_1) ∧ (n6) = (u3_1) ∧ (n7) = (u3_1) ∧ (n8) = (u3_1) ∧ (n9) = (n10) ∧ (n11) = (n10) ∧ p2 ((y23_0_0)) ≤ (n10) from q_3374 h3 hp6 hpo) (show 0 ≤ (v31) ∧ (v31) < ((u3_1)) ∧ ((w23_2)) (v31) ≠ 0 by omega) (fun z32 σ32 F32ₚ A32ₚ Hₚ Oₚ hS32 hA32 pz32_0 pz32_1 pz32_2 => ⟨rfl, ?_⟩))
  refine v_backc (c := (c + c20)) (s := (s + s20)) H oz_F5cls_28 oz_F5cls_20 Hₚ Oₚ (fun F32 A32 H Oₚ eF32 eA32 => ?_)
  have O := OUT_trans O Oₚ
  -- Share.lowestPlace
  have cF32 : SF oz_F5clsl_0 F F32 := SF_trans (cF30) (SF_gluc (ι := oz_F5clsl_8) oz_F5cls_20 hS32 eF32 (by decide +kernel)) (any_sub (lₚ := []) (by decide +kernel))
  have mF32 := SFm_of cF32 oz_F5cls_12
  have cA32 : SA oz_F5clsl_1 A A32 := SA_trans (cA30) (SA_gluc (ι := oz_F5clsl_8) oz_F5cls_20 hA32 eA32 (by decide +kernel)) (any_subA (lₚ := []) (by decide +kernel))
  have mA32 := SAm_of cA32 oz_F5cls_13
  refine Ew_of (pcₚ := 76) (fun _ => x_istore rfl) ?_
  refine Ew_of (pcₚ := 77) (fun _ => x_iload_n rfl (rk_o (rk_o (rfl) rfl rfl) rfl rfl)) ?_
  refine Ew_of (pcₚ := 78) (fun _ => x_iconst rfl) ?_
  refine w_isub rfl ?_
  refine Ew_of (pcₚ := 81) (fun _ => x_istore rfl) ?_
  suffices hl81 : ∀ (m : Nat), ∀ (ls : rO) (σ : rS) (F_81 : hF) (A_81 : hA) (x81_4 : Int) (x81_5 : Int) (x81_6 : Int), rlook ls 0 = some (.ref (D20 0)) → rlook ls 1 = some (.ref (D20 1)) → rlook ls 3 = some (I (a3)) → rlook ls 4 = some (I (x81_4)) → rlook ls 5 = some (I (x81_5)) → rlook ls 6 = some (I (x81_6)) → HW V106_thisorderSixa σ D20 N20 F_81 A_81 → OUT (V106_thisorderSixa).length D N σE c s D20 N20 σ (c + c20) (s + s20) → SF [(1, 1), (1, 2), (1, 3), (1, 4)] F32 F_81 → SA [2] A32 A_81 → ∀ y81_1_1 : Int, F_81 1 1 = y81_1_1 → ∀ y81_1_4 : Int, F_81 1 4 = y81_1_4 → (inr (x81_4)) → (inr (x81_5)) → (inr (x81_6)) → ((x81_6) ≤ ((a2 - 3))) → (((a2 - 3)) ≤ (x81_6) ∨ ((-1)) ≤ (x81_6)) → (0 ≤ (x81_4) ∧ (x81_4) < p2 ((y23_0_0))) → (0 ≤ (x81_5) ∧ (x81_5) < p2 ((y23_0_0))) → (0 ≤ (y81_1_1) ∧ (y81_1_1) ≤ (m20_1) ∧ (m20_1) ≤ 65536) → (0 ≤ (y81_1_4) ∧ (y81_1_4) ≤ 7) → ((x81_6) - ((-1))).toNat = m → Ew 106 (d + 2) 81 ls [] σ (c + c20) (s + s20) Q from
    hl81 _ _ _ _ _ (z30) (z32) ((a2 - 3)) ((rk_o (rk_o (rk_o (rfl) rfl rfl) rfl rfl) rfl rfl).trans (congrArg (fun q : Nat => some (Value.ref q)) (mD20 0 rfl).symm)) ((rk_o (rk_o (rk_o (rfl) rfl rfl) rfl rfl) rfl rfl).trans (congrArg (fun q : Nat => some (Value.ref q)) (mD20 1 rfl).symm)) (rk_o (rk_o (rk_o (rfl) rfl rfl) rfl rfl) rfl rfl) (rk_o (rk_o (rk_s) rfl rfl) rfl rfl) (rk_o (rk_s) rfl rfl) (rk_s) H O (SF_refl) (SA_refl)   (y26_1_1) (((((show F32 1 1 = F30 1 1 from (eF32 1 1))).trans ((show F30 1 1 = F26 1 1 from (eF30 1 1)))).trans ((eF26 1 1).trans ey26_1_1))) (y26_1_4) (((((show F32 1 4 = F30 1 4 from (eF32 1 4))).trans ((show F30 1 4 = F26 1 4 from (eF30 1 4)))).trans ((eF26 1 4).trans ey26_1_4)))  (show inr (z30) from pz30_0) (show inr (z32) from pz32_0) (show inr ((a2 - 3)) from q_3439 h4) (show ((a2 - 3)) ≤ ((a2 - 3)) from q_3438) (show ((a2 - 3)) ≤ ((a2 - 3)) ∨ ((-1)) ≤ ((a2 - 3)) from q_3437) (show 0 ≤ (z30) ∧ (z30) < p2 ((y23_0_0)) from pz30_1) (show 0 ≤ (z32) ∧ (z32) < p2 ((y23_0_0)) from pz32_1) (show 0 ≤ (y26_1_1) ∧ (y26_1_1) ≤ (m20_1) ∧ (m20_1) ≤ 65536 from pz26_0) (show 0 ≤ (y26_1_4) ∧ (y26_1_4) ≤ 7 from q_3436 pz26_1) rfl
  as_aux_lemma =>
  intro m
  induction m using Nat.strongRecOn with
  | _ m ih81 =>
    intro ls σ F_81 A_81 x81_4 x81_5 x81_6 l81_0 l81_1 l81_3 l81_4 l81_5 l81_6 H O hS_81 hA_81   y81_1_1 ey81_1_1 y81_1_4 ey81_1_4  j81_0 j81_1 j81_2 j81_3 j81_4 j81_5 j81_6 j81_7 j81_8 hm81
    have cF_81 : SF oz_F5clsl_0 F F_81 := SF_trans (cF32) hS_81 (any_sub (by decide +kernel))
    have mF_81 := SFm_of cF_81 oz_F5cls_12
    have cA_81 : SA oz_F5clsl_1 A A_81 := SA_trans (cA32) hA_81 (any_subA (by decide +kernel))
    have mA_81 := SAm_of cA_81 oz_F5cls_13
    try clear pz20_2
    have r33 : (-2147483648 : Int) ≤ y81_1_1 ∧ y81_1_1 ≤ 2147483647 := rngE (show (-2147483648 : Int) ≤ F_81 1 1 ∧ F_81 1 1 ≤ 2147483647 from H.krg 1 1 (ltn len_V106_thisorderSixa_oz_F5cls rfl)) (show F_81 1 1 = y81_1_1 from (ey81_1_1))
    have r34 : (-2147483648 : Int) ≤ y81_1_4 ∧ y81_1_4 ≤ 2147483647 := rngE (show (-2147483648 : Int) ≤ F_81 1 4 ∧ F_81 1 4 ≤ 2147483647 from H.krg 1 4 (ltn len_V106_thisorderSixa_oz_F5cls rfl)) (show F_81 1 4 = y81_1_4 from (ey81_1_4))
    refine Ew_of (pcₚ := 83) (fun _ => x_iload rfl l81_6) ?_
    refine w_iflt (t := 146) rfl rfl (show inr (x81_6) from j81_2) (fun b35 => ?_) (fun b35 => ?_)
    · refine Ew_of (pcₚ := 147) (fun _ => x_aload_n rfl l81_1) ?_
      refine Ew_of (pcₚ := 149) (fun _ => x_iload rfl l81_4) ?_
      refine Ew_of (pcₚ := 150) (fun _ => x_iload_n rfl l81_3) ?_
      refine v_inv H (o := 1) rfl rfl rfl rfl rfl rfl (by rfl) (C164 (D := puc 1025 D20) (N := puc 1025 N20) (HW_subc H oz_F5cls_29 oz_F5cls_16) ((((((((hS_81 1 0 rfl).trans ((show F32 1 0 = F30 1 0 from (eF32 1 0)))).trans ((show F30 1 0 = F26 1 0 from (eF30 1 0)))).trans ((show F26 1 0 = F25 1 0 from (eF26 1 0).trans (hS26 1 0 rfl)))).trans ((show F25 1 0 = F23 1 0 from (eF25 1 0)))).trans ((show F23 1 0 = F20 1 0 from (eF23 1 0))))).trans (pf20_1_0)) (m20_1) ((congrArg (fun q : Nat => (q : Int)) (eN20 2)).trans em20_1) (y81_1_1) ((ey81_1_1)) (y81_1_4) ((ey81_1_4)) (show inr (x81_4) from j81_0) (show inr (a3) from h1) (show 0 ≤ (y81_1_1) ∧ (y81_1_1) ≤ (m20_1) ∧ (m20_1) ≤ 65536 from j81_7) (show 0 ≤ (a3) ∧ (a3) ≤ 31 from q_2207 h5) (show 0 ≤ (y81_1_4) ∧ (y81_1_4) ≤ 7 from j81_8) (fun σ36 F36ₚ A36ₚ Hₚ Oₚ hS36 hA36 y36_0_1 ey36_0_1 y36_0_4 ey36_0_4 pz36_0 pz36_1 pz36_2 => ⟨rfl, ?_⟩))
      refine v_backc (c := (c + c20)) (s := (s + s20)) H oz_F5cls_29 oz_F5cls_16 Hₚ Oₚ (fun F36 A36 H Oₚ eF36 eA36 => ?_)
      have O := OUT_trans O Oₚ
      -- Row.addBits
      have cF36 : SF oz_F5clsl_0 F F36 := SF_trans (cF_81) (SF_gluc (ι := oz_F5clsl_4) oz_F5cls_16 hS36 eF36 (by decide +kernel)) (any_sub (lₚ := [(1, 1), (1, 2), (1, 3), (1, 4)]) (by decide +kernel))
      have mF36 := SFm_of cF36 oz_F5cls_12
      have cA36 : SA oz_F5clsl_1 A A36 := SA_trans (cA_81) (SA_gluc (ι := oz_F5clsl_4) oz_F5cls_16 hA36 eA36 (by decide +kernel)) (any_subA (lₚ := [2]) (by decide +kernel))
      have mA36 := SAm_of cA36 oz_F5cls_13
      have r37 : (-2147483648 : Int) ≤ y36_0_1 ∧ y36_0_1 ≤ 2147483647 := rngE (show (-2147483648 : Int) ≤ F36 1 1 ∧ F36 1 1 ≤ 2147483647 from H.krg 1 1 (ltn len_V106_thisorderSixa_oz_F5cls rfl)) (show F36 1 1 = y36_0_1 from ((eF36 1 1).trans ey36_0_1))
      have r38 : (-2147483648 : Int) ≤ y36_0_4 ∧ y36_0_4 ≤ 2147483647 := rngE (show (-2147483648 : Int) ≤ F36 1 4 ∧ F36 1 4 ≤ 2147483647 from H.krg 1 4 (ltn len_V106_thisorderSixa_oz_F5cls rfl)) (show F36 1 4 = y36_0_4 from ((eF36 1 4).trans ey36_0_4))
      refine Ew_of (pcₚ := 154) (fun _ => x_aload_n rfl l81_1) ?_
      refine Ew_of (pcₚ := 156) (fun _ => x_iload rfl l81_5) ?_
      refine Ew_of (pcₚ := 157) (fun _ => x_iload_n rfl l81_3) ?_
      refine v_inv H (o := 1) rfl rfl rfl rfl rfl rfl (by rfl) (C164 (D := puc 1025 D20) (N := puc 1025 N20) (HW_subc H oz_F5cls_29 oz_F5cls_16) ((((((((((show F36 1 0 = F_81 1 0 from (eF36 1 0).trans (hS36 0 0 rfl))).trans (hS_81 1 0 rfl)).trans ((show F32 1 0 = F30 1 0 from (eF32 1 0)))).trans ((show F30 1 0 = F26 1 0 from (eF30 1 0)))).trans ((show F26 1 0 = F25 1 0 from (eF26 1 0).trans (hS26 1 0 rfl)))).trans ((show F25 1 0 = F23 1 0 from (eF25 1 0)))).trans ((show F23 1 0 = F20 1 0 from (eF23 1 0))))).trans (pf20_1_0)) (m20_1) ((congrArg (fun q : Nat => (q : Int)) (eN20 2)).trans em20_1) (y36_0_1) (((eF36 1 1).trans ey36_0_1)) (y36_0_4) (((eF36 1 4).trans ey36_0_4)) (show inr (x81_5) from j81_1) (show inr (a3) from h1) (show 0 ≤ (y36_0_1) ∧ (y36_0_1) ≤ (m20_1) ∧ (m20_1) ≤ 65536 from pz36_0) (show 0 ≤ (a3) ∧ (a3) ≤ 31 from q_2207 h5) (show 0 ≤ (y36_0_4) ∧ (y36_0_4) ≤ 7 from pz36_2) (fun σ39 F39ₚ A39ₚ Hₚ Oₚ hS39 hA39 y39_0_1 ey39_0_1 y39_0_4 ey39_0_4 pz39_0 pz39_1 pz39_2 => ⟨rfl, ?_⟩))
      refine v_backc (c := (c + c20)) (s := (s + s20)) H oz_F5cls_29 oz_F5cls_16 Hₚ Oₚ (fun F39 A39 H Oₚ eF39 eA39 => ?_)
      have O := OUT_trans O Oₚ
      -- Row.addBits
      have cF39 : SF oz_F5clsl_0 F F39 := SF_trans (cF36) (SF_gluc (ι := oz_F5clsl_4) oz_F5cls_16 hS39 eF39 (by decide +kernel)) (any_sub (lₚ := [(1, 1), (1, 2), (1, 3), (1, 4)]) (by decide +kernel))
      have mF39 := SFm_of cF39 oz_F5cls_12
      have cA39 : SA oz_F5clsl_1 A A39 := SA_trans (cA36) (SA_gluc (ι := oz_F5clsl_4) oz_F5cls_16 hA39 eA39 (by decide +kernel)) (any_subA (lₚ := [2]) (by decide +kernel))
      have mA39 := SAm_of cA39 oz_F5cls_13
      have r40 : (-2147483648 : Int) ≤ y39_0_1 ∧ y39_0_1 ≤ 2147483647 := rngE (show (-2147483648 : Int) ≤ F39 1 1 ∧ F39 1 1 ≤ 2147483647 from H.krg 1 1 (ltn len_V106_thisorderSixa_oz_F5cls rfl)) (show F39 1 1 = y39_0_1 from ((eF39 1 1).trans ey39_0_1))
      have r41 : (-2147483648 : Int) ≤ y39_0_4 ∧ y39_0_4 ≤ 2147483647 := rngE (show (-2147483648 : Int) ≤ F39 1 4 ∧ F39 1 4 ≤ 2147483647 from H.krg 1 4 (ltn len_V106_thisorderSixa_oz_F5cls rfl)) (show F39 1 4 = y39_0_4 from ((eF39 1 4).trans ey39_0_4))
      refine Ew_of (pcₚ := 161) (fun _ => x_aload_n rfl l81_1) ?_
      refine Ew_of (pcₚ := 162) (fun _ => x_iconst rfl) ?_
      refine Ew_of (pcₚ := 163) (fun _ => x_iconst rfl) ?_
      refine v_inv H (o := 1) rfl rfl rfl rfl rfl rfl (by rfl) (C164 (D := puc 1025 D20) (N := puc 1025 N20) (HW_subc H oz_F5cls_29 oz_F5cls_16) (((((((((((show F39 1 0 = F36 1 0 from (eF39 1 0).trans (hS39 0 0 rfl))).trans ((show F36 1 0 = F_81 1 0 from (eF36 1 0).trans (hS36 0 0 rfl)))).trans (hS_81 1 0 rfl)).trans ((show F32 1 0 = F30 1 0 from (eF32 1 0)))).trans ((show F30 1 0 = F26 1 0 from (eF30 1 0)))).trans ((show F26 1 0 = F25 1 0 from (eF26 1 0).trans (hS26 1 0 rfl)))).trans ((show F25 1 0 = F23 1 0 from (eF25 1 0)))).trans ((show F23 1 0 = F20 1 0 from (eF23 1 0))))).trans (pf20_1_0)) (m20_1) ((congrArg (fun q : Nat => (q : Int)) (eN20 2)).trans em20_1) (y39_0_1) (((eF39 1 1).trans ey39_0_1)) (y39_0_4) (((eF39 1 4).trans ey39_0_4)) (show inr (1) from q_23) (show inr (1) from q_23) (show 0 ≤ (y39_0_1) ∧ (y39_0_1) ≤ (m20_1) ∧ (m20_1) ≤ 65536 from pz39_0) (show 0 ≤ (1) ∧ (1) ≤ 31 from q_1911) (show 0 ≤ (y39_0_4) ∧ (y39_0_4) ≤ 7 from pz39_2) (fun σ42 F42ₚ A42ₚ Hₚ Oₚ hS42 hA42 y42_0_1 ey42_0_1 y42_0_4 ey42_0_4 pz42_0 pz42_1 pz42_2 => ⟨rfl, ?_⟩))
      refine v_backc (c := (c + c20)) (s := (s + s20)) H oz_F5cls_29 oz_F5cls_16 Hₚ Oₚ (fun F42 A42 H Oₚ eF42 eA42 => ?_)
      have O := OUT_trans O Oₚ
      -- Row.addBits
      have cF42 : SF oz_F5clsl_0 F F42 := SF_trans (cF39) (SF_gluc (ι := oz_F5clsl_4) oz_F5cls_16 hS42 eF42 (by decide +kernel)) (any_sub (lₚ := [(1, 1), (1, 2), (1, 3), (1, 4)]) (by decide +kernel))
      have mF42 := SFm_of cF42 oz_F5cls_12
      have cA42 : SA oz_F5clsl_1 A A42 := SA_trans (cA39) (SA_gluc (ι := oz_F5clsl_4) oz_F5cls_16 hA42 eA42 (by decide +kernel)) (any_subA (lₚ := [2]) (by decide +kernel))
      have mA42 := SAm_of cA42 oz_F5cls_13
      have r43 : (-2147483648 : Int) ≤ y42_0_1 ∧ y42_0_1 ≤ 2147483647 := rngE (show (-2147483648 : Int) ≤ F42 1 1 ∧ F42 1 1 ≤ 2147483647 from H.krg 1 1 (ltn len_V106_thisorderSixa_oz_F5cls rfl)) (show F42 1 1 = y42_0_1 from ((eF42 1 1).trans ey42_0_1))
      have r44 : (-2147483648 : Int) ≤ y42_0_4 ∧ y42_0_4 ≤ 2147483647 := rngE (show (-2147483648 : Int) ≤ F42 1 4 ∧ F42 1 4 ≤ 2147483647 from H.krg 1 4 (ltn len_V106_thisorderSixa_oz_F5cls rfl)) (show F42 1 4 = y42_0_4 from ((eF42 1 4).trans ey42_0_4))
      refine Ew_of (pcₚ := 167) (fun _ => x_aload_n rfl l81_1) ?_
      refine v_inv H (o := 1) rfl rfl rfl rfl rfl rfl (by rfl) (C165h (D := puc 1025 D20) (N := puc 1025 N20) (HW_subc H oz_F5cls_30 oz_F5cls_16) ((((((((((((show F42 1 0 = F39 1 0 from (eF42 1 0).trans (hS42 0 0 rfl))).trans ((show F39 1 0 = F36 1 0 from (eF39 1 0).trans (hS39 0 0 rfl)))).trans ((show F36 1 0 = F_81 1 0 from (eF36 1 0).trans (hS36 0 0 rfl)))).trans (hS_81 1 0 rfl)).trans ((show F32 1 0 = F30 1 0 from (eF32 1 0)))).trans ((show F30 1 0 = F26 1 0 from (eF30 1 0)))).trans ((show F26 1 0 = F25 1 0 from (eF26 1 0).trans (hS26 1 0 rfl)))).trans ((show F25 1 0 = F23 1 0 from (eF25 1 0)))).trans ((show F23 1 0 = F20 1 0 from (eF23 1 0))))).trans (pf20_1_0)) (m20_1) ((congrArg (fun q : Nat => (q : Int)) (eN20 2)).trans em20_1) (y42_0_1) (((eF42 1 1).trans ey42_0_1)) (y42_0_4) (((eF42 1 4).trans ey42_0_4)) (show 0 ≤ (y42_0_1) ∧ (y42_0_1) ≤ (m20_1) ∧ (m20_1) ≤ 65536 from pz42_0) (fun σ45 F45ₚ A45ₚ Hₚ Oₚ hS45 hA45 y45_0_1 ey45_0_1 y45_0_4 ey45_0_4 pz45_0 pz45_1 => ⟨rfl, ?_⟩))
      refine v_backc (c := (c + c20)) (s := (s + s20)) H oz_F5cls_30 oz_F5cls_16 Hₚ Oₚ (fun F45 A45 H Oₚ eF45 eA45 => ?_)
      have O := OUT_trans O Oₚ
      -- Row.endBits
      have cF45 : SF oz_F5clsl_0 F F45 := SF_trans (cF42) (SF_gluc (ι := oz_F5clsl_4) oz_F5cls_16 hS45 eF45 (by decide +kernel)) (any_sub (lₚ := [(1, 1), (1, 2), (1, 3), (1, 4)]) (by decide +kernel))
      have mF45 := SFm_of cF45 oz_F5cls_12
      have cA45 : SA oz_F5clsl_1 A A45 := SA_trans (cA42) (SA_gluc (ι := oz_F5clsl_4) oz_F5cls_16 hA45 eA45 (by decide +kernel)) (any_subA (lₚ := [2]) (by decide +kernel))
      have mA45 := SAm_of cA45 oz_F5cls_13
      have r46 : (-2147483648 : Int) ≤ y45_0_1 ∧ y45_0_1 ≤ 2147483647 := rngE (show (-2147483648 : Int) ≤ F45 1 1 ∧ F45 1 1 ≤ 2147483647 from H.krg 1 1 (ltn len_V106_thisorderSixa_oz_F5cls rfl)) (show F45 1 1 = y45_0_1 from ((eF45 1 1).trans ey45_0_1))
      have r47 : (-2147483648 : Int) ≤ y45_0_4 ∧ y45_0_4 ≤ 2147483647 := rngE (show (-2147483648 : Int) ≤ F45 1 4 ∧ F45 1 4 ≤ 2147483647 from H.krg 1 4 (ltn len_V106_thisorderSixa_oz_F5cls rfl)) (show F45 1 4 = y45_0_4 from ((eF45 1 4).trans ey45_0_4))
      exact w_ret rfl (k _ _ _ _ _ _ _ H O (cD20) (cN20) (cF45) (cA45) (((((((((((((show F45 1 0 = F42 1 0 from (eF45 1 0).trans (hS45 0 0 rfl))).trans ((show F42 1 0 = F39 1 0 from (eF42 1 0).trans (hS42 0 0 rfl)))).trans ((show F39 1 0 = F36 1 0 from (eF39 1 0).trans (hS39 0 0 rfl)))).trans ((show F36 1 0 = F_81 1 0 from (eF36 1 0).trans (hS36 0 0 rfl)))).trans (hS_81 1 0 rfl)).trans ((show F32 1 0 = F30 1 0 from (eF32 1 0)))).trans ((show F30 1 0 = F26 1 0 from (eF30 1 0)))).trans ((show F26 1 0 = F25 1 0 from (eF26 1 0).trans (hS26 1 0 rfl)))).trans ((show F25 1 0 = F23 1 0 from (eF25 1 0)))).trans ((show F23 1 0 = F20 1 0 from (eF23 1 0))))).trans (pf20_1_0)) (m20_1) ((congrArg (fun q : Nat => (q : Int)) (eN20 2)).trans em20_1) (y45_0_1) (((eF45 1 1).trans ey45_0_1)) (y45_0_4) (((eF45 1 4).trans ey45_0_4)) (show 0 ≤ (y45_0_1) ∧ (y45_0_1) ≤ (m20_1) ∧ (m20_1) ≤ 65536 from pz45_0) (show (y45_0_4) = 0 from q_3250 pz45_1))
    · refine Ew_of (pcₚ := 87) (fun _ => x_aload_n rfl l81_0) ?_
      refine v_g H (o := 0) (v := .ref (D20 3)) rfl rfl rfl rfl rfl (vrf ((mF_81 0 6 rfl).trans ((pf3).trans (congrArg (fun q : Nat => (q : Int)) (mD20 3 rfl).symm)))) ?_
      refine Ew_of (pcₚ := 92) (fun _ => x_iload rfl l81_4) ?_
      refine Ew_of (pcₚ := 93) (fun _ => x_aload_n rfl l81_0) ?_
      refine v_g H (o := 0) (v := .ref (D20 12)) rfl rfl rfl rfl rfl (vrf ((mF_81 0 4 rfl).trans ((pf12).trans (congrArg (fun q : Nat => (q : Int)) (mD20 12 rfl).symm)))) ?_
      refine Ew_of (pcₚ := 98) (fun _ => x_iload rfl l81_6) ?_
      refine v_lI H (o := 12) rfl rfl rfl rfl (n := n12) ((congrArg (fun q : Nat => (q : Int)) (mN20 12 rfl)).trans (en12)) (show 0 ≤ x81_6 ∧ x81_6 < n12 from q_3440 b35 h4 h6 j81_3 r13) (fun v48 ev48 qv48 => ?_)
      have ev48 : (w12) (x81_6) = v48 := (congrFun ((funext (mA_81 12 rfl)).trans (ew12)) (x81_6)).symm.trans ev48
      have hwaz := hwg ((x81_6)) (by omega) (by omega)
      have heaz := ev48
      rw [heaz] at hwaz
      have hcpz := WCN_pos hwc (by omega) (by omega) heaz (by omega) (by omega)
      have hdpz := hdv ((v48)) (by omega) (by omega)
      refine v_inv H (o := 3) rfl rfl rfl rfl rfl rfl (by rfl) (C175 (D := puc 37880551437274713425923 D20) (N := puc 37880551437274713425923 N20) (HW_subc H oz_F5cls_31 oz_F5cls_20) ((mF_81 3 2 rfl).trans ((pf4).trans (congrArg (fun q : Nat => (q : Int)) (mD20 4 rfl).symm))) ((mF_81 3 3 rfl).trans ((pf5).trans (congrArg (fun q : Nat => (q : Int)) (mD20 5 rfl).symm))) ((mF_81 3 4 rfl).trans ((pf6).trans (congrArg (fun q : Nat => (q : Int)) (mD20 6 rfl).symm))) ((mF_81 3 5 rfl).trans ((pf7).trans (congrArg (fun q : Nat => (q : Int)) (mD20 7 rfl).symm))) ((mF_81 3 7 rfl).trans ((pf10).trans (congrArg (fun q : Nat => (q : Int)) (mD20 10 rfl).symm))) ((mF_81 3 8 rfl).trans ((pf9).trans (congrArg (fun q : Nat => (q : Int)) (mD20 9 rfl).symm))) ((mF_81 3 9 rfl).trans ((pf11).trans (congrArg (fun q : Nat => (q : Int)) (mD20 11 rfl).symm))) ((mF_81 3 6 rfl).trans ((pf8).trans (congrArg (fun q : Nat => (q : Int)) (mD20 8 rfl).symm))) (n4) ((congrArg (fun q : Nat => (q : Int)) (mN20 4 rfl)).trans (en4)) (n5) ((congrArg (fun q : Nat => (q : Int)) (mN20 5 rfl)).trans (en5)) (n6) ((congrArg (fun q : Nat => (q : Int)) (mN20 6 rfl)).trans (en6)) (n7) ((congrArg (fun q : Nat => (q : Int)) (mN20 7 rfl)).trans (en7)) (n10) ((congrArg (fun q : Nat => (q : Int)) (mN20 10 rfl)).trans (en10)) (n9) ((congrArg (fun q : Nat => (q : Int)) (mN20 9 rfl)).trans (en9)) (n11) ((congrArg (fun q : Nat => (q : Int)) (mN20 11 rfl)).trans (en11)) (n8) ((congrArg (fun q : Nat => (q : Int)) (mN20 8 rfl)).trans (en8)) (y23_0_0) (((((((hS_81 3 0 rfl).trans ((show F32 3 0 = F30 3 0 from (eF32 3 0).trans (hS32 0 0 rfl)))).trans ((show F30 3 0 = F26 3 0 from (eF30 3 0).trans (hS30 0 0 rfl)))).trans ((show F26 3 0 = F25 3 0 from (eF26 3 0).trans (hS26 0 0 rfl)))).trans ((show F25 3 0 = F23 3 0 from (eF25 3 0).trans (hS25 0 0 rfl)))).trans ((eF23 3 0).trans ey23_0_0))) (u3_1) (((mF_81 3 1 rfl).trans (eu3_1))) (w23_2) ((funext (hA_81 4 rfl)).trans (((show A32 4 = A30 4 from (eA32 4).trans (funext (hA32 1 rfl)))).trans (((show A30 4 = A26 4 from (eA30 4).trans (funext (hA30 1 rfl)))).trans (((show A26 4 = A25 4 from (eA26 4).trans (funext (hA26 2 rfl)))).trans (((show A25 4 = A23 4 from (eA25 4).trans (funext (hA25 1 rfl)))).trans ((eA23 4).trans ew23_2)))))) (w25_2) ((funext (hA_81 5 rfl)).trans (((show A32 5 = A30 5 from (eA32 5).trans (funext (hA32 2 rfl)))).trans (((show A30 5 = A26 5 from (eA30 5).trans (funext (hA30 2 rfl)))).trans (((show A26 5 = A25 5 from (eA26 5))).trans ((eA25 5).trans ew25_2))))) (w25_3) ((funext (hA_81 6 rfl)).trans (((show A32 6 = A30 6 from (eA32 6).trans (funext (hA32 3 rfl)))).trans (((show A30 6 = A26 6 from (eA30 6).trans (funext (hA30 3 rfl)))).trans (((show A26 6 = A25 6 from (eA26 6))).trans ((eA25 6).trans ew25_3))))) (w25_4) ((funext (hA_81 7 rfl)).trans (((show A32 7 = A30 7 from (eA32 7).trans (funext (hA32 4 rfl)))).trans (((show A30 7 = A26 7 from (eA30 7).trans (funext (hA30 4 rfl)))).trans (((show A26 7 = A25 7 from (eA26 7))).trans ((eA25 7).trans ew25_4))))) (w25_7) ((funext (hA_81 10 rfl)).trans (((show A32 10 = A30 10 from (eA32 10).trans (funext (hA32 5 rfl)))).trans (((show A30 10 = A26 10 from (eA30 10).trans (funext (hA30 5 rfl)))).trans (((show A26 10 = A25 10 from (eA26 10))).trans ((eA25 10).trans ew25_7))))) (w25_6) ((funext (hA_81 9 rfl)).trans (((show A32 9 = A30 9 from (eA32 9).trans (funext (hA32 6 rfl)))).trans (((show A30 9 = A26 9 from (eA30 9).trans (funext (hA30 6 rfl)))).trans (((show A26 9 = A25 9 from (eA26 9))).trans ((eA25 9).trans ew25_6))))) (w25_8) ((funext (hA_81 11 rfl)).trans (((show A32 11 = A30 11 from (eA32 11).trans (funext (hA32 7 rfl)))).trans (((show A30 11 = A26 11 from (eA30 11).trans (funext (hA30 7 rfl)))).trans (((show A26 11 = A25 11 from (eA26 11))).trans ((eA25 11).trans ew25_8))))) (show inr (x81_4) from j81_0) (show inr (v48) from qv48) (show SL ((w23_2)) ((u3_1)) ((y23_0_0)) ((w25_2)) ((w25_3)) ((w25_4)) ((w25_7)) ((w25_6)) ((w25_8)) from pz25_0) (show (n4) = (u3_1) ∧ (n5) = (u3_1) ∧ (n6) = (u3_1) ∧ (n7) = (u3_1) ∧ (n8) = (u3_1) ∧ (n9) = (n10) ∧ (n11) = (n10) ∧ p2 ((y23_0_0)) ≤ (n10) from q_3374 h3 hp6 hpo) (show 0 ≤ (x81_4) ∧ (x81_4) < p2 ((y23_0_0)) from j81_5) (show 0 ≤ (v48) ∧ (v48) < ((u3_1)) ∧ ((w23_2)) (v48) ≠ 0 by omega) (fun z49 σ49 F49ₚ A49ₚ Hₚ Oₚ hS49 hA49 pz49_0 pz49_1 pz49_2 => ⟨rfl, ?_⟩))
      refine v_backc (c := (c + c20)) (s := (s + s20)) H oz_F5cls_31 oz_F5cls_20 Hₚ Oₚ (fun F49 A49 H Oₚ eF49 eA49 => ?_)
      have O := OUT_trans O Oₚ
      -- Share.bitsAhead
      have cF49 : SF oz_F5clsl_0 F F49 := SF_trans (cF_81) (SF_gluc (ι := oz_F5clsl_8) oz_F5cls_20 hS49 eF49 (by decide +kernel)) (any_sub (lₚ := []) (by decide +kernel))
      have mF49 := SFm_of cF49 oz_F5cls_12
      have cA49 : SA oz_F5clsl_1 A A49 := SA_trans (cA_81) (SA_gluc (ι := oz_F5clsl_8) oz_F5cls_20 hA49 eA49 (by decide +kernel)) (any_subA (lₚ := []) (by decide +kernel))
      have mA49 := SAm_of cA49 oz_F5cls_13
      refine Ew_of (pcₚ := 104) (fun _ => x_istore rfl) ?_
      refine Ew_of (pcₚ := 105) (fun _ => x_aload_n rfl (rk_o (l81_1) rfl rfl)) ?_
      refine Ew_of (pcₚ := 107) (fun _ => x_iload rfl (rk_o (l81_4) rfl rfl)) ?_
      refine Ew_of (pcₚ := 109) (fun _ => x_iload rfl rk_s) ?_
      refine v_inv H (o := 1) rfl rfl rfl rfl rfl rfl (by rfl) (C164 (D := puc 1025 D20) (N := puc 1025 N20) (HW_subc H oz_F5cls_29 oz_F5cls_16) ((((((((((show F49 1 0 = F_81 1 0 from (eF49 1 0))).trans (hS_81 1 0 rfl)).trans ((show F32 1 0 = F30 1 0 from (eF32 1 0)))).trans ((show F30 1 0 = F26 1 0 from (eF30 1 0)))).trans ((show F26 1 0 = F25 1 0 from (eF26 1 0).trans (hS26 1 0 rfl)))).trans ((show F25 1 0 = F23 1 0 from (eF25 1 0)))).trans ((show F23 1 0 = F20 1 0 from (eF23 1 0))))).trans (pf20_1_0)) (m20_1) ((congrArg (fun q : Nat => (q : Int)) (eN20 2)).trans em20_1) (y81_1_1) ((((show F49 1 1 = F_81 1 1 from (eF49 1 1))).trans (ey81_1_1))) (y81_1_4) ((((show F49 1 4 = F_81 1 4 from (eF49 1 4))).trans (ey81_1_4))) (show inr (x81_4) from j81_0) (show inr (z49) from pz49_0) (show 0 ≤ (y81_1_1) ∧ (y81_1_1) ≤ (m20_1) ∧ (m20_1) ≤ 65536 from j81_7) (show 0 ≤ (z49) ∧ (z49) ≤ 31 from q_3441 h5 pz23_2 pz49_2) (show 0 ≤ (y81_1_4) ∧ (y81_1_4) ≤ 7 from j81_8) (fun σ50 F50ₚ A50ₚ Hₚ Oₚ hS50 hA50 y50_0_1 ey50_0_1 y50_0_4 ey50_0_4 pz50_0 pz50_1 pz50_2 => ⟨rfl, ?_⟩))
      refine v_backc (c := (c + c20)) (s := (s + s20)) H oz_F5cls_29 oz_F5cls_16 Hₚ Oₚ (fun F50 A50 H Oₚ eF50 eA50 => ?_)
      have O := OUT_trans O Oₚ
      -- Row.addBits
      have cF50 : SF oz_F5clsl_0 F F50 := SF_trans (cF49) (SF_gluc (ι := oz_F5clsl_4) oz_F5cls_16 hS50 eF50 (by decide +kernel)) (any_sub (lₚ := [(1, 1), (1, 2), (1, 3), (1, 4)]) (by decide +kernel))
      have mF50 := SFm_of cF50 oz_F5cls_12
      have cA50 : SA oz_F5clsl_1 A A50 := SA_trans (cA49) (SA_gluc (ι := oz_F5clsl_4) oz_F5cls_16 hA50 eA50 (by decide +kernel)) (any_subA (lₚ := [2]) (by decide +kernel))
      have mA50 := SAm_of cA50 oz_F5cls_13
      have r51 : (-2147483648 : Int) ≤ y50_0_1 ∧ y50_0_1 ≤ 2147483647 := rngE (show (-2147483648 : Int) ≤ F50 1 1 ∧ F50 1 1 ≤ 2147483647 from H.krg 1 1 (ltn len_V106_thisorderSixa_oz_F5cls rfl)) (show F50 1 1 = y50_0_1 from ((eF50 1 1).trans ey50_0_1))
      have r52 : (-2147483648 : Int) ≤ y50_0_4 ∧ y50_0_4 ≤ 2147483647 := rngE (show (-2147483648 : Int) ≤ F50 1 4 ∧ F50 1 4 ≤ 2147483647 from H.krg 1 4 (ltn len_V106_thisorderSixa_oz_F5cls rfl)) (show F50 1 4 = y50_0_4 from ((eF50 1 4).trans ey50_0_4))
      refine Ew_of (pcₚ := 113) (fun _ => x_aload_n rfl (rk_o (l81_0) rfl rfl)) ?_
      refine v_g H (o := 0) (v := .ref (D20 3)) rfl rfl rfl rfl rfl (vrf ((mF50 0 6 rfl).trans ((pf3).trans (congrArg (fun q : Nat => (q : Int)) (mD20 3 rfl).symm)))) ?_
      refine Ew_of (pcₚ := 118) (fun _ => x_iload rfl (rk_o (l81_4) rfl rfl)) ?_
      refine Ew_of (pcₚ := 119) (fun _ => x_aload_n rfl (rk_o (l81_0) rfl rfl)) ?_
      refine v_g H (o := 0) (v := .ref (D20 12)) rfl rfl rfl rfl rfl (vrf ((mF50 0 4 rfl).trans ((pf12).trans (congrArg (fun q : Nat => (q : Int)) (mD20 12 rfl).symm)))) ?_
      refine Ew_of (pcₚ := 124) (fun _ => x_iload rfl (rk_o (l81_6) rfl rfl)) ?_
      refine v_lI H (o := 12) rfl rfl rfl rfl (n := n12) ((congrArg (fun q : Nat => (q : Int)) (mN20 12 rfl)).trans (en12)) (show 0 ≤ x81_6 ∧ x81_6 < n12 from q_3440 b35 h4 h6 j81_3 r13) (fun v53 ev53 qv53 => ?_)
      have ev53 : (w12) (x81_6) = v53 := (congrFun ((funext (mA50 12 rfl)).trans (ew12)) (x81_6)).symm.trans ev53
      have hwaw := hwg ((x81_6)) (by omega) (by omega)
      have heaw := ev53
      rw [heaw] at hwaw
      have hcpw := WCN_pos hwc (by omega) (by omega) heaw (by omega) (by omega)
      have hdpw := hdv ((v53)) (by omega) (by omega)
      refine Ew_of (pcₚ := 127) (fun _ => x_iload rfl rk_s) ?_
      have hbx : BA (mass (((w23_2)) ((v53)))) ((y23_0_0)) ((x81_4)) ((z49)) := by rw [← heaw, heaz]; exact pz49_1
      refine v_inv H (o := 3) rfl rfl rfl rfl rfl rfl (by rfl) (C176 (D := puc 37880551437274713425923 D20) (N := puc 37880551437274713425923 N20) (HW_subc H oz_F5cls_32 oz_F5cls_20) ((mF50 3 2 rfl).trans ((pf4).trans (congrArg (fun q : Nat => (q : Int)) (mD20 4 rfl).symm))) ((mF50 3 3 rfl).trans ((pf5).trans (congrArg (fun q : Nat => (q : Int)) (mD20 5 rfl).symm))) ((mF50 3 4 rfl).trans ((pf6).trans (congrArg (fun q : Nat => (q : Int)) (mD20 6 rfl).symm))) ((mF50 3 5 rfl).trans ((pf7).trans (congrArg (fun q : Nat => (q : Int)) (mD20 7 rfl).symm))) ((mF50 3 7 rfl).trans ((pf10).trans (congrArg (fun q : Nat => (q : Int)) (mD20 10 rfl).symm))) ((mF50 3 8 rfl).trans ((pf9).trans (congrArg (fun q : Nat => (q : Int)) (mD20 9 rfl).symm))) ((mF50 3 9 rfl).trans ((pf11).trans (congrArg (fun q : Nat => (q : Int)) (mD20 11 rfl).symm))) ((mF50 3 6 rfl).trans ((pf8).trans (congrArg (fun q : Nat => (q : Int)) (mD20 8 rfl).symm))) (n4) ((congrArg (fun q : Nat => (q : Int)) (mN20 4 rfl)).trans (en4)) (n5) ((congrArg (fun q : Nat => (q : Int)) (mN20 5 rfl)).trans (en5)) (n6) ((congrArg (fun q : Nat => (q : Int)) (mN20 6 rfl)).trans (en6)) (n7) ((congrArg (fun q : Nat => (q : Int)) (mN20 7 rfl)).trans (en7)) (n10) ((congrArg (fun q : Nat => (q : Int)) (mN20 10 rfl)).trans (en10)) (n9) ((congrArg (fun q : Nat => (q : Int)) (mN20 9 rfl)).trans (en9)) (n11) ((congrArg (fun q : Nat => (q : Int)) (mN20 11 rfl)).trans (en11)) (n8) ((congrArg (fun q : Nat => (q : Int)) (mN20 8 rfl)).trans (en8)) (y23_0_0) ((((((((((show F50 3 0 = F49 3 0 from (eF50 3 0))).trans ((show F49 3 0 = F_81 3 0 from (eF49 3 0).trans (hS49 0 0 rfl)))).trans (hS_81 3 0 rfl)).trans ((show F32 3 0 = F30 3 0 from (eF32 3 0).trans (hS32 0 0 rfl)))).trans ((show F30 3 0 = F26 3 0 from (eF30 3 0).trans (hS30 0 0 rfl)))).trans ((show F26 3 0 = F25 3 0 from (eF26 3 0).trans (hS26 0 0 rfl)))).trans ((show F25 3 0 = F23 3 0 from (eF25 3 0).trans (hS25 0 0 rfl)))).trans ((eF23 3 0).trans ey23_0_0))) (u3_1) (((mF50 3 1 rfl).trans (eu3_1))) (w23_2) (((show A50 4 = A49 4 from (eA50 4))).trans (((show A49 4 = A_81 4 from (eA49 4).trans (funext (hA49 1 rfl)))).trans ((funext (hA_81 4 rfl)).trans (((show A32 4 = A30 4 from (eA32 4).trans (funext (hA32 1 rfl)))).trans (((show A30 4 = A26 4 from (eA30 4).trans (funext (hA30 1 rfl)))).trans (((show A26 4 = A25 4 from (eA26 4).trans (funext (hA26 2 rfl)))).trans (((show A25 4 = A23 4 from (eA25 4).trans (funext (hA25 1 rfl)))).trans ((eA23 4).trans ew23_2)))))))) (w25_2) (((show A50 5 = A49 5 from (eA50 5))).trans (((show A49 5 = A_81 5 from (eA49 5).trans (funext (hA49 2 rfl)))).trans ((funext (hA_81 5 rfl)).trans (((show A32 5 = A30 5 from (eA32 5).trans (funext (hA32 2 rfl)))).trans (((show A30 5 = A26 5 from (eA30 5).trans (funext (hA30 2 rfl)))).trans (((show A26 5 = A25 5 from (eA26 5))).trans ((eA25 5).trans ew25_2))))))) (w25_3) (((show A50 6 = A49 6 from (eA50 6))).trans (((show A49 6 = A_81 6 from (eA49 6).trans (funext (hA49 3 rfl)))).trans ((funext (hA_81 6 rfl)).trans (((show A32 6 = A30 6 from (eA32 6).trans (funext (hA32 3 rfl)))).trans (((show A30 6 = A26 6 from (eA30 6).trans (funext (hA30 3 rfl)))).trans (((show A26 6 = A25 6 from (eA26 6))).trans ((eA25 6).trans ew25_3))))))) (w25_4) (((show A50 7 = A49 7 from (eA50 7))).trans (((show A49 7 = A_81 7 from (eA49 7).trans (funext (hA49 4 rfl)))).trans ((funext (hA_81 7 rfl)).trans (((show A32 7 = A30 7 from (eA32 7).trans (funext (hA32 4 rfl)))).trans (((show A30 7 = A26 7 from (eA30 7).trans (funext (hA30 4 rfl)))).trans (((show A26 7 = A25 7 from (eA26 7))).trans ((eA25 7).trans ew25_4))))))) (w25_7) (((show A50 10 = A49 10 from (eA50 10))).trans (((show A49 10 = A_81 10 from (eA49 10).trans (funext (hA49 5 rfl)))).trans ((funext (hA_81 10 rfl)).trans (((show A32 10 = A30 10 from (eA32 10).trans (funext (hA32 5 rfl)))).trans (((show A30 10 = A26 10 from (eA30 10).trans (funext (hA30 5 rfl)))).trans (((show A26 10 = A25 10 from (eA26 10))).trans ((eA25 10).trans ew25_7))))))) (w25_6) (((show A50 9 = A49 9 from (eA50 9))).trans (((show A49 9 = A_81 9 from (eA49 9).trans (funext (hA49 6 rfl)))).trans ((funext (hA_81 9 rfl)).trans (((show A32 9 = A30 9 from (eA32 9).trans (funext (hA32 6 rfl)))).trans (((show A30 9 = A26 9 from (eA30 9).trans (funext (hA30 6 rfl)))).trans (((show A26 9 = A25 9 from (eA26 9))).trans ((eA25 9).trans ew25_6))))))) (w25_8) (((show A50 11 = A49 11 from (eA50 11))).trans (((show A49 11 = A_81 11 from (eA49 11).trans (funext (hA49 7 rfl)))).trans ((funext (hA_81 11 rfl)).trans (((show A32 11 = A30 11 from (eA32 11).trans (funext (hA32 7 rfl)))).trans (((show A30 11 = A26 11 from (eA30 11).trans (funext (hA30 7 rfl)))).trans (((show A26 11 = A25 11 from (eA26 11))).trans ((eA25 11).trans ew25_8))))))) (show inr (x81_4) from j81_0) (show inr (v53) from qv53) (show inr (z49) from pz49_0) (show SL ((w23_2)) ((u3_1)) ((y23_0_0)) ((w25_2)) ((w25_3)) ((w25_4)) ((w25_7)) ((w25_6)) ((w25_8)) from pz25_0) (show (n4) = (u3_1) ∧ (n5) = (u3_1) ∧ (n6) = (u3_1) ∧ (n7) = (u3_1) ∧ (n8) = (u3_1) ∧ (n9) = (n10) ∧ (n11) = (n10) ∧ p2 ((y23_0_0)) ≤ (n10) from q_3374 h3 hp6 hpo) (show 0 ≤ (x81_4) ∧ (x81_4) < p2 ((y23_0_0)) from j81_5) (show 0 ≤ (v53) ∧ (v53) < ((u3_1)) ∧ ((w23_2)) (v53) ≠ 0 by omega) (show BA (mass (((w23_2)) (v53))) ((y23_0_0)) (x81_4) (z49) from hbx) (fun z54 σ54 F54ₚ A54ₚ Hₚ Oₚ hS54 hA54 pz54_0 pz54_1 pz54_2 => ⟨rfl, ?_⟩))
      refine v_backc (c := (c + c20)) (s := (s + s20)) H oz_F5cls_32 oz_F5cls_20 Hₚ Oₚ (fun F54 A54 H Oₚ eF54 eA54 => ?_)
      have O := OUT_trans O Oₚ
      -- Share.placeAhead
      have cF54 : SF oz_F5clsl_0 F F54 := SF_trans (cF50) (SF_gluc (ι := oz_F5clsl_8) oz_F5cls_20 hS54 eF54 (by decide +kernel)) (any_sub (lₚ := []) (by decide +kernel))
      have mF54 := SFm_of cF54 oz_F5cls_12
      have cA54 : SA oz_F5clsl_1 A A54 := SA_trans (cA50) (SA_gluc (ι := oz_F5clsl_8) oz_F5cls_20 hA54 eA54 (by decide +kernel)) (any_subA (lₚ := []) (by decide +kernel))
      have mA54 := SAm_of cA54 oz_F5cls_13
      refine Ew_of (pcₚ := 132) (fun _ => x_istore rfl) ?_
      refine Ew_of (pcₚ := 134) (fun _ => x_iload rfl (rk_o (rk_o (l81_5) rfl rfl) rfl rfl)) ?_
      refine Ew_of (pcₚ := 136) (fun _ => x_istore rfl) ?_
      refine Ew_of (pcₚ := 138) (fun _ => x_iload rfl (rk_o (rk_s) rfl rfl)) ?_
      refine Ew_of (pcₚ := 140) (fun _ => x_istore rfl) ?_
      refine Ew_of (pcₚ := 143) (fun _ => x_iinc (len := 3) rfl (rk_o (rk_o (rk_o (rk_o (l81_6) rfl rfl) rfl rfl) rfl rfl) rfl rfl)) ?_
      refine Ew_of (pcₚ := 81) (fun _ => x_goto rfl rfl) ?_
      exact ih81 _ (msE hm81 q_176 (q_177 b35)) _ _ _ _ (x81_5) (z54) ((x81_6 + (-1))) (rk_o (rk_o (rk_o (rk_o (rk_o (l81_0) rfl rfl) rfl rfl) rfl rfl) rfl rfl) rfl rfl) (rk_o (rk_o (rk_o (rk_o (rk_o (l81_1) rfl rfl) rfl rfl) rfl rfl) rfl rfl) rfl rfl) (rk_o (rk_o (rk_o (rk_o (rk_o (l81_3) rfl rfl) rfl rfl) rfl rfl) rfl rfl) rfl rfl) (rk_o (rk_o (rk_s) rfl rfl) rfl rfl) (rk_o (rk_s) rfl rfl) (rk_s) H O (SF_trans (SF_trans (SF_trans (hS_81) (SF_gluc (ι := oz_F5clsl_8) oz_F5cls_20 hS49 eF49 (by decide +kernel)) (any_sub (lₚ := []) (by decide +kernel))) (SF_gluc (ι := oz_F5clsl_4) oz_F5cls_16 hS50 eF50 (by decide +kernel)) (any_sub (lₚ := [(1, 1), (1, 2), (1, 3), (1, 4)]) (by decide +kernel))) (SF_gluc (ι := oz_F5clsl_8) oz_F5cls_20 hS54 eF54 (by decide +kernel)) (any_sub (lₚ := []) (by decide +kernel))) (SA_trans (SA_trans (SA_trans (hA_81) (SA_gluc (ι := oz_F5clsl_8) oz_F5cls_20 hA49 eA49 (by decide +kernel)) (any_subA (lₚ := []) (by decide +kernel))) (SA_gluc (ι := oz_F5clsl_4) oz_F5cls_16 hA50 eA50 (by decide +kernel)) (any_subA (lₚ := [2]) (by decide +kernel))) (SA_gluc (ι := oz_F5clsl_8) oz_F5cls_20 hA54 eA54 (by decide +kernel)) (any_subA (lₚ := []) (by decide +kernel)))   (y50_0_1) ((((show F54 1 1 = F50 1 1 from (eF54 1 1))).trans ((eF50 1 1).trans ey50_0_1))) (y50_0_4) ((((show F54 1 4 = F50 1 4 from (eF54 1 4))).trans ((eF50 1 4).trans ey50_0_4)))  (show inr (x81_5) from j81_1) (show inr (z54) from pz54_0) (show inr ((x81_6 + (-1))) from q_175 b35 j81_2) (show ((x81_6 + (-1))) ≤ ((a2 - 3)) from q_3443 j81_3) (show ((a2 - 3)) ≤ ((x81_6 + (-1))) ∨ ((-1)) ≤ ((x81_6 + (-1))) from q_3442 b35) (show 0 ≤ (x81_5) ∧ (x81_5) < p2 ((y23_0_0)) from j81_6) (show 0 ≤ (z54) ∧ (z54) < p2 ((y23_0_0)) from pz54_1) (show 0 ≤ (y50_0_1) ∧ (y50_0_1) ≤ (m20_1) ∧ (m20_1) ≤ 65536 from pz50_0) (show 0 ≤ (y50_0_4) ∧ (y50_0_4) ≤ 7 from pz50_2) rfl
abbrev V104_Row : vV := [(0, 3, [(4, 0), (4, 0), (4, 0), (0, 0), (4, 0), (4, 0), (4, 0), (4, 0), (4, 0), (4, 0), (4, 0), (4, 0), (4, 0), (0, 0), (0, 0), (0, 0), (0, 0)]), (0, 7, [(4, 0), (0, 0), (1, 0), (0, 0), (0, 0)]), (1, 0, []), (0, 7, [(4, 0), (0, 0), (1, 0), (0, 0), (0, 0)]), (1, 0, []), (0, 7, [(4, 0), (0, 0), (1, 0), (0, 0), (0, 0)]), (1, 0, []), (0, 8, [(0, 0), (0, 0), (4, 0), (4, 0), (4, 0), (4, 0), (4, 0), (4, 0), (4, 0), (4, 0), (4, 0), (0, 0), (0, 0)]), (1, 1, []), (1, 1, []), (1, 1, []), (1, 1, []), (1, 1, []), (1, 1, []), (1, 1, []), (1, 1, []), (1, 1, []), (1, 1, []), (1, 1, [])]
theorem len_V104_Row_oz_F5cls : (V104_Row).length = 19 := by decide +kernel
theorem oz_F5cls_34 : vsub V104_Row V159 [1, 2] = true := by decide +kernel
theorem oz_F5cls_35 : vmov V104_Row [1, 2] [1] = true := by decide +kernel
theorem oz_F5cls_36 : vsub V104_Row V161_Br [1, 4, 2] = true := by decide +kernel
theorem oz_F5cls_37 : vmov V104_Row [1, 4, 2] [2] = true := by decide +kernel
theorem oz_F5cls_38 : vsub V104_Row V105_Row [0, 1, 2, 16] = true := by decide +kernel
theorem oz_F5cls_39 : vmov V104_Row [0, 1, 2, 16] [2] = true := by decide +kernel
theorem oz_F5cls_40 : vsub V104_Row V106_thisorderFivea [0, 3, 4, 7, 8, 9, 10, 11, 12, 13, 14, 15, 16, 17] = true := by decide +kernel
theorem oz_F5cls_41 : vmov V104_Row [0, 3, 4, 7, 8, 9, 10, 11, 12, 13, 14, 15, 16, 17] [2] = true := by decide +kernel
theorem oz_F5cls_42 : vsub V104_Row V106_thisorderSixa [0, 5, 6, 7, 8, 9, 10, 11, 12, 13, 14, 15, 16, 17] = true := by decide +kernel
theorem oz_F5cls_43 : vmov V104_Row [0, 5, 6, 7, 8, 9, 10, 11, 12, 13, 14, 15, 16, 17] [2] = true := by decide +kernel
theorem oz_F5cls_44 : vsub V104_Row V161_Br [1, 6, 2] = true := by decide +kernel
theorem oz_F5cls_45 : vmov V104_Row [1, 6, 2] [2] = true := by decide +kernel
def oz_F5clsl_9 : List (Nat × Nat) := [(1, 0), (1, 1), (1, 2), (1, 3), (1, 4), (3, 0), (3, 1), (3, 2), (3, 3), (3, 4), (5, 0), (5, 1), (5, 2), (5, 3), (5, 4), (7, 0)]
theorem oz_F5cls_46 : (oz_F5clsl_9).all (fun p => !tbz 26959946667150639839973565844277621140407447274687540555970525528064 (Nat.add (Nat.mul 32 p.1) p.2)) = true := by decide +kernel
def oz_F5clsl_10 : List Nat := [2, 4, 6, 8, 9, 10, 11, 12, 13, 14, 15, 16, 17]
theorem oz_F5cls_47 : (oz_F5clsl_10).all (fun p => !tbz 261972 p) = true := by decide +kernel
def oz_F5clsl_11 : List Nat := [2, 4, 6]
theorem oz_F5cls_48 : (oz_F5clsl_11).all (fun p => !tbz 84 p) = true := by decide +kernel
def oz_F5clsl_12 : List Nat := [1, 4, 2]
theorem oz_F5cls_49 : okc oz_F5clsl_12 526337 = true := by decide +kernel
def oz_F5clsl_13 : List Nat := [0, 1, 2, 16]
theorem oz_F5cls_50 : okc oz_F5clsl_13 2148008448 = true := by decide +kernel
def oz_F5clsl_14 : List Nat := [0, 3, 4, 7, 8, 9, 10, 11, 12, 13, 14, 15, 16, 17]
theorem oz_F5cls_51 : okc oz_F5clsl_14 2829811312643632160610283968114198016 = true := by decide +kernel
def oz_F5clsl_15 : List Nat := [0, 5, 6, 7, 8, 9, 10, 11, 12, 13, 14, 15, 16, 17]
theorem oz_F5cls_52 : okc oz_F5clsl_15 2829811312643632160610283968114723328 = true := by decide +kernel
def oz_F5clsl_16 : List Nat := [1, 6, 2]
theorem oz_F5cls_53 : okc oz_F5clsl_16 527361 = true := by decide +kernel
set_option maxHeartbeats 16000000 in
/-- Codes.describe: this, #1, #1.bytes, this.orderFive, this.orderFive.bytes, this.orderSix, this.orderSix.bytes, this.weightShare, this.weightShare.points, this.weightShare.masses, this.weightShare.mostBits, this.weightShare.starts, this.weightShare.used, this.weightShare.numberAt, this.weightShare.symbolAt, this.weightShare.placeOf, this.weights, this.weightCounts, this.lengths -/
theorem C104_Row {σE : rS} {D N : Nat → Nat} {F : hF} {A : hA} {d c s : Nat} {Q : wQ} (H : HW V104_Row σE D N F A)  (pf2 : F 1 0 = (D 2 : Int)) (pf3 : F 0 7 = (D 3 : Int)) (pf4 : F 3 0 = (D 4 : Int)) (pf5 : F 0 8 = (D 5 : Int)) (pf6 : F 5 0 = (D 6 : Int)) (pf7 : F 0 6 = (D 7 : Int)) (pf8 : F 7 2 = (D 8 : Int)) (pf9 : F 7 3 = (D 9 : Int)) (pf10 : F 7 4 = (D 10 : Int)) (pf11 : F 7 5 = (D 11 : Int)) (pf12 : F 7 6 = (D 12 : Int)) (pf13 : F 7 8 = (D 13 : Int)) (pf14 : F 7 7 = (D 14 : Int)) (pf15 : F 7 9 = (D 15 : Int)) (pf16 : F 0 4 = (D 16 : Int)) (pf17 : F 0 5 = (D 17 : Int)) (pf18 : F 0 0 = (D 18 : Int)) (n2 : Int) (en2 : (N 2 : Int) = n2) (n4 : Int) (en4 : (N 4 : Int) = n4) (n6 : Int) (en6 : (N 6 : Int) = n6) (n8 : Int) (en8 : (N 8 : Int) = n8) (n9 : Int) (en9 : (N 9 : Int) = n9) (n10 : Int) (en10 : (N 10 : Int) = n10) (n11 : Int) (en11 : (N 11 : Int) = n11) (n12 : Int) (en12 : (N 12 : Int) = n12) (n13 : Int) (en13 : (N 13 : Int) = n13) (n14 : Int) (en14 : (N 14 : Int) = n14) (n15 : Int) (en15 : (N 15 : Int) = n15) (n16 : Int) (en16 : (N 16 : Int) = n16) (n17 : Int) (en17 : (N 17 : Int) = n17) (n18 : Int) (en18 : (N 18 : Int) = n18) (u0_3 : Int) (eu0_3 : F 0 3 = u0_3) (u1_1 : Int) (eu1_1 : F 1 1 = u1_1) (u1_4 : Int) (eu1_4 : F 1 4 = u1_4) (u3_1 : Int) (eu3_1 : F 3 1 = u3_1) (u5_1 : Int) (eu5_1 : F 5 1 = u5_1) (u7_1 : Int) (eu7_1 : F 7 1 = u7_1) (w18 : Int → Int) (ew18 : A 18 = w18) (h0 : 0 ≤ (u1_1) ∧ (u1_1) ≤ (n2) ∧ (n2) ≤ 65536) (h1 : 0 ≤ (u1_4) ∧ (u1_4) ≤ 7) (h2 : 0 ≤ (u3_1) ∧ (u3_1) ≤ (n4) ∧ (n4) ≤ 65536) (h3 : 0 ≤ (u5_1) ∧ (u5_1) ≤ (n6) ∧ (n6) ≤ 65536) (h4 : (n8) = (u7_1) ∧ (n9) = (u7_1) ∧ (n10) = (u7_1) ∧ (n11) = (u7_1) ∧ (n12) = (u7_1) ∧ (n13) = (n14) ∧ (n15) = (n14) ∧ 1 ≤ (u7_1) ∧ (u7_1) ≤ 64 ∧ (u7_1) = 12 ∧ (n14) = 64) (h5 : (n16) = 256 ∧ (n17) = 12 ∧ (n18) = 256) (h6 : 0 ≤ ((u0_3)) ∧ ((u0_3)) ≤ 11) (h7 : LNG ((w18)) ((u0_3))) (k : ∀ (z : Int) (σ : rS) (Dₚ Nₚ : Nat → Nat) (Fₚ : hF) (Aₚ : hA) (cₚ sₚ : Nat), HW V104_Row σ Dₚ Nₚ Fₚ Aₚ → OUT (V104_Row).length D N σE c s Dₚ Nₚ σ cₚ sₚ → SD [2, 4, 6] D Dₚ → SD [2, 4, 6] N Nₚ → SF [(1, 0), (1, 1), (1, 2), (1, 3), (1, 4), (3, 0), (3, 1), (3, 2), (3, 3), (3, 4), (5, 0), (5, 1), (5, 2), (5, 3), (5, 4), (7, 0)] F Fₚ → SA [2, 4, 6, 8, 9, 10, 11, 12, 13, 14, 15, 16, 17] A Aₚ → Fₚ 1 0 = (Dₚ 2 : Int) → Fₚ 3 0 = (Dₚ 4 : Int) → Fₚ 5 0 = (Dₚ 6 : Int) → ∀ m2 : Int, (Nₚ 2 : Int) = m2 → ∀ m4 : Int, (Nₚ 4 : Int) = m4 → ∀ m6 : Int, (Nₚ 6 : Int) = m6 → ∀ y1_1 : Int, Fₚ 1 1 = y1_1 → ∀ y1_4 : Int, Fₚ 1 4 = y1_4 → ∀ y3_1 : Int, Fₚ 3 1 = y3_1 → ∀ y5_1 : Int, Fₚ 5 1 = y5_1 → ((z) = 0 ∨ (z) = 1) → (0 ≤ (y1_1) ∧ (y1_1) ≤ (m2) ∧ (m2) ≤ 65536) → (0 ≤ (y1_4) ∧ (y1_4) ≤ 7) → (0 ≤ (y3_1) ∧ (y3_1) ≤ (m4) ∧ (m4) ≤ 65536) → (0 ≤ (y5_1) ∧ (y5_1) ≤ (m6) ∧ (m6) ≤ 65536) → ((u1_1) ≤ (y1_1)) → Q (some (I z)) σ cₚ sₚ) : Ew 104 (d + 3) 0 (rargs 0 [.ref (D 0), .ref (D 1)]) [] σE c s Q := by
  have O := OUT_refl (n := (V104_Row).length) (D := D) (N := N) (σ := σE) (c := c) (s := s)
  have HE := H
  have r1 : (-2147483648 : Int) ≤ u0_3 ∧ u0_3 ≤ 2147483647 := rngE (show (-2147483648 : Int) ≤ F 0 3 ∧ F 0 3 ≤ 2147483647 from H.krg 0 3 (ltn len_V104_Row_oz_F5cls rfl)) (show F 0 3 = u0_3 from (eu0_3))
  have r2 : (-2147483648 : Int) ≤ u1_1 ∧ u1_1 ≤ 2147483647 := rngE (show (-2147483648 : Int) ≤ F 1 1 ∧ F 1 1 ≤ 2147483647 from H.krg 1 1 (ltn len_V104_Row_oz_F5cls rfl)) (show F 1 1 = u1_1 from (eu1_1))
  have r3 : (-2147483648 : Int) ≤ u1_4 ∧ u1_4 ≤ 2147483647 := rngE (show (-2147483648 : Int) ≤ F 1 4 ∧ F 1 4 ≤ 2147483647 from H.krg 1 4 (ltn len_V104_Row_oz_F5cls rfl)) (show F 1 4 = u1_4 from (eu1_4))
  have r4 : (-2147483648 : Int) ≤ u3_1 ∧ u3_1 ≤ 2147483647 := rngE (show (-2147483648 : Int) ≤ F 3 1 ∧ F 3 1 ≤ 2147483647 from H.krg 3 1 (ltn len_V104_Row_oz_F5cls rfl)) (show F 3 1 = u3_1 from (eu3_1))
  have r5 : (-2147483648 : Int) ≤ u5_1 ∧ u5_1 ≤ 2147483647 := rngE (show (-2147483648 : Int) ≤ F 5 1 ∧ F 5 1 ≤ 2147483647 from H.krg 5 1 (ltn len_V104_Row_oz_F5cls rfl)) (show F 5 1 = u5_1 from (eu5_1))
  have r6 : (-2147483648 : Int) ≤ u7_1 ∧ u7_1 ≤ 2147483647 := rngE (show (-2147483648 : Int) ≤ F 7 1 ∧ F 7 1 ≤ 2147483647 from H.krg 7 1 (ltn len_V104_Row_oz_F5cls rfl)) (show F 7 1 = u7_1 from (eu7_1))
  have r7 : (0 : Int) ≤ n2 ∧ n2 ≤ 1000000 := nleE (H.nle 2 (ltn len_V104_Row_oz_F5cls rfl)) (show (N 2 : Int) = n2 from en2)
  have r8 : (0 : Int) ≤ n4 ∧ n4 ≤ 1000000 := nleE (H.nle 4 (ltn len_V104_Row_oz_F5cls rfl)) (show (N 4 : Int) = n4 from en4)
  have r9 : (0 : Int) ≤ n6 ∧ n6 ≤ 1000000 := nleE (H.nle 6 (ltn len_V104_Row_oz_F5cls rfl)) (show (N 6 : Int) = n6 from en6)
  have r10 : (0 : Int) ≤ n8 ∧ n8 ≤ 1000000 := nleE (H.nle 8 (ltn len_V104_Row_oz_F5cls rfl)) (show (N 8 : Int) = n8 from en8)
  have r11 : (0 : Int) ≤ n9 ∧ n9 ≤ 1000000 := nleE (H.nle 9 (ltn len_V104_Row_oz_F5cls rfl)) (show (N 9 : Int) = n9 from en9)
  have r12 : (0 : Int) ≤ n10 ∧ n10 ≤ 1000000 := nleE (H.nle 10 (ltn len_V104_Row_oz_F5cls rfl)) (show (N 10 : Int) = n10 from en10)
  have r13 : (0 : Int) ≤ n11 ∧ n11 ≤ 1000000 := nleE (H.nle 11 (ltn len_V104_Row_oz_F5cls rfl)) (show (N 11 : Int) = n11 from en11)
  have r14 : (0 : Int) ≤ n12 ∧ n12 ≤ 1000000 := nleE (H.nle 12 (ltn len_V104_Row_oz_F5cls rfl)) (show (N 12 : Int) = n12 from en12)
  have r15 : (0 : Int) ≤ n13 ∧ n13 ≤ 1000000 := nleE (H.nle 13 (ltn len_V104_Row_oz_F5cls rfl)) (show (N 13 : Int) = n13 from en13)
  have r16 : (0 : Int) ≤ n14 ∧ n14 ≤ 1000000 := nleE (H.nle 14 (ltn len_V104_Row_oz_F5cls rfl)) (show (N 14 : Int) = n14 from en14)
  have r17 : (0 : Int) ≤ n15 ∧ n15 ≤ 1000000 := nleE (H.nle 15 (ltn len_V104_Row_oz_F5cls rfl)) (show (N 15 : Int) = n15 from en15)
  have r18 : (0 : Int) ≤ n16 ∧ n16 ≤ 1000000 := nleE (H.nle 16 (ltn len_V104_Row_oz_F5cls rfl)) (show (N 16 : Int) = n16 from en16)
  have r19 : (0 : Int) ≤ n17 ∧ n17 ≤ 1000000 := nleE (H.nle 17 (ltn len_V104_Row_oz_F5cls rfl)) (show (N 17 : Int) = n17 from en17)
  have r20 : (0 : Int) ≤ n18 ∧ n18 ≤ 1000000 := nleE (H.nle 18 (ltn len_V104_Row_oz_F5cls rfl)) (show (N 18 : Int) = n18 from en18)
  have hln : LNG ((w18)) ((u0_3)) := h7
  refine Ew_of (pcₚ := 3) (fun _ => x_sipush (z := 255) rfl (by decide)) ?_
  refine Ew_of (pcₚ := 4) (fun _ => x_istore_n rfl) ?_
  suffices hl4 : ∀ (m : Nat), ∀ (ls : rO) (σ : rS) (F_4 : hF) (A_4 : hA) (x4_2 : Int), rlook ls 0 = some (.ref (D 0)) → rlook ls 1 = some (.ref (D 1)) → rlook ls 2 = some (I (x4_2)) → HW V104_Row σ D N F_4 A_4 → OUT (V104_Row).length D N σE c s D N σ c s → SF [] F F_4 → SA [16] A A_4 → (inr (x4_2)) → ((x4_2) ≤ (255)) → ((255) ≤ (x4_2) ∨ (0) ≤ (x4_2)) → (0 ≤ (x4_2)) → ((x4_2) - (0)).toNat = m → Ew 104 (d + 3) 4 ls [] σ c s Q from
    hl4 _ _ _ _ _ (255) (rk_o (rfl) rfl rfl) (rk_o (rfl) rfl rfl) (rk_s) H O (SF_refl) (SA_refl)     (show inr (255) from q_36) (show (255) ≤ (255) from q_3446) (show (255) ≤ (255) ∨ (0) ≤ (255) from q_3445) (show 0 ≤ (255) from q_3444) rfl
  as_aux_lemma =>
  intro m
  induction m using Nat.strongRecOn with
  | _ m ih4 =>
    intro ls σ F_4 A_4 x4_2 l4_0 l4_1 l4_2 H O hS_4 hA_4     j4_0 j4_1 j4_2 j4_3 hm4
    have cF_4 : SF oz_F5clsl_9 F F_4 := SF_trans (SF_refl) hS_4 (any_sub (by decide +kernel))
    have mF_4 := SFm_of cF_4 oz_F5cls_46
    have cA_4 : SA oz_F5clsl_10 A A_4 := SA_trans (SA_refl) hA_4 (any_subA (by decide +kernel))
    have mA_4 := SAm_of cA_4 oz_F5cls_47
    refine Ew_of (pcₚ := 5) (fun _ => x_iload_n rfl l4_2) ?_
    have hc30 : ∀ (ls : rO) (σ : rS) (F_c30 : hF) (A_c30 : hA) , rlook ls 0 = some (.ref (D 0)) → rlook ls 1 = some (.ref (D 1)) → rlook ls 2 = some (I (x4_2)) → HW V104_Row σ D N F_c30 A_c30 → OUT (V104_Row).length D N σE c s D N σ c s → SF [] F_4 F_c30 → SA [] A_4 A_c30 → (((x4_2) ≤ (0)) ∨ ((x4_2) > (0) ∧ -2147483648 ≤ ((w18) (x4_2)) ∧ ((w18) (x4_2)) ≤ 2147483647 ∧ ((w18) (x4_2)) ≠ (0))) → Ew 104 (d + 3) 30 ls [] σ c s Q := by
     as_aux_lemma =>
      intro  ls σ F_c30 A_c30  lc30_0 lc30_1 lc30_2 H O hS_c30 hA_c30     jc30_0
      have cF_c30 : SF oz_F5clsl_9 F F_c30 := SF_trans (cF_4) hS_c30 (any_sub (by decide +kernel))
      have mF_c30 := SFm_of cF_c30 oz_F5cls_46
      have cA_c30 : SA oz_F5clsl_10 A A_c30 := SA_trans (cA_4) hA_c30 (any_subA (by decide +kernel))
      have mA_c30 := SAm_of cA_c30 oz_F5cls_47
      refine Ew_of (pcₚ := 31) (fun _ => x_aload_n rfl lc30_0) ?_
      refine v_g H (o := 0) (v := .ref (D 17)) rfl rfl rfl rfl rfl (vrf ((mF_c30 0 5 rfl).trans (pf17))) ?_
      refine Ew_of (pcₚ := 35) (fun _ => x_iconst rfl) ?_
      refine v_fil H (t := 17) (v := 0) rfl rfl rfl rfl rfl (show inr (0) from q_20) (fun σ A21 H Oₚ hA21 ga21 => ?_)
      have O := OUT_trans O Oₚ
      have cA21 : SA oz_F5clsl_10 A A21 := SA_trans (cA_c30) hA21 (any_subA (by decide +kernel))
      have mA21 := SAm_of cA21 oz_F5cls_47
      refine Ew_of (pcₚ := 39) (fun _ => x_iconst rfl) ?_
      refine Ew_of (pcₚ := 40) (fun _ => x_istore_n rfl) ?_
      refine Ew_of (pcₚ := 41) (fun _ => x_iconst rfl) ?_
      refine Ew_of (pcₚ := 43) (fun _ => x_istore rfl) ?_
      have hg0 : WGB ((A_4 16)) ((u0_3)) 0 := fun i a b => by omega
      have hc0 : WCN ((A_4 16)) ((A21 17)) 0 := WCN_0 ga21
      suffices hl43 : ∀ (m : Nat), ∀ (ls : rO) (σ : rS) (F_43 : hF) (A_43 : hA) (x43_3 : Int) (x43_4 : Int), rlook ls 0 = some (.ref (D 0)) → rlook ls 1 = some (.ref (D 1)) → rlook ls 2 = some (I (x4_2)) → rlook ls 3 = some (I (x43_3)) → rlook ls 4 = some (I (x43_4)) → HW V104_Row σ D N F_43 A_43 → OUT (V104_Row).length D N σE c s D N σ c s → SF [] F_c30 F_43 → SA [16, 17] A21 A_43 → ∀ w43_16 : Int → Int, A_43 16 = w43_16 → ∀ w43_17 : Int → Int, A_43 17 = w43_17 → (inr (x43_3)) → (inr (x43_4)) → ((0) ≤ (x43_4)) → ((x43_4) ≤ (0) ∨ (x43_4) ≤ ((x4_2))) → ((x43_3) = 0 ∨ (x43_3) = 1) → (WGB ((w43_16)) ((u0_3)) (x43_4)) → (WCN ((w43_16)) ((w43_17)) (x43_4)) → (((x4_2)) - (x43_4)).toNat = m → Ew 104 (d + 3) 43 ls [] σ c s Q from
        hl43 _ _ _ _ _ (1) (0) (rk_o (rk_o (lc30_0) rfl rfl) rfl rfl) (rk_o (rk_o (lc30_1) rfl rfl) rfl rfl) (rk_o (rk_o (lc30_2) rfl rfl) rfl rfl) (rk_o (rk_s) rfl rfl) (rk_s) H O (SF_refl) (SA_refl)    (A_4 16) ((funext (hA21 16 rfl)).trans (funext (hA_c30 16 rfl))) (A21 17) (rfl) (show inr (1) from q_23) (show inr (0) from q_20) (show (0) ≤ (0) from q_25) (show (0) ≤ (0) ∨ (0) ≤ ((x4_2)) from q_24) (show (1) = 0 ∨ (1) = 1 from q_5) (show WGB ((A_4 16)) ((u0_3)) (0) from hg0) (show WCN ((A_4 16)) ((A21 17)) (0) from hc0) rfl
      as_aux_lemma =>
      intro m
      induction m using Nat.strongRecOn with
      | _ m ih43 =>
        intro ls σ F_43 A_43 x43_3 x43_4 l43_0 l43_1 l43_2 l43_3 l43_4 H O hS_43 hA_43    w43_16 ew43_16 w43_17 ew43_17 j43_0 j43_1 j43_2 j43_3 j43_4 j43_5 j43_6 hm43
        have cF_43 : SF oz_F5clsl_9 F F_43 := SF_trans (cF_c30) hS_43 (any_sub (by decide +kernel))
        have mF_43 := SFm_of cF_43 oz_F5cls_46
        have cA_43 : SA oz_F5clsl_10 A A_43 := SA_trans (cA21) hA_43 (any_subA (by decide +kernel))
        have mA_43 := SAm_of cA_43 oz_F5cls_47
        refine Ew_of (pcₚ := 45) (fun _ => x_iload rfl l43_4) ?_
        refine Ew_of (pcₚ := 46) (fun _ => x_iload_n rfl l43_2) ?_
        refine w_icmpge (t := 132) rfl rfl (show inr (x43_4) from j43_1) (show inr (x4_2) from j4_0) (fun b22 => ?_) (fun b22 => ?_)
        · have hl4 : (x43_4) = (x4_2) := q_3447 b22 j43_3 j4_3
          have hw0 : WGB ((w43_16)) ((u0_3)) (x43_4) := j43_5
          have hwg : WGB ((w43_16)) 11 ((x4_2)) := fun i a b => by have := hw0 i a (by omega); omega
          have hwc : WCN ((w43_16)) ((w43_17)) ((x4_2)) := by rw [← hl4]; assumption
          refine Ew_of (pcₚ := 133) (fun _ => x_aload_n rfl l43_0) ?_
          refine v_g H (o := 0) (v := .ref (D 3)) rfl rfl rfl rfl rfl (vrf ((mF_43 0 7 rfl).trans (pf3))) ?_
          refine Ew_of (pcₚ := 138) (fun _ => x_astore rfl) ?_
          refine Ew_of (pcₚ := 139) (fun _ => x_iload_n rfl (rk_o (l43_2) rfl rfl)) ?_
          refine Ew_of (pcₚ := 140) (fun _ => x_iconst rfl) ?_
          have hc152 : ∀ (tc152_0 : Int), ∀ (ls : rO) (σ : rS) (F_c152 : hF) (A_c152 : hA) , rlook ls 0 = some (.ref (D 0)) → rlook ls 1 = some (.ref (D 1)) → rlook ls 2 = some (I (x4_2)) → rlook ls 4 = some (.ref (D 3)) → HW V104_Row σ D N F_c152 A_c152 → OUT (V104_Row).length D N σE c s D N σ c s → SF [] F_43 F_c152 → SA [] A_43 A_c152 → (inr (tc152_0)) → (((x4_2) < (2) ∧ (tc152_0) = (0)) ∨ ((x4_2) ≥ (2) ∧ (x43_3) ≠ (0) ∧ (tc152_0) = (0)) ∨ ((x4_2) ≥ (2) ∧ (x43_3) = (0) ∧ (tc152_0) = (1))) → Ew 104 (d + 3) 152 ls [I (tc152_0)] σ c s Q := by
           as_aux_lemma =>
            intro tc152_0 ls σ F_c152 A_c152  lc152_0 lc152_1 lc152_2 lc152_4 H O hS_c152 hA_c152     jc152_0 jc152_1
            have cF_c152 : SF oz_F5clsl_9 F F_c152 := SF_trans (cF_43) hS_c152 (any_sub (by decide +kernel))
            have mF_c152 := SFm_of cF_c152 oz_F5cls_46
            have cA_c152 : SA oz_F5clsl_10 A A_c152 := SA_trans (cA_43) hA_c152 (any_subA (by decide +kernel))
            have mA_c152 := SAm_of cA_c152 oz_F5cls_47
            refine Ew_of (pcₚ := 154) (fun _ => x_istore rfl) ?_
            refine Ew_of (pcₚ := 156) (fun _ => x_iload rfl rk_s) ?_
            refine w_ifeq (t := 228) rfl rfl (show inr (tc152_0) from jc152_0) (fun b23 => ?_) (fun b23 => ?_)
            · have hc261 : ∀ (ls : rO) (σ : rS) (F_c261 : hF) (A_c261 : hA) , rlook ls 1 = some (.ref (D 1)) → rlook ls 4 = some (.ref (D 3)) → rlook ls 5 = some (I (tc152_0)) → HW V104_Row σ D N F_c261 A_c261 → OUT (V104_Row).length D N σE c s D N σ c s → SF [] F_c152 F_c261 → SA [] A_c152 A_c261 → Ew 104 (d + 3) 261 ls [] σ c s Q := by
               as_aux_lemma =>
                intro  ls σ F_c261 A_c261  lc261_1 lc261_4 lc261_5 H O hS_c261 hA_c261     
                have cF_c261 : SF oz_F5clsl_9 F F_c261 := SF_trans (cF_c152) hS_c261 (any_sub (by decide +kernel))
                have mF_c261 := SFm_of cF_c261 oz_F5cls_46
                have cA_c261 : SA oz_F5clsl_10 A A_c261 := SA_trans (cA_c152) hA_c261 (any_subA (by decide +kernel))
                have mA_c261 := SAm_of cA_c261 oz_F5cls_47
                refine Ew_of (pcₚ := 263) (fun _ => x_iload rfl lc261_5) ?_
                refine w_ifeq (t := 290) rfl rfl (show inr (tc152_0) from jc152_0) (fun b24 => ?_) (fun b24 => ?_)
                · refine Ew_of (pcₚ := 292) (fun _ => x_iload rfl lc261_5) ?_
                  exact w_ireturn rfl (k (tc152_0) _ _ _ _ _ _ _ H O (SD_refl) (SD_refl) (cF_c261) (cA_c261) (((((((hS_c261 1 0 rfl).trans (hS_c152 1 0 rfl)).trans (hS_43 1 0 rfl)).trans (hS_c30 1 0 rfl)).trans (hS_4 1 0 rfl))).trans (pf2)) (((((((hS_c261 3 0 rfl).trans (hS_c152 3 0 rfl)).trans (hS_43 3 0 rfl)).trans (hS_c30 3 0 rfl)).trans (hS_4 3 0 rfl))).trans (pf4)) (((((((hS_c261 5 0 rfl).trans (hS_c152 5 0 rfl)).trans (hS_43 5 0 rfl)).trans (hS_c30 5 0 rfl)).trans (hS_4 5 0 rfl))).trans (pf6)) (n2) (en2) (n4) (en4) (n6) (en6) (u1_1) (((((((hS_c261 1 1 rfl).trans (hS_c152 1 1 rfl)).trans (hS_43 1 1 rfl)).trans (hS_c30 1 1 rfl)).trans (hS_4 1 1 rfl)).trans (eu1_1))) (u1_4) (((((((hS_c261 1 4 rfl).trans (hS_c152 1 4 rfl)).trans (hS_43 1 4 rfl)).trans (hS_c30 1 4 rfl)).trans (hS_4 1 4 rfl)).trans (eu1_4))) (u3_1) (((((((hS_c261 3 1 rfl).trans (hS_c152 3 1 rfl)).trans (hS_43 3 1 rfl)).trans (hS_c30 3 1 rfl)).trans (hS_4 3 1 rfl)).trans (eu3_1))) (u5_1) (((((((hS_c261 5 1 rfl).trans (hS_c152 5 1 rfl)).trans (hS_43 5 1 rfl)).trans (hS_c30 5 1 rfl)).trans (hS_4 5 1 rfl)).trans (eu5_1))) (show (tc152_0) = 0 ∨ (tc152_0) = 1 from q_536 b24) (show 0 ≤ (u1_1) ∧ (u1_1) ≤ (n2) ∧ (n2) ≤ 65536 from h0) (show 0 ≤ (u1_4) ∧ (u1_4) ≤ 7 from h1) (show 0 ≤ (u3_1) ∧ (u3_1) ≤ (n4) ∧ (n4) ≤ 65536 from h2) (show 0 ≤ (u5_1) ∧ (u5_1) ≤ (n6) ∧ (n6) ≤ 65536 from h3) (show (u1_1) ≤ (u1_1) from q_102))
                · refine Ew_of (pcₚ := 267) (fun _ => x_aload_n rfl lc261_1) ?_
                  refine Ew_of (pcₚ := 269) (fun _ => x_aload rfl lc261_4) ?_
                  refine v_g H (o := 3) (v := I (u3_1)) rfl rfl rfl rfl rfl (congrArg (fun z : Int => I z) (((((((hS_c261 3 1 rfl).trans (hS_c152 3 1 rfl)).trans (hS_43 3 1 rfl)).trans (hS_c30 3 1 rfl)).trans (hS_4 3 1 rfl)).trans (eu3_1)) : F_c261 3 1 = u3_1)) ?_
                  refine v_inv H (o := 1) rfl rfl rfl rfl rfl rfl (by rfl) (C159 (D := puc 1025 D) (N := puc 1025 N) (HW_subc H oz_F5cls_34 oz_F5cls_16) (((((((hS_c261 1 0 rfl).trans (hS_c152 1 0 rfl)).trans (hS_43 1 0 rfl)).trans (hS_c30 1 0 rfl)).trans (hS_4 1 0 rfl))).trans (pf2)) (n2) (en2) (u1_1) (((((((hS_c261 1 1 rfl).trans (hS_c152 1 1 rfl)).trans (hS_43 1 1 rfl)).trans (hS_c30 1 1 rfl)).trans (hS_4 1 1 rfl)).trans (eu1_1))) (show inr (u3_1) from q_884 h2) (show 0 ≤ (u1_1) ∧ (u1_1) ≤ (n2) ∧ (n2) ≤ 65536 from h0) (fun σ25 D25ₚ N25ₚ F25ₚ A25ₚ c25 s25 Hₚ Oₚ hD25 hN25 hS25 hA25 pm25_1 m25_1 em25_1 y25_0_1 ey25_0_1 pz25_0 pz25_1 pz25_2 => ⟨rfl, ?_⟩))
                  refine v_backMc (c := c) (s := s) H oz_F5cls_34 oz_F5cls_16 Hₚ Oₚ hD25 oz_F5cls_35 (fun D25 N25 F25 A25 H Oₚ eD25 eN25 eF25 eA25 => ?_)
                  have O := OUT_trans O Oₚ
                  -- Row.add
                  have cF25 : SF oz_F5clsl_9 F F25 := SF_trans (cF_c261) (SF_gluc (ι := oz_F5clsl_4) oz_F5cls_16 hS25 eF25 (by decide +kernel)) (any_sub (lₚ := [(1, 0), (1, 1), (1, 2)]) (by decide +kernel))
                  have mF25 := SFm_of cF25 oz_F5cls_46
                  have cA25 : SA oz_F5clsl_10 A A25 := SA_trans (cA_c261) (SA_gluc (ι := oz_F5clsl_4) oz_F5cls_16 hA25 eA25 (by decide +kernel)) (any_subA (lₚ := [2]) (by decide +kernel))
                  have mA25 := SAm_of cA25 oz_F5cls_47
                  have cD25 : SD oz_F5clsl_11 D D25 := SD_trans (SD_refl) (SD_gluc (ι := oz_F5clsl_4) oz_F5cls_16 hD25 eD25 (by decide +kernel)) (any_subA (lₚ := [2]) (by decide +kernel))
                  have mD25 := SDm_of cD25 oz_F5cls_48
                  have cN25 : SD oz_F5clsl_11 N N25 := SD_trans (SD_refl) (SD_gluc (ι := oz_F5clsl_4) oz_F5cls_16 hN25 eN25 (by decide +kernel)) (any_subA (lₚ := [2]) (by decide +kernel))
                  have mN25 := SDm_of cN25 oz_F5cls_48
                  have pf25_1_0 : F25 1 0 = (D25 2 : Int) := (eF25 1 0).trans (pm25_1.trans (congrArg (fun q : Nat => (q : Int)) (eD25 2).symm))
                  have pf25_3_0 : F25 3 0 = (D25 4 : Int) := ((show F25 3 0 = F_c261 3 0 from (eF25 3 0))).trans ((((((((hS_c261 3 0 rfl).trans (hS_c152 3 0 rfl)).trans (hS_43 3 0 rfl)).trans (hS_c30 3 0 rfl)).trans (hS_4 3 0 rfl))).trans (pf4)).trans (congrArg (fun q : Nat => (q : Int)) ((show D25 4 = D 4 from (eD25 4))).symm))
                  have pf25_5_0 : F25 5 0 = (D25 6 : Int) := ((show F25 5 0 = F_c261 5 0 from (eF25 5 0))).trans ((((((((hS_c261 5 0 rfl).trans (hS_c152 5 0 rfl)).trans (hS_43 5 0 rfl)).trans (hS_c30 5 0 rfl)).trans (hS_4 5 0 rfl))).trans (pf6)).trans (congrArg (fun q : Nat => (q : Int)) ((show D25 6 = D 6 from (eD25 6))).symm))
                  have r26 : (0 : Int) ≤ m25_1 ∧ m25_1 ≤ 1000000 := nleE (H.nle 2 (ltn len_V104_Row_oz_F5cls rfl)) (show (N25 2 : Int) = m25_1 from (congrArg (fun q : Nat => (q : Int)) (eN25 2)).trans em25_1)
                  have r27 : (-2147483648 : Int) ≤ y25_0_1 ∧ y25_0_1 ≤ 2147483647 := rngE (show (-2147483648 : Int) ≤ F25 1 1 ∧ F25 1 1 ≤ 2147483647 from H.krg 1 1 (ltn len_V104_Row_oz_F5cls rfl)) (show F25 1 1 = y25_0_1 from ((eF25 1 1).trans ey25_0_1))
                  refine Ew_of (pcₚ := 276) (fun _ => x_aload_n rfl lc261_1) ?_
                  refine Ew_of (pcₚ := 278) (fun _ => x_aload rfl lc261_4) ?_
                  refine Ew_stk (show ([.ref (D 3), .ref (D 1)] : List Value) = [.ref (D25 3), .ref (D25 1)] by rw [show D25 1 = D 1 from mD25 1 rfl, show D25 3 = D 3 from mD25 3 rfl]) ?_
                  refine v_g H (o := 3) (v := .ref (D25 4)) rfl rfl rfl rfl rfl (vrf (pf25_3_0)) ?_
                  refine Ew_of (pcₚ := 282) (fun _ => x_iconst rfl) ?_
                  refine Ew_of (pcₚ := 284) (fun _ => x_aload rfl lc261_4) ?_
                  refine Ew_stk (congrArg (fun qz : Nat => ([.ref qz, I (0), .ref (D25 4), .ref (D25 1)] : List Value)) (show D25 3 = D 3 from mD25 3 rfl).symm) ?_
                  refine v_g H (o := 3) (v := I (u3_1)) rfl rfl rfl rfl rfl (congrArg (fun z : Int => I z) (((((((((show F25 3 1 = F_c261 3 1 from (eF25 3 1))).trans (hS_c261 3 1 rfl)).trans (hS_c152 3 1 rfl)).trans (hS_43 3 1 rfl)).trans (hS_c30 3 1 rfl)).trans (hS_4 3 1 rfl)).trans (eu3_1)) : F25 3 1 = u3_1)) ?_
                  refine v_inv H (o := 1) rfl rfl rfl rfl rfl rfl (by rfl) (C161_Br (D := puc 526337 D25) (N := puc 526337 N25) (HW_subc H oz_F5cls_36 oz_F5cls_49) (pf25_1_0) (n4) ((congrArg (fun q : Nat => (q : Int)) (show N25 4 = N 4 from (eN25 4))).trans (en4)) (m25_1) ((congrArg (fun q : Nat => (q : Int)) (eN25 2)).trans em25_1) (y25_0_1) (((eF25 1 1).trans ey25_0_1)) (A25 2) (rfl) (show inr (0) from q_20) (show inr (u3_1) from q_884 h2) (show 0 ≤ (y25_0_1) ∧ (y25_0_1) ≤ (m25_1) ∧ (m25_1) ≤ 65536 from pz25_0) (show (u3_1) < 0 ∨ 0 ≤ (0) ∧ (0) + (u3_1) ≤ (n4) from q_2548 h2) (fun σ28 D28ₚ N28ₚ F28ₚ A28ₚ c28 s28 Hₚ Oₚ hD28 hN28 hS28 hA28 pm28_2 m28_2 em28_2 y28_0_1 ey28_0_1 w28_2 ew28_2 pz28_0 pz28_1 pz28_2 => ⟨rfl, ?_⟩))
                  refine v_backMc (c := (c + c25)) (s := (s + s25)) H oz_F5cls_36 oz_F5cls_49 Hₚ Oₚ hD28 oz_F5cls_37 (fun D28 N28 F28 A28 H Oₚ eD28 eN28 eF28 eA28 => ?_)
                  have O := OUT_trans O Oₚ
                  -- Row.addPart
                  have cF28 : SF oz_F5clsl_9 F F28 := SF_trans (cF25) (SF_gluc (ι := oz_F5clsl_12) oz_F5cls_49 hS28 eF28 (by decide +kernel)) (any_sub (lₚ := [(1, 0), (1, 1), (1, 2)]) (by decide +kernel))
                  have mF28 := SFm_of cF28 oz_F5cls_46
                  have cA28 : SA oz_F5clsl_10 A A28 := SA_trans (cA25) (SA_gluc (ι := oz_F5clsl_12) oz_F5cls_49 hA28 eA28 (by decide +kernel)) (any_subA (lₚ := [2]) (by decide +kernel))
                  have mA28 := SAm_of cA28 oz_F5cls_47
                  have cD28 : SD oz_F5clsl_11 D D28 := SD_trans (cD25) (SD_gluc (ι := oz_F5clsl_12) oz_F5cls_49 hD28 eD28 (by decide +kernel)) (any_subA (lₚ := [2]) (by decide +kernel))
                  have mD28 := SDm_of cD28 oz_F5cls_48
                  have cN28 : SD oz_F5clsl_11 N N28 := SD_trans (cN25) (SD_gluc (ι := oz_F5clsl_12) oz_F5cls_49 hN28 eN28 (by decide +kernel)) (any_subA (lₚ := [2]) (by decide +kernel))
                  have mN28 := SDm_of cN28 oz_F5cls_48
                  have pf28_1_0 : F28 1 0 = (D28 2 : Int) := (eF28 1 0).trans (pm28_2.trans (congrArg (fun q : Nat => (q : Int)) (eD28 2).symm))
                  have pf28_3_0 : F28 3 0 = (D28 4 : Int) := ((show F28 3 0 = F25 3 0 from (eF28 3 0))).trans ((pf25_3_0).trans (congrArg (fun q : Nat => (q : Int)) ((show D28 4 = D25 4 from (eD28 4).trans (hD28 1 rfl))).symm))
                  have pf28_5_0 : F28 5 0 = (D28 6 : Int) := ((show F28 5 0 = F25 5 0 from (eF28 5 0))).trans ((pf25_5_0).trans (congrArg (fun q : Nat => (q : Int)) ((show D28 6 = D25 6 from (eD28 6))).symm))
                  have r29 : (0 : Int) ≤ m28_2 ∧ m28_2 ≤ 1000000 := nleE (H.nle 2 (ltn len_V104_Row_oz_F5cls rfl)) (show (N28 2 : Int) = m28_2 from (congrArg (fun q : Nat => (q : Int)) (eN28 2)).trans em28_2)
                  have r30 : (-2147483648 : Int) ≤ y28_0_1 ∧ y28_0_1 ≤ 2147483647 := rngE (show (-2147483648 : Int) ≤ F28 1 1 ∧ F28 1 1 ≤ 2147483647 from H.krg 1 1 (ltn len_V104_Row_oz_F5cls rfl)) (show F28 1 1 = y28_0_1 from ((eF28 1 1).trans ey28_0_1))
                  refine Ew_of (pcₚ := 292) (fun _ => x_iload rfl lc261_5) ?_
                  exact w_ireturn rfl (k (tc152_0) _ _ _ _ _ _ _ H O (cD28) (cN28) (cF28) (cA28) (pf28_1_0) (pf28_3_0) (pf28_5_0) (m28_2) ((congrArg (fun q : Nat => (q : Int)) (eN28 2)).trans em28_2) (n4) ((congrArg (fun q : Nat => (q : Int)) (show N28 4 = N25 4 from (eN28 4).trans (hN28 1 rfl))).trans ((congrArg (fun q : Nat => (q : Int)) (show N25 4 = N 4 from (eN25 4))).trans (en4))) (n6) ((congrArg (fun q : Nat => (q : Int)) (show N28 6 = N25 6 from (eN28 6))).trans ((congrArg (fun q : Nat => (q : Int)) (show N25 6 = N 6 from (eN25 6))).trans (en6))) (y28_0_1) (((eF28 1 1).trans ey28_0_1)) (u1_4) ((((((((((show F28 1 4 = F25 1 4 from (eF28 1 4).trans (hS28 0 4 rfl))).trans ((show F25 1 4 = F_c261 1 4 from (eF25 1 4).trans (hS25 0 4 rfl)))).trans (hS_c261 1 4 rfl)).trans (hS_c152 1 4 rfl)).trans (hS_43 1 4 rfl)).trans (hS_c30 1 4 rfl)).trans (hS_4 1 4 rfl)).trans (eu1_4))) (u3_1) ((((((((((show F28 3 1 = F25 3 1 from (eF28 3 1))).trans ((show F25 3 1 = F_c261 3 1 from (eF25 3 1)))).trans (hS_c261 3 1 rfl)).trans (hS_c152 3 1 rfl)).trans (hS_43 3 1 rfl)).trans (hS_c30 3 1 rfl)).trans (hS_4 3 1 rfl)).trans (eu3_1))) (u5_1) ((((((((((show F28 5 1 = F25 5 1 from (eF28 5 1))).trans ((show F25 5 1 = F_c261 5 1 from (eF25 5 1)))).trans (hS_c261 5 1 rfl)).trans (hS_c152 5 1 rfl)).trans (hS_43 5 1 rfl)).trans (hS_c30 5 1 rfl)).trans (hS_4 5 1 rfl)).trans (eu5_1))) (show (tc152_0) = 0 ∨ (tc152_0) = 1 from q_536 b23) (show 0 ≤ (y28_0_1) ∧ (y28_0_1) ≤ (m28_2) ∧ (m28_2) ≤ 65536 from pz28_0) (show 0 ≤ (u1_4) ∧ (u1_4) ≤ 7 from h1) (show 0 ≤ (u3_1) ∧ (u3_1) ≤ (n4) ∧ (n4) ≤ 65536 from h2) (show 0 ≤ (u5_1) ∧ (u5_1) ≤ (n6) ∧ (n6) ≤ 65536 from h3) (show (u1_1) ≤ (y28_0_1) by omega))
              refine Ew_of (pcₚ := 229) (fun _ => x_iload_n rfl (rk_o (lc152_2) rfl rfl)) ?_
              refine Ew_of (pcₚ := 232) (fun _ => x_sipush (z := 128) rfl (by decide)) ?_
              refine w_icmpgt (t := 261) rfl rfl (show inr (x4_2) from j4_0) (show inr (128) from q_53) (fun b31 => ?_) (fun b31 => ?_)
              · exact hc261  _ _ _ _  (rk_o (lc152_1) rfl rfl) (rk_o (lc152_4) rfl rfl) (rk_s) H O (SF_refl) (SA_refl)
              · refine Ew_of (pcₚ := 237) (fun _ => x_iload rfl rk_s) ?_
                have hc253 : ∀ (ls : rO) (σ : rS) (F_c253 : hF) (A_c253 : hA) , rlook ls 0 = some (.ref (D 0)) → rlook ls 1 = some (.ref (D 1)) → rlook ls 2 = some (I (x4_2)) → HW V104_Row σ D N F_c253 A_c253 → OUT (V104_Row).length D N σE c s D N σ c s → SF [] F_c152 F_c253 → SA [] A_c152 A_c253 → (((tc152_0) = (0)) ∨ ((tc152_0) ≠ (0) ∧ (((x4_2 + 1) / 2)) ≤ (u3_1))) → Ew 104 (d + 3) 253 ls [] σ c s Q := by
                 as_aux_lemma =>
                  intro  ls σ F_c253 A_c253  lc253_0 lc253_1 lc253_2 H O hS_c253 hA_c253     jc253_0
                  have cF_c253 : SF oz_F5clsl_9 F F_c253 := SF_trans (cF_c152) hS_c253 (any_sub (by decide +kernel))
                  have mF_c253 := SFm_of cF_c253 oz_F5cls_46
                  have cA_c253 : SA oz_F5clsl_10 A A_c253 := SA_trans (cA_c152) hA_c253 (any_subA (by decide +kernel))
                  have mA_c253 := SAm_of cA_c253 oz_F5cls_47
                  refine Ew_of (pcₚ := 254) (fun _ => x_aload_n rfl lc253_0) ?_
                  refine Ew_of (pcₚ := 255) (fun _ => x_aload_n rfl lc253_1) ?_
                  refine Ew_of (pcₚ := 256) (fun _ => x_iload_n rfl lc253_2) ?_
                  refine v_inv H (o := 0) rfl rfl rfl rfl rfl rfl (by rfl) (C105_Row (D := puc 2148008448 D) (N := puc 2148008448 N) (HW_subc H oz_F5cls_38 oz_F5cls_50) (((((((hS_c253 1 0 rfl).trans (hS_c152 1 0 rfl)).trans (hS_43 1 0 rfl)).trans (hS_c30 1 0 rfl)).trans (hS_4 1 0 rfl))).trans (pf2)) ((mF_c253 0 4 rfl).trans (pf16)) (n2) (en2) (n16) (en16) (u1_1) (((((((hS_c253 1 1 rfl).trans (hS_c152 1 1 rfl)).trans (hS_43 1 1 rfl)).trans (hS_c30 1 1 rfl)).trans (hS_4 1 1 rfl)).trans (eu1_1))) (u1_4) (((((((hS_c253 1 4 rfl).trans (hS_c152 1 4 rfl)).trans (hS_43 1 4 rfl)).trans (hS_c30 1 4 rfl)).trans (hS_4 1 4 rfl)).trans (eu1_4))) (show inr (x4_2) from j4_0) (show 0 ≤ (u1_1) ∧ (u1_1) ≤ (n2) ∧ (n2) ≤ 65536 from h0) (show 0 ≤ (u1_4) ∧ (u1_4) ≤ 7 from h1) (show 0 ≤ (x4_2) ∧ (x4_2) ≤ 255 from q_3449 j4_1 j4_3) (show (n16) = 256 from q_3448 h5) (fun σ32 D32ₚ N32ₚ F32ₚ A32ₚ c32 s32 Hₚ Oₚ hD32 hN32 hS32 hA32 pm32_2 m32_2 em32_2 y32_1_1 ey32_1_1 y32_1_4 ey32_1_4 pz32_0 pz32_1 pz32_2 => ⟨rfl, ?_⟩))
                  refine v_backMc (c := c) (s := s) H oz_F5cls_38 oz_F5cls_50 Hₚ Oₚ hD32 oz_F5cls_39 (fun D32 N32 F32 A32 H Oₚ eD32 eN32 eF32 eA32 => ?_)
                  have O := OUT_trans O Oₚ
                  -- Codes.describeDirectly
                  have cF32 : SF oz_F5clsl_9 F F32 := SF_trans (cF_c253) (SF_gluc (ι := oz_F5clsl_13) oz_F5cls_50 hS32 eF32 (by decide +kernel)) (any_sub (lₚ := [(1, 0), (1, 1), (1, 2), (1, 3), (1, 4)]) (by decide +kernel))
                  have mF32 := SFm_of cF32 oz_F5cls_46
                  have cA32 : SA oz_F5clsl_10 A A32 := SA_trans (cA_c253) (SA_gluc (ι := oz_F5clsl_13) oz_F5cls_50 hA32 eA32 (by decide +kernel)) (any_subA (lₚ := [2]) (by decide +kernel))
                  have mA32 := SAm_of cA32 oz_F5cls_47
                  have cD32 : SD oz_F5clsl_11 D D32 := SD_trans (SD_refl) (SD_gluc (ι := oz_F5clsl_13) oz_F5cls_50 hD32 eD32 (by decide +kernel)) (any_subA (lₚ := [2]) (by decide +kernel))
                  have mD32 := SDm_of cD32 oz_F5cls_48
                  have cN32 : SD oz_F5clsl_11 N N32 := SD_trans (SD_refl) (SD_gluc (ι := oz_F5clsl_13) oz_F5cls_50 hN32 eN32 (by decide +kernel)) (any_subA (lₚ := [2]) (by decide +kernel))
                  have mN32 := SDm_of cN32 oz_F5cls_48
                  have pf32_1_0 : F32 1 0 = (D32 2 : Int) := (eF32 1 0).trans (pm32_2.trans (congrArg (fun q : Nat => (q : Int)) (eD32 2).symm))
                  have pf32_3_0 : F32 3 0 = (D32 4 : Int) := ((show F32 3 0 = F_c253 3 0 from (eF32 3 0))).trans ((((((((hS_c253 3 0 rfl).trans (hS_c152 3 0 rfl)).trans (hS_43 3 0 rfl)).trans (hS_c30 3 0 rfl)).trans (hS_4 3 0 rfl))).trans (pf4)).trans (congrArg (fun q : Nat => (q : Int)) ((show D32 4 = D 4 from (eD32 4))).symm))
                  have pf32_5_0 : F32 5 0 = (D32 6 : Int) := ((show F32 5 0 = F_c253 5 0 from (eF32 5 0))).trans ((((((((hS_c253 5 0 rfl).trans (hS_c152 5 0 rfl)).trans (hS_43 5 0 rfl)).trans (hS_c30 5 0 rfl)).trans (hS_4 5 0 rfl))).trans (pf6)).trans (congrArg (fun q : Nat => (q : Int)) ((show D32 6 = D 6 from (eD32 6))).symm))
                  have r33 : (0 : Int) ≤ m32_2 ∧ m32_2 ≤ 1000000 := nleE (H.nle 2 (ltn len_V104_Row_oz_F5cls rfl)) (show (N32 2 : Int) = m32_2 from (congrArg (fun q : Nat => (q : Int)) (eN32 2)).trans em32_2)
                  have r34 : (-2147483648 : Int) ≤ y32_1_1 ∧ y32_1_1 ≤ 2147483647 := rngE (show (-2147483648 : Int) ≤ F32 1 1 ∧ F32 1 1 ≤ 2147483647 from H.krg 1 1 (ltn len_V104_Row_oz_F5cls rfl)) (show F32 1 1 = y32_1_1 from ((eF32 1 1).trans ey32_1_1))
                  have r35 : (-2147483648 : Int) ≤ y32_1_4 ∧ y32_1_4 ≤ 2147483647 := rngE (show (-2147483648 : Int) ≤ F32 1 4 ∧ F32 1 4 ≤ 2147483647 from H.krg 1 4 (ltn len_V104_Row_oz_F5cls rfl)) (show F32 1 4 = y32_1_4 from ((eF32 1 4).trans ey32_1_4))
                  refine Ew_of (pcₚ := 260) (fun _ => x_iconst rfl) ?_
                  exact w_ireturn rfl (k (1) _ _ _ _ _ _ _ H O (cD32) (cN32) (cF32) (cA32) (pf32_1_0) (pf32_3_0) (pf32_5_0) (m32_2) ((congrArg (fun q : Nat => (q : Int)) (eN32 2)).trans em32_2) (n4) ((congrArg (fun q : Nat => (q : Int)) (show N32 4 = N 4 from (eN32 4))).trans (en4)) (n6) ((congrArg (fun q : Nat => (q : Int)) (show N32 6 = N 6 from (eN32 6))).trans (en6)) (y32_1_1) (((eF32 1 1).trans ey32_1_1)) (y32_1_4) (((eF32 1 4).trans ey32_1_4)) (u3_1) (((((((((show F32 3 1 = F_c253 3 1 from (eF32 3 1))).trans (hS_c253 3 1 rfl)).trans (hS_c152 3 1 rfl)).trans (hS_43 3 1 rfl)).trans (hS_c30 3 1 rfl)).trans (hS_4 3 1 rfl)).trans (eu3_1))) (u5_1) (((((((((show F32 5 1 = F_c253 5 1 from (eF32 5 1))).trans (hS_c253 5 1 rfl)).trans (hS_c152 5 1 rfl)).trans (hS_43 5 1 rfl)).trans (hS_c30 5 1 rfl)).trans (hS_4 5 1 rfl)).trans (eu5_1))) (show (1) = 0 ∨ (1) = 1 by first | exact q_5 | omega) (show 0 ≤ (y32_1_1) ∧ (y32_1_1) ≤ (m32_2) ∧ (m32_2) ≤ 65536 from pz32_0) (show 0 ≤ (y32_1_4) ∧ (y32_1_4) ≤ 7 from pz32_1) (show 0 ≤ (u3_1) ∧ (u3_1) ≤ (n4) ∧ (n4) ≤ 65536 from h2) (show 0 ≤ (u5_1) ∧ (u5_1) ≤ (n6) ∧ (n6) ≤ 65536 from h3) (show (u1_1) ≤ (y32_1_1) from pz32_2))
                refine w_ifeq (t := 253) rfl rfl (show inr (tc152_0) from jc152_0) (fun b36 => ?_) (fun b36 => ?_)
                · exact hc253  _ _ _ _  (rk_o (lc152_0) rfl rfl) (rk_o (lc152_1) rfl rfl) (rk_o (lc152_2) rfl rfl) H O (SF_refl) (SA_refl)     (show ((tc152_0) = (0)) ∨ ((tc152_0) ≠ (0) ∧ (((x4_2 + 1) / 2)) ≤ (u3_1)) from q_3450 b36)
                · refine Ew_of (pcₚ := 241) (fun _ => x_iload_n rfl (rk_o (lc152_2) rfl rfl)) ?_
                  refine Ew_of (pcₚ := 242) (fun _ => x_iconst rfl) ?_
                  refine w_iadd rfl ?_
                  refine Ew_of (pcₚ := 244) (fun _ => x_iconst rfl) ?_
                  refine w_idiv rfl (show inr ((x4_2 + 1)) ∧ 0 ≤ (x4_2 + 1) from q_3451 b31 j4_3) (show inr (2) ∧ 0 < 2 from q_967) ?_
                  refine Ew_of (pcₚ := 247) (fun _ => x_aload rfl (rk_o (lc152_4) rfl rfl)) ?_
                  refine v_g H (o := 3) (v := I (u3_1)) rfl rfl rfl rfl rfl (congrArg (fun z : Int => I z) ((((((hS_c152 3 1 rfl).trans (hS_43 3 1 rfl)).trans (hS_c30 3 1 rfl)).trans (hS_4 3 1 rfl)).trans (eu3_1)) : F_c152 3 1 = u3_1)) ?_
                  refine w_icmpgt (t := 261) rfl rfl (show inr (((x4_2 + 1) / 2)) from q_3452 b31 j4_3) (show inr (u3_1) from q_884 h2) (fun b37 => ?_) (fun b37 => ?_)
                  · exact hc261  _ _ _ _  (rk_o (lc152_1) rfl rfl) (rk_o (lc152_4) rfl rfl) (rk_s) H O (SF_refl) (SA_refl)
                  · exact hc253  _ _ _ _  (rk_o (lc152_0) rfl rfl) (rk_o (lc152_1) rfl rfl) (rk_o (lc152_2) rfl rfl) H O (SF_refl) (SA_refl)     (show ((tc152_0) = (0)) ∨ ((tc152_0) ≠ (0) ∧ (((x4_2 + 1) / 2)) ≤ (u3_1)) from q_3450 b23)
            · refine Ew_of (pcₚ := 160) (fun _ => x_aload_n rfl (rk_o (lc152_0) rfl rfl)) ?_
              refine Ew_of (pcₚ := 161) (fun _ => x_aload_n rfl (rk_o (lc152_0) rfl rfl)) ?_
              refine v_g H (o := 0) (v := .ref (D 3)) rfl rfl rfl rfl rfl (vrf ((mF_c152 0 7 rfl).trans (pf3))) ?_
              refine Ew_of (pcₚ := 165) (fun _ => x_iload_n rfl (rk_o (lc152_2) rfl rfl)) ?_
              refine Ew_of (pcₚ := 166) (fun _ => x_iconst rfl) ?_
              have r38 : (-2147483648 : Int) ≤ F 3 4 ∧ F 3 4 ≤ 2147483647 := rngE (show (-2147483648 : Int) ≤ F_c152 3 4 ∧ F_c152 3 4 ≤ 2147483647 from H.krg 3 4 (ltn len_V104_Row_oz_F5cls rfl)) (show F_c152 3 4 = F 3 4 from ((((hS_c152 3 4 rfl).trans (hS_43 3 4 rfl)).trans (hS_c30 3 4 rfl)).trans (hS_4 3 4 rfl)))
              refine v_inv H (o := 0) rfl rfl rfl rfl rfl rfl (by rfl) (C106_thisorderFivea (D := puc 2829811312643632160610283968114198016 D) (N := puc 2829811312643632160610283968114198016 N) (HW_subc H oz_F5cls_40 oz_F5cls_51) ((mF_c152 0 7 rfl).trans (pf3)) ((((((hS_c152 3 0 rfl).trans (hS_43 3 0 rfl)).trans (hS_c30 3 0 rfl)).trans (hS_4 3 0 rfl))).trans (pf4)) ((mF_c152 0 6 rfl).trans (pf7)) ((mF_c152 7 2 rfl).trans (pf8)) ((mF_c152 7 3 rfl).trans (pf9)) ((mF_c152 7 4 rfl).trans (pf10)) ((mF_c152 7 5 rfl).trans (pf11)) ((mF_c152 7 6 rfl).trans (pf12)) ((mF_c152 7 8 rfl).trans (pf13)) ((mF_c152 7 7 rfl).trans (pf14)) ((mF_c152 7 9 rfl).trans (pf15)) ((mF_c152 0 4 rfl).trans (pf16)) ((mF_c152 0 5 rfl).trans (pf17)) (n4) (en4) (n8) (en8) (n9) (en9) (n10) (en10) (n11) (en11) (n12) (en12) (n13) (en13) (n14) (en14) (n15) (en15) (n16) (en16) (n17) (en17) (u3_1) ((((((hS_c152 3 1 rfl).trans (hS_43 3 1 rfl)).trans (hS_c30 3 1 rfl)).trans (hS_4 3 1 rfl)).trans (eu3_1))) (F 3 4) (((((hS_c152 3 4 rfl).trans (hS_43 3 4 rfl)).trans (hS_c30 3 4 rfl)).trans (hS_4 3 4 rfl))) (u7_1) (((mF_c152 7 1 rfl).trans (eu7_1))) (w43_16) ((funext (hA_c152 16 rfl)).trans (ew43_16)) (w43_17) ((funext (hA_c152 17 rfl)).trans (ew43_17)) (show inr (x4_2) from j4_0) (show inr (5) from q_509) (show 0 ≤ (u3_1) ∧ (u3_1) ≤ (n4) ∧ (n4) ≤ 65536 from h2) (show (n8) = (u7_1) ∧ (n9) = (u7_1) ∧ (n10) = (u7_1) ∧ (n11) = (u7_1) ∧ (n12) = (u7_1) ∧ (n13) = (n14) ∧ (n15) = (n14) ∧ 1 ≤ (u7_1) ∧ (u7_1) ≤ 64 ∧ (u7_1) = 12 ∧ (n14) = 64 from h4) (show 2 ≤ (x4_2) ∧ (x4_2) ≤ 255 by omega) (show 5 ≤ (5) ∧ (5) ≤ 6 from q_1820) (show (n16) = 256 ∧ (n17) = 12 from q_3453 h5) (show WGB ((w43_16)) 11 (x4_2) from hwg) (show WCN ((w43_16)) ((w43_17)) (x4_2) from hwc) (fun σ39 D39ₚ N39ₚ F39ₚ A39ₚ c39 s39 Hₚ Oₚ hD39 hN39 hS39 hA39 pm39_2 m39_2 em39_2 y39_1_1 ey39_1_1 y39_1_4 ey39_1_4 pz39_0 pz39_1 => ⟨rfl, ?_⟩))
              refine v_backMc (c := c) (s := s) H oz_F5cls_40 oz_F5cls_51 Hₚ Oₚ hD39 oz_F5cls_41 (fun D39 N39 F39 A39 H Oₚ eD39 eN39 eF39 eA39 => ?_)
              have O := OUT_trans O Oₚ
              -- Codes.describeByStates
              have cF39 : SF oz_F5clsl_9 F F39 := SF_trans (cF_c152) (SF_gluc (ι := oz_F5clsl_14) oz_F5cls_51 hS39 eF39 (by decide +kernel)) (any_sub (lₚ := [(3, 0), (3, 1), (3, 2), (3, 3), (3, 4), (7, 0)]) (by decide +kernel))
              have mF39 := SFm_of cF39 oz_F5cls_46
              have cA39 : SA oz_F5clsl_10 A A39 := SA_trans (cA_c152) (SA_gluc (ι := oz_F5clsl_14) oz_F5cls_51 hA39 eA39 (by decide +kernel)) (any_subA (lₚ := [4, 8, 9, 10, 11, 12, 13, 14, 15]) (by decide +kernel))
              have mA39 := SAm_of cA39 oz_F5cls_47
              have cD39 : SD oz_F5clsl_11 D D39 := SD_trans (SD_refl) (SD_gluc (ι := oz_F5clsl_14) oz_F5cls_51 hD39 eD39 (by decide +kernel)) (any_subA (lₚ := [4]) (by decide +kernel))
              have mD39 := SDm_of cD39 oz_F5cls_48
              have cN39 : SD oz_F5clsl_11 N N39 := SD_trans (SD_refl) (SD_gluc (ι := oz_F5clsl_14) oz_F5cls_51 hN39 eN39 (by decide +kernel)) (any_subA (lₚ := [4]) (by decide +kernel))
              have mN39 := SDm_of cN39 oz_F5cls_48
              have pf39_1_0 : F39 1 0 = (D39 2 : Int) := ((show F39 1 0 = F_c152 1 0 from (eF39 1 0))).trans (((((((hS_c152 1 0 rfl).trans (hS_43 1 0 rfl)).trans (hS_c30 1 0 rfl)).trans (hS_4 1 0 rfl))).trans (pf2)).trans (congrArg (fun q : Nat => (q : Int)) ((show D39 2 = D 2 from (eD39 2))).symm))
              have pf39_3_0 : F39 3 0 = (D39 4 : Int) := (eF39 3 0).trans (pm39_2.trans (congrArg (fun q : Nat => (q : Int)) (eD39 4).symm))
              have pf39_5_0 : F39 5 0 = (D39 6 : Int) := ((show F39 5 0 = F_c152 5 0 from (eF39 5 0))).trans (((((((hS_c152 5 0 rfl).trans (hS_43 5 0 rfl)).trans (hS_c30 5 0 rfl)).trans (hS_4 5 0 rfl))).trans (pf6)).trans (congrArg (fun q : Nat => (q : Int)) ((show D39 6 = D 6 from (eD39 6))).symm))
              have r40 : (0 : Int) ≤ m39_2 ∧ m39_2 ≤ 1000000 := nleE (H.nle 4 (ltn len_V104_Row_oz_F5cls rfl)) (show (N39 4 : Int) = m39_2 from (congrArg (fun q : Nat => (q : Int)) (eN39 4)).trans em39_2)
              have r41 : (-2147483648 : Int) ≤ y39_1_1 ∧ y39_1_1 ≤ 2147483647 := rngE (show (-2147483648 : Int) ≤ F39 3 1 ∧ F39 3 1 ≤ 2147483647 from H.krg 3 1 (ltn len_V104_Row_oz_F5cls rfl)) (show F39 3 1 = y39_1_1 from ((eF39 3 1).trans ey39_1_1))
              have r42 : (-2147483648 : Int) ≤ y39_1_4 ∧ y39_1_4 ≤ 2147483647 := rngE (show (-2147483648 : Int) ≤ F39 3 4 ∧ F39 3 4 ≤ 2147483647 from H.krg 3 4 (ltn len_V104_Row_oz_F5cls rfl)) (show F39 3 4 = y39_1_4 from ((eF39 3 4).trans ey39_1_4))
              refine Ew_of (pcₚ := 170) (fun _ => x_aload_n rfl (rk_o (lc152_0) rfl rfl)) ?_
              refine Ew_of (pcₚ := 171) (fun _ => x_aload_n rfl (rk_o (lc152_0) rfl rfl)) ?_
              refine Ew_stk (show ([.ref (D 0), .ref (D 0)] : List Value) = [.ref (D39 0), .ref (D39 0)] by rw [show D39 0 = D 0 from mD39 0 rfl]) ?_
              refine v_g H (o := 0) (v := .ref (D39 5)) rfl rfl rfl rfl rfl (vrf ((mF39 0 8 rfl).trans ((pf5).trans (congrArg (fun q : Nat => (q : Int)) (mD39 5 rfl).symm)))) ?_
              refine Ew_of (pcₚ := 175) (fun _ => x_iload_n rfl (rk_o (lc152_2) rfl rfl)) ?_
              refine Ew_of (pcₚ := 177) (fun _ => x_bipush (z := 6) rfl (by decide)) ?_
              have r43 : (-2147483648 : Int) ≤ F 5 4 ∧ F 5 4 ≤ 2147483647 := rngE (show (-2147483648 : Int) ≤ F39 5 4 ∧ F39 5 4 ≤ 2147483647 from H.krg 5 4 (ltn len_V104_Row_oz_F5cls rfl)) (show F39 5 4 = F 5 4 from ((((((show F39 5 4 = F_c152 5 4 from (eF39 5 4))).trans (hS_c152 5 4 rfl)).trans (hS_43 5 4 rfl)).trans (hS_c30 5 4 rfl)).trans (hS_4 5 4 rfl)))
              refine v_inv H (o := 0) rfl rfl rfl rfl rfl rfl (by rfl) (C106_thisorderSixa (D := puc 2829811312643632160610283968114723328 D39) (N := puc 2829811312643632160610283968114723328 N39) (HW_subc H oz_F5cls_42 oz_F5cls_52) ((mF39 0 8 rfl).trans ((pf5).trans (congrArg (fun q : Nat => (q : Int)) (mD39 5 rfl).symm))) (pf39_5_0) ((mF39 0 6 rfl).trans ((pf7).trans (congrArg (fun q : Nat => (q : Int)) (mD39 7 rfl).symm))) ((mF39 7 2 rfl).trans ((pf8).trans (congrArg (fun q : Nat => (q : Int)) (mD39 8 rfl).symm))) ((mF39 7 3 rfl).trans ((pf9).trans (congrArg (fun q : Nat => (q : Int)) (mD39 9 rfl).symm))) ((mF39 7 4 rfl).trans ((pf10).trans (congrArg (fun q : Nat => (q : Int)) (mD39 10 rfl).symm))) ((mF39 7 5 rfl).trans ((pf11).trans (congrArg (fun q : Nat => (q : Int)) (mD39 11 rfl).symm))) ((mF39 7 6 rfl).trans ((pf12).trans (congrArg (fun q : Nat => (q : Int)) (mD39 12 rfl).symm))) ((mF39 7 8 rfl).trans ((pf13).trans (congrArg (fun q : Nat => (q : Int)) (mD39 13 rfl).symm))) ((mF39 7 7 rfl).trans ((pf14).trans (congrArg (fun q : Nat => (q : Int)) (mD39 14 rfl).symm))) ((mF39 7 9 rfl).trans ((pf15).trans (congrArg (fun q : Nat => (q : Int)) (mD39 15 rfl).symm))) ((mF39 0 4 rfl).trans ((pf16).trans (congrArg (fun q : Nat => (q : Int)) (mD39 16 rfl).symm))) ((mF39 0 5 rfl).trans ((pf17).trans (congrArg (fun q : Nat => (q : Int)) (mD39 17 rfl).symm))) (n6) ((congrArg (fun q : Nat => (q : Int)) (show N39 6 = N 6 from (eN39 6))).trans (en6)) (n8) ((congrArg (fun q : Nat => (q : Int)) (mN39 8 rfl)).trans (en8)) (n9) ((congrArg (fun q : Nat => (q : Int)) (mN39 9 rfl)).trans (en9)) (n10) ((congrArg (fun q : Nat => (q : Int)) (mN39 10 rfl)).trans (en10)) (n11) ((congrArg (fun q : Nat => (q : Int)) (mN39 11 rfl)).trans (en11)) (n12) ((congrArg (fun q : Nat => (q : Int)) (mN39 12 rfl)).trans (en12)) (n13) ((congrArg (fun q : Nat => (q : Int)) (mN39 13 rfl)).trans (en13)) (n14) ((congrArg (fun q : Nat => (q : Int)) (mN39 14 rfl)).trans (en14)) (n15) ((congrArg (fun q : Nat => (q : Int)) (mN39 15 rfl)).trans (en15)) (n16) ((congrArg (fun q : Nat => (q : Int)) (mN39 16 rfl)).trans (en16)) (n17) ((congrArg (fun q : Nat => (q : Int)) (mN39 17 rfl)).trans (en17)) (u5_1) ((((((((show F39 5 1 = F_c152 5 1 from (eF39 5 1))).trans (hS_c152 5 1 rfl)).trans (hS_43 5 1 rfl)).trans (hS_c30 5 1 rfl)).trans (hS_4 5 1 rfl)).trans (eu5_1))) (F 5 4) (((((((show F39 5 4 = F_c152 5 4 from (eF39 5 4))).trans (hS_c152 5 4 rfl)).trans (hS_43 5 4 rfl)).trans (hS_c30 5 4 rfl)).trans (hS_4 5 4 rfl))) (u7_1) (((mF39 7 1 rfl).trans (eu7_1))) (w43_16) (((show A39 16 = A_c152 16 from (eA39 16).trans (funext (hA39 12 rfl)))).trans ((funext (hA_c152 16 rfl)).trans (ew43_16))) (w43_17) (((show A39 17 = A_c152 17 from (eA39 17).trans (funext (hA39 13 rfl)))).trans ((funext (hA_c152 17 rfl)).trans (ew43_17))) (show inr (x4_2) from j4_0) (show inr (6) from q_545) (show 0 ≤ (u5_1) ∧ (u5_1) ≤ (n6) ∧ (n6) ≤ 65536 from h3) (show (n8) = (u7_1) ∧ (n9) = (u7_1) ∧ (n10) = (u7_1) ∧ (n11) = (u7_1) ∧ (n12) = (u7_1) ∧ (n13) = (n14) ∧ (n15) = (n14) ∧ 1 ≤ (u7_1) ∧ (u7_1) ≤ 64 ∧ (u7_1) = 12 ∧ (n14) = 64 from h4) (show 2 ≤ (x4_2) ∧ (x4_2) ≤ 255 by omega) (show 5 ≤ (6) ∧ (6) ≤ 6 from q_1818) (show (n16) = 256 ∧ (n17) = 12 from q_3453 h5) (show WGB ((w43_16)) 11 (x4_2) from hwg) (show WCN ((w43_16)) ((w43_17)) (x4_2) from hwc) (fun σ44 D44ₚ N44ₚ F44ₚ A44ₚ c44 s44 Hₚ Oₚ hD44 hN44 hS44 hA44 pm44_2 m44_2 em44_2 y44_1_1 ey44_1_1 y44_1_4 ey44_1_4 pz44_0 pz44_1 => ⟨rfl, ?_⟩))
              refine v_backMc (c := (c + c39)) (s := (s + s39)) H oz_F5cls_42 oz_F5cls_52 Hₚ Oₚ hD44 oz_F5cls_43 (fun D44 N44 F44 A44 H Oₚ eD44 eN44 eF44 eA44 => ?_)
              have O := OUT_trans O Oₚ
              -- Codes.describeByStates
              have cF44 : SF oz_F5clsl_9 F F44 := SF_trans (cF39) (SF_gluc (ι := oz_F5clsl_15) oz_F5cls_52 hS44 eF44 (by decide +kernel)) (any_sub (lₚ := [(5, 0), (5, 1), (5, 2), (5, 3), (5, 4), (7, 0)]) (by decide +kernel))
              have mF44 := SFm_of cF44 oz_F5cls_46
              have cA44 : SA oz_F5clsl_10 A A44 := SA_trans (cA39) (SA_gluc (ι := oz_F5clsl_15) oz_F5cls_52 hA44 eA44 (by decide +kernel)) (any_subA (lₚ := [6, 8, 9, 10, 11, 12, 13, 14, 15]) (by decide +kernel))
              have mA44 := SAm_of cA44 oz_F5cls_47
              have cD44 : SD oz_F5clsl_11 D D44 := SD_trans (cD39) (SD_gluc (ι := oz_F5clsl_15) oz_F5cls_52 hD44 eD44 (by decide +kernel)) (any_subA (lₚ := [6]) (by decide +kernel))
              have mD44 := SDm_of cD44 oz_F5cls_48
              have cN44 : SD oz_F5clsl_11 N N44 := SD_trans (cN39) (SD_gluc (ι := oz_F5clsl_15) oz_F5cls_52 hN44 eN44 (by decide +kernel)) (any_subA (lₚ := [6]) (by decide +kernel))
              have mN44 := SDm_of cN44 oz_F5cls_48
              have pf44_1_0 : F44 1 0 = (D44 2 : Int) := ((show F44 1 0 = F39 1 0 from (eF44 1 0))).trans ((pf39_1_0).trans (congrArg (fun q : Nat => (q : Int)) ((show D44 2 = D39 2 from (eD44 2))).symm))
              have pf44_3_0 : F44 3 0 = (D44 4 : Int) := ((show F44 3 0 = F39 3 0 from (eF44 3 0))).trans ((pf39_3_0).trans (congrArg (fun q : Nat => (q : Int)) ((show D44 4 = D39 4 from (eD44 4))).symm))
              have pf44_5_0 : F44 5 0 = (D44 6 : Int) := (eF44 5 0).trans (pm44_2.trans (congrArg (fun q : Nat => (q : Int)) (eD44 6).symm))
              have r45 : (0 : Int) ≤ m44_2 ∧ m44_2 ≤ 1000000 := nleE (H.nle 6 (ltn len_V104_Row_oz_F5cls rfl)) (show (N44 6 : Int) = m44_2 from (congrArg (fun q : Nat => (q : Int)) (eN44 6)).trans em44_2)
              have r46 : (-2147483648 : Int) ≤ y44_1_1 ∧ y44_1_1 ≤ 2147483647 := rngE (show (-2147483648 : Int) ≤ F44 5 1 ∧ F44 5 1 ≤ 2147483647 from H.krg 5 1 (ltn len_V104_Row_oz_F5cls rfl)) (show F44 5 1 = y44_1_1 from ((eF44 5 1).trans ey44_1_1))
              have r47 : (-2147483648 : Int) ≤ y44_1_4 ∧ y44_1_4 ≤ 2147483647 := rngE (show (-2147483648 : Int) ≤ F44 5 4 ∧ F44 5 4 ≤ 2147483647 from H.krg 5 4 (ltn len_V104_Row_oz_F5cls rfl)) (show F44 5 4 = y44_1_4 from ((eF44 5 4).trans ey44_1_4))
              refine Ew_of (pcₚ := 181) (fun _ => x_aload_n rfl (rk_o (lc152_0) rfl rfl)) ?_
              refine Ew_stk (congrArg (fun qz : Nat => ([.ref qz] : List Value)) (show D44 0 = D 0 from mD44 0 rfl).symm) ?_
              refine v_g H (o := 0) (v := .ref (D44 5)) rfl rfl rfl rfl rfl (vrf ((mF44 0 8 rfl).trans ((pf5).trans (congrArg (fun q : Nat => (q : Int)) (mD44 5 rfl).symm)))) ?_
              refine v_g H (o := 5) (v := I (y44_1_1)) rfl rfl rfl rfl rfl (congrArg (fun z : Int => I z) (((eF44 5 1).trans ey44_1_1) : F44 5 1 = y44_1_1)) ?_
              refine Ew_of (pcₚ := 188) (fun _ => x_aload_n rfl (rk_o (lc152_0) rfl rfl)) ?_
              refine Ew_stk (congrArg (fun qz : Nat => ([.ref qz, I (y44_1_1)] : List Value)) (show D44 0 = D 0 from mD44 0 rfl).symm) ?_
              refine v_g H (o := 0) (v := .ref (D44 3)) rfl rfl rfl rfl rfl (vrf ((mF44 0 7 rfl).trans ((pf3).trans (congrArg (fun q : Nat => (q : Int)) (mD44 3 rfl).symm)))) ?_
              refine v_g H (o := 3) (v := I (y39_1_1)) rfl rfl rfl rfl rfl (congrArg (fun z : Int => I z) ((((show F44 3 1 = F39 3 1 from (eF44 3 1))).trans ((eF39 3 1).trans ey39_1_1)) : F44 3 1 = y39_1_1)) ?_
              refine w_icmpge (t := 204) rfl rfl (show inr (y44_1_1) from q_884 pz44_0) (show inr (y39_1_1) from q_884 pz39_0) (fun b48 => ?_) (fun b48 => ?_)
              · refine Ew_of (pcₚ := 205) (fun _ => x_aload_n rfl (rk_o (lc152_0) rfl rfl)) ?_
                refine Ew_stk (congrArg (fun qz : Nat => ([.ref qz] : List Value)) (show D44 0 = D 0 from mD44 0 rfl).symm) ?_
                refine v_g H (o := 0) (v := .ref (D44 3)) rfl rfl rfl rfl rfl (vrf ((mF44 0 7 rfl).trans ((pf3).trans (congrArg (fun q : Nat => (q : Int)) (mD44 3 rfl).symm)))) ?_
                refine Ew_of (pcₚ := 210) (fun _ => x_astore rfl) ?_
                refine Ew_of (pcₚ := 212) (fun _ => x_aload rfl rk_s) ?_
                refine v_g H (o := 3) (v := I (y39_1_1)) rfl rfl rfl rfl rfl (congrArg (fun z : Int => I z) ((((show F44 3 1 = F39 3 1 from (eF44 3 1))).trans ((eF39 3 1).trans ey39_1_1)) : F44 3 1 = y39_1_1)) ?_
                refine Ew_of (pcₚ := 218) (fun _ => x_sipush (z := 128) rfl (by decide)) ?_
                have hc226 : ∀ (tc226_0 : Int), ∀ (ls : rO) (σ : rS) (F_c226 : hF) (A_c226 : hA) , rlook ls 0 = some (.ref (D44 0)) → rlook ls 1 = some (.ref (D44 1)) → rlook ls 2 = some (I (x4_2)) → rlook ls 4 = some (.ref (D44 3)) → HW V104_Row σ D44 N44 F_c226 A_c226 → OUT (V104_Row).length D N σE c s D44 N44 σ ((c + c39) + c44) ((s + s39) + s44) → SF [] F44 F_c226 → SA [] A44 A_c226 → (inr (tc226_0)) → (((y39_1_1) ≥ (128) ∧ (tc226_0) = (0)) ∨ ((y39_1_1) < (128) ∧ (tc226_0) = (1))) → Ew 104 (d + 3) 226 ls [I (tc226_0)] σ ((c + c39) + c44) ((s + s39) + s44) Q := by
                 as_aux_lemma =>
                  intro tc226_0 ls σ F_c226 A_c226  lc226_0 lc226_1 lc226_2 lc226_4 H O hS_c226 hA_c226     jc226_0 jc226_1
                  have cF_c226 : SF oz_F5clsl_9 F F_c226 := SF_trans (cF44) hS_c226 (any_sub (by decide +kernel))
                  have mF_c226 := SFm_of cF_c226 oz_F5cls_46
                  have cA_c226 : SA oz_F5clsl_10 A A_c226 := SA_trans (cA44) hA_c226 (any_subA (by decide +kernel))
                  have mA_c226 := SAm_of cA_c226 oz_F5cls_47
                  refine Ew_of (pcₚ := 228) (fun _ => x_istore rfl) ?_
                  have hc261 : ∀ (ls : rO) (σ : rS) (F_c261 : hF) (A_c261 : hA) , rlook ls 1 = some (.ref (D44 1)) → rlook ls 4 = some (.ref (D44 3)) → rlook ls 5 = some (I (tc226_0)) → HW V104_Row σ D44 N44 F_c261 A_c261 → OUT (V104_Row).length D N σE c s D44 N44 σ ((c + c39) + c44) ((s + s39) + s44) → SF [] F_c226 F_c261 → SA [] A_c226 A_c261 → Ew 104 (d + 3) 261 ls [] σ ((c + c39) + c44) ((s + s39) + s44) Q := by
                   as_aux_lemma =>
                    intro  ls σ F_c261 A_c261  lc261_1 lc261_4 lc261_5 H O hS_c261 hA_c261     
                    have cF_c261 : SF oz_F5clsl_9 F F_c261 := SF_trans (cF_c226) hS_c261 (any_sub (by decide +kernel))
                    have mF_c261 := SFm_of cF_c261 oz_F5cls_46
                    have cA_c261 : SA oz_F5clsl_10 A A_c261 := SA_trans (cA_c226) hA_c261 (any_subA (by decide +kernel))
                    have mA_c261 := SAm_of cA_c261 oz_F5cls_47
                    refine Ew_of (pcₚ := 263) (fun _ => x_iload rfl lc261_5) ?_
                    refine w_ifeq (t := 290) rfl rfl (show inr (tc226_0) from jc226_0) (fun b49 => ?_) (fun b49 => ?_)
                    · refine Ew_of (pcₚ := 292) (fun _ => x_iload rfl lc261_5) ?_
                      exact w_ireturn rfl (k (tc226_0) _ _ _ _ _ _ _ H O (cD44) (cN44) (cF_c261) (cA_c261) ((((hS_c261 1 0 rfl).trans (hS_c226 1 0 rfl))).trans (pf44_1_0)) ((((hS_c261 3 0 rfl).trans (hS_c226 3 0 rfl))).trans (pf44_3_0)) ((((hS_c261 5 0 rfl).trans (hS_c226 5 0 rfl))).trans (pf44_5_0)) (n2) ((congrArg (fun q : Nat => (q : Int)) (show N44 2 = N39 2 from (eN44 2))).trans ((congrArg (fun q : Nat => (q : Int)) (show N39 2 = N 2 from (eN39 2))).trans (en2))) (m39_2) ((congrArg (fun q : Nat => (q : Int)) (show N44 4 = N39 4 from (eN44 4))).trans ((congrArg (fun q : Nat => (q : Int)) (eN39 4)).trans em39_2)) (m44_2) ((congrArg (fun q : Nat => (q : Int)) (eN44 6)).trans em44_2) (u1_1) ((((((((((hS_c261 1 1 rfl).trans (hS_c226 1 1 rfl)).trans ((show F44 1 1 = F39 1 1 from (eF44 1 1)))).trans ((show F39 1 1 = F_c152 1 1 from (eF39 1 1)))).trans (hS_c152 1 1 rfl)).trans (hS_43 1 1 rfl)).trans (hS_c30 1 1 rfl)).trans (hS_4 1 1 rfl)).trans (eu1_1))) (u1_4) ((((((((((hS_c261 1 4 rfl).trans (hS_c226 1 4 rfl)).trans ((show F44 1 4 = F39 1 4 from (eF44 1 4)))).trans ((show F39 1 4 = F_c152 1 4 from (eF39 1 4)))).trans (hS_c152 1 4 rfl)).trans (hS_43 1 4 rfl)).trans (hS_c30 1 4 rfl)).trans (hS_4 1 4 rfl)).trans (eu1_4))) (y39_1_1) (((((hS_c261 3 1 rfl).trans (hS_c226 3 1 rfl)).trans ((show F44 3 1 = F39 3 1 from (eF44 3 1)))).trans ((eF39 3 1).trans ey39_1_1))) (y44_1_1) ((((hS_c261 5 1 rfl).trans (hS_c226 5 1 rfl)).trans ((eF44 5 1).trans ey44_1_1))) (show (tc226_0) = 0 ∨ (tc226_0) = 1 from q_536 b49) (show 0 ≤ (u1_1) ∧ (u1_1) ≤ (n2) ∧ (n2) ≤ 65536 from h0) (show 0 ≤ (u1_4) ∧ (u1_4) ≤ 7 from h1) (show 0 ≤ (y39_1_1) ∧ (y39_1_1) ≤ (m39_2) ∧ (m39_2) ≤ 65536 from pz39_0) (show 0 ≤ (y44_1_1) ∧ (y44_1_1) ≤ (m44_2) ∧ (m44_2) ≤ 65536 from pz44_0) (show (u1_1) ≤ (u1_1) from q_102))
                    · refine Ew_of (pcₚ := 267) (fun _ => x_aload_n rfl lc261_1) ?_
                      refine Ew_of (pcₚ := 269) (fun _ => x_aload rfl lc261_4) ?_
                      refine v_g H (o := 3) (v := I (y39_1_1)) rfl rfl rfl rfl rfl (congrArg (fun z : Int => I z) (((((hS_c261 3 1 rfl).trans (hS_c226 3 1 rfl)).trans ((show F44 3 1 = F39 3 1 from (eF44 3 1)))).trans ((eF39 3 1).trans ey39_1_1)) : F_c261 3 1 = y39_1_1)) ?_
                      refine v_inv H (o := 1) rfl rfl rfl rfl rfl rfl (by rfl) (C159 (D := puc 1025 D44) (N := puc 1025 N44) (HW_subc H oz_F5cls_34 oz_F5cls_16) ((((hS_c261 1 0 rfl).trans (hS_c226 1 0 rfl))).trans (pf44_1_0)) (n2) ((congrArg (fun q : Nat => (q : Int)) (show N44 2 = N39 2 from (eN44 2))).trans ((congrArg (fun q : Nat => (q : Int)) (show N39 2 = N 2 from (eN39 2))).trans (en2))) (u1_1) ((((((((((hS_c261 1 1 rfl).trans (hS_c226 1 1 rfl)).trans ((show F44 1 1 = F39 1 1 from (eF44 1 1)))).trans ((show F39 1 1 = F_c152 1 1 from (eF39 1 1)))).trans (hS_c152 1 1 rfl)).trans (hS_43 1 1 rfl)).trans (hS_c30 1 1 rfl)).trans (hS_4 1 1 rfl)).trans (eu1_1))) (show inr (y39_1_1) from q_884 pz39_0) (show 0 ≤ (u1_1) ∧ (u1_1) ≤ (n2) ∧ (n2) ≤ 65536 from h0) (fun σ50 D50ₚ N50ₚ F50ₚ A50ₚ c50 s50 Hₚ Oₚ hD50 hN50 hS50 hA50 pm50_1 m50_1 em50_1 y50_0_1 ey50_0_1 pz50_0 pz50_1 pz50_2 => ⟨rfl, ?_⟩))
                      refine v_backMc (c := ((c + c39) + c44)) (s := ((s + s39) + s44)) H oz_F5cls_34 oz_F5cls_16 Hₚ Oₚ hD50 oz_F5cls_35 (fun D50 N50 F50 A50 H Oₚ eD50 eN50 eF50 eA50 => ?_)
                      have O := OUT_trans O Oₚ
                      -- Row.add
                      have cF50 : SF oz_F5clsl_9 F F50 := SF_trans (cF_c261) (SF_gluc (ι := oz_F5clsl_4) oz_F5cls_16 hS50 eF50 (by decide +kernel)) (any_sub (lₚ := [(1, 0), (1, 1), (1, 2)]) (by decide +kernel))
                      have mF50 := SFm_of cF50 oz_F5cls_46
                      have cA50 : SA oz_F5clsl_10 A A50 := SA_trans (cA_c261) (SA_gluc (ι := oz_F5clsl_4) oz_F5cls_16 hA50 eA50 (by decide +kernel)) (any_subA (lₚ := [2]) (by decide +kernel))
                      have mA50 := SAm_of cA50 oz_F5cls_47
                      have cD50 : SD oz_F5clsl_11 D D50 := SD_trans (cD44) (SD_gluc (ι := oz_F5clsl_4) oz_F5cls_16 hD50 eD50 (by decide +kernel)) (any_subA (lₚ := [2]) (by decide +kernel))
                      have mD50 := SDm_of cD50 oz_F5cls_48
                      have cN50 : SD oz_F5clsl_11 N N50 := SD_trans (cN44) (SD_gluc (ι := oz_F5clsl_4) oz_F5cls_16 hN50 eN50 (by decide +kernel)) (any_subA (lₚ := [2]) (by decide +kernel))
                      have mN50 := SDm_of cN50 oz_F5cls_48
                      have pf50_1_0 : F50 1 0 = (D50 2 : Int) := (eF50 1 0).trans (pm50_1.trans (congrArg (fun q : Nat => (q : Int)) (eD50 2).symm))
                      have pf50_3_0 : F50 3 0 = (D50 4 : Int) := ((show F50 3 0 = F_c261 3 0 from (eF50 3 0))).trans (((((hS_c261 3 0 rfl).trans (hS_c226 3 0 rfl))).trans (pf44_3_0)).trans (congrArg (fun q : Nat => (q : Int)) ((show D50 4 = D44 4 from (eD50 4))).symm))
                      have pf50_5_0 : F50 5 0 = (D50 6 : Int) := ((show F50 5 0 = F_c261 5 0 from (eF50 5 0))).trans (((((hS_c261 5 0 rfl).trans (hS_c226 5 0 rfl))).trans (pf44_5_0)).trans (congrArg (fun q : Nat => (q : Int)) ((show D50 6 = D44 6 from (eD50 6))).symm))
                      have r51 : (0 : Int) ≤ m50_1 ∧ m50_1 ≤ 1000000 := nleE (H.nle 2 (ltn len_V104_Row_oz_F5cls rfl)) (show (N50 2 : Int) = m50_1 from (congrArg (fun q : Nat => (q : Int)) (eN50 2)).trans em50_1)
                      have r52 : (-2147483648 : Int) ≤ y50_0_1 ∧ y50_0_1 ≤ 2147483647 := rngE (show (-2147483648 : Int) ≤ F50 1 1 ∧ F50 1 1 ≤ 2147483647 from H.krg 1 1 (ltn len_V104_Row_oz_F5cls rfl)) (show F50 1 1 = y50_0_1 from ((eF50 1 1).trans ey50_0_1))
                      refine Ew_of (pcₚ := 276) (fun _ => x_aload_n rfl lc261_1) ?_
                      refine Ew_of (pcₚ := 278) (fun _ => x_aload rfl lc261_4) ?_
                      refine Ew_stk (show ([.ref (D44 3), .ref (D44 1)] : List Value) = [.ref (D50 3), .ref (D50 1)] by rw [show D50 1 = D44 1 from ((show D50 1 = D44 1 from (eD50 1).trans (hD50 0 rfl))), show D50 3 = D44 3 from ((show D50 3 = D44 3 from (eD50 3)))]) ?_
                      refine v_g H (o := 3) (v := .ref (D50 4)) rfl rfl rfl rfl rfl (vrf (pf50_3_0)) ?_
                      refine Ew_of (pcₚ := 282) (fun _ => x_iconst rfl) ?_
                      refine Ew_of (pcₚ := 284) (fun _ => x_aload rfl lc261_4) ?_
                      refine Ew_stk (congrArg (fun qz : Nat => ([.ref qz, I (0), .ref (D50 4), .ref (D50 1)] : List Value)) (show D50 3 = D44 3 from ((show D50 3 = D44 3 from (eD50 3)))).symm) ?_
                      refine v_g H (o := 3) (v := I (y39_1_1)) rfl rfl rfl rfl rfl (congrArg (fun z : Int => I z) (((((((show F50 3 1 = F_c261 3 1 from (eF50 3 1))).trans (hS_c261 3 1 rfl)).trans (hS_c226 3 1 rfl)).trans ((show F44 3 1 = F39 3 1 from (eF44 3 1)))).trans ((eF39 3 1).trans ey39_1_1)) : F50 3 1 = y39_1_1)) ?_
                      refine v_inv H (o := 1) rfl rfl rfl rfl rfl rfl (by rfl) (C161_Br (D := puc 526337 D50) (N := puc 526337 N50) (HW_subc H oz_F5cls_36 oz_F5cls_49) (pf50_1_0) (m39_2) ((congrArg (fun q : Nat => (q : Int)) (show N50 4 = N44 4 from (eN50 4))).trans ((congrArg (fun q : Nat => (q : Int)) (show N44 4 = N39 4 from (eN44 4))).trans ((congrArg (fun q : Nat => (q : Int)) (eN39 4)).trans em39_2))) (m50_1) ((congrArg (fun q : Nat => (q : Int)) (eN50 2)).trans em50_1) (y50_0_1) (((eF50 1 1).trans ey50_0_1)) (A50 2) (rfl) (show inr (0) from q_20) (show inr (y39_1_1) from q_884 pz39_0) (show 0 ≤ (y50_0_1) ∧ (y50_0_1) ≤ (m50_1) ∧ (m50_1) ≤ 65536 from pz50_0) (show (y39_1_1) < 0 ∨ 0 ≤ (0) ∧ (0) + (y39_1_1) ≤ (m39_2) from q_2548 pz39_0) (fun σ53 D53ₚ N53ₚ F53ₚ A53ₚ c53 s53 Hₚ Oₚ hD53 hN53 hS53 hA53 pm53_2 m53_2 em53_2 y53_0_1 ey53_0_1 w53_2 ew53_2 pz53_0 pz53_1 pz53_2 => ⟨rfl, ?_⟩))
                      refine v_backMc (c := (((c + c39) + c44) + c50)) (s := (((s + s39) + s44) + s50)) H oz_F5cls_36 oz_F5cls_49 Hₚ Oₚ hD53 oz_F5cls_37 (fun D53 N53 F53 A53 H Oₚ eD53 eN53 eF53 eA53 => ?_)
                      have O := OUT_trans O Oₚ
                      -- Row.addPart
                      have cF53 : SF oz_F5clsl_9 F F53 := SF_trans (cF50) (SF_gluc (ι := oz_F5clsl_12) oz_F5cls_49 hS53 eF53 (by decide +kernel)) (any_sub (lₚ := [(1, 0), (1, 1), (1, 2)]) (by decide +kernel))
                      have mF53 := SFm_of cF53 oz_F5cls_46
                      have cA53 : SA oz_F5clsl_10 A A53 := SA_trans (cA50) (SA_gluc (ι := oz_F5clsl_12) oz_F5cls_49 hA53 eA53 (by decide +kernel)) (any_subA (lₚ := [2]) (by decide +kernel))
                      have mA53 := SAm_of cA53 oz_F5cls_47
                      have cD53 : SD oz_F5clsl_11 D D53 := SD_trans (cD50) (SD_gluc (ι := oz_F5clsl_12) oz_F5cls_49 hD53 eD53 (by decide +kernel)) (any_subA (lₚ := [2]) (by decide +kernel))
                      have mD53 := SDm_of cD53 oz_F5cls_48
                      have cN53 : SD oz_F5clsl_11 N N53 := SD_trans (cN50) (SD_gluc (ι := oz_F5clsl_12) oz_F5cls_49 hN53 eN53 (by decide +kernel)) (any_subA (lₚ := [2]) (by decide +kernel))
                      have mN53 := SDm_of cN53 oz_F5cls_48
                      have pf53_1_0 : F53 1 0 = (D53 2 : Int) := (eF53 1 0).trans (pm53_2.trans (congrArg (fun q : Nat => (q : Int)) (eD53 2).symm))
                      have pf53_3_0 : F53 3 0 = (D53 4 : Int) := ((show F53 3 0 = F50 3 0 from (eF53 3 0))).trans ((pf50_3_0).trans (congrArg (fun q : Nat => (q : Int)) ((show D53 4 = D50 4 from (eD53 4).trans (hD53 1 rfl))).symm))
                      have pf53_5_0 : F53 5 0 = (D53 6 : Int) := ((show F53 5 0 = F50 5 0 from (eF53 5 0))).trans ((pf50_5_0).trans (congrArg (fun q : Nat => (q : Int)) ((show D53 6 = D50 6 from (eD53 6))).symm))
                      have r54 : (0 : Int) ≤ m53_2 ∧ m53_2 ≤ 1000000 := nleE (H.nle 2 (ltn len_V104_Row_oz_F5cls rfl)) (show (N53 2 : Int) = m53_2 from (congrArg (fun q : Nat => (q : Int)) (eN53 2)).trans em53_2)
                      have r55 : (-2147483648 : Int) ≤ y53_0_1 ∧ y53_0_1 ≤ 2147483647 := rngE (show (-2147483648 : Int) ≤ F53 1 1 ∧ F53 1 1 ≤ 2147483647 from H.krg 1 1 (ltn len_V104_Row_oz_F5cls rfl)) (show F53 1 1 = y53_0_1 from ((eF53 1 1).trans ey53_0_1))
                      refine Ew_of (pcₚ := 292) (fun _ => x_iload rfl lc261_5) ?_
                      exact w_ireturn rfl (k (tc226_0) _ _ _ _ _ _ _ H O (cD53) (cN53) (cF53) (cA53) (pf53_1_0) (pf53_3_0) (pf53_5_0) (m53_2) ((congrArg (fun q : Nat => (q : Int)) (eN53 2)).trans em53_2) (m39_2) ((congrArg (fun q : Nat => (q : Int)) (show N53 4 = N50 4 from (eN53 4).trans (hN53 1 rfl))).trans ((congrArg (fun q : Nat => (q : Int)) (show N50 4 = N44 4 from (eN50 4))).trans ((congrArg (fun q : Nat => (q : Int)) (show N44 4 = N39 4 from (eN44 4))).trans ((congrArg (fun q : Nat => (q : Int)) (eN39 4)).trans em39_2)))) (m44_2) ((congrArg (fun q : Nat => (q : Int)) (show N53 6 = N50 6 from (eN53 6))).trans ((congrArg (fun q : Nat => (q : Int)) (show N50 6 = N44 6 from (eN50 6))).trans ((congrArg (fun q : Nat => (q : Int)) (eN44 6)).trans em44_2))) (y53_0_1) (((eF53 1 1).trans ey53_0_1)) (u1_4) (((((((((((((show F53 1 4 = F50 1 4 from (eF53 1 4).trans (hS53 0 4 rfl))).trans ((show F50 1 4 = F_c261 1 4 from (eF50 1 4).trans (hS50 0 4 rfl)))).trans (hS_c261 1 4 rfl)).trans (hS_c226 1 4 rfl)).trans ((show F44 1 4 = F39 1 4 from (eF44 1 4)))).trans ((show F39 1 4 = F_c152 1 4 from (eF39 1 4)))).trans (hS_c152 1 4 rfl)).trans (hS_43 1 4 rfl)).trans (hS_c30 1 4 rfl)).trans (hS_4 1 4 rfl)).trans (eu1_4))) (y39_1_1) ((((((((show F53 3 1 = F50 3 1 from (eF53 3 1))).trans ((show F50 3 1 = F_c261 3 1 from (eF50 3 1)))).trans (hS_c261 3 1 rfl)).trans (hS_c226 3 1 rfl)).trans ((show F44 3 1 = F39 3 1 from (eF44 3 1)))).trans ((eF39 3 1).trans ey39_1_1))) (y44_1_1) (((((((show F53 5 1 = F50 5 1 from (eF53 5 1))).trans ((show F50 5 1 = F_c261 5 1 from (eF50 5 1)))).trans (hS_c261 5 1 rfl)).trans (hS_c226 5 1 rfl)).trans ((eF44 5 1).trans ey44_1_1))) (show (tc226_0) = 0 ∨ (tc226_0) = 1 by omega) (show 0 ≤ (y53_0_1) ∧ (y53_0_1) ≤ (m53_2) ∧ (m53_2) ≤ 65536 from pz53_0) (show 0 ≤ (u1_4) ∧ (u1_4) ≤ 7 from h1) (show 0 ≤ (y39_1_1) ∧ (y39_1_1) ≤ (m39_2) ∧ (m39_2) ≤ 65536 from pz39_0) (show 0 ≤ (y44_1_1) ∧ (y44_1_1) ≤ (m44_2) ∧ (m44_2) ≤ 65536 from pz44_0) (show (u1_1) ≤ (y53_0_1) by omega))
                  refine Ew_of (pcₚ := 229) (fun _ => x_iload_n rfl (rk_o (lc226_2) rfl rfl)) ?_
                  refine Ew_of (pcₚ := 232) (fun _ => x_sipush (z := 128) rfl (by decide)) ?_
                  refine w_icmpgt (t := 261) rfl rfl (show inr (x4_2) from j4_0) (show inr (128) from q_53) (fun b56 => ?_) (fun b56 => ?_)
                  · exact hc261  _ _ _ _  (rk_o (lc226_1) rfl rfl) (rk_o (lc226_4) rfl rfl) (rk_s) H O (SF_refl) (SA_refl)
                  · refine Ew_of (pcₚ := 237) (fun _ => x_iload rfl rk_s) ?_
                    have hc253 : ∀ (ls : rO) (σ : rS) (F_c253 : hF) (A_c253 : hA) , rlook ls 0 = some (.ref (D44 0)) → rlook ls 1 = some (.ref (D44 1)) → rlook ls 2 = some (I (x4_2)) → HW V104_Row σ D44 N44 F_c253 A_c253 → OUT (V104_Row).length D N σE c s D44 N44 σ ((c + c39) + c44) ((s + s39) + s44) → SF [] F_c226 F_c253 → SA [] A_c226 A_c253 → (((tc226_0) = (0)) ∨ ((tc226_0) ≠ (0) ∧ (((x4_2 + 1) / 2)) ≤ (y39_1_1))) → Ew 104 (d + 3) 253 ls [] σ ((c + c39) + c44) ((s + s39) + s44) Q := by
                     as_aux_lemma =>
                      intro  ls σ F_c253 A_c253  lc253_0 lc253_1 lc253_2 H O hS_c253 hA_c253     jc253_0
                      have cF_c253 : SF oz_F5clsl_9 F F_c253 := SF_trans (cF_c226) hS_c253 (any_sub (by decide +kernel))
                      have mF_c253 := SFm_of cF_c253 oz_F5cls_46
                      have cA_c253 : SA oz_F5clsl_10 A A_c253 := SA_trans (cA_c226) hA_c253 (any_subA (by decide +kernel))
                      have mA_c253 := SAm_of cA_c253 oz_F5cls_47
                      refine Ew_of (pcₚ := 254) (fun _ => x_aload_n rfl lc253_0) ?_
                      refine Ew_of (pcₚ := 255) (fun _ => x_aload_n rfl lc253_1) ?_
                      refine Ew_of (pcₚ := 256) (fun _ => x_iload_n rfl lc253_2) ?_
                      refine v_inv H (o := 0) rfl rfl rfl rfl rfl rfl (by rfl) (C105_Row (D := puc 2148008448 D44) (N := puc 2148008448 N44) (HW_subc H oz_F5cls_38 oz_F5cls_50) ((((hS_c253 1 0 rfl).trans (hS_c226 1 0 rfl))).trans (pf44_1_0)) ((mF_c253 0 4 rfl).trans ((pf16).trans (congrArg (fun q : Nat => (q : Int)) (mD44 16 rfl).symm))) (n2) ((congrArg (fun q : Nat => (q : Int)) (show N44 2 = N39 2 from (eN44 2))).trans ((congrArg (fun q : Nat => (q : Int)) (show N39 2 = N 2 from (eN39 2))).trans (en2))) (n16) ((congrArg (fun q : Nat => (q : Int)) (mN44 16 rfl)).trans (en16)) (u1_1) ((((((((((hS_c253 1 1 rfl).trans (hS_c226 1 1 rfl)).trans ((show F44 1 1 = F39 1 1 from (eF44 1 1)))).trans ((show F39 1 1 = F_c152 1 1 from (eF39 1 1)))).trans (hS_c152 1 1 rfl)).trans (hS_43 1 1 rfl)).trans (hS_c30 1 1 rfl)).trans (hS_4 1 1 rfl)).trans (eu1_1))) (u1_4) ((((((((((hS_c253 1 4 rfl).trans (hS_c226 1 4 rfl)).trans ((show F44 1 4 = F39 1 4 from (eF44 1 4)))).trans ((show F39 1 4 = F_c152 1 4 from (eF39 1 4)))).trans (hS_c152 1 4 rfl)).trans (hS_43 1 4 rfl)).trans (hS_c30 1 4 rfl)).trans (hS_4 1 4 rfl)).trans (eu1_4))) (show inr (x4_2) from j4_0) (show 0 ≤ (u1_1) ∧ (u1_1) ≤ (n2) ∧ (n2) ≤ 65536 from h0) (show 0 ≤ (u1_4) ∧ (u1_4) ≤ 7 from h1) (show 0 ≤ (x4_2) ∧ (x4_2) ≤ 255 from q_3449 j4_1 j4_3) (show (n16) = 256 from q_3448 h5) (fun σ57 D57ₚ N57ₚ F57ₚ A57ₚ c57 s57 Hₚ Oₚ hD57 hN57 hS57 hA57 pm57_2 m57_2 em57_2 y57_1_1 ey57_1_1 y57_1_4 ey57_1_4 pz57_0 pz57_1 pz57_2 => ⟨rfl, ?_⟩))
                      refine v_backMc (c := ((c + c39) + c44)) (s := ((s + s39) + s44)) H oz_F5cls_38 oz_F5cls_50 Hₚ Oₚ hD57 oz_F5cls_39 (fun D57 N57 F57 A57 H Oₚ eD57 eN57 eF57 eA57 => ?_)
                      have O := OUT_trans O Oₚ
                      -- Codes.describeDirectly
                      have cF57 : SF oz_F5clsl_9 F F57 := SF_trans (cF_c253) (SF_gluc (ι := oz_F5clsl_13) oz_F5cls_50 hS57 eF57 (by decide +kernel)) (any_sub (lₚ := [(1, 0), (1, 1), (1, 2), (1, 3), (1, 4)]) (by decide +kernel))
                      have mF57 := SFm_of cF57 oz_F5cls_46
                      have cA57 : SA oz_F5clsl_10 A A57 := SA_trans (cA_c253) (SA_gluc (ι := oz_F5clsl_13) oz_F5cls_50 hA57 eA57 (by decide +kernel)) (any_subA (lₚ := [2]) (by decide +kernel))
                      have mA57 := SAm_of cA57 oz_F5cls_47
                      have cD57 : SD oz_F5clsl_11 D D57 := SD_trans (cD44) (SD_gluc (ι := oz_F5clsl_13) oz_F5cls_50 hD57 eD57 (by decide +kernel)) (any_subA (lₚ := [2]) (by decide +kernel))
                      have mD57 := SDm_of cD57 oz_F5cls_48
                      have cN57 : SD oz_F5clsl_11 N N57 := SD_trans (cN44) (SD_gluc (ι := oz_F5clsl_13) oz_F5cls_50 hN57 eN57 (by decide +kernel)) (any_subA (lₚ := [2]) (by decide +kernel))
                      have mN57 := SDm_of cN57 oz_F5cls_48
                      have pf57_1_0 : F57 1 0 = (D57 2 : Int) := (eF57 1 0).trans (pm57_2.trans (congrArg (fun q : Nat => (q : Int)) (eD57 2).symm))
                      have pf57_3_0 : F57 3 0 = (D57 4 : Int) := ((show F57 3 0 = F_c253 3 0 from (eF57 3 0))).trans (((((hS_c253 3 0 rfl).trans (hS_c226 3 0 rfl))).trans (pf44_3_0)).trans (congrArg (fun q : Nat => (q : Int)) ((show D57 4 = D44 4 from (eD57 4))).symm))
                      have pf57_5_0 : F57 5 0 = (D57 6 : Int) := ((show F57 5 0 = F_c253 5 0 from (eF57 5 0))).trans (((((hS_c253 5 0 rfl).trans (hS_c226 5 0 rfl))).trans (pf44_5_0)).trans (congrArg (fun q : Nat => (q : Int)) ((show D57 6 = D44 6 from (eD57 6))).symm))
                      have r58 : (0 : Int) ≤ m57_2 ∧ m57_2 ≤ 1000000 := nleE (H.nle 2 (ltn len_V104_Row_oz_F5cls rfl)) (show (N57 2 : Int) = m57_2 from (congrArg (fun q : Nat => (q : Int)) (eN57 2)).trans em57_2)
                      have r59 : (-2147483648 : Int) ≤ y57_1_1 ∧ y57_1_1 ≤ 2147483647 := rngE (show (-2147483648 : Int) ≤ F57 1 1 ∧ F57 1 1 ≤ 2147483647 from H.krg 1 1 (ltn len_V104_Row_oz_F5cls rfl)) (show F57 1 1 = y57_1_1 from ((eF57 1 1).trans ey57_1_1))
                      have r60 : (-2147483648 : Int) ≤ y57_1_4 ∧ y57_1_4 ≤ 2147483647 := rngE (show (-2147483648 : Int) ≤ F57 1 4 ∧ F57 1 4 ≤ 2147483647 from H.krg 1 4 (ltn len_V104_Row_oz_F5cls rfl)) (show F57 1 4 = y57_1_4 from ((eF57 1 4).trans ey57_1_4))
                      refine Ew_of (pcₚ := 260) (fun _ => x_iconst rfl) ?_
                      exact w_ireturn rfl (k (1) _ _ _ _ _ _ _ H O (cD57) (cN57) (cF57) (cA57) (pf57_1_0) (pf57_3_0) (pf57_5_0) (m57_2) ((congrArg (fun q : Nat => (q : Int)) (eN57 2)).trans em57_2) (m39_2) ((congrArg (fun q : Nat => (q : Int)) (show N57 4 = N44 4 from (eN57 4))).trans ((congrArg (fun q : Nat => (q : Int)) (show N44 4 = N39 4 from (eN44 4))).trans ((congrArg (fun q : Nat => (q : Int)) (eN39 4)).trans em39_2))) (m44_2) ((congrArg (fun q : Nat => (q : Int)) (show N57 6 = N44 6 from (eN57 6))).trans ((congrArg (fun q : Nat => (q : Int)) (eN44 6)).trans em44_2)) (y57_1_1) (((eF57 1 1).trans ey57_1_1)) (y57_1_4) (((eF57 1 4).trans ey57_1_4)) (y39_1_1) (((((((show F57 3 1 = F_c253 3 1 from (eF57 3 1))).trans (hS_c253 3 1 rfl)).trans (hS_c226 3 1 rfl)).trans ((show F44 3 1 = F39 3 1 from (eF44 3 1)))).trans ((eF39 3 1).trans ey39_1_1))) (y44_1_1) ((((((show F57 5 1 = F_c253 5 1 from (eF57 5 1))).trans (hS_c253 5 1 rfl)).trans (hS_c226 5 1 rfl)).trans ((eF44 5 1).trans ey44_1_1))) (show (1) = 0 ∨ (1) = 1 by first | exact q_5 | omega) (show 0 ≤ (y57_1_1) ∧ (y57_1_1) ≤ (m57_2) ∧ (m57_2) ≤ 65536 from pz57_0) (show 0 ≤ (y57_1_4) ∧ (y57_1_4) ≤ 7 from pz57_1) (show 0 ≤ (y39_1_1) ∧ (y39_1_1) ≤ (m39_2) ∧ (m39_2) ≤ 65536 from pz39_0) (show 0 ≤ (y44_1_1) ∧ (y44_1_1) ≤ (m44_2) ∧ (m44_2) ≤ 65536 from pz44_0) (show (u1_1) ≤ (y57_1_1) from pz57_2))
                    refine w_ifeq (t := 253) rfl rfl (show inr (tc226_0) from jc226_0) (fun b61 => ?_) (fun b61 => ?_)
                    · exact hc253  _ _ _ _  (rk_o (lc226_0) rfl rfl) (rk_o (lc226_1) rfl rfl) (rk_o (lc226_2) rfl rfl) H O (SF_refl) (SA_refl)     (show ((tc226_0) = (0)) ∨ ((tc226_0) ≠ (0) ∧ (((x4_2 + 1) / 2)) ≤ (y39_1_1)) from q_3450 b61)
                    · refine Ew_of (pcₚ := 241) (fun _ => x_iload_n rfl (rk_o (lc226_2) rfl rfl)) ?_
                      refine Ew_of (pcₚ := 242) (fun _ => x_iconst rfl) ?_
                      refine w_iadd rfl ?_
                      refine Ew_of (pcₚ := 244) (fun _ => x_iconst rfl) ?_
                      refine w_idiv rfl (show inr ((x4_2 + 1)) ∧ 0 ≤ (x4_2 + 1) from q_3451 b56 j4_3) (show inr (2) ∧ 0 < 2 from q_967) ?_
                      refine Ew_of (pcₚ := 247) (fun _ => x_aload rfl (rk_o (lc226_4) rfl rfl)) ?_
                      refine v_g H (o := 3) (v := I (y39_1_1)) rfl rfl rfl rfl rfl (congrArg (fun z : Int => I z) ((((hS_c226 3 1 rfl).trans ((show F44 3 1 = F39 3 1 from (eF44 3 1)))).trans ((eF39 3 1).trans ey39_1_1)) : F_c226 3 1 = y39_1_1)) ?_
                      refine w_icmpgt (t := 261) rfl rfl (show inr (((x4_2 + 1) / 2)) from q_3452 b56 j4_3) (show inr (y39_1_1) from q_884 pz39_0) (fun b62 => ?_) (fun b62 => ?_)
                      · exact hc261  _ _ _ _  (rk_o (lc226_1) rfl rfl) (rk_o (lc226_4) rfl rfl) (rk_s) H O (SF_refl) (SA_refl)
                      · exact hc253  _ _ _ _  (rk_o (lc226_0) rfl rfl) (rk_o (lc226_1) rfl rfl) (rk_o (lc226_2) rfl rfl) H O (SF_refl) (SA_refl)     (show ((tc226_0) = (0)) ∨ ((tc226_0) ≠ (0) ∧ (((x4_2 + 1) / 2)) ≤ (y39_1_1)) from q_3454 b61 b62)
                refine w_icmpge (t := 225) rfl rfl (show inr (y39_1_1) from q_884 pz39_0) (show inr (128) from q_53) (fun b63 => ?_) (fun b63 => ?_)
                · refine Ew_of (pcₚ := 226) (fun _ => x_iconst rfl) ?_
                  exact hc226 (0) _ _ _ _  ((rk_o (rk_o (lc152_0) rfl rfl) rfl rfl).trans (congrArg (fun q : Nat => some (Value.ref q)) (mD44 0 rfl).symm)) ((rk_o (rk_o (lc152_1) rfl rfl) rfl rfl).trans (congrArg (fun q : Nat => some (Value.ref q)) (mD44 1 rfl).symm)) (rk_o (rk_o (lc152_2) rfl rfl) rfl rfl) (rk_s) H O (SF_refl) (SA_refl)     (show inr (0) from q_20) (show ((y39_1_1) ≥ (128) ∧ (0) = (0)) ∨ ((y39_1_1) < (128) ∧ (0) = (1)) from q_3455 b63)
                · refine Ew_of (pcₚ := 222) (fun _ => x_iconst rfl) ?_
                  refine Ew_of (pcₚ := 226) (fun _ => x_goto rfl rfl) ?_
                  exact hc226 (1) _ _ _ _  ((rk_o (rk_o (lc152_0) rfl rfl) rfl rfl).trans (congrArg (fun q : Nat => some (Value.ref q)) (mD44 0 rfl).symm)) ((rk_o (rk_o (lc152_1) rfl rfl) rfl rfl).trans (congrArg (fun q : Nat => some (Value.ref q)) (mD44 1 rfl).symm)) (rk_o (rk_o (lc152_2) rfl rfl) rfl rfl) (rk_s) H O (SF_refl) (SA_refl)     (show inr (1) from q_23) (show ((y39_1_1) ≥ (128) ∧ (1) = (0)) ∨ ((y39_1_1) < (128) ∧ (1) = (1)) from q_3456 b63)
              · refine Ew_of (pcₚ := 198) (fun _ => x_aload_n rfl (rk_o (lc152_0) rfl rfl)) ?_
                refine Ew_stk (congrArg (fun qz : Nat => ([.ref qz] : List Value)) (show D44 0 = D 0 from mD44 0 rfl).symm) ?_
                refine v_g H (o := 0) (v := .ref (D44 5)) rfl rfl rfl rfl rfl (vrf ((mF44 0 8 rfl).trans ((pf5).trans (congrArg (fun q : Nat => (q : Int)) (mD44 5 rfl).symm)))) ?_
                refine Ew_of (pcₚ := 208) (fun _ => x_goto rfl rfl) ?_
                refine Ew_of (pcₚ := 210) (fun _ => x_astore rfl) ?_
                refine Ew_of (pcₚ := 212) (fun _ => x_aload rfl rk_s) ?_
                refine v_g H (o := 5) (v := I (y44_1_1)) rfl rfl rfl rfl rfl (congrArg (fun z : Int => I z) (((eF44 5 1).trans ey44_1_1) : F44 5 1 = y44_1_1)) ?_
                refine Ew_of (pcₚ := 218) (fun _ => x_sipush (z := 128) rfl (by decide)) ?_
                have hc226 : ∀ (tc226_0 : Int), ∀ (ls : rO) (σ : rS) (F_c226 : hF) (A_c226 : hA) , rlook ls 0 = some (.ref (D44 0)) → rlook ls 1 = some (.ref (D44 1)) → rlook ls 2 = some (I (x4_2)) → rlook ls 4 = some (.ref (D44 5)) → HW V104_Row σ D44 N44 F_c226 A_c226 → OUT (V104_Row).length D N σE c s D44 N44 σ ((c + c39) + c44) ((s + s39) + s44) → SF [] F44 F_c226 → SA [] A44 A_c226 → (inr (tc226_0)) → (((y44_1_1) ≥ (128) ∧ (tc226_0) = (0)) ∨ ((y44_1_1) < (128) ∧ (tc226_0) = (1))) → Ew 104 (d + 3) 226 ls [I (tc226_0)] σ ((c + c39) + c44) ((s + s39) + s44) Q := by
                 as_aux_lemma =>
                  intro tc226_0 ls σ F_c226 A_c226  lc226_0 lc226_1 lc226_2 lc226_4 H O hS_c226 hA_c226     jc226_0 jc226_1
                  have cF_c226 : SF oz_F5clsl_9 F F_c226 := SF_trans (cF44) hS_c226 (any_sub (by decide +kernel))
                  have mF_c226 := SFm_of cF_c226 oz_F5cls_46
                  have cA_c226 : SA oz_F5clsl_10 A A_c226 := SA_trans (cA44) hA_c226 (any_subA (by decide +kernel))
                  have mA_c226 := SAm_of cA_c226 oz_F5cls_47
                  refine Ew_of (pcₚ := 228) (fun _ => x_istore rfl) ?_
                  have hc261 : ∀ (ls : rO) (σ : rS) (F_c261 : hF) (A_c261 : hA) , rlook ls 1 = some (.ref (D44 1)) → rlook ls 4 = some (.ref (D44 5)) → rlook ls 5 = some (I (tc226_0)) → HW V104_Row σ D44 N44 F_c261 A_c261 → OUT (V104_Row).length D N σE c s D44 N44 σ ((c + c39) + c44) ((s + s39) + s44) → SF [] F_c226 F_c261 → SA [] A_c226 A_c261 → Ew 104 (d + 3) 261 ls [] σ ((c + c39) + c44) ((s + s39) + s44) Q := by
                   as_aux_lemma =>
                    intro  ls σ F_c261 A_c261  lc261_1 lc261_4 lc261_5 H O hS_c261 hA_c261     
                    have cF_c261 : SF oz_F5clsl_9 F F_c261 := SF_trans (cF_c226) hS_c261 (any_sub (by decide +kernel))
                    have mF_c261 := SFm_of cF_c261 oz_F5cls_46
                    have cA_c261 : SA oz_F5clsl_10 A A_c261 := SA_trans (cA_c226) hA_c261 (any_subA (by decide +kernel))
                    have mA_c261 := SAm_of cA_c261 oz_F5cls_47
                    refine Ew_of (pcₚ := 263) (fun _ => x_iload rfl lc261_5) ?_
                    refine w_ifeq (t := 290) rfl rfl (show inr (tc226_0) from jc226_0) (fun b64 => ?_) (fun b64 => ?_)
                    · refine Ew_of (pcₚ := 292) (fun _ => x_iload rfl lc261_5) ?_
                      exact w_ireturn rfl (k (tc226_0) _ _ _ _ _ _ _ H O (cD44) (cN44) (cF_c261) (cA_c261) ((((hS_c261 1 0 rfl).trans (hS_c226 1 0 rfl))).trans (pf44_1_0)) ((((hS_c261 3 0 rfl).trans (hS_c226 3 0 rfl))).trans (pf44_3_0)) ((((hS_c261 5 0 rfl).trans (hS_c226 5 0 rfl))).trans (pf44_5_0)) (n2) ((congrArg (fun q : Nat => (q : Int)) (show N44 2 = N39 2 from (eN44 2))).trans ((congrArg (fun q : Nat => (q : Int)) (show N39 2 = N 2 from (eN39 2))).trans (en2))) (m39_2) ((congrArg (fun q : Nat => (q : Int)) (show N44 4 = N39 4 from (eN44 4))).trans ((congrArg (fun q : Nat => (q : Int)) (eN39 4)).trans em39_2)) (m44_2) ((congrArg (fun q : Nat => (q : Int)) (eN44 6)).trans em44_2) (u1_1) ((((((((((hS_c261 1 1 rfl).trans (hS_c226 1 1 rfl)).trans ((show F44 1 1 = F39 1 1 from (eF44 1 1)))).trans ((show F39 1 1 = F_c152 1 1 from (eF39 1 1)))).trans (hS_c152 1 1 rfl)).trans (hS_43 1 1 rfl)).trans (hS_c30 1 1 rfl)).trans (hS_4 1 1 rfl)).trans (eu1_1))) (u1_4) ((((((((((hS_c261 1 4 rfl).trans (hS_c226 1 4 rfl)).trans ((show F44 1 4 = F39 1 4 from (eF44 1 4)))).trans ((show F39 1 4 = F_c152 1 4 from (eF39 1 4)))).trans (hS_c152 1 4 rfl)).trans (hS_43 1 4 rfl)).trans (hS_c30 1 4 rfl)).trans (hS_4 1 4 rfl)).trans (eu1_4))) (y39_1_1) (((((hS_c261 3 1 rfl).trans (hS_c226 3 1 rfl)).trans ((show F44 3 1 = F39 3 1 from (eF44 3 1)))).trans ((eF39 3 1).trans ey39_1_1))) (y44_1_1) ((((hS_c261 5 1 rfl).trans (hS_c226 5 1 rfl)).trans ((eF44 5 1).trans ey44_1_1))) (show (tc226_0) = 0 ∨ (tc226_0) = 1 from q_536 b64) (show 0 ≤ (u1_1) ∧ (u1_1) ≤ (n2) ∧ (n2) ≤ 65536 from h0) (show 0 ≤ (u1_4) ∧ (u1_4) ≤ 7 from h1) (show 0 ≤ (y39_1_1) ∧ (y39_1_1) ≤ (m39_2) ∧ (m39_2) ≤ 65536 from pz39_0) (show 0 ≤ (y44_1_1) ∧ (y44_1_1) ≤ (m44_2) ∧ (m44_2) ≤ 65536 from pz44_0) (show (u1_1) ≤ (u1_1) from q_102))
                    · refine Ew_of (pcₚ := 267) (fun _ => x_aload_n rfl lc261_1) ?_
                      refine Ew_of (pcₚ := 269) (fun _ => x_aload rfl lc261_4) ?_
                      refine v_g H (o := 5) (v := I (y44_1_1)) rfl rfl rfl rfl rfl (congrArg (fun z : Int => I z) ((((hS_c261 5 1 rfl).trans (hS_c226 5 1 rfl)).trans ((eF44 5 1).trans ey44_1_1)) : F_c261 5 1 = y44_1_1)) ?_
                      refine v_inv H (o := 1) rfl rfl rfl rfl rfl rfl (by rfl) (C159 (D := puc 1025 D44) (N := puc 1025 N44) (HW_subc H oz_F5cls_34 oz_F5cls_16) ((((hS_c261 1 0 rfl).trans (hS_c226 1 0 rfl))).trans (pf44_1_0)) (n2) ((congrArg (fun q : Nat => (q : Int)) (show N44 2 = N39 2 from (eN44 2))).trans ((congrArg (fun q : Nat => (q : Int)) (show N39 2 = N 2 from (eN39 2))).trans (en2))) (u1_1) ((((((((((hS_c261 1 1 rfl).trans (hS_c226 1 1 rfl)).trans ((show F44 1 1 = F39 1 1 from (eF44 1 1)))).trans ((show F39 1 1 = F_c152 1 1 from (eF39 1 1)))).trans (hS_c152 1 1 rfl)).trans (hS_43 1 1 rfl)).trans (hS_c30 1 1 rfl)).trans (hS_4 1 1 rfl)).trans (eu1_1))) (show inr (y44_1_1) from q_884 pz44_0) (show 0 ≤ (u1_1) ∧ (u1_1) ≤ (n2) ∧ (n2) ≤ 65536 from h0) (fun σ65 D65ₚ N65ₚ F65ₚ A65ₚ c65 s65 Hₚ Oₚ hD65 hN65 hS65 hA65 pm65_1 m65_1 em65_1 y65_0_1 ey65_0_1 pz65_0 pz65_1 pz65_2 => ⟨rfl, ?_⟩))
                      refine v_backMc (c := ((c + c39) + c44)) (s := ((s + s39) + s44)) H oz_F5cls_34 oz_F5cls_16 Hₚ Oₚ hD65 oz_F5cls_35 (fun D65 N65 F65 A65 H Oₚ eD65 eN65 eF65 eA65 => ?_)
                      have O := OUT_trans O Oₚ
                      -- Row.add
                      have cF65 : SF oz_F5clsl_9 F F65 := SF_trans (cF_c261) (SF_gluc (ι := oz_F5clsl_4) oz_F5cls_16 hS65 eF65 (by decide +kernel)) (any_sub (lₚ := [(1, 0), (1, 1), (1, 2)]) (by decide +kernel))
                      have mF65 := SFm_of cF65 oz_F5cls_46
                      have cA65 : SA oz_F5clsl_10 A A65 := SA_trans (cA_c261) (SA_gluc (ι := oz_F5clsl_4) oz_F5cls_16 hA65 eA65 (by decide +kernel)) (any_subA (lₚ := [2]) (by decide +kernel))
                      have mA65 := SAm_of cA65 oz_F5cls_47
                      have cD65 : SD oz_F5clsl_11 D D65 := SD_trans (cD44) (SD_gluc (ι := oz_F5clsl_4) oz_F5cls_16 hD65 eD65 (by decide +kernel)) (any_subA (lₚ := [2]) (by decide +kernel))
                      have mD65 := SDm_of cD65 oz_F5cls_48
                      have cN65 : SD oz_F5clsl_11 N N65 := SD_trans (cN44) (SD_gluc (ι := oz_F5clsl_4) oz_F5cls_16 hN65 eN65 (by decide +kernel)) (any_subA (lₚ := [2]) (by decide +kernel))
                      have mN65 := SDm_of cN65 oz_F5cls_48
                      have pf65_1_0 : F65 1 0 = (D65 2 : Int) := (eF65 1 0).trans (pm65_1.trans (congrArg (fun q : Nat => (q : Int)) (eD65 2).symm))
                      have pf65_3_0 : F65 3 0 = (D65 4 : Int) := ((show F65 3 0 = F_c261 3 0 from (eF65 3 0))).trans (((((hS_c261 3 0 rfl).trans (hS_c226 3 0 rfl))).trans (pf44_3_0)).trans (congrArg (fun q : Nat => (q : Int)) ((show D65 4 = D44 4 from (eD65 4))).symm))
                      have pf65_5_0 : F65 5 0 = (D65 6 : Int) := ((show F65 5 0 = F_c261 5 0 from (eF65 5 0))).trans (((((hS_c261 5 0 rfl).trans (hS_c226 5 0 rfl))).trans (pf44_5_0)).trans (congrArg (fun q : Nat => (q : Int)) ((show D65 6 = D44 6 from (eD65 6))).symm))
                      have r66 : (0 : Int) ≤ m65_1 ∧ m65_1 ≤ 1000000 := nleE (H.nle 2 (ltn len_V104_Row_oz_F5cls rfl)) (show (N65 2 : Int) = m65_1 from (congrArg (fun q : Nat => (q : Int)) (eN65 2)).trans em65_1)
                      have r67 : (-2147483648 : Int) ≤ y65_0_1 ∧ y65_0_1 ≤ 2147483647 := rngE (show (-2147483648 : Int) ≤ F65 1 1 ∧ F65 1 1 ≤ 2147483647 from H.krg 1 1 (ltn len_V104_Row_oz_F5cls rfl)) (show F65 1 1 = y65_0_1 from ((eF65 1 1).trans ey65_0_1))
                      refine Ew_of (pcₚ := 276) (fun _ => x_aload_n rfl lc261_1) ?_
                      refine Ew_of (pcₚ := 278) (fun _ => x_aload rfl lc261_4) ?_
                      refine Ew_stk (show ([.ref (D44 5), .ref (D44 1)] : List Value) = [.ref (D65 5), .ref (D65 1)] by rw [show D65 1 = D44 1 from ((show D65 1 = D44 1 from (eD65 1).trans (hD65 0 rfl))), show D65 5 = D44 5 from ((show D65 5 = D44 5 from (eD65 5)))]) ?_
                      refine v_g H (o := 5) (v := .ref (D65 6)) rfl rfl rfl rfl rfl (vrf (pf65_5_0)) ?_
                      refine Ew_of (pcₚ := 282) (fun _ => x_iconst rfl) ?_
                      refine Ew_of (pcₚ := 284) (fun _ => x_aload rfl lc261_4) ?_
                      refine Ew_stk (congrArg (fun qz : Nat => ([.ref qz, I (0), .ref (D65 6), .ref (D65 1)] : List Value)) (show D65 5 = D44 5 from ((show D65 5 = D44 5 from (eD65 5)))).symm) ?_
                      refine v_g H (o := 5) (v := I (y44_1_1)) rfl rfl rfl rfl rfl (congrArg (fun z : Int => I z) ((((((show F65 5 1 = F_c261 5 1 from (eF65 5 1))).trans (hS_c261 5 1 rfl)).trans (hS_c226 5 1 rfl)).trans ((eF44 5 1).trans ey44_1_1)) : F65 5 1 = y44_1_1)) ?_
                      refine v_inv H (o := 1) rfl rfl rfl rfl rfl rfl (by rfl) (C161_Br (D := puc 527361 D65) (N := puc 527361 N65) (HW_subc H oz_F5cls_44 oz_F5cls_53) (pf65_1_0) (m44_2) ((congrArg (fun q : Nat => (q : Int)) (show N65 6 = N44 6 from (eN65 6))).trans ((congrArg (fun q : Nat => (q : Int)) (eN44 6)).trans em44_2)) (m65_1) ((congrArg (fun q : Nat => (q : Int)) (eN65 2)).trans em65_1) (y65_0_1) (((eF65 1 1).trans ey65_0_1)) (A65 2) (rfl) (show inr (0) from q_20) (show inr (y44_1_1) from q_884 pz44_0) (show 0 ≤ (y65_0_1) ∧ (y65_0_1) ≤ (m65_1) ∧ (m65_1) ≤ 65536 from pz65_0) (show (y44_1_1) < 0 ∨ 0 ≤ (0) ∧ (0) + (y44_1_1) ≤ (m44_2) from q_2548 pz44_0) (fun σ68 D68ₚ N68ₚ F68ₚ A68ₚ c68 s68 Hₚ Oₚ hD68 hN68 hS68 hA68 pm68_2 m68_2 em68_2 y68_0_1 ey68_0_1 w68_2 ew68_2 pz68_0 pz68_1 pz68_2 => ⟨rfl, ?_⟩))
                      refine v_backMc (c := (((c + c39) + c44) + c65)) (s := (((s + s39) + s44) + s65)) H oz_F5cls_44 oz_F5cls_53 Hₚ Oₚ hD68 oz_F5cls_45 (fun D68 N68 F68 A68 H Oₚ eD68 eN68 eF68 eA68 => ?_)
                      have O := OUT_trans O Oₚ
                      -- Row.addPart
                      have cF68 : SF oz_F5clsl_9 F F68 := SF_trans (cF65) (SF_gluc (ι := oz_F5clsl_16) oz_F5cls_53 hS68 eF68 (by decide +kernel)) (any_sub (lₚ := [(1, 0), (1, 1), (1, 2)]) (by decide +kernel))
                      have mF68 := SFm_of cF68 oz_F5cls_46
                      have cA68 : SA oz_F5clsl_10 A A68 := SA_trans (cA65) (SA_gluc (ι := oz_F5clsl_16) oz_F5cls_53 hA68 eA68 (by decide +kernel)) (any_subA (lₚ := [2]) (by decide +kernel))
                      have mA68 := SAm_of cA68 oz_F5cls_47
                      have cD68 : SD oz_F5clsl_11 D D68 := SD_trans (cD65) (SD_gluc (ι := oz_F5clsl_16) oz_F5cls_53 hD68 eD68 (by decide +kernel)) (any_subA (lₚ := [2]) (by decide +kernel))
                      have mD68 := SDm_of cD68 oz_F5cls_48
                      have cN68 : SD oz_F5clsl_11 N N68 := SD_trans (cN65) (SD_gluc (ι := oz_F5clsl_16) oz_F5cls_53 hN68 eN68 (by decide +kernel)) (any_subA (lₚ := [2]) (by decide +kernel))
                      have mN68 := SDm_of cN68 oz_F5cls_48
                      have pf68_1_0 : F68 1 0 = (D68 2 : Int) := (eF68 1 0).trans (pm68_2.trans (congrArg (fun q : Nat => (q : Int)) (eD68 2).symm))
                      have pf68_3_0 : F68 3 0 = (D68 4 : Int) := ((show F68 3 0 = F65 3 0 from (eF68 3 0))).trans ((pf65_3_0).trans (congrArg (fun q : Nat => (q : Int)) ((show D68 4 = D65 4 from (eD68 4))).symm))
                      have pf68_5_0 : F68 5 0 = (D68 6 : Int) := ((show F68 5 0 = F65 5 0 from (eF68 5 0))).trans ((pf65_5_0).trans (congrArg (fun q : Nat => (q : Int)) ((show D68 6 = D65 6 from (eD68 6).trans (hD68 1 rfl))).symm))
                      have r69 : (0 : Int) ≤ m68_2 ∧ m68_2 ≤ 1000000 := nleE (H.nle 2 (ltn len_V104_Row_oz_F5cls rfl)) (show (N68 2 : Int) = m68_2 from (congrArg (fun q : Nat => (q : Int)) (eN68 2)).trans em68_2)
                      have r70 : (-2147483648 : Int) ≤ y68_0_1 ∧ y68_0_1 ≤ 2147483647 := rngE (show (-2147483648 : Int) ≤ F68 1 1 ∧ F68 1 1 ≤ 2147483647 from H.krg 1 1 (ltn len_V104_Row_oz_F5cls rfl)) (show F68 1 1 = y68_0_1 from ((eF68 1 1).trans ey68_0_1))
                      refine Ew_of (pcₚ := 292) (fun _ => x_iload rfl lc261_5) ?_
                      exact w_ireturn rfl (k (tc226_0) _ _ _ _ _ _ _ H O (cD68) (cN68) (cF68) (cA68) (pf68_1_0) (pf68_3_0) (pf68_5_0) (m68_2) ((congrArg (fun q : Nat => (q : Int)) (eN68 2)).trans em68_2) (m39_2) ((congrArg (fun q : Nat => (q : Int)) (show N68 4 = N65 4 from (eN68 4))).trans ((congrArg (fun q : Nat => (q : Int)) (show N65 4 = N44 4 from (eN65 4))).trans ((congrArg (fun q : Nat => (q : Int)) (show N44 4 = N39 4 from (eN44 4))).trans ((congrArg (fun q : Nat => (q : Int)) (eN39 4)).trans em39_2)))) (m44_2) ((congrArg (fun q : Nat => (q : Int)) (show N68 6 = N65 6 from (eN68 6).trans (hN68 1 rfl))).trans ((congrArg (fun q : Nat => (q : Int)) (show N65 6 = N44 6 from (eN65 6))).trans ((congrArg (fun q : Nat => (q : Int)) (eN44 6)).trans em44_2))) (y68_0_1) (((eF68 1 1).trans ey68_0_1)) (u1_4) (((((((((((((show F68 1 4 = F65 1 4 from (eF68 1 4).trans (hS68 0 4 rfl))).trans ((show F65 1 4 = F_c261 1 4 from (eF65 1 4).trans (hS65 0 4 rfl)))).trans (hS_c261 1 4 rfl)).trans (hS_c226 1 4 rfl)).trans ((show F44 1 4 = F39 1 4 from (eF44 1 4)))).trans ((show F39 1 4 = F_c152 1 4 from (eF39 1 4)))).trans (hS_c152 1 4 rfl)).trans (hS_43 1 4 rfl)).trans (hS_c30 1 4 rfl)).trans (hS_4 1 4 rfl)).trans (eu1_4))) (y39_1_1) ((((((((show F68 3 1 = F65 3 1 from (eF68 3 1))).trans ((show F65 3 1 = F_c261 3 1 from (eF65 3 1)))).trans (hS_c261 3 1 rfl)).trans (hS_c226 3 1 rfl)).trans ((show F44 3 1 = F39 3 1 from (eF44 3 1)))).trans ((eF39 3 1).trans ey39_1_1))) (y44_1_1) (((((((show F68 5 1 = F65 5 1 from (eF68 5 1))).trans ((show F65 5 1 = F_c261 5 1 from (eF65 5 1)))).trans (hS_c261 5 1 rfl)).trans (hS_c226 5 1 rfl)).trans ((eF44 5 1).trans ey44_1_1))) (show (tc226_0) = 0 ∨ (tc226_0) = 1 by omega) (show 0 ≤ (y68_0_1) ∧ (y68_0_1) ≤ (m68_2) ∧ (m68_2) ≤ 65536 from pz68_0) (show 0 ≤ (u1_4) ∧ (u1_4) ≤ 7 from h1) (show 0 ≤ (y39_1_1) ∧ (y39_1_1) ≤ (m39_2) ∧ (m39_2) ≤ 65536 from pz39_0) (show 0 ≤ (y44_1_1) ∧ (y44_1_1) ≤ (m44_2) ∧ (m44_2) ≤ 65536 from pz44_0) (show (u1_1) ≤ (y68_0_1) by omega))
                  refine Ew_of (pcₚ := 229) (fun _ => x_iload_n rfl (rk_o (lc226_2) rfl rfl)) ?_
                  refine Ew_of (pcₚ := 232) (fun _ => x_sipush (z := 128) rfl (by decide)) ?_
                  refine w_icmpgt (t := 261) rfl rfl (show inr (x4_2) from j4_0) (show inr (128) from q_53) (fun b71 => ?_) (fun b71 => ?_)
                  · exact hc261  _ _ _ _  (rk_o (lc226_1) rfl rfl) (rk_o (lc226_4) rfl rfl) (rk_s) H O (SF_refl) (SA_refl)
                  · refine Ew_of (pcₚ := 237) (fun _ => x_iload rfl rk_s) ?_
                    have hc253 : ∀ (ls : rO) (σ : rS) (F_c253 : hF) (A_c253 : hA) , rlook ls 0 = some (.ref (D44 0)) → rlook ls 1 = some (.ref (D44 1)) → rlook ls 2 = some (I (x4_2)) → HW V104_Row σ D44 N44 F_c253 A_c253 → OUT (V104_Row).length D N σE c s D44 N44 σ ((c + c39) + c44) ((s + s39) + s44) → SF [] F_c226 F_c253 → SA [] A_c226 A_c253 → (((tc226_0) = (0)) ∨ ((tc226_0) ≠ (0) ∧ (((x4_2 + 1) / 2)) ≤ (y44_1_1))) → Ew 104 (d + 3) 253 ls [] σ ((c + c39) + c44) ((s + s39) + s44) Q := by
                     as_aux_lemma =>
                      intro  ls σ F_c253 A_c253  lc253_0 lc253_1 lc253_2 H O hS_c253 hA_c253     jc253_0
                      have cF_c253 : SF oz_F5clsl_9 F F_c253 := SF_trans (cF_c226) hS_c253 (any_sub (by decide +kernel))
                      have mF_c253 := SFm_of cF_c253 oz_F5cls_46
                      have cA_c253 : SA oz_F5clsl_10 A A_c253 := SA_trans (cA_c226) hA_c253 (any_subA (by decide +kernel))
                      have mA_c253 := SAm_of cA_c253 oz_F5cls_47
                      refine Ew_of (pcₚ := 254) (fun _ => x_aload_n rfl lc253_0) ?_
                      refine Ew_of (pcₚ := 255) (fun _ => x_aload_n rfl lc253_1) ?_
                      refine Ew_of (pcₚ := 256) (fun _ => x_iload_n rfl lc253_2) ?_
                      refine v_inv H (o := 0) rfl rfl rfl rfl rfl rfl (by rfl) (C105_Row (D := puc 2148008448 D44) (N := puc 2148008448 N44) (HW_subc H oz_F5cls_38 oz_F5cls_50) ((((hS_c253 1 0 rfl).trans (hS_c226 1 0 rfl))).trans (pf44_1_0)) ((mF_c253 0 4 rfl).trans ((pf16).trans (congrArg (fun q : Nat => (q : Int)) (mD44 16 rfl).symm))) (n2) ((congrArg (fun q : Nat => (q : Int)) (show N44 2 = N39 2 from (eN44 2))).trans ((congrArg (fun q : Nat => (q : Int)) (show N39 2 = N 2 from (eN39 2))).trans (en2))) (n16) ((congrArg (fun q : Nat => (q : Int)) (mN44 16 rfl)).trans (en16)) (u1_1) ((((((((((hS_c253 1 1 rfl).trans (hS_c226 1 1 rfl)).trans ((show F44 1 1 = F39 1 1 from (eF44 1 1)))).trans ((show F39 1 1 = F_c152 1 1 from (eF39 1 1)))).trans (hS_c152 1 1 rfl)).trans (hS_43 1 1 rfl)).trans (hS_c30 1 1 rfl)).trans (hS_4 1 1 rfl)).trans (eu1_1))) (u1_4) ((((((((((hS_c253 1 4 rfl).trans (hS_c226 1 4 rfl)).trans ((show F44 1 4 = F39 1 4 from (eF44 1 4)))).trans ((show F39 1 4 = F_c152 1 4 from (eF39 1 4)))).trans (hS_c152 1 4 rfl)).trans (hS_43 1 4 rfl)).trans (hS_c30 1 4 rfl)).trans (hS_4 1 4 rfl)).trans (eu1_4))) (show inr (x4_2) from j4_0) (show 0 ≤ (u1_1) ∧ (u1_1) ≤ (n2) ∧ (n2) ≤ 65536 from h0) (show 0 ≤ (u1_4) ∧ (u1_4) ≤ 7 from h1) (show 0 ≤ (x4_2) ∧ (x4_2) ≤ 255 from q_3449 j4_1 j4_3) (show (n16) = 256 from q_3448 h5) (fun σ72 D72ₚ N72ₚ F72ₚ A72ₚ c72 s72 Hₚ Oₚ hD72 hN72 hS72 hA72 pm72_2 m72_2 em72_2 y72_1_1 ey72_1_1 y72_1_4 ey72_1_4 pz72_0 pz72_1 pz72_2 => ⟨rfl, ?_⟩))
                      refine v_backMc (c := ((c + c39) + c44)) (s := ((s + s39) + s44)) H oz_F5cls_38 oz_F5cls_50 Hₚ Oₚ hD72 oz_F5cls_39 (fun D72 N72 F72 A72 H Oₚ eD72 eN72 eF72 eA72 => ?_)
                      have O := OUT_trans O Oₚ
                      -- Codes.describeDirectly
                      have cF72 : SF oz_F5clsl_9 F F72 := SF_trans (cF_c253) (SF_gluc (ι := oz_F5clsl_13) oz_F5cls_50 hS72 eF72 (by decide +kernel)) (any_sub (lₚ := [(1, 0), (1, 1), (1, 2), (1, 3), (1, 4)]) (by decide +kernel))
                      have mF72 := SFm_of cF72 oz_F5cls_46
                      have cA72 : SA oz_F5clsl_10 A A72 := SA_trans (cA_c253) (SA_gluc (ι := oz_F5clsl_13) oz_F5cls_50 hA72 eA72 (by decide +kernel)) (any_subA (lₚ := [2]) (by decide +kernel))
                      have mA72 := SAm_of cA72 oz_F5cls_47
                      have cD72 : SD oz_F5clsl_11 D D72 := SD_trans (cD44) (SD_gluc (ι := oz_F5clsl_13) oz_F5cls_50 hD72 eD72 (by decide +kernel)) (any_subA (lₚ := [2]) (by decide +kernel))
                      have mD72 := SDm_of cD72 oz_F5cls_48
                      have cN72 : SD oz_F5clsl_11 N N72 := SD_trans (cN44) (SD_gluc (ι := oz_F5clsl_13) oz_F5cls_50 hN72 eN72 (by decide +kernel)) (any_subA (lₚ := [2]) (by decide +kernel))
                      have mN72 := SDm_of cN72 oz_F5cls_48
                      have pf72_1_0 : F72 1 0 = (D72 2 : Int) := (eF72 1 0).trans (pm72_2.trans (congrArg (fun q : Nat => (q : Int)) (eD72 2).symm))
                      have pf72_3_0 : F72 3 0 = (D72 4 : Int) := ((show F72 3 0 = F_c253 3 0 from (eF72 3 0))).trans (((((hS_c253 3 0 rfl).trans (hS_c226 3 0 rfl))).trans (pf44_3_0)).trans (congrArg (fun q : Nat => (q : Int)) ((show D72 4 = D44 4 from (eD72 4))).symm))
                      have pf72_5_0 : F72 5 0 = (D72 6 : Int) := ((show F72 5 0 = F_c253 5 0 from (eF72 5 0))).trans (((((hS_c253 5 0 rfl).trans (hS_c226 5 0 rfl))).trans (pf44_5_0)).trans (congrArg (fun q : Nat => (q : Int)) ((show D72 6 = D44 6 from (eD72 6))).symm))
                      have r73 : (0 : Int) ≤ m72_2 ∧ m72_2 ≤ 1000000 := nleE (H.nle 2 (ltn len_V104_Row_oz_F5cls rfl)) (show (N72 2 : Int) = m72_2 from (congrArg (fun q : Nat => (q : Int)) (eN72 2)).trans em72_2)
                      have r74 : (-2147483648 : Int) ≤ y72_1_1 ∧ y72_1_1 ≤ 2147483647 := rngE (show (-2147483648 : Int) ≤ F72 1 1 ∧ F72 1 1 ≤ 2147483647 from H.krg 1 1 (ltn len_V104_Row_oz_F5cls rfl)) (show F72 1 1 = y72_1_1 from ((eF72 1 1).trans ey72_1_1))
                      have r75 : (-2147483648 : Int) ≤ y72_1_4 ∧ y72_1_4 ≤ 2147483647 := rngE (show (-2147483648 : Int) ≤ F72 1 4 ∧ F72 1 4 ≤ 2147483647 from H.krg 1 4 (ltn len_V104_Row_oz_F5cls rfl)) (show F72 1 4 = y72_1_4 from ((eF72 1 4).trans ey72_1_4))
                      refine Ew_of (pcₚ := 260) (fun _ => x_iconst rfl) ?_
                      exact w_ireturn rfl (k (1) _ _ _ _ _ _ _ H O (cD72) (cN72) (cF72) (cA72) (pf72_1_0) (pf72_3_0) (pf72_5_0) (m72_2) ((congrArg (fun q : Nat => (q : Int)) (eN72 2)).trans em72_2) (m39_2) ((congrArg (fun q : Nat => (q : Int)) (show N72 4 = N44 4 from (eN72 4))).trans ((congrArg (fun q : Nat => (q : Int)) (show N44 4 = N39 4 from (eN44 4))).trans ((congrArg (fun q : Nat => (q : Int)) (eN39 4)).trans em39_2))) (m44_2) ((congrArg (fun q : Nat => (q : Int)) (show N72 6 = N44 6 from (eN72 6))).trans ((congrArg (fun q : Nat => (q : Int)) (eN44 6)).trans em44_2)) (y72_1_1) (((eF72 1 1).trans ey72_1_1)) (y72_1_4) (((eF72 1 4).trans ey72_1_4)) (y39_1_1) (((((((show F72 3 1 = F_c253 3 1 from (eF72 3 1))).trans (hS_c253 3 1 rfl)).trans (hS_c226 3 1 rfl)).trans ((show F44 3 1 = F39 3 1 from (eF44 3 1)))).trans ((eF39 3 1).trans ey39_1_1))) (y44_1_1) ((((((show F72 5 1 = F_c253 5 1 from (eF72 5 1))).trans (hS_c253 5 1 rfl)).trans (hS_c226 5 1 rfl)).trans ((eF44 5 1).trans ey44_1_1))) (show (1) = 0 ∨ (1) = 1 by first | exact q_5 | omega) (show 0 ≤ (y72_1_1) ∧ (y72_1_1) ≤ (m72_2) ∧ (m72_2) ≤ 65536 from pz72_0) (show 0 ≤ (y72_1_4) ∧ (y72_1_4) ≤ 7 from pz72_1) (show 0 ≤ (y39_1_1) ∧ (y39_1_1) ≤ (m39_2) ∧ (m39_2) ≤ 65536 from pz39_0) (show 0 ≤ (y44_1_1) ∧ (y44_1_1) ≤ (m44_2) ∧ (m44_2) ≤ 65536 from pz44_0) (show (u1_1) ≤ (y72_1_1) from pz72_2))
                    refine w_ifeq (t := 253) rfl rfl (show inr (tc226_0) from jc226_0) (fun b76 => ?_) (fun b76 => ?_)
                    · exact hc253  _ _ _ _  (rk_o (lc226_0) rfl rfl) (rk_o (lc226_1) rfl rfl) (rk_o (lc226_2) rfl rfl) H O (SF_refl) (SA_refl)     (show ((tc226_0) = (0)) ∨ ((tc226_0) ≠ (0) ∧ (((x4_2 + 1) / 2)) ≤ (y44_1_1)) from q_3450 b76)
                    · refine Ew_of (pcₚ := 241) (fun _ => x_iload_n rfl (rk_o (lc226_2) rfl rfl)) ?_
                      refine Ew_of (pcₚ := 242) (fun _ => x_iconst rfl) ?_
                      refine w_iadd rfl ?_
                      refine Ew_of (pcₚ := 244) (fun _ => x_iconst rfl) ?_
                      refine w_idiv rfl (show inr ((x4_2 + 1)) ∧ 0 ≤ (x4_2 + 1) from q_3451 b71 j4_3) (show inr (2) ∧ 0 < 2 from q_967) ?_
                      refine Ew_of (pcₚ := 247) (fun _ => x_aload rfl (rk_o (lc226_4) rfl rfl)) ?_
                      refine v_g H (o := 5) (v := I (y44_1_1)) rfl rfl rfl rfl rfl (congrArg (fun z : Int => I z) (((hS_c226 5 1 rfl).trans ((eF44 5 1).trans ey44_1_1)) : F_c226 5 1 = y44_1_1)) ?_
                      refine w_icmpgt (t := 261) rfl rfl (show inr (((x4_2 + 1) / 2)) from q_3452 b71 j4_3) (show inr (y44_1_1) from q_884 pz44_0) (fun b77 => ?_) (fun b77 => ?_)
                      · exact hc261  _ _ _ _  (rk_o (lc226_1) rfl rfl) (rk_o (lc226_4) rfl rfl) (rk_s) H O (SF_refl) (SA_refl)
                      · exact hc253  _ _ _ _  (rk_o (lc226_0) rfl rfl) (rk_o (lc226_1) rfl rfl) (rk_o (lc226_2) rfl rfl) H O (SF_refl) (SA_refl)     (show ((tc226_0) = (0)) ∨ ((tc226_0) ≠ (0) ∧ (((x4_2 + 1) / 2)) ≤ (y44_1_1)) from q_3454 b76 b77)
                refine w_icmpge (t := 225) rfl rfl (show inr (y44_1_1) from q_884 pz44_0) (show inr (128) from q_53) (fun b78 => ?_) (fun b78 => ?_)
                · refine Ew_of (pcₚ := 226) (fun _ => x_iconst rfl) ?_
                  exact hc226 (0) _ _ _ _  ((rk_o (rk_o (lc152_0) rfl rfl) rfl rfl).trans (congrArg (fun q : Nat => some (Value.ref q)) (mD44 0 rfl).symm)) ((rk_o (rk_o (lc152_1) rfl rfl) rfl rfl).trans (congrArg (fun q : Nat => some (Value.ref q)) (mD44 1 rfl).symm)) (rk_o (rk_o (lc152_2) rfl rfl) rfl rfl) (rk_s) H O (SF_refl) (SA_refl)     (show inr (0) from q_20) (show ((y44_1_1) ≥ (128) ∧ (0) = (0)) ∨ ((y44_1_1) < (128) ∧ (0) = (1)) from q_3455 b78)
                · refine Ew_of (pcₚ := 222) (fun _ => x_iconst rfl) ?_
                  refine Ew_of (pcₚ := 226) (fun _ => x_goto rfl rfl) ?_
                  exact hc226 (1) _ _ _ _  ((rk_o (rk_o (lc152_0) rfl rfl) rfl rfl).trans (congrArg (fun q : Nat => some (Value.ref q)) (mD44 0 rfl).symm)) ((rk_o (rk_o (lc152_1) rfl rfl) rfl rfl).trans (congrArg (fun q : Nat => some (Value.ref q)) (mD44 1 rfl).symm)) (rk_o (rk_o (lc152_2) rfl rfl) rfl rfl) (rk_s) H O (SF_refl) (SA_refl)     (show inr (1) from q_23) (show ((y44_1_1) ≥ (128) ∧ (1) = (0)) ∨ ((y44_1_1) < (128) ∧ (1) = (1)) from q_3456 b78)
          refine w_icmplt (t := 151) rfl rfl (show inr (x4_2) from j4_0) (show inr (2) from q_55) (fun b79 => ?_) (fun b79 => ?_)
          · refine Ew_of (pcₚ := 152) (fun _ => x_iconst rfl) ?_
            exact hc152 (0) _ _ _ _  (rk_o (l43_0) rfl rfl) (rk_o (l43_1) rfl rfl) (rk_o (l43_2) rfl rfl) (rk_s) H O (SF_refl) (SA_refl)     (show inr (0) from q_20) (show ((x4_2) < (2) ∧ (0) = (0)) ∨ ((x4_2) ≥ (2) ∧ (x43_3) ≠ (0) ∧ (0) = (0)) ∨ ((x4_2) ≥ (2) ∧ (x43_3) = (0) ∧ (0) = (1)) from q_3457 b79)
          · refine Ew_of (pcₚ := 144) (fun _ => x_iload_n rfl (rk_o (l43_3) rfl rfl)) ?_
            refine w_ifne (t := 151) rfl rfl (show inr (x43_3) from j43_0) (fun b80 => ?_) (fun b80 => ?_)
            · refine Ew_of (pcₚ := 152) (fun _ => x_iconst rfl) ?_
              exact hc152 (0) _ _ _ _  (rk_o (l43_0) rfl rfl) (rk_o (l43_1) rfl rfl) (rk_o (l43_2) rfl rfl) (rk_s) H O (SF_refl) (SA_refl)     (show inr (0) from q_20) (show ((x4_2) < (2) ∧ (0) = (0)) ∨ ((x4_2) ≥ (2) ∧ (x43_3) ≠ (0) ∧ (0) = (0)) ∨ ((x4_2) ≥ (2) ∧ (x43_3) = (0) ∧ (0) = (1)) from q_3458 b79 b80)
            · refine Ew_of (pcₚ := 148) (fun _ => x_iconst rfl) ?_
              refine Ew_of (pcₚ := 152) (fun _ => x_goto rfl rfl) ?_
              exact hc152 (1) _ _ _ _  (rk_o (l43_0) rfl rfl) (rk_o (l43_1) rfl rfl) (rk_o (l43_2) rfl rfl) (rk_s) H O (SF_refl) (SA_refl)     (show inr (1) from q_23) (show ((x4_2) < (2) ∧ (1) = (0)) ∨ ((x4_2) ≥ (2) ∧ (x43_3) ≠ (0) ∧ (1) = (0)) ∨ ((x4_2) ≥ (2) ∧ (x43_3) = (0) ∧ (1) = (1)) from q_3459 b79 b80)
        · have hlb := hln ((x43_4)) (by omega) (by omega)
          refine Ew_of (pcₚ := 50) (fun _ => x_aload_n rfl l43_0) ?_
          refine v_g H (o := 0) (v := .ref (D 16)) rfl rfl rfl rfl rfl (vrf ((mF_43 0 4 rfl).trans (pf16))) ?_
          refine Ew_of (pcₚ := 55) (fun _ => x_iload rfl l43_4) ?_
          refine Ew_of (pcₚ := 56) (fun _ => x_aload_n rfl l43_0) ?_
          refine v_g H (o := 0) (v := .ref (D 18)) rfl rfl rfl rfl rfl (vrf ((mF_43 0 0 rfl).trans (pf18))) ?_
          refine Ew_of (pcₚ := 61) (fun _ => x_iload rfl l43_4) ?_
          refine v_lI H (o := 18) rfl rfl rfl rfl (n := n18) (en18) (show 0 ≤ x43_4 ∧ x43_4 < n18 from q_3460 b22 h5 j43_2 j4_1 r20) (fun v81 ev81 qv81 => ?_)
          have ev81 : (w18) (x43_4) = v81 := (congrFun ((funext (mA_43 18 rfl)).trans (ew18)) (x43_4)).symm.trans ev81
          have hc83 : ∀ (tc83_0 : Int), ∀ (ls : rO) (σ : rS) (F_c83 : hF) (A_c83 : hA) , rlook ls 0 = some (.ref (D 0)) → rlook ls 1 = some (.ref (D 1)) → rlook ls 2 = some (I (x4_2)) → rlook ls 3 = some (I (x43_3)) → rlook ls 4 = some (I (x43_4)) → HW V104_Row σ D N F_c83 A_c83 → OUT (V104_Row).length D N σE c s D N σ c s → SF [] F_43 F_c83 → SA [] A_43 A_c83 → (inr (tc83_0)) → (((v81) ≠ (0) ∧ -2147483648 ≤ ((w18) (x43_4)) ∧ ((w18) (x43_4)) ≤ 2147483647 ∧ (tc83_0) = (((u0_3 + 1) - (w18) (x43_4)))) ∨ ((v81) = (0) ∧ (tc83_0) = (0))) → Ew 104 (d + 3) 83 ls [I (tc83_0), I (x43_4), .ref (D 16)] σ c s Q := by
           as_aux_lemma =>
            intro tc83_0 ls σ F_c83 A_c83  lc83_0 lc83_1 lc83_2 lc83_3 lc83_4 H O hS_c83 hA_c83     jc83_0 jc83_1
            have cF_c83 : SF oz_F5clsl_9 F F_c83 := SF_trans (cF_43) hS_c83 (any_sub (by decide +kernel))
            have mF_c83 := SFm_of cF_c83 oz_F5cls_46
            have cA_c83 : SA oz_F5clsl_10 A A_c83 := SA_trans (cA_43) hA_c83 (any_subA (by decide +kernel))
            have mA_c83 := SAm_of cA_c83 oz_F5cls_47
            have hsb : 0 ≤ ((tc83_0) : Int) ∧ ((tc83_0) : Int) ≤ ((u0_3)) := by omega
            have hsc : 0 ≤ ((tc83_0) : Int) ∧ ((tc83_0) : Int) < 12 := q_3461 h6 hsb
            obtain ⟨wv, hwv⟩ : ∃ wv, wv = ((tc83_0) : Int) := ⟨_, rfl⟩
            have hwl := WCN_le (show WCN ((w43_16)) ((w43_17)) (x43_4) from j43_6) (by omega) hsc.1 hsc.2
            refine v_sI H (o := 16) (z := tc83_0) rfl rfl rfl rfl (n := n16) (en16) (show 0 ≤ x43_4 ∧ x43_4 < n16 from q_3462 b22 h5 j43_2 j4_1 r18) (show inr (tc83_0) from jc83_0) (fun σ H Oₚ => ?_)
            have O := OUT_trans O Oₚ
            have cAu82 : SA oz_F5clsl_10 A (updA A_c83 16 (x43_4) (tc83_0)) := SA_upd (cA_c83) rfl
            have mAu82 := SAm_of cAu82 oz_F5cls_47
            refine Ew_of (pcₚ := 85) (fun _ => x_aload_n rfl lc83_0) ?_
            refine v_g H (o := 0) (v := .ref (D 17)) rfl rfl rfl rfl rfl (vrf ((mF_c83 0 5 rfl).trans (pf17))) ?_
            refine Ew_of (pcₚ := 89) (fun _ => x_aload_n rfl lc83_0) ?_
            refine v_g H (o := 0) (v := .ref (D 16)) rfl rfl rfl rfl rfl (vrf ((mF_c83 0 4 rfl).trans (pf16))) ?_
            refine Ew_of (pcₚ := 94) (fun _ => x_iload rfl lc83_4) ?_
            refine v_lI H (o := 16) rfl rfl rfl rfl (n := n16) (en16) (show 0 ≤ x43_4 ∧ x43_4 < n16 from q_3462 b22 h5 j43_2 j4_1 r18) (fun v83 ev83 qv83 => ?_)
            have ev83 : (upd1 (w43_16) (x43_4) (tc83_0)) (x43_4) = v83 := (congrFun (congrArg (fun q => upd1 q (x43_4) (tc83_0)) ((funext (hA_c83 16 rfl)).trans (ew43_16))) (x43_4)).symm.trans ev83
            have hix := ev83
            rw [upd1_s] at hix
            refine Ew_of (pcₚ := 96) (fun _ => x_dup2 rfl rfl rfl) ?_
            refine v_lI H (o := 17) rfl rfl rfl rfl (n := n17) (en17) (show 0 ≤ v83 ∧ v83 < n17 by omega) (fun v84 ev84 qv84 => ?_)
            have ev84 : (w43_17) (v83) = v84 := (congrFun ((funext (hA_c83 17 rfl)).trans (ew43_17)) (v83)).symm.trans ev84
            have hcv := ev84
            rw [← hix] at hcv
            refine Ew_of (pcₚ := 98) (fun _ => x_iconst rfl) ?_
            refine w_iadd rfl ?_
            refine v_sI H (o := 17) (z := (v84 + 1)) rfl rfl rfl rfl (n := n17) (en17) (show 0 ≤ v83 ∧ v83 < n17 by omega) (show inr ((v84 + 1)) by omega) (fun σ H Oₚ => ?_)
            have O := OUT_trans O Oₚ
            have cAu85 : SA oz_F5clsl_10 A (updA (updA A_c83 16 (x43_4) (tc83_0)) 17 (v83) ((v84 + 1))) := SA_upd (cAu82) rfl
            have mAu85 := SAm_of cAu85 oz_F5cls_47
            have hc125 : ∀ (tc125_0 : Int), ∀ (ls : rO) (σ : rS) (F_c125 : hF) (A_c125 : hA) , rlook ls 0 = some (.ref (D 0)) → rlook ls 1 = some (.ref (D 1)) → rlook ls 2 = some (I (x4_2)) → rlook ls 4 = some (I (x43_4)) → HW V104_Row σ D N F_c125 A_c125 → OUT (V104_Row).length D N σE c s D N σ c s → SF [] F_c83 F_c125 → SA [] (updA (updA A_c83 16 (x43_4) (tc83_0)) 17 (v83) ((v84 + 1))) A_c125 → (inr (tc125_0)) → ((tc125_0) = 0 ∨ (tc125_0) = 1) → Ew 104 (d + 3) 125 ls [I (tc125_0)] σ c s Q := by
             as_aux_lemma =>
              intro tc125_0 ls σ F_c125 A_c125  lc125_0 lc125_1 lc125_2 lc125_4 H O hS_c125 hA_c125     jc125_0 jc125_1
              have cF_c125 : SF oz_F5clsl_9 F F_c125 := SF_trans (cF_c83) hS_c125 (any_sub (by decide +kernel))
              have mF_c125 := SFm_of cF_c125 oz_F5cls_46
              have cA_c125 : SA oz_F5clsl_10 A A_c125 := SA_trans (cAu85) hA_c125 (any_subA (by decide +kernel))
              have mA_c125 := SAm_of cA_c125 oz_F5cls_47
              refine Ew_of (pcₚ := 126) (fun _ => x_istore_n rfl) ?_
              refine Ew_of (pcₚ := 129) (fun _ => x_iinc (len := 3) rfl (rk_o (lc125_4) rfl rfl)) ?_
              refine Ew_of (pcₚ := 43) (fun _ => x_goto rfl rfl) ?_
              have hg1 : WGB ((upd1 (w43_16) (x43_4) (tc83_0))) ((u0_3)) ((x43_4 + 1)) := WGB_s (by assumption) rfl hsb
              have hc1 : WCN ((upd1 (w43_16) (x43_4) (tc83_0))) ((upd1 (w43_17) (v83) ((v84 + 1)))) ((x43_4 + 1)) := by rw [← hix]; exact WCN_s (by assumption) (by omega) rfl hsc.1 hsc.2 (by omega)
              exact ih43 _ (msE hm43 q_31 (q_34 b22)) _ _ _ _ (tc125_0) ((x43_4 + 1)) (rk_o (rk_o (lc125_0) rfl rfl) rfl rfl) (rk_o (rk_o (lc125_1) rfl rfl) rfl rfl) (rk_o (rk_o (lc125_2) rfl rfl) rfl rfl) (rk_o (rk_s) rfl rfl) (rk_s) H O (SF_trans (SF_trans (hS_43) hS_c83 (any_sub (by decide +kernel))) hS_c125 (any_sub (by decide +kernel))) (SA_trans (SA_upd (SA_upd (SA_trans (hA_43) hA_c83 (any_subA (by decide +kernel))) rfl) rfl) hA_c125 (any_subA (by decide +kernel)))    (upd1 (w43_16) (x43_4) (tc83_0)) ((funext (hA_c125 16 rfl)).trans (congrArg (fun q => upd1 q (x43_4) (tc83_0)) ((funext (hA_c83 16 rfl)).trans (ew43_16)))) (upd1 (w43_17) (v83) ((v84 + 1))) ((funext (hA_c125 17 rfl)).trans (congrArg (fun q => upd1 q (v83) ((v84 + 1))) ((funext (hA_c83 17 rfl)).trans (ew43_17)))) (show inr (tc125_0) from jc125_0) (show inr ((x43_4 + 1)) from q_3463 b22 j43_2 j4_1) (show (0) ≤ ((x43_4 + 1)) from q_29 j43_2) (show ((x43_4 + 1)) ≤ (0) ∨ ((x43_4 + 1)) ≤ ((x4_2)) from q_33 b22) (show (tc125_0) = 0 ∨ (tc125_0) = 1 from jc125_1) (show WGB ((upd1 (w43_16) (x43_4) (tc83_0))) ((u0_3)) ((x43_4 + 1)) from hg1) (show WCN ((upd1 (w43_16) (x43_4) (tc83_0))) ((upd1 (w43_17) (v83) ((v84 + 1)))) ((x43_4 + 1)) from hc1) rfl
            refine Ew_of (pcₚ := 101) (fun _ => x_iload_n rfl lc83_3) ?_
            refine w_ifeq (t := 124) rfl rfl (show inr (x43_3) from j43_0) (fun b86 => ?_) (fun b86 => ?_)
            · refine Ew_of (pcₚ := 125) (fun _ => x_iconst rfl) ?_
              exact hc125 (0) _ _ _ _  (lc83_0) (lc83_1) (lc83_2) (lc83_4) H O (SF_refl) (SA_refl)     (show inr (0) from q_20) (show (0) = 0 ∨ (0) = 1 from q_1)
            · refine Ew_of (pcₚ := 105) (fun _ => x_aload_n rfl lc83_0) ?_
              refine v_g H (o := 0) (v := .ref (D 16)) rfl rfl rfl rfl rfl (vrf ((mF_c83 0 4 rfl).trans (pf16))) ?_
              refine Ew_of (pcₚ := 110) (fun _ => x_iload rfl lc83_4) ?_
              refine v_lI H (o := 16) rfl rfl rfl rfl (n := n16) (en16) (show 0 ≤ x43_4 ∧ x43_4 < n16 from q_3462 b22 h5 j43_2 j4_1 r18) (fun v87 ev87 qv87 => ?_)
              have ev87 : (upd1 (w43_16) (x43_4) (tc83_0)) (x43_4) = v87 := (congrFun (congrArg (fun q => upd1 q (x43_4) (tc83_0)) ((funext (hA_c83 16 rfl)).trans (ew43_16))) (x43_4)).symm.trans ev87
              refine Ew_of (pcₚ := 112) (fun _ => x_aload_n rfl lc83_0) ?_
              refine v_g H (o := 0) (v := .ref (D 16)) rfl rfl rfl rfl rfl (vrf ((mF_c83 0 4 rfl).trans (pf16))) ?_
              refine Ew_of (pcₚ := 116) (fun _ => x_iconst rfl) ?_
              refine v_lI H (o := 16) rfl rfl rfl rfl (n := n16) (en16) (show 0 ≤ 0 ∧ 0 < n16 from q_3464 h5 r18) (fun v88 ev88 qv88 => ?_)
              have ev88 : (upd1 (w43_16) (x43_4) (tc83_0)) (0) = v88 := (congrFun (congrArg (fun q => upd1 q (x43_4) (tc83_0)) ((funext (hA_c83 16 rfl)).trans (ew43_16))) (0)).symm.trans ev88
              refine w_icmpne (t := 124) rfl rfl (show inr (v87) from qv87) (show inr (v88) from qv88) (fun b89 => ?_) (fun b89 => ?_)
              · refine Ew_of (pcₚ := 125) (fun _ => x_iconst rfl) ?_
                exact hc125 (0) _ _ _ _  (lc83_0) (lc83_1) (lc83_2) (lc83_4) H O (SF_refl) (SA_refl)     (show inr (0) from q_20) (show (0) = 0 ∨ (0) = 1 from q_1)
              · refine Ew_of (pcₚ := 121) (fun _ => x_iconst rfl) ?_
                refine Ew_of (pcₚ := 125) (fun _ => x_goto rfl rfl) ?_
                exact hc125 (1) _ _ _ _  (lc83_0) (lc83_1) (lc83_2) (lc83_4) H O (SF_refl) (SA_refl)     (show inr (1) from q_23) (show (1) = 0 ∨ (1) = 1 from q_5)
          refine w_ifne (t := 69) rfl rfl (show inr (v81) from qv81) (fun b90 => ?_) (fun b90 => ?_)
          · refine Ew_of (pcₚ := 70) (fun _ => x_aload_n rfl l43_0) ?_
            refine v_g H (o := 0) (v := I (u0_3)) rfl rfl rfl rfl rfl (congrArg (fun z : Int => I z) (((mF_43 0 3 rfl).trans (eu0_3)) : F_43 0 3 = u0_3)) ?_
            refine Ew_of (pcₚ := 74) (fun _ => x_iconst rfl) ?_
            refine w_iadd rfl ?_
            refine Ew_of (pcₚ := 76) (fun _ => x_aload_n rfl l43_0) ?_
            refine v_g H (o := 0) (v := .ref (D 18)) rfl rfl rfl rfl rfl (vrf ((mF_43 0 0 rfl).trans (pf18))) ?_
            refine Ew_of (pcₚ := 81) (fun _ => x_iload rfl l43_4) ?_
            refine v_lI H (o := 18) rfl rfl rfl rfl (n := n18) (en18) (show 0 ≤ x43_4 ∧ x43_4 < n18 from q_3460 b22 h5 j43_2 j4_1 r20) (fun v91 ev91 qv91 => ?_)
            have ev91 : (w18) (x43_4) = v91 := (congrFun ((funext (mA_43 18 rfl)).trans (ew18)) (x43_4)).symm.trans ev91
            refine w_isub rfl ?_
            exact hc83 (((u0_3 + 1) - v91)) _ _ _ _  (l43_0) (l43_1) (l43_2) (l43_3) (l43_4) H O (SF_refl) (SA_refl)     (show inr (((u0_3 + 1) - v91)) by omega) (show ((v81) ≠ (0) ∧ -2147483648 ≤ ((w18) (x43_4)) ∧ ((w18) (x43_4)) ≤ 2147483647 ∧ (((u0_3 + 1) - v91)) = (((u0_3 + 1) - (w18) (x43_4)))) ∨ ((v81) = (0) ∧ (((u0_3 + 1) - v91)) = (0)) from q_3465 b90 ev91 qv91)
          · refine Ew_of (pcₚ := 66) (fun _ => x_iconst rfl) ?_
            refine Ew_of (pcₚ := 83) (fun _ => x_goto rfl rfl) ?_
            exact hc83 (0) _ _ _ _  (l43_0) (l43_1) (l43_2) (l43_3) (l43_4) H O (SF_refl) (SA_refl)     (show inr (0) from q_20) (show ((v81) ≠ (0) ∧ -2147483648 ≤ ((w18) (x43_4)) ∧ ((w18) (x43_4)) ≤ 2147483647 ∧ (0) = (((u0_3 + 1) - (w18) (x43_4)))) ∨ ((v81) = (0) ∧ (0) = (0)) from q_3466 b90)
    refine w_ifle (t := 30) rfl rfl (show inr (x4_2) from j4_0) (fun b92 => ?_) (fun b92 => ?_)
    · exact hc30  _ _ _ _  (l4_0) (l4_1) (l4_2) H O (SF_refl) (SA_refl)     (show ((x4_2) ≤ (0)) ∨ ((x4_2) > (0) ∧ -2147483648 ≤ ((w18) (x4_2)) ∧ ((w18) (x4_2)) ≤ 2147483647 ∧ ((w18) (x4_2)) ≠ (0)) from q_3467 b92)
    · refine Ew_of (pcₚ := 9) (fun _ => x_aload_n rfl l4_0) ?_
      refine v_g H (o := 0) (v := .ref (D 18)) rfl rfl rfl rfl rfl (vrf ((mF_4 0 0 rfl).trans (pf18))) ?_
      refine Ew_of (pcₚ := 13) (fun _ => x_iload_n rfl l4_2) ?_
      refine v_lI H (o := 18) rfl rfl rfl rfl (n := n18) (en18) (show 0 ≤ x4_2 ∧ x4_2 < n18 from q_3468 h5 j4_1 j4_3) (fun v93 ev93 qv93 => ?_)
      have ev93 : (w18) (x4_2) = v93 := (congrFun ((funext (mA_4 18 rfl)).trans (ew18)) (x4_2)).symm.trans ev93
      refine w_ifne (t := 30) rfl rfl (show inr (v93) from qv93) (fun b94 => ?_) (fun b94 => ?_)
      · exact hc30  _ _ _ _  (l4_0) (l4_1) (l4_2) H O (SF_refl) (SA_refl)     (show ((x4_2) ≤ (0)) ∨ ((x4_2) > (0) ∧ -2147483648 ≤ ((w18) (x4_2)) ∧ ((w18) (x4_2)) ≤ 2147483647 ∧ ((w18) (x4_2)) ≠ (0)) by omega)
      · refine Ew_of (pcₚ := 18) (fun _ => x_aload_n rfl l4_0) ?_
        refine v_g H (o := 0) (v := .ref (D 16)) rfl rfl rfl rfl rfl (vrf ((mF_4 0 4 rfl).trans (pf16))) ?_
        refine Ew_of (pcₚ := 22) (fun _ => x_iload_n rfl l4_2) ?_
        refine Ew_of (pcₚ := 23) (fun _ => x_iconst rfl) ?_
        refine v_sI H (o := 16) (z := 0) rfl rfl rfl rfl (n := n16) (en16) (show 0 ≤ x4_2 ∧ x4_2 < n16 from q_3469 h5 j4_1 j4_3) (show inr (0) from q_20) (fun σ H Oₚ => ?_)
        have O := OUT_trans O Oₚ
        have cAu95 : SA oz_F5clsl_10 A (updA A_4 16 (x4_2) (0)) := SA_upd (cA_4) rfl
        have mAu95 := SAm_of cAu95 oz_F5cls_47
        refine Ew_of (pcₚ := 27) (fun _ => x_iinc (len := 3) rfl (l4_2)) ?_
        refine Ew_of (pcₚ := 4) (fun _ => x_goto rfl rfl) ?_
        exact ih4 _ (msE hm4 q_316 (q_317 b92)) _ _ _ _ ((x4_2 + (-1))) (rk_o (l4_0) rfl rfl) (rk_o (l4_1) rfl rfl) (rk_s) H O (hS_4) (SA_upd (hA_4) rfl)     (show inr ((x4_2 + (-1))) from q_3473 b92 j4_1) (show ((x4_2 + (-1))) ≤ (255) from q_3472 j4_1) (show (255) ≤ ((x4_2 + (-1))) ∨ (0) ≤ ((x4_2 + (-1))) from q_3471 b92) (show 0 ≤ ((x4_2 + (-1))) from q_3470 b92) rfl
