abbrev V106_thisorderFivea : vV := [(0, 3, [(4, 0), (4, 0), (4, 0), (0, 0), (4, 0), (4, 0), (4, 0), (4, 0), (4, 0), (4, 0), (4, 0), (4, 0), (4, 0), (0, 0), (0, 0), (0, 0), (0, 0)]), (0, 7, [(4, 0), (0, 0), (1, 0), (0, 0), (0, 0)]), (1, 0, []), (0, 8, [(0, 0), (0, 0), (4, 0), (4, 0), (4, 0), (4, 0), (4, 0), (4, 0), (4, 0), (4, 0), (4, 0), (0, 0), (0, 0)]), (1, 1, []), (1, 1, []), (1, 1, []), (1, 1, []), (1, 1, []), (1, 1, []), (1, 1, []), (1, 1, []), (1, 1, []), (1, 1, [])]
theorem len_V106_thisorderFivea_oz_F5cls : (V106_thisorderFivea).length = 14 := by decide +kernel
theorem oz_F5cls_1 : vsub V106_thisorderFivea V156 [1] = true := by decide +kernel
theorem oz_F5cls_2 : vsub V106_thisorderFivea V157 [1, 2] = true := by decide +kernel
theorem oz_F5cls_3 : vmov V106_thisorderFivea [1, 2] [1] = true := by decide +kernel
theorem oz_F5cls_4 : vsub V106_thisorderFivea V178_Ir [3, 13, 4] = true := by decide +kernel
theorem oz_F5cls_5 : vsub V106_thisorderFivea V169 [3, 4, 5, 6, 7, 8, 9, 10, 11] = true := by decide +kernel
theorem oz_F5cls_6 : vsub V106_thisorderFivea V181_Row [3, 1, 4, 2] = true := by decide +kernel
theorem oz_F5cls_7 : vsub V106_thisorderFivea V174 [3, 4, 5, 6, 7, 10, 9, 11, 8] = true := by decide +kernel
theorem oz_F5cls_8 : vsub V106_thisorderFivea V164 [1, 2] = true := by decide +kernel
theorem oz_F5cls_9 : vsub V106_thisorderFivea V165 [1, 2] = true := by decide +kernel
theorem oz_F5cls_10 : vsub V106_thisorderFivea V175 [3, 4, 5, 6, 7, 10, 9, 11, 8] = true := by decide +kernel
theorem oz_F5cls_11 : vsub V106_thisorderFivea V176 [3, 4, 5, 6, 7, 10, 9, 11, 8] = true := by decide +kernel
def oz_F5clsl_0 : List (Nat × Nat) := [(1, 0), (1, 1), (1, 2), (1, 3), (1, 4), (3, 0)]
theorem oz_F5cls_12 : (oz_F5clsl_0).all (fun p => !tbz 79228162514264337726687936512 (Nat.add (Nat.mul 32 p.1) p.2)) = true := by decide +kernel
def oz_F5clsl_1 : List Nat := [2, 4, 5, 6, 7, 8, 9, 10, 11]
theorem oz_F5cls_13 : (oz_F5clsl_1).all (fun p => !tbz 4084 p) = true := by decide +kernel
def oz_F5clsl_2 : List Nat := [2]
theorem oz_F5cls_14 : (oz_F5clsl_2).all (fun p => !tbz 4 p) = true := by decide +kernel
def oz_F5clsl_3 : List Nat := [1]
theorem oz_F5cls_15 : okc oz_F5clsl_3 1 = true := by decide +kernel
def oz_F5clsl_4 : List Nat := [1, 2]
theorem oz_F5cls_16 : okc oz_F5clsl_4 1025 = true := by decide +kernel
def oz_F5clsl_5 : List Nat := [3, 13, 4]
theorem oz_F5cls_17 : okc oz_F5clsl_5 1055235 = true := by decide +kernel
def oz_F5clsl_6 : List Nat := [3, 4, 5, 6, 7, 8, 9, 10, 11]
theorem oz_F5cls_18 : okc oz_F5clsl_6 52038427443478050113539 = true := by decide +kernel
def oz_F5clsl_7 : List Nat := [3, 1, 4, 2]
theorem oz_F5cls_19 : okc oz_F5clsl_7 269484547 = true := by decide +kernel
def oz_F5clsl_8 : List Nat := [3, 4, 5, 6, 7, 10, 9, 11, 8]
theorem oz_F5cls_20 : okc oz_F5clsl_8 37880551437274713425923 = true := by decide +kernel
set_option maxHeartbeats 16000000 in
theorem C106_thisorderFivea {σE : rS} {D N : Nat → Nat} {F : hF} {A : hA} {d c s : Nat} {Q : wQ} (H : HW V106_thisorderFivea σE D N F A) {a2 a3 : Int} (pf1 : F 0 7 = (D 1 : Int)) (pf2 : F 1 0 = (D 2 : Int)) (pf3 : F 0 6 = (D 3 : Int)) (pf4 : F 3 2 = (D 4 : Int)) (pf5 : F 3 3 = (D 5 : Int)) (pf6 : F 3 4 = (D 6 : Int)) (pf7 : F 3 5 = (D 7 : Int)) (pf8 : F 3 6 = (D 8 : Int)) (pf9 : F 3 8 = (D 9 : Int)) (pf10 : F 3 7 = (D 10 : Int)) (pf11 : F 3 9 = (D 11 : Int)) (pf12 : F 0 4 = (D 12 : Int)) (pf13 : F 0 5 = (D 13 : Int)) (n2 : Int) (en2 : (N 2 : Int) = n2) (n4 : Int) (en4 : (N 4 : Int) = n4) (n5 : Int) (en5 : (N 5 : Int) = n5) (n6 : Int) (en6 : (N 6 : Int) = n6) (n7 : Int) (en7 : (N 7 : Int) = n7) (n8 : Int) (en8 : (N 8 : Int) = n8) (n9 : Int) (en9 : (N 9 : Int) = n9) (n10 : Int) (en10 : (N 10 : Int) = n10) (n11 : Int) (en11 : (N 11 : Int) = n11) (n12 : Int) (en12 : (N 12 : Int) = n12) (n13 : Int) (en13 : (N 13 : Int) = n13) (u1_1 : Int) (eu1_1 : F 1 1 = u1_1) (u1_2 : Int) (eu1_2 : F 1 2 = u1_2) (u1_3 : Int) (eu1_3 : F 1 3 = u1_3) (u1_4 : Int) (eu1_4 : F 1 4 = u1_4) (u3_1 : Int) (eu3_1 : F 3 1 = u3_1) (w2 : Int → Int) (ew2 : A 2 = w2) (w12 : Int → Int) (ew12 : A 12 = w12) (w13 : Int → Int) (ew13 : A 13 = w13) (h0 : inr (a2)) (h1 : inr (a3)) (h2 : 0 ≤ (u1_1) ∧ (u1_1) ≤ (n2) ∧ (n2) ≤ 65536) (h3 : (n4) = (u3_1) ∧ (n5) = (u3_1) ∧ (n6) = (u3_1) ∧ (n7) = (u3_1) ∧ (n8) = (u3_1) ∧ (n9) = (n10) ∧ (n11) = (n10) ∧ 1 ≤ (u3_1) ∧ (u3_1) ≤ 64 ∧ (u3_1) = 12 ∧ (n10) = 64) (h4 : 2 ≤ (a2) ∧ (a2) ≤ 255) (h5 : 5 ≤ (a3) ∧ (a3) ≤ 6) (h6 : (n12) = 256 ∧ (n13) = 12) (h7 : WGB ((w12)) 11 (a2)) (h8 : WCN ((w12)) ((w13)) (a2)) (k : ∀ (σ : rS) (Dₚ Nₚ : Nat → Nat) (Fₚ : hF) (Aₚ : hA) (cₚ sₚ : Nat), HW V106_thisorderFivea σ Dₚ Nₚ Fₚ Aₚ → OUT (V106_thisorderFivea).length D N σE c s Dₚ Nₚ σ cₚ sₚ → SD [2] D Dₚ → SD [2] N Nₚ → SF [(1, 0), (1, 1), (1, 2), (1, 3), (1, 4), (3, 0)] F Fₚ → SA [2, 4, 5, 6, 7, 8, 9, 10, 11] A Aₚ → Fₚ 1 0 = (Dₚ 2 : Int) → ∀ m2 : Int, (Nₚ 2 : Int) = m2 → ∀ y1_1 : Int, Fₚ 1 1 = y1_1 → ∀ y1_2 : Int, Fₚ 1 2 = y1_2 → ∀ y1_3 : Int, Fₚ 1 3 = y1_3 → ∀ y1_4 : Int, Fₚ 1 4 = y1_4 → ∀ v2 : Int → Int, Aₚ 2 = v2 → (0 ≤ (y1_1) ∧ (y1_1) ≤ (m2) ∧ (m2) ≤ 65536) → ((y1_4) = 0) → (sc ((v2)) 0 ((y1_1)) = byw (STB (dvP (cutP ((u3_1)) ((w13))) ((a2)) (p2 (a3))) ((a3))) ++ byw (WSB (((a3), 12, (dvP (cutP ((u3_1)) ((w13))) ((a2)) (p2 (a3)))) : Tb) ((w12)) ((a2)))) → ((y1_2) = 0) → ((y1_3) = 0) → Q none σ cₚ sₚ) : Ew 106 (d + 2) 0 (rargs 0 [.ref (D 0), .ref (D 1), I a2, I a3]) [] σE c s Q := by
  have O := OUT_refl (n := (V106_thisorderFivea).length) (D := D) (N := N) (σ := σE) (c := c) (s := s)
  have HE := H
  have r1 : (-2147483648 : Int) ≤ u1_1 ∧ u1_1 ≤ 2147483647 := rngE (show (-2147483648 : Int) ≤ F 1 1 ∧ F 1 1 ≤ 2147483647 from H.krg 1 1 (ltn len_V106_thisorderFivea_oz_F5cls rfl)) (show F 1 1 = u1_1 from (eu1_1))
  have r2 : (0 : Int) ≤ u1_2 ∧ u1_2 ≤ 1 := rngE (show (0 : Int) ≤ F 1 2 ∧ F 1 2 ≤ 1 from H.krg 1 2 (ltn len_V106_thisorderFivea_oz_F5cls rfl)) (show F 1 2 = u1_2 from (eu1_2))
  have r3 : (-2147483648 : Int) ≤ u1_3 ∧ u1_3 ≤ 2147483647 := rngE (show (-2147483648 : Int) ≤ F 1 3 ∧ F 1 3 ≤ 2147483647 from H.krg 1 3 (ltn len_V106_thisorderFivea_oz_F5cls rfl)) (show F 1 3 = u1_3 from (eu1_3))
  have r4 : (-2147483648 : Int) ≤ u1_4 ∧ u1_4 ≤ 2147483647 := rngE (show (-2147483648 : Int) ≤ F 1 4 ∧ F 1 4 ≤ 2147483647 from H.krg 1 4 (ltn len_V106_thisorderFivea_oz_F5cls rfl)) (show F 1 4 = u1_4 from (eu1_4))
  have r5 : (-2147483648 : Int) ≤ u3_1 ∧ u3_1 ≤ 2147483647 := rngE (show (-2147483648 : Int) ≤ F 3 1 ∧ F 3 1 ≤ 2147483647 from H.krg 3 1 (ltn len_V106_thisorderFivea_oz_F5cls rfl)) (show F 3 1 = u3_1 from (eu3_1))
  have r6 : (0 : Int) ≤ n2 ∧ n2 ≤ 1000000 := nleE (H.nle 2 (ltn len_V106_thisorderFivea_oz_F5cls rfl)) (show (N 2 : Int) = n2 from en2)
  have r7 : (0 : Int) ≤ n4 ∧ n4 ≤ 1000000 := nleE (H.nle 4 (ltn len_V106_thisorderFivea_oz_F5cls rfl)) (show (N 4 : Int) = n4 from en4)
  have r8 : (0 : Int) ≤ n5 ∧ n5 ≤ 1000000 := nleE (H.nle 5 (ltn len_V106_thisorderFivea_oz_F5cls rfl)) (show (N 5 : Int) = n5 from en5)
  have r9 : (0 : Int) ≤ n6 ∧ n6 ≤ 1000000 := nleE (H.nle 6 (ltn len_V106_thisorderFivea_oz_F5cls rfl)) (show (N 6 : Int) = n6 from en6)
  have r10 : (0 : Int) ≤ n7 ∧ n7 ≤ 1000000 := nleE (H.nle 7 (ltn len_V106_thisorderFivea_oz_F5cls rfl)) (show (N 7 : Int) = n7 from en7)
  have r11 : (0 : Int) ≤ n8 ∧ n8 ≤ 1000000 := nleE (H.nle 8 (ltn len_V106_thisorderFivea_oz_F5cls rfl)) (show (N 8 : Int) = n8 from en8)
  have r12 : (0 : Int) ≤ n9 ∧ n9 ≤ 1000000 := nleE (H.nle 9 (ltn len_V106_thisorderFivea_oz_F5cls rfl)) (show (N 9 : Int) = n9 from en9)
  have r13 : (0 : Int) ≤ n10 ∧ n10 ≤ 1000000 := nleE (H.nle 10 (ltn len_V106_thisorderFivea_oz_F5cls rfl)) (show (N 10 : Int) = n10 from en10)
  have r14 : (0 : Int) ≤ n11 ∧ n11 ≤ 1000000 := nleE (H.nle 11 (ltn len_V106_thisorderFivea_oz_F5cls rfl)) (show (N 11 : Int) = n11 from en11)
  have r15 : (0 : Int) ≤ n12 ∧ n12 ≤ 1000000 := nleE (H.nle 12 (ltn len_V106_thisorderFivea_oz_F5cls rfl)) (show (N 12 : Int) = n12 from en12)
  have r16 : (0 : Int) ≤ n13 ∧ n13 ≤ 1000000 := nleE (H.nle 13 (ltn len_V106_thisorderFivea_oz_F5cls rfl)) (show (N 13 : Int) = n13 from en13)
  have hwg : WGB ((w12)) 11 (a2) := h7
  have hwc : WCN ((w12)) ((w13)) (a2) := h8
  have hp6 : p2 6 = 64 := by decide
  refine Ew_of (pcₚ := 1) (fun _ => x_aload_n rfl rfl) ?_
  refine v_inv H (o := 1) rfl rfl rfl rfl rfl rfl (by rfl) (C156h (D := puc 1 D) (N := puc 1 N) (HW_subc H oz_F5cls_1 oz_F5cls_15) (u1_1) ((eu1_1)) (u1_2) ((eu1_2)) (u1_3) ((eu1_3)) (u1_4) ((eu1_4))  (fun σ17 F17ₚ A17ₚ Hₚ Oₚ hS17 hA17 y17_0_1 ey17_0_1 y17_0_2 ey17_0_2 y17_0_3 ey17_0_3 y17_0_4 ey17_0_4 pz17_0 pz17_1 => ⟨rfl, ?_⟩))
  refine v_backc (c := c) (s := s) H oz_F5cls_1 oz_F5cls_15 Hₚ Oₚ (fun F17 A17 H Oₚ eF17 eA17 => ?_)
  have O := OUT_trans O Oₚ
  -- Row.clear
  have cF17 : SF oz_F5clsl_0 F F17 := SF_trans (SF_refl) (SF_gluc (ι := oz_F5clsl_3) oz_F5cls_15 hS17 eF17 (by decide +kernel)) (any_sub (lₚ := [(1, 1), (1, 2), (1, 3), (1, 4)]) (by decide +kernel))
  have mF17 := SFm_of cF17 oz_F5cls_12
  have cA17 : SA oz_F5clsl_1 A A17 := SA_trans (SA_refl) (SA_gluc (ι := oz_F5clsl_3) oz_F5cls_15 hA17 eA17 (by decide +kernel)) (any_subA (lₚ := []) (by decide +kernel))
  have mA17 := SAm_of cA17 oz_F5cls_13
  have r18 : (-2147483648 : Int) ≤ y17_0_1 ∧ y17_0_1 ≤ 2147483647 := rngE (show (-2147483648 : Int) ≤ F17 1 1 ∧ F17 1 1 ≤ 2147483647 from H.krg 1 1 (ltn len_V106_thisorderFivea_oz_F5cls rfl)) (show F17 1 1 = y17_0_1 from ((eF17 1 1).trans ey17_0_1))
  have r19 : (0 : Int) ≤ y17_0_2 ∧ y17_0_2 ≤ 1 := rngE (show (0 : Int) ≤ F17 1 2 ∧ F17 1 2 ≤ 1 from H.krg 1 2 (ltn len_V106_thisorderFivea_oz_F5cls rfl)) (show F17 1 2 = y17_0_2 from ((eF17 1 2).trans ey17_0_2))
  have r20 : (-2147483648 : Int) ≤ y17_0_3 ∧ y17_0_3 ≤ 2147483647 := rngE (show (-2147483648 : Int) ≤ F17 1 3 ∧ F17 1 3 ≤ 2147483647 from H.krg 1 3 (ltn len_V106_thisorderFivea_oz_F5cls rfl)) (show F17 1 3 = y17_0_3 from ((eF17 1 3).trans ey17_0_3))
  have r21 : (-2147483648 : Int) ≤ y17_0_4 ∧ y17_0_4 ≤ 2147483647 := rngE (show (-2147483648 : Int) ≤ F17 1 4 ∧ F17 1 4 ≤ 2147483647 from H.krg 1 4 (ltn len_V106_thisorderFivea_oz_F5cls rfl)) (show F17 1 4 = y17_0_4 from ((eF17 1 4).trans ey17_0_4))
  refine Ew_of (pcₚ := 5) (fun _ => x_aload_n rfl rfl) ?_
  refine Ew_of (pcₚ := 8) (fun _ => x_sipush (z := 128) rfl (by decide)) ?_
  refine Ew_of (pcₚ := 9) (fun _ => x_iload_n rfl rfl) ?_
  refine w_iadd rfl ?_
  refine v_inv H (o := 1) rfl rfl rfl rfl rfl rfl (by rfl) (C157 (D := puc 1025 D) (N := puc 1025 N) (HW_subc H oz_F5cls_2 oz_F5cls_16) ((((show F17 1 0 = F 1 0 from (eF17 1 0).trans (hS17 0 0 rfl)))).trans (pf2)) (n2) (en2) (y17_0_1) (((eF17 1 1).trans ey17_0_1)) (w2) (((show A17 2 = A 2 from (eA17 2))).trans (ew2)) (show inr ((128 + a2)) from q_3777 h4) (show 0 ≤ (y17_0_1) ∧ (y17_0_1) ≤ (n2) ∧ (n2) ≤ 65536 from q_3776 h2 pz17_0 r6) (fun z22 σ22 D22ₚ N22ₚ F22ₚ A22ₚ c22 s22 Hₚ Oₚ hD22 hN22 hS22 hA22 pm22_1 m22_1 em22_1 w22_1 ew22_1 pz22_0 pz22_1 pz22_2 pz22_3 pz22_4 => ⟨rretB rfl pz22_0, ?_⟩))
  refine v_backMc (c := c) (s := s) H oz_F5cls_2 oz_F5cls_16 Hₚ Oₚ hD22 oz_F5cls_3 (fun D22 N22 F22 A22 H Oₚ eD22 eN22 eF22 eA22 => ?_)
  have O := OUT_trans O Oₚ
  -- Row.reserve
  have cF22 : SF oz_F5clsl_0 F F22 := SF_trans (cF17) (SF_gluc (ι := oz_F5clsl_4) oz_F5cls_16 hS22 eF22 (by decide +kernel)) (any_sub (lₚ := [(1, 0)]) (by decide +kernel))
  have mF22 := SFm_of cF22 oz_F5cls_12
  have cA22 : SA oz_F5clsl_1 A A22 := SA_trans (cA17) (SA_gluc (ι := oz_F5clsl_4) oz_F5cls_16 hA22 eA22 (by decide +kernel)) (any_subA (lₚ := [2]) (by decide +kernel))
  have mA22 := SAm_of cA22 oz_F5cls_13
  have cD22 : SD oz_F5clsl_2 D D22 := SD_trans (SD_refl) (SD_gluc (ι := oz_F5clsl_4) oz_F5cls_16 hD22 eD22 (by decide +kernel)) (any_subA (lₚ := [2]) (by decide +kernel))
  have mD22 := SDm_of cD22 oz_F5cls_14
  have cN22 : SD oz_F5clsl_2 N N22 := SD_trans (SD_refl) (SD_gluc (ι := oz_F5clsl_4) oz_F5cls_16 hN22 eN22 (by decide +kernel)) (any_subA (lₚ := [2]) (by decide +kernel))
  have mN22 := SDm_of cN22 oz_F5cls_14
  have pf22_1_0 : F22 1 0 = (D22 2 : Int) := (eF22 1 0).trans (pm22_1.trans (congrArg (fun q : Nat => (q : Int)) (eD22 2).symm))
  have r23 : (0 : Int) ≤ m22_1 ∧ m22_1 ≤ 1000000 := nleE (H.nle 2 (ltn len_V106_thisorderFivea_oz_F5cls rfl)) (show (N22 2 : Int) = m22_1 from (congrArg (fun q : Nat => (q : Int)) (eN22 2)).trans em22_1)
  refine Ew_of (pcₚ := 14) (fun _ => x_pop rfl rfl) ?_
  refine Ew_of (pcₚ := 15) (fun _ => x_aload_n rfl rfl) ?_
  refine Ew_stk (congrArg (fun qz : Nat => ([.ref qz] : List Value)) (show D22 0 = D 0 from mD22 0 rfl).symm) ?_
  refine v_g H (o := 0) (v := .ref (D22 3)) rfl rfl rfl rfl rfl (vrf ((mF22 0 6 rfl).trans ((pf3).trans (congrArg (fun q : Nat => (q : Int)) (mD22 3 rfl).symm)))) ?_
  refine Ew_of (pcₚ := 19) (fun _ => x_aload_n rfl rfl) ?_
  refine Ew_stk (congrArg (fun qz : Nat => ([.ref qz, .ref (D22 3)] : List Value)) (show D22 0 = D 0 from mD22 0 rfl).symm) ?_
  refine v_g H (o := 0) (v := .ref (D22 13)) rfl rfl rfl rfl rfl (vrf ((mF22 0 5 rfl).trans ((pf13).trans (congrArg (fun q : Nat => (q : Int)) (mD22 13 rfl).symm)))) ?_
  refine Ew_of (pcₚ := 23) (fun _ => x_iload_n rfl rfl) ?_
  refine Ew_of (pcₚ := 24) (fun _ => x_iload_n rfl rfl) ?_
  have hcn : CNT ((w13)) ((u3_1)) (a2) (a3) := by rw [show ((u3_1)) = 12 by omega]; exact WCN_CNT hwc hwg (by omega) (by omega) ⟨by omega, by omega⟩
  have r24 : (-2147483648 : Int) ≤ F 3 0 ∧ F 3 0 ≤ 2147483647 := rngE (show (-2147483648 : Int) ≤ F22 3 0 ∧ F22 3 0 ≤ 2147483647 from H.krg 3 0 (ltn len_V106_thisorderFivea_oz_F5cls rfl)) (show F22 3 0 = F 3 0 from (((show F22 3 0 = F17 3 0 from (eF22 3 0))).trans ((show F17 3 0 = F 3 0 from (eF17 3 0)))))
  refine v_inv H (o := 3) rfl rfl rfl rfl rfl rfl (by rfl) (C178_Ir (D := puc 1055235 D22) (N := puc 1055235 N22) (HW_subc H oz_F5cls_4 oz_F5cls_17) ((mF22 3 2 rfl).trans ((pf4).trans (congrArg (fun q : Nat => (q : Int)) (mD22 4 rfl).symm))) (n13) ((congrArg (fun q : Nat => (q : Int)) (mN22 13 rfl)).trans (en13)) (n4) ((congrArg (fun q : Nat => (q : Int)) (mN22 4 rfl)).trans (en4)) (F 3 0) ((((show F22 3 0 = F17 3 0 from (eF22 3 0))).trans ((show F17 3 0 = F 3 0 from (eF17 3 0))))) (u3_1) (((mF22 3 1 rfl).trans (eu3_1))) (w13) ((funext (mA22 13 rfl)).trans (ew13)) (A 4) (((show A22 4 = A17 4 from (eA22 4))).trans ((show A17 4 = A 4 from (eA17 4)))) (show inr (a2) from h0) (show inr (a3) from h1) (hcn) (show ((u3_1)) ≤ (n13) ∧ (n4) = ((u3_1)) from q_3778 h3 h6) (fun σ25 F25ₚ A25ₚ Hₚ Oₚ hS25 hA25 y25_0_0 ey25_0_0 w25_2 ew25_2 pz25_0 pz25_1 pz25_2 pz25_3 => ⟨rfl, ?_⟩))
  refine v_backc (c := (c + c22)) (s := (s + s22)) H oz_F5cls_4 oz_F5cls_17 Hₚ Oₚ (fun F25 A25 H Oₚ eF25 eA25 => ?_)
  have O := OUT_trans O Oₚ
  -- Share.takeCounts
  have cF25 : SF oz_F5clsl_0 F F25 := SF_trans (cF22) (SF_gluc (ι := oz_F5clsl_5) oz_F5cls_17 hS25 eF25 (by decide +kernel)) (any_sub (lₚ := [(3, 0)]) (by decide +kernel))
  have mF25 := SFm_of cF25 oz_F5cls_12
  have cA25 : SA oz_F5clsl_1 A A25 := SA_trans (cA22) (SA_gluc (ι := oz_F5clsl_5) oz_F5cls_17 hA25 eA25 (by decide +kernel)) (any_subA (lₚ := [4]) (by decide +kernel))
  have mA25 := SAm_of cA25 oz_F5cls_13
  have r26 : (-2147483648 : Int) ≤ y25_0_0 ∧ y25_0_0 ≤ 2147483647 := rngE (show (-2147483648 : Int) ≤ F25 3 0 ∧ F25 3 0 ≤ 2147483647 from H.krg 3 0 (ltn len_V106_thisorderFivea_oz_F5cls rfl)) (show F25 3 0 = y25_0_0 from ((eF25 3 0).trans ey25_0_0))
  refine Ew_of (pcₚ := 28) (fun _ => x_aload_n rfl rfl) ?_
  refine Ew_stk (congrArg (fun qz : Nat => ([.ref qz] : List Value)) (show D22 0 = D 0 from mD22 0 rfl).symm) ?_
  refine v_g H (o := 0) (v := .ref (D22 3)) rfl rfl rfl rfl rfl (vrf ((mF25 0 6 rfl).trans ((pf3).trans (congrArg (fun q : Nat => (q : Int)) (mD22 3 rfl).symm)))) ?_
  have hpo : p2 ((y25_0_0)) ≤ p2 6 := p2_mono (by omega)
  have hdv := pz25_1
  refine v_inv H (o := 3) rfl rfl rfl rfl rfl rfl (by rfl) (C169 (D := puc 52038427443478050113539 D22) (N := puc 52038427443478050113539 N22) (HW_subc H oz_F5cls_5 oz_F5cls_18) ((mF25 3 2 rfl).trans ((pf4).trans (congrArg (fun q : Nat => (q : Int)) (mD22 4 rfl).symm))) ((mF25 3 3 rfl).trans ((pf5).trans (congrArg (fun q : Nat => (q : Int)) (mD22 5 rfl).symm))) ((mF25 3 4 rfl).trans ((pf6).trans (congrArg (fun q : Nat => (q : Int)) (mD22 6 rfl).symm))) ((mF25 3 5 rfl).trans ((pf7).trans (congrArg (fun q : Nat => (q : Int)) (mD22 7 rfl).symm))) ((mF25 3 6 rfl).trans ((pf8).trans (congrArg (fun q : Nat => (q : Int)) (mD22 8 rfl).symm))) ((mF25 3 8 rfl).trans ((pf9).trans (congrArg (fun q : Nat => (q : Int)) (mD22 9 rfl).symm))) ((mF25 3 7 rfl).trans ((pf10).trans (congrArg (fun q : Nat => (q : Int)) (mD22 10 rfl).symm))) ((mF25 3 9 rfl).trans ((pf11).trans (congrArg (fun q : Nat => (q : Int)) (mD22 11 rfl).symm))) (n4) ((congrArg (fun q : Nat => (q : Int)) (mN22 4 rfl)).trans (en4)) (n5) ((congrArg (fun q : Nat => (q : Int)) (mN22 5 rfl)).trans (en5)) (n6) ((congrArg (fun q : Nat => (q : Int)) (mN22 6 rfl)).trans (en6)) (n7) ((congrArg (fun q : Nat => (q : Int)) (mN22 7 rfl)).trans (en7)) (n8) ((congrArg (fun q : Nat => (q : Int)) (mN22 8 rfl)).trans (en8)) (n9) ((congrArg (fun q : Nat => (q : Int)) (mN22 9 rfl)).trans (en9)) (n10) ((congrArg (fun q : Nat => (q : Int)) (mN22 10 rfl)).trans (en10)) (n11) ((congrArg (fun q : Nat => (q : Int)) (mN22 11 rfl)).trans (en11)) (y25_0_0) (((eF25 3 0).trans ey25_0_0)) (u3_1) (((mF25 3 1 rfl).trans (eu3_1))) (w25_2) ((eA25 4).trans ew25_2) (A 5) (((show A25 5 = A22 5 from (eA25 5))).trans (((show A22 5 = A17 5 from (eA22 5))).trans ((show A17 5 = A 5 from (eA17 5))))) (A 6) (((show A25 6 = A22 6 from (eA25 6))).trans (((show A22 6 = A17 6 from (eA22 6))).trans ((show A17 6 = A 6 from (eA17 6))))) (A 7) (((show A25 7 = A22 7 from (eA25 7))).trans (((show A22 7 = A17 7 from (eA22 7))).trans ((show A17 7 = A 7 from (eA17 7))))) (A 9) (((show A25 9 = A22 9 from (eA25 9))).trans (((show A22 9 = A17 9 from (eA22 9))).trans ((show A17 9 = A 9 from (eA17 9))))) (A 10) (((show A25 10 = A22 10 from (eA25 10))).trans (((show A22 10 = A17 10 from (eA22 10))).trans ((show A17 10 = A 10 from (eA17 10))))) (A 11) (((show A25 11 = A22 11 from (eA25 11))).trans (((show A22 11 = A17 11 from (eA22 11))).trans ((show A17 11 = A 11 from (eA17 11))))) (pz25_0) (show (n4) = (u3_1) ∧ (n5) = (u3_1) ∧ (n6) = (u3_1) ∧ (n7) = (u3_1) ∧ (n8) = (u3_1) ∧ (n9) = (n10) ∧ (n11) = (n10) ∧ p2 ((y25_0_0)) ≤ (n10) from q_3779 h3 hp6 hpo) (fun σ27 F27ₚ A27ₚ Hₚ Oₚ hS27 hA27 w27_2 ew27_2 w27_3 ew27_3 w27_4 ew27_4 w27_6 ew27_6 w27_7 ew27_7 w27_8 ew27_8 pz27_0 => ⟨rfl, ?_⟩))
  refine v_backc (c := (c + c22)) (s := (s + s22)) H oz_F5cls_5 oz_F5cls_18 Hₚ Oₚ (fun F27 A27 H Oₚ eF27 eA27 => ?_)
  have O := OUT_trans O Oₚ
  -- Share.lay
  have cF27 : SF oz_F5clsl_0 F F27 := SF_trans (cF25) (SF_gluc (ι := oz_F5clsl_6) oz_F5cls_18 hS27 eF27 (by decide +kernel)) (any_sub (lₚ := []) (by decide +kernel))
  have mF27 := SFm_of cF27 oz_F5cls_12
  have cA27 : SA oz_F5clsl_1 A A27 := SA_trans (cA25) (SA_gluc (ι := oz_F5clsl_6) oz_F5cls_18 hA27 eA27 (by decide +kernel)) (any_subA (lₚ := [5, 6, 7, 8, 9, 10, 11]) (by decide +kernel))
  have mA27 := SAm_of cA27 oz_F5cls_13
  obtain ⟨bi_, ba_, hLD, hBIA⟩ := SL_LD pz27_0
  have hSLw := pz27_0
  have hPD : (dvP (cutP ((u3_1)) ((w13))) ((a2)) (p2 (a3))) = cutP ((u3_1)) ((w25_2)) := dvP_c pz25_3 (by omega)
  have hTB : TBX ((((y25_0_0)), 12, (dvP (cutP ((u3_1)) ((w13))) ((a2)) (p2 (a3)))) : Tb) ((y25_0_0)) ((w27_7)) bi_ ba_ := TBX_LD hLD (by omega) (by omega) (fun i a b => by rw [hPD]) (fun i a b => cutP_z (by omega))
  refine Ew_of (pcₚ := 35) (fun _ => x_aload_n rfl rfl) ?_
  refine Ew_stk (congrArg (fun qz : Nat => ([.ref qz] : List Value)) (show D22 0 = D 0 from mD22 0 rfl).symm) ?_
  refine v_g H (o := 0) (v := .ref (D22 3)) rfl rfl rfl rfl rfl (vrf ((mF27 0 6 rfl).trans ((pf3).trans (congrArg (fun q : Nat => (q : Int)) (mD22 3 rfl).symm)))) ?_
  refine Ew_of (pcₚ := 39) (fun _ => x_aload_n rfl rfl) ?_
  have hp39 := p2_pos ((y17_0_4))
  refine Ew_stk (congrArg (fun qz : Nat => ([.ref qz, .ref (D22 3)] : List Value)) (show D22 1 = D 1 from mD22 1 rfl).symm) ?_
  refine v_inv H (o := 3) rfl rfl rfl rfl rfl rfl (by rfl) (C181_Row (D := puc 269484547 D22) (N := puc 269484547 N22) (HW_subc H oz_F5cls_6 oz_F5cls_19) ((mF27 3 2 rfl).trans ((pf4).trans (congrArg (fun q : Nat => (q : Int)) (mD22 4 rfl).symm))) (((((show F27 1 0 = F25 1 0 from (eF27 1 0))).trans ((show F25 1 0 = F22 1 0 from (eF25 1 0))))).trans (pf22_1_0)) (n4) ((congrArg (fun q : Nat => (q : Int)) (mN22 4 rfl)).trans (en4)) (m22_1) ((congrArg (fun q : Nat => (q : Int)) (eN22 2)).trans em22_1) (y25_0_0) ((((show F27 3 0 = F25 3 0 from (eF27 3 0).trans (hS27 0 0 rfl))).trans ((eF25 3 0).trans ey25_0_0))) (u3_1) (((mF27 3 1 rfl).trans (eu3_1))) (y17_0_1) ((((((show F27 1 1 = F25 1 1 from (eF27 1 1))).trans ((show F25 1 1 = F22 1 1 from (eF25 1 1)))).trans ((show F22 1 1 = F17 1 1 from (eF22 1 1).trans (hS22 0 1 rfl)))).trans ((eF17 1 1).trans ey17_0_1))) (y17_0_2) ((((((show F27 1 2 = F25 1 2 from (eF27 1 2))).trans ((show F25 1 2 = F22 1 2 from (eF25 1 2)))).trans ((show F22 1 2 = F17 1 2 from (eF22 1 2).trans (hS22 0 2 rfl)))).trans ((eF17 1 2).trans ey17_0_2))) (y17_0_3) ((((((show F27 1 3 = F25 1 3 from (eF27 1 3))).trans ((show F25 1 3 = F22 1 3 from (eF25 1 3)))).trans ((show F22 1 3 = F17 1 3 from (eF22 1 3).trans (hS22 0 3 rfl)))).trans ((eF17 1 3).trans ey17_0_3))) (y17_0_4) ((((((show F27 1 4 = F25 1 4 from (eF27 1 4))).trans ((show F25 1 4 = F22 1 4 from (eF25 1 4)))).trans ((show F22 1 4 = F17 1 4 from (eF22 1 4).trans (hS22 0 4 rfl)))).trans ((eF17 1 4).trans ey17_0_4))) (w25_2) (((show A27 4 = A25 4 from (eA27 4).trans (funext (hA27 1 rfl)))).trans ((eA25 4).trans ew25_2)) (w22_1) (((show A27 2 = A25 2 from (eA27 2))).trans (((show A25 2 = A22 2 from (eA25 2))).trans ((eA22 2).trans ew22_1))) (pz25_0) (show 5 ≤ ((y25_0_0)) from q_3782 h5 pz25_2) (show (n4) = ((u3_1)) from q_3781 h3) (show 0 ≤ (y17_0_1) ∧ (y17_0_1) ≤ (m22_1) ∧ (m22_1) ≤ 65536 from pz22_1) (show 0 ≤ (y17_0_4) ∧ (y17_0_4) ≤ 7 from q_3780 pz17_0) (fun σ28 F28ₚ A28ₚ Hₚ Oₚ hS28 hA28 y28_1_1 ey28_1_1 y28_1_2 ey28_1_2 y28_1_3 ey28_1_3 y28_1_4 ey28_1_4 w28_3 ew28_3 pz28_0 pz28_1 pz28_2 pz28_3 pz28_4 => ⟨rfl, ?_⟩))
  refine v_backc (c := (c + c22)) (s := (s + s22)) H oz_F5cls_6 oz_F5cls_19 Hₚ Oₚ (fun F28 A28 H Oₚ eF28 eA28 => ?_)
  have O := OUT_trans O Oₚ
  -- Share.tell
  have cF28 : SF oz_F5clsl_0 F F28 := SF_trans (cF27) (SF_gluc (ι := oz_F5clsl_7) oz_F5cls_19 hS28 eF28 (by decide +kernel)) (any_sub (lₚ := [(1, 1), (1, 2), (1, 3), (1, 4)]) (by decide +kernel))
  have mF28 := SFm_of cF28 oz_F5cls_12
  have cA28 : SA oz_F5clsl_1 A A28 := SA_trans (cA27) (SA_gluc (ι := oz_F5clsl_7) oz_F5cls_19 hA28 eA28 (by decide +kernel)) (any_subA (lₚ := [2]) (by decide +kernel))
  have mA28 := SAm_of cA28 oz_F5cls_13
  have r29 : (-2147483648 : Int) ≤ y28_1_1 ∧ y28_1_1 ≤ 2147483647 := rngE (show (-2147483648 : Int) ≤ F28 1 1 ∧ F28 1 1 ≤ 2147483647 from H.krg 1 1 (ltn len_V106_thisorderFivea_oz_F5cls rfl)) (show F28 1 1 = y28_1_1 from ((eF28 1 1).trans ey28_1_1))
  have r30 : (0 : Int) ≤ y28_1_2 ∧ y28_1_2 ≤ 1 := rngE (show (0 : Int) ≤ F28 1 2 ∧ F28 1 2 ≤ 1 from H.krg 1 2 (ltn len_V106_thisorderFivea_oz_F5cls rfl)) (show F28 1 2 = y28_1_2 from ((eF28 1 2).trans ey28_1_2))
  have r31 : (-2147483648 : Int) ≤ y28_1_3 ∧ y28_1_3 ≤ 2147483647 := rngE (show (-2147483648 : Int) ≤ F28 1 3 ∧ F28 1 3 ≤ 2147483647 from H.krg 1 3 (ltn len_V106_thisorderFivea_oz_F5cls rfl)) (show F28 1 3 = y28_1_3 from ((eF28 1 3).trans ey28_1_3))
  have r32 : (-2147483648 : Int) ≤ y28_1_4 ∧ y28_1_4 ≤ 2147483647 := rngE (show (-2147483648 : Int) ≤ F28 1 4 ∧ F28 1 4 ≤ 2147483647 from H.krg 1 4 (ltn len_V106_thisorderFivea_oz_F5cls rfl)) (show F28 1 4 = y28_1_4 from ((eF28 1 4).trans ey28_1_4))
  have hph : p2 ((y28_1_4)) = 1 := by rw [show (y28_1_4) = 0 by omega]; decide
  have hT42 : RBB ((y28_1_2)) ((w28_3)) ((y28_1_1)) ((y28_1_3)) ((y28_1_4)) (byw (STB (dvP (cutP ((u3_1)) ((w13))) ((a2)) (p2 (a3))) ((y25_0_0)))) ([]) := by have h := (pz28_3 ⟨by omega, by omega, by have := p2_pos ((y28_1_4)); omega⟩).1 [] [] (RBB_new (by omega) (sc_nil (by omega)) (by omega) (by omega)); rw [List.nil_append, List.nil_append, ← hPD] at h; exact h
  have hc42 : (y28_1_1) ≤ 100 := by have h := (pz28_3 ⟨by omega, by omega, by omega⟩).2; omega
  have hpz : p2 (0 : Int) = 1 := by decide
  refine Ew_of (pcₚ := 43) (fun _ => x_aload_n rfl rfl) ?_
  refine Ew_stk (congrArg (fun qz : Nat => ([.ref qz] : List Value)) (show D22 0 = D 0 from mD22 0 rfl).symm) ?_
  refine v_g H (o := 0) (v := .ref (D22 3)) rfl rfl rfl rfl rfl (vrf ((mF28 0 6 rfl).trans ((pf3).trans (congrArg (fun q : Nat => (q : Int)) (mD22 3 rfl).symm)))) ?_
  refine Ew_of (pcₚ := 47) (fun _ => x_aload_n rfl rfl) ?_
  refine Ew_stk (congrArg (fun qz : Nat => ([.ref qz, .ref (D22 3)] : List Value)) (show D22 0 = D 0 from mD22 0 rfl).symm) ?_
  refine v_g H (o := 0) (v := .ref (D22 12)) rfl rfl rfl rfl rfl (vrf ((mF28 0 4 rfl).trans ((pf12).trans (congrArg (fun q : Nat => (q : Int)) (mD22 12 rfl).symm)))) ?_
  refine Ew_of (pcₚ := 51) (fun _ => x_iload_n rfl rfl) ?_
  refine Ew_of (pcₚ := 52) (fun _ => x_iconst rfl) ?_
  refine w_isub rfl ?_
  refine v_lI H (o := 12) rfl rfl rfl rfl (n := n12) ((congrArg (fun q : Nat => (q : Int)) (mN22 12 rfl)).trans (en12)) (show 0 ≤ (a2 - 1) ∧ (a2 - 1) < n12 from q_3783 h4 h6 r15) (fun v33 ev33 qv33 => ?_)
  have ev33 : (w12) ((a2 - 1)) = v33 := (congrFun ((funext (mA28 12 rfl)).trans (ew12)) ((a2 - 1))).symm.trans ev33
  have hwax := hwg ((a2) - 1) (by omega) (by omega)
  have heax := ev33
  rw [heax] at hwax
  have hcpx := WCN_pos hwc (by omega) (by omega) heax (by omega) (by omega)
  have hdpx := hdv ((v33)) (by omega) (by omega)
  obtain ⟨qx, hqx⟩ : ∃ q : Int, q = (v33) := ⟨_, rfl⟩
  have hxq : ((w12)) ((a2) - 1) = qx := by rw [hqx]; exact heax
  refine v_inv H (o := 3) rfl rfl rfl rfl rfl rfl (by rfl) (C174 (D := puc 37880551437274713425923 D22) (N := puc 37880551437274713425923 N22) (HW_subc H oz_F5cls_7 oz_F5cls_20) ((mF28 3 2 rfl).trans ((pf4).trans (congrArg (fun q : Nat => (q : Int)) (mD22 4 rfl).symm))) ((mF28 3 3 rfl).trans ((pf5).trans (congrArg (fun q : Nat => (q : Int)) (mD22 5 rfl).symm))) ((mF28 3 4 rfl).trans ((pf6).trans (congrArg (fun q : Nat => (q : Int)) (mD22 6 rfl).symm))) ((mF28 3 5 rfl).trans ((pf7).trans (congrArg (fun q : Nat => (q : Int)) (mD22 7 rfl).symm))) ((mF28 3 7 rfl).trans ((pf10).trans (congrArg (fun q : Nat => (q : Int)) (mD22 10 rfl).symm))) ((mF28 3 8 rfl).trans ((pf9).trans (congrArg (fun q : Nat => (q : Int)) (mD22 9 rfl).symm))) ((mF28 3 9 rfl).trans ((pf11).trans (congrArg (fun q : Nat => (q : Int)) (mD22 11 rfl).symm))) ((mF28 3 6 rfl).trans ((pf8).trans (congrArg (fun q : Nat => (q : Int)) (mD22 8 rfl).symm))) (n4) ((congrArg (fun q : Nat => (q : Int)) (mN22 4 rfl)).trans (en4)) (n5) ((congrArg (fun q : Nat => (q : Int)) (mN22 5 rfl)).trans (en5)) (n6) ((congrArg (fun q : Nat => (q : Int)) (mN22 6 rfl)).trans (en6)) (n7) ((congrArg (fun q : Nat => (q : Int)) (mN22 7 rfl)).trans (en7)) (n10) ((congrArg (fun q : Nat => (q : Int)) (mN22 10 rfl)).trans (en10)) (n9) ((congrArg (fun q : Nat => (q : Int)) (mN22 9 rfl)).trans (en9)) (n11) ((congrArg (fun q : Nat => (q : Int)) (mN22 11 rfl)).trans (en11)) (n8) ((congrArg (fun q : Nat => (q : Int)) (mN22 8 rfl)).trans (en8)) (y25_0_0) (((((show F28 3 0 = F27 3 0 from (eF28 3 0).trans (hS28 0 0 rfl))).trans ((show F27 3 0 = F25 3 0 from (eF27 3 0).trans (hS27 0 0 rfl)))).trans ((eF25 3 0).trans ey25_0_0))) (u3_1) (((mF28 3 1 rfl).trans (eu3_1))) (w25_2) (((show A28 4 = A27 4 from (eA28 4).trans (funext (hA28 2 rfl)))).trans (((show A27 4 = A25 4 from (eA27 4).trans (funext (hA27 1 rfl)))).trans ((eA25 4).trans ew25_2))) (w27_2) (((show A28 5 = A27 5 from (eA28 5))).trans ((eA27 5).trans ew27_2)) (w27_3) (((show A28 6 = A27 6 from (eA28 6))).trans ((eA27 6).trans ew27_3)) (w27_4) (((show A28 7 = A27 7 from (eA28 7))).trans ((eA27 7).trans ew27_4)) (w27_7) (((show A28 10 = A27 10 from (eA28 10))).trans ((eA27 10).trans ew27_7)) (w27_6) (((show A28 9 = A27 9 from (eA28 9))).trans ((eA27 9).trans ew27_6)) (w27_8) (((show A28 11 = A27 11 from (eA28 11))).trans ((eA27 11).trans ew27_8)) (show inr (v33) from qv33) (pz27_0) (show (n4) = (u3_1) ∧ (n5) = (u3_1) ∧ (n6) = (u3_1) ∧ (n7) = (u3_1) ∧ (n8) = (u3_1) ∧ (n9) = (n10) ∧ (n11) = (n10) ∧ p2 ((y25_0_0)) ≤ (n10) from q_3779 h3 hp6 hpo) (show 0 ≤ (v33) ∧ (v33) < ((u3_1)) ∧ ((w25_2)) (v33) ≠ 0 by omega) (fun z34 σ34 F34ₚ A34ₚ Hₚ Oₚ hS34 hA34 pz34_0 pz34_1 pz34_2 => ⟨rfl, ?_⟩))
  refine v_backc (c := (c + c22)) (s := (s + s22)) H oz_F5cls_7 oz_F5cls_20 Hₚ Oₚ (fun F34 A34 H Oₚ eF34 eA34 => ?_)
  have O := OUT_trans O Oₚ
  -- Share.lowestPlace
  have cF34 : SF oz_F5clsl_0 F F34 := SF_trans (cF28) (SF_gluc (ι := oz_F5clsl_8) oz_F5cls_20 hS34 eF34 (by decide +kernel)) (any_sub (lₚ := []) (by decide +kernel))
  have mF34 := SFm_of cF34 oz_F5cls_12
  have cA34 : SA oz_F5clsl_1 A A34 := SA_trans (cA28) (SA_gluc (ι := oz_F5clsl_8) oz_F5cls_20 hA34 eA34 (by decide +kernel)) (any_subA (lₚ := []) (by decide +kernel))
  have mA34 := SAm_of cA34 oz_F5cls_13
  have hlo1 : loF ((((y25_0_0)), 12, (dvP (cutP ((u3_1)) ((w13))) ((a2)) (p2 (a3)))) : Tb) qx = (z34) := by rw [hqx]; exact loF_e hTB (SL_LOW (by omega) pz34_2.1 pz34_2.2)
  refine Ew_of (pcₚ := 59) (fun _ => x_istore rfl) ?_
  refine Ew_of (pcₚ := 60) (fun _ => x_aload_n rfl (rk_o (rfl) rfl rfl)) ?_
  refine Ew_stk (congrArg (fun qz : Nat => ([.ref qz] : List Value)) (show D22 0 = D 0 from mD22 0 rfl).symm) ?_
  refine v_g H (o := 0) (v := .ref (D22 3)) rfl rfl rfl rfl rfl (vrf ((mF34 0 6 rfl).trans ((pf3).trans (congrArg (fun q : Nat => (q : Int)) (mD22 3 rfl).symm)))) ?_
  refine Ew_of (pcₚ := 64) (fun _ => x_aload_n rfl (rk_o (rfl) rfl rfl)) ?_
  refine Ew_stk (congrArg (fun qz : Nat => ([.ref qz, .ref (D22 3)] : List Value)) (show D22 0 = D 0 from mD22 0 rfl).symm) ?_
  refine v_g H (o := 0) (v := .ref (D22 12)) rfl rfl rfl rfl rfl (vrf ((mF34 0 4 rfl).trans ((pf12).trans (congrArg (fun q : Nat => (q : Int)) (mD22 12 rfl).symm)))) ?_
  refine Ew_of (pcₚ := 68) (fun _ => x_iload_n rfl (rk_o (rfl) rfl rfl)) ?_
  refine Ew_of (pcₚ := 69) (fun _ => x_iconst rfl) ?_
  refine w_isub rfl ?_
  refine v_lI H (o := 12) rfl rfl rfl rfl (n := n12) ((congrArg (fun q : Nat => (q : Int)) (mN22 12 rfl)).trans (en12)) (show 0 ≤ (a2 - 2) ∧ (a2 - 2) < n12 from q_3784 h4 h6 r15) (fun v35 ev35 qv35 => ?_)
  have ev35 : (w12) ((a2 - 2)) = v35 := (congrFun ((funext (mA34 12 rfl)).trans (ew12)) ((a2 - 2))).symm.trans ev35
  have hway := hwg ((a2) - 2) (by omega) (by omega)
  have heay := ev35
  rw [heay] at hway
  have hcpy := WCN_pos hwc (by omega) (by omega) heay (by omega) (by omega)
  have hdpy := hdv ((v35)) (by omega) (by omega)
  obtain ⟨qy, hqy⟩ : ∃ q : Int, q = (v35) := ⟨_, rfl⟩
  have hyq : ((w12)) ((a2) - 2) = qy := by rw [hqy]; exact heay
  refine v_inv H (o := 3) rfl rfl rfl rfl rfl rfl (by rfl) (C174 (D := puc 37880551437274713425923 D22) (N := puc 37880551437274713425923 N22) (HW_subc H oz_F5cls_7 oz_F5cls_20) ((mF34 3 2 rfl).trans ((pf4).trans (congrArg (fun q : Nat => (q : Int)) (mD22 4 rfl).symm))) ((mF34 3 3 rfl).trans ((pf5).trans (congrArg (fun q : Nat => (q : Int)) (mD22 5 rfl).symm))) ((mF34 3 4 rfl).trans ((pf6).trans (congrArg (fun q : Nat => (q : Int)) (mD22 6 rfl).symm))) ((mF34 3 5 rfl).trans ((pf7).trans (congrArg (fun q : Nat => (q : Int)) (mD22 7 rfl).symm))) ((mF34 3 7 rfl).trans ((pf10).trans (congrArg (fun q : Nat => (q : Int)) (mD22 10 rfl).symm))) ((mF34 3 8 rfl).trans ((pf9).trans (congrArg (fun q : Nat => (q : Int)) (mD22 9 rfl).symm))) ((mF34 3 9 rfl).trans ((pf11).trans (congrArg (fun q : Nat => (q : Int)) (mD22 11 rfl).symm))) ((mF34 3 6 rfl).trans ((pf8).trans (congrArg (fun q : Nat => (q : Int)) (mD22 8 rfl).symm))) (n4) ((congrArg (fun q : Nat => (q : Int)) (mN22 4 rfl)).trans (en4)) (n5) ((congrArg (fun q : Nat => (q : Int)) (mN22 5 rfl)).trans (en5)) (n6) ((congrArg (fun q : Nat => (q : Int)) (mN22 6 rfl)).trans (en6)) (n7) ((congrArg (fun q : Nat => (q : Int)) (mN22 7 rfl)).trans (en7)) (n10) ((congrArg (fun q : Nat => (q : Int)) (mN22 10 rfl)).trans (en10)) (n9) ((congrArg (fun q : Nat => (q : Int)) (mN22 9 rfl)).trans (en9)) (n11) ((congrArg (fun q : Nat => (q : Int)) (mN22 11 rfl)).trans (en11)) (n8) ((congrArg (fun q : Nat => (q : Int)) (mN22 8 rfl)).trans (en8)) (y25_0_0) ((((((show F34 3 0 = F28 3 0 from (eF34 3 0).trans (hS34 0 0 rfl))).trans ((show F28 3 0 = F27 3 0 from (eF28 3 0).trans (hS28 0 0 rfl)))).trans ((show F27 3 0 = F25 3 0 from (eF27 3 0).trans (hS27 0 0 rfl)))).trans ((eF25 3 0).trans ey25_0_0))) (u3_1) (((mF34 3 1 rfl).trans (eu3_1))) (w25_2) (((show A34 4 = A28 4 from (eA34 4).trans (funext (hA34 1 rfl)))).trans (((show A28 4 = A27 4 from (eA28 4).trans (funext (hA28 2 rfl)))).trans (((show A27 4 = A25 4 from (eA27 4).trans (funext (hA27 1 rfl)))).trans ((eA25 4).trans ew25_2)))) (w27_2) (((show A34 5 = A28 5 from (eA34 5).trans (funext (hA34 2 rfl)))).trans (((show A28 5 = A27 5 from (eA28 5))).trans ((eA27 5).trans ew27_2))) (w27_3) (((show A34 6 = A28 6 from (eA34 6).trans (funext (hA34 3 rfl)))).trans (((show A28 6 = A27 6 from (eA28 6))).trans ((eA27 6).trans ew27_3))) (w27_4) (((show A34 7 = A28 7 from (eA34 7).trans (funext (hA34 4 rfl)))).trans (((show A28 7 = A27 7 from (eA28 7))).trans ((eA27 7).trans ew27_4))) (w27_7) (((show A34 10 = A28 10 from (eA34 10).trans (funext (hA34 5 rfl)))).trans (((show A28 10 = A27 10 from (eA28 10))).trans ((eA27 10).trans ew27_7))) (w27_6) (((show A34 9 = A28 9 from (eA34 9).trans (funext (hA34 6 rfl)))).trans (((show A28 9 = A27 9 from (eA28 9))).trans ((eA27 9).trans ew27_6))) (w27_8) (((show A34 11 = A28 11 from (eA34 11).trans (funext (hA34 7 rfl)))).trans (((show A28 11 = A27 11 from (eA28 11))).trans ((eA27 11).trans ew27_8))) (show inr (v35) from qv35) (pz27_0) (show (n4) = (u3_1) ∧ (n5) = (u3_1) ∧ (n6) = (u3_1) ∧ (n7) = (u3_1) ∧ (n8) = (u3_1) ∧ (n9) = (n10) ∧ (n11) = (n10) ∧ p2 ((y25_0_0)) ≤ (n10) from q_3779 h3 hp6 hpo) (show 0 ≤ (v35) ∧ (v35) < ((u3_1)) ∧ ((w25_2)) (v35) ≠ 0 by omega) (fun z36 σ36 F36ₚ A36ₚ Hₚ Oₚ hS36 hA36 pz36_0 pz36_1 pz36_2 => ⟨rfl, ?_⟩))
  refine v_backc (c := (c + c22)) (s := (s + s22)) H oz_F5cls_7 oz_F5cls_20 Hₚ Oₚ (fun F36 A36 H Oₚ eF36 eA36 => ?_)
  have O := OUT_trans O Oₚ
  -- Share.lowestPlace
  have cF36 : SF oz_F5clsl_0 F F36 := SF_trans (cF34) (SF_gluc (ι := oz_F5clsl_8) oz_F5cls_20 hS36 eF36 (by decide +kernel)) (any_sub (lₚ := []) (by decide +kernel))
  have mF36 := SFm_of cF36 oz_F5cls_12
  have cA36 : SA oz_F5clsl_1 A A36 := SA_trans (cA34) (SA_gluc (ι := oz_F5clsl_8) oz_F5cls_20 hA36 eA36 (by decide +kernel)) (any_subA (lₚ := []) (by decide +kernel))
  have mA36 := SAm_of cA36 oz_F5cls_13
  have hlo2 : loF ((((y25_0_0)), 12, (dvP (cutP ((u3_1)) ((w13))) ((a2)) (p2 (a3)))) : Tb) qy = (z36) := by rw [hqy]; exact loF_e hTB (SL_LOW (by omega) pz36_2.1 pz36_2.2)
  refine Ew_of (pcₚ := 76) (fun _ => x_istore rfl) ?_
  refine Ew_of (pcₚ := 77) (fun _ => x_iload_n rfl (rk_o (rk_o (rfl) rfl rfl) rfl rfl)) ?_
  refine Ew_of (pcₚ := 78) (fun _ => x_iconst rfl) ?_
  refine w_isub rfl ?_
  refine Ew_of (pcₚ := 81) (fun _ => x_istore rfl) ?_
  have hw81 : ∃ B, WSO ((((y25_0_0)), 12, (dvP (cutP ((u3_1)) ((w13))) ((a2)) (p2 (a3)))) : Tb) ((w12)) ((a2)) (((a2 - 3))) ((z34)) ((z36)) B ∧ RBB ((y28_1_2)) ((w28_3)) ((y28_1_1)) ((y28_1_3)) ((y28_1_4)) (byw (STB (dvP (cutP ((u3_1)) ((w13))) ((a2)) (p2 (a3))) ((y25_0_0)))) (B) := ⟨[], WSO_0 hlo1 hxq hlo2 hyq (by omega), hT42⟩
  suffices hl81 : ∀ (m : Nat), ∀ (ls : rO) (σ : rS) (F_81 : hF) (A_81 : hA) (x81_4 : Int) (x81_5 : Int) (x81_6 : Int), rlook ls 0 = some (.ref (D22 0)) → rlook ls 1 = some (.ref (D22 1)) → rlook ls 3 = some (I (a3)) → rlook ls 4 = some (I (x81_4)) → rlook ls 5 = some (I (x81_5)) → rlook ls 6 = some (I (x81_6)) → HW V106_thisorderFivea σ D22 N22 F_81 A_81 → OUT (V106_thisorderFivea).length D N σE c s D22 N22 σ (c + c22) (s + s22) → SF [(1, 1), (1, 2), (1, 3), (1, 4)] F36 F_81 → SA [2] A36 A_81 → ∀ y81_1_1 : Int, F_81 1 1 = y81_1_1 → ∀ y81_1_2 : Int, F_81 1 2 = y81_1_2 → ∀ y81_1_3 : Int, F_81 1 3 = y81_1_3 → ∀ y81_1_4 : Int, F_81 1 4 = y81_1_4 → ∀ w81_2 : Int → Int, A_81 2 = w81_2 → (inr (x81_4)) → (inr (x81_5)) → (inr (x81_6)) → ((x81_6) ≤ ((a2 - 3))) → (((a2 - 3)) ≤ (x81_6) ∨ ((-1)) ≤ (x81_6)) → (0 ≤ (x81_4) ∧ (x81_4) < p2 ((y25_0_0))) → (0 ≤ (x81_5) ∧ (x81_5) < p2 ((y25_0_0))) → (0 ≤ (y81_1_1) ∧ (y81_1_1) ≤ (m22_1) ∧ (m22_1) ≤ 65536) → (0 ≤ (y81_1_4) ∧ (y81_1_4) ≤ 7) → (0 ≤ (y81_1_3) ∧ (y81_1_3) < p2 ((y81_1_4))) → (8 * (y81_1_1) + (y81_1_4) ≤ 808 + 6 * ((a2) - 3 - (x81_6))) → (128 + (a2) ≤ (m22_1)) → (-1 ≤ (x81_6)) → (∃ B, WSO ((((y25_0_0)), 12, (dvP (cutP ((u3_1)) ((w13))) ((a2)) (p2 (a3)))) : Tb) ((w12)) ((a2)) ((x81_6)) ((x81_4)) ((x81_5)) B ∧ RBB ((y81_1_2)) ((w81_2)) ((y81_1_1)) ((y81_1_3)) ((y81_1_4)) (byw (STB (dvP (cutP ((u3_1)) ((w13))) ((a2)) (p2 (a3))) ((y25_0_0)))) (B)) → ((x81_6) - ((-1))).toNat = m → Ew 106 (d + 2) 81 ls [] σ (c + c22) (s + s22) Q from
    hl81 _ _ _ _ _ (z34) (z36) ((a2 - 3)) ((rk_o (rk_o (rk_o (rfl) rfl rfl) rfl rfl) rfl rfl).trans (congrArg (fun q : Nat => some (Value.ref q)) (mD22 0 rfl).symm)) ((rk_o (rk_o (rk_o (rfl) rfl rfl) rfl rfl) rfl rfl).trans (congrArg (fun q : Nat => some (Value.ref q)) (mD22 1 rfl).symm)) (rk_o (rk_o (rk_o (rfl) rfl rfl) rfl rfl) rfl rfl) (rk_o (rk_o (rk_s) rfl rfl) rfl rfl) (rk_o (rk_s) rfl rfl) (rk_s) H O (SF_refl) (SA_refl)   (y28_1_1) (((((show F36 1 1 = F34 1 1 from (eF36 1 1))).trans ((show F34 1 1 = F28 1 1 from (eF34 1 1)))).trans ((eF28 1 1).trans ey28_1_1))) (y28_1_2) (((((show F36 1 2 = F34 1 2 from (eF36 1 2))).trans ((show F34 1 2 = F28 1 2 from (eF34 1 2)))).trans ((eF28 1 2).trans ey28_1_2))) (y28_1_3) (((((show F36 1 3 = F34 1 3 from (eF36 1 3))).trans ((show F34 1 3 = F28 1 3 from (eF34 1 3)))).trans ((eF28 1 3).trans ey28_1_3))) (y28_1_4) (((((show F36 1 4 = F34 1 4 from (eF36 1 4))).trans ((show F34 1 4 = F28 1 4 from (eF34 1 4)))).trans ((eF28 1 4).trans ey28_1_4))) (w28_3) (((show A36 2 = A34 2 from (eA36 2))).trans (((show A34 2 = A28 2 from (eA34 2))).trans ((eA28 2).trans ew28_3))) (show inr (z34) from pz34_0) (show inr (z36) from pz36_0) (show inr ((a2 - 3)) from q_3792 h4) (show ((a2 - 3)) ≤ ((a2 - 3)) from q_3791) (show ((a2 - 3)) ≤ ((a2 - 3)) ∨ ((-1)) ≤ ((a2 - 3)) from q_3790) (show 0 ≤ (z34) ∧ (z34) < p2 ((y25_0_0)) from pz34_1) (show 0 ≤ (z36) ∧ (z36) < p2 ((y25_0_0)) from pz36_1) (show 0 ≤ (y28_1_1) ∧ (y28_1_1) ≤ (m22_1) ∧ (m22_1) ≤ 65536 from pz28_0) (show 0 ≤ (y28_1_4) ∧ (y28_1_4) ≤ 7 from q_3789 pz28_1) (show 0 ≤ (y28_1_3) ∧ (y28_1_3) < p2 ((y28_1_4)) from q_3788 hph pz28_4) (show 8 * (y28_1_1) + (y28_1_4) ≤ 808 + 6 * ((a2) - 3 - ((a2 - 3))) from q_3787 hc42 pz28_1) (show 128 + (a2) ≤ (m22_1) from q_3786 h4 pz22_1 pz22_2 r23) (show -1 ≤ ((a2 - 3)) from q_3785 h4) (hw81) rfl
  as_aux_lemma =>
  intro m
  induction m using Nat.strongRecOn with
  | _ m ih81 =>
    intro ls σ F_81 A_81 x81_4 x81_5 x81_6 l81_0 l81_1 l81_3 l81_4 l81_5 l81_6 H O hS_81 hA_81   y81_1_1 ey81_1_1 y81_1_2 ey81_1_2 y81_1_3 ey81_1_3 y81_1_4 ey81_1_4 w81_2 ew81_2 j81_0 j81_1 j81_2 j81_3 j81_4 j81_5 j81_6 j81_7 j81_8 j81_9 j81_10 j81_11 j81_12 j81_13 hm81
    have cF_81 : SF oz_F5clsl_0 F F_81 := SF_trans (cF36) hS_81 (any_sub (by decide +kernel))
    have mF_81 := SFm_of cF_81 oz_F5cls_12
    have cA_81 : SA oz_F5clsl_1 A A_81 := SA_trans (cA36) hA_81 (any_subA (by decide +kernel))
    have mA_81 := SAm_of cA_81 oz_F5cls_13
    try clear pz22_2
    have r37 : (-2147483648 : Int) ≤ y81_1_1 ∧ y81_1_1 ≤ 2147483647 := rngE (show (-2147483648 : Int) ≤ F_81 1 1 ∧ F_81 1 1 ≤ 2147483647 from H.krg 1 1 (ltn len_V106_thisorderFivea_oz_F5cls rfl)) (show F_81 1 1 = y81_1_1 from (ey81_1_1))
    have r38 : (0 : Int) ≤ y81_1_2 ∧ y81_1_2 ≤ 1 := rngE (show (0 : Int) ≤ F_81 1 2 ∧ F_81 1 2 ≤ 1 from H.krg 1 2 (ltn len_V106_thisorderFivea_oz_F5cls rfl)) (show F_81 1 2 = y81_1_2 from (ey81_1_2))
    have r39 : (-2147483648 : Int) ≤ y81_1_3 ∧ y81_1_3 ≤ 2147483647 := rngE (show (-2147483648 : Int) ≤ F_81 1 3 ∧ F_81 1 3 ≤ 2147483647 from H.krg 1 3 (ltn len_V106_thisorderFivea_oz_F5cls rfl)) (show F_81 1 3 = y81_1_3 from (ey81_1_3))
    have r40 : (-2147483648 : Int) ≤ y81_1_4 ∧ y81_1_4 ≤ 2147483647 := rngE (show (-2147483648 : Int) ≤ F_81 1 4 ∧ F_81 1 4 ≤ 2147483647 from H.krg 1 4 (ltn len_V106_thisorderFivea_oz_F5cls rfl)) (show F_81 1 4 = y81_1_4 from (ey81_1_4))
    have j81_w : ∃ B, WSO ((((y25_0_0)), 12, (dvP (cutP ((u3_1)) ((w13))) ((a2)) (p2 (a3)))) : Tb) ((w12)) ((a2)) ((x81_6)) ((x81_4)) ((x81_5)) B ∧ RBB ((y81_1_2)) ((w81_2)) ((y81_1_1)) ((y81_1_3)) ((y81_1_4)) (byw (STB (dvP (cutP ((u3_1)) ((w13))) ((a2)) (p2 (a3))) ((y25_0_0)))) (B) := by assumption
    obtain ⟨B_, hWS, hRB⟩ := j81_w
    refine Ew_of (pcₚ := 83) (fun _ => x_iload rfl l81_6) ?_
    refine w_iflt (t := 146) rfl rfl (show inr (x81_6) from j81_2) (fun b41 => ?_) (fun b41 => ?_)
    · refine Ew_of (pcₚ := 147) (fun _ => x_aload_n rfl l81_1) ?_
      refine Ew_of (pcₚ := 149) (fun _ => x_iload rfl l81_4) ?_
      refine Ew_of (pcₚ := 150) (fun _ => x_iload_n rfl l81_3) ?_
      refine v_inv H (o := 1) rfl rfl rfl rfl rfl rfl (by rfl) (C164 (D := puc 1025 D22) (N := puc 1025 N22) (HW_subc H oz_F5cls_8 oz_F5cls_16) ((((((((hS_81 1 0 rfl).trans ((show F36 1 0 = F34 1 0 from (eF36 1 0)))).trans ((show F34 1 0 = F28 1 0 from (eF34 1 0)))).trans ((show F28 1 0 = F27 1 0 from (eF28 1 0).trans (hS28 1 0 rfl)))).trans ((show F27 1 0 = F25 1 0 from (eF27 1 0)))).trans ((show F25 1 0 = F22 1 0 from (eF25 1 0))))).trans (pf22_1_0)) (m22_1) ((congrArg (fun q : Nat => (q : Int)) (eN22 2)).trans em22_1) (y81_1_1) ((ey81_1_1)) (y81_1_2) ((ey81_1_2)) (y81_1_3) ((ey81_1_3)) (y81_1_4) ((ey81_1_4)) (w81_2) (ew81_2) (show inr (x81_4) from j81_0) (show inr (a3) from h1) (show 0 ≤ (y81_1_1) ∧ (y81_1_1) ≤ (m22_1) ∧ (m22_1) ≤ 65536 from j81_7) (show 0 ≤ (a3) ∧ (a3) ≤ 31 from q_2512 h5) (show 0 ≤ (y81_1_4) ∧ (y81_1_4) ≤ 7 from j81_8) (fun σ42 F42ₚ A42ₚ Hₚ Oₚ hS42 hA42 y42_0_1 ey42_0_1 y42_0_2 ey42_0_2 y42_0_3 ey42_0_3 y42_0_4 ey42_0_4 w42_1 ew42_1 pz42_0 pz42_1 pz42_2 pz42_3 => ⟨rfl, ?_⟩))
      refine v_backc (c := (c + c22)) (s := (s + s22)) H oz_F5cls_8 oz_F5cls_16 Hₚ Oₚ (fun F42 A42 H Oₚ eF42 eA42 => ?_)
      have O := OUT_trans O Oₚ
      -- Row.addBits
      have cF42 : SF oz_F5clsl_0 F F42 := SF_trans (cF_81) (SF_gluc (ι := oz_F5clsl_4) oz_F5cls_16 hS42 eF42 (by decide +kernel)) (any_sub (lₚ := [(1, 1), (1, 2), (1, 3), (1, 4)]) (by decide +kernel))
      have mF42 := SFm_of cF42 oz_F5cls_12
      have cA42 : SA oz_F5clsl_1 A A42 := SA_trans (cA_81) (SA_gluc (ι := oz_F5clsl_4) oz_F5cls_16 hA42 eA42 (by decide +kernel)) (any_subA (lₚ := [2]) (by decide +kernel))
      have mA42 := SAm_of cA42 oz_F5cls_13
      have r43 : (-2147483648 : Int) ≤ y42_0_1 ∧ y42_0_1 ≤ 2147483647 := rngE (show (-2147483648 : Int) ≤ F42 1 1 ∧ F42 1 1 ≤ 2147483647 from H.krg 1 1 (ltn len_V106_thisorderFivea_oz_F5cls rfl)) (show F42 1 1 = y42_0_1 from ((eF42 1 1).trans ey42_0_1))
      have r44 : (0 : Int) ≤ y42_0_2 ∧ y42_0_2 ≤ 1 := rngE (show (0 : Int) ≤ F42 1 2 ∧ F42 1 2 ≤ 1 from H.krg 1 2 (ltn len_V106_thisorderFivea_oz_F5cls rfl)) (show F42 1 2 = y42_0_2 from ((eF42 1 2).trans ey42_0_2))
      have r45 : (-2147483648 : Int) ≤ y42_0_3 ∧ y42_0_3 ≤ 2147483647 := rngE (show (-2147483648 : Int) ≤ F42 1 3 ∧ F42 1 3 ≤ 2147483647 from H.krg 1 3 (ltn len_V106_thisorderFivea_oz_F5cls rfl)) (show F42 1 3 = y42_0_3 from ((eF42 1 3).trans ey42_0_3))
      have r46 : (-2147483648 : Int) ≤ y42_0_4 ∧ y42_0_4 ≤ 2147483647 := rngE (show (-2147483648 : Int) ≤ F42 1 4 ∧ F42 1 4 ≤ 2147483647 from H.krg 1 4 (ltn len_V106_thisorderFivea_oz_F5cls rfl)) (show F42 1 4 = y42_0_4 from ((eF42 1 4).trans ey42_0_4))
      have ha1 := pz42_3 ⟨by omega, by omega, by omega, by omega⟩
      have ha11 := ha1.1 _ _ hRB
      have ha12 := ha1.2.1
      have ha13 := ha1.2.2
      refine Ew_of (pcₚ := 154) (fun _ => x_aload_n rfl l81_1) ?_
      refine Ew_of (pcₚ := 156) (fun _ => x_iload rfl l81_5) ?_
      refine Ew_of (pcₚ := 157) (fun _ => x_iload_n rfl l81_3) ?_
      refine v_inv H (o := 1) rfl rfl rfl rfl rfl rfl (by rfl) (C164 (D := puc 1025 D22) (N := puc 1025 N22) (HW_subc H oz_F5cls_8 oz_F5cls_16) ((((((((((show F42 1 0 = F_81 1 0 from (eF42 1 0).trans (hS42 0 0 rfl))).trans (hS_81 1 0 rfl)).trans ((show F36 1 0 = F34 1 0 from (eF36 1 0)))).trans ((show F34 1 0 = F28 1 0 from (eF34 1 0)))).trans ((show F28 1 0 = F27 1 0 from (eF28 1 0).trans (hS28 1 0 rfl)))).trans ((show F27 1 0 = F25 1 0 from (eF27 1 0)))).trans ((show F25 1 0 = F22 1 0 from (eF25 1 0))))).trans (pf22_1_0)) (m22_1) ((congrArg (fun q : Nat => (q : Int)) (eN22 2)).trans em22_1) (y42_0_1) (((eF42 1 1).trans ey42_0_1)) (y42_0_2) (((eF42 1 2).trans ey42_0_2)) (y42_0_3) (((eF42 1 3).trans ey42_0_3)) (y42_0_4) (((eF42 1 4).trans ey42_0_4)) (w42_1) ((eA42 2).trans ew42_1) (show inr (x81_5) from j81_1) (show inr (a3) from h1) (show 0 ≤ (y42_0_1) ∧ (y42_0_1) ≤ (m22_1) ∧ (m22_1) ≤ 65536 from pz42_0) (show 0 ≤ (a3) ∧ (a3) ≤ 31 from q_2512 h5) (show 0 ≤ (y42_0_4) ∧ (y42_0_4) ≤ 7 from pz42_2) (fun σ47 F47ₚ A47ₚ Hₚ Oₚ hS47 hA47 y47_0_1 ey47_0_1 y47_0_2 ey47_0_2 y47_0_3 ey47_0_3 y47_0_4 ey47_0_4 w47_1 ew47_1 pz47_0 pz47_1 pz47_2 pz47_3 => ⟨rfl, ?_⟩))
      refine v_backc (c := (c + c22)) (s := (s + s22)) H oz_F5cls_8 oz_F5cls_16 Hₚ Oₚ (fun F47 A47 H Oₚ eF47 eA47 => ?_)
      have O := OUT_trans O Oₚ
      -- Row.addBits
      have cF47 : SF oz_F5clsl_0 F F47 := SF_trans (cF42) (SF_gluc (ι := oz_F5clsl_4) oz_F5cls_16 hS47 eF47 (by decide +kernel)) (any_sub (lₚ := [(1, 1), (1, 2), (1, 3), (1, 4)]) (by decide +kernel))
      have mF47 := SFm_of cF47 oz_F5cls_12
      have cA47 : SA oz_F5clsl_1 A A47 := SA_trans (cA42) (SA_gluc (ι := oz_F5clsl_4) oz_F5cls_16 hA47 eA47 (by decide +kernel)) (any_subA (lₚ := [2]) (by decide +kernel))
      have mA47 := SAm_of cA47 oz_F5cls_13
      have r48 : (-2147483648 : Int) ≤ y47_0_1 ∧ y47_0_1 ≤ 2147483647 := rngE (show (-2147483648 : Int) ≤ F47 1 1 ∧ F47 1 1 ≤ 2147483647 from H.krg 1 1 (ltn len_V106_thisorderFivea_oz_F5cls rfl)) (show F47 1 1 = y47_0_1 from ((eF47 1 1).trans ey47_0_1))
      have r49 : (0 : Int) ≤ y47_0_2 ∧ y47_0_2 ≤ 1 := rngE (show (0 : Int) ≤ F47 1 2 ∧ F47 1 2 ≤ 1 from H.krg 1 2 (ltn len_V106_thisorderFivea_oz_F5cls rfl)) (show F47 1 2 = y47_0_2 from ((eF47 1 2).trans ey47_0_2))
      have r50 : (-2147483648 : Int) ≤ y47_0_3 ∧ y47_0_3 ≤ 2147483647 := rngE (show (-2147483648 : Int) ≤ F47 1 3 ∧ F47 1 3 ≤ 2147483647 from H.krg 1 3 (ltn len_V106_thisorderFivea_oz_F5cls rfl)) (show F47 1 3 = y47_0_3 from ((eF47 1 3).trans ey47_0_3))
      have r51 : (-2147483648 : Int) ≤ y47_0_4 ∧ y47_0_4 ≤ 2147483647 := rngE (show (-2147483648 : Int) ≤ F47 1 4 ∧ F47 1 4 ≤ 2147483647 from H.krg 1 4 (ltn len_V106_thisorderFivea_oz_F5cls rfl)) (show F47 1 4 = y47_0_4 from ((eF47 1 4).trans ey47_0_4))
      have ha2 := pz47_3 ⟨by omega, by omega, by omega, by omega⟩
      have ha21 := ha2.1 _ _ ha11
      have ha22 := ha2.2.1
      have ha23 := ha2.2.2
      refine Ew_of (pcₚ := 161) (fun _ => x_aload_n rfl l81_1) ?_
      refine Ew_of (pcₚ := 162) (fun _ => x_iconst rfl) ?_
      refine Ew_of (pcₚ := 163) (fun _ => x_iconst rfl) ?_
      refine v_inv H (o := 1) rfl rfl rfl rfl rfl rfl (by rfl) (C164 (D := puc 1025 D22) (N := puc 1025 N22) (HW_subc H oz_F5cls_8 oz_F5cls_16) (((((((((((show F47 1 0 = F42 1 0 from (eF47 1 0).trans (hS47 0 0 rfl))).trans ((show F42 1 0 = F_81 1 0 from (eF42 1 0).trans (hS42 0 0 rfl)))).trans (hS_81 1 0 rfl)).trans ((show F36 1 0 = F34 1 0 from (eF36 1 0)))).trans ((show F34 1 0 = F28 1 0 from (eF34 1 0)))).trans ((show F28 1 0 = F27 1 0 from (eF28 1 0).trans (hS28 1 0 rfl)))).trans ((show F27 1 0 = F25 1 0 from (eF27 1 0)))).trans ((show F25 1 0 = F22 1 0 from (eF25 1 0))))).trans (pf22_1_0)) (m22_1) ((congrArg (fun q : Nat => (q : Int)) (eN22 2)).trans em22_1) (y47_0_1) (((eF47 1 1).trans ey47_0_1)) (y47_0_2) (((eF47 1 2).trans ey47_0_2)) (y47_0_3) (((eF47 1 3).trans ey47_0_3)) (y47_0_4) (((eF47 1 4).trans ey47_0_4)) (w47_1) ((eA47 2).trans ew47_1) (show inr (1) from q_135) (show inr (1) from q_135) (show 0 ≤ (y47_0_1) ∧ (y47_0_1) ≤ (m22_1) ∧ (m22_1) ≤ 65536 from pz47_0) (show 0 ≤ (1) ∧ (1) ≤ 31 from q_2204) (show 0 ≤ (y47_0_4) ∧ (y47_0_4) ≤ 7 from pz47_2) (fun σ52 F52ₚ A52ₚ Hₚ Oₚ hS52 hA52 y52_0_1 ey52_0_1 y52_0_2 ey52_0_2 y52_0_3 ey52_0_3 y52_0_4 ey52_0_4 w52_1 ew52_1 pz52_0 pz52_1 pz52_2 pz52_3 => ⟨rfl, ?_⟩))
      refine v_backc (c := (c + c22)) (s := (s + s22)) H oz_F5cls_8 oz_F5cls_16 Hₚ Oₚ (fun F52 A52 H Oₚ eF52 eA52 => ?_)
      have O := OUT_trans O Oₚ
      -- Row.addBits
      have cF52 : SF oz_F5clsl_0 F F52 := SF_trans (cF47) (SF_gluc (ι := oz_F5clsl_4) oz_F5cls_16 hS52 eF52 (by decide +kernel)) (any_sub (lₚ := [(1, 1), (1, 2), (1, 3), (1, 4)]) (by decide +kernel))
      have mF52 := SFm_of cF52 oz_F5cls_12
      have cA52 : SA oz_F5clsl_1 A A52 := SA_trans (cA47) (SA_gluc (ι := oz_F5clsl_4) oz_F5cls_16 hA52 eA52 (by decide +kernel)) (any_subA (lₚ := [2]) (by decide +kernel))
      have mA52 := SAm_of cA52 oz_F5cls_13
      have r53 : (-2147483648 : Int) ≤ y52_0_1 ∧ y52_0_1 ≤ 2147483647 := rngE (show (-2147483648 : Int) ≤ F52 1 1 ∧ F52 1 1 ≤ 2147483647 from H.krg 1 1 (ltn len_V106_thisorderFivea_oz_F5cls rfl)) (show F52 1 1 = y52_0_1 from ((eF52 1 1).trans ey52_0_1))
      have r54 : (0 : Int) ≤ y52_0_2 ∧ y52_0_2 ≤ 1 := rngE (show (0 : Int) ≤ F52 1 2 ∧ F52 1 2 ≤ 1 from H.krg 1 2 (ltn len_V106_thisorderFivea_oz_F5cls rfl)) (show F52 1 2 = y52_0_2 from ((eF52 1 2).trans ey52_0_2))
      have r55 : (-2147483648 : Int) ≤ y52_0_3 ∧ y52_0_3 ≤ 2147483647 := rngE (show (-2147483648 : Int) ≤ F52 1 3 ∧ F52 1 3 ≤ 2147483647 from H.krg 1 3 (ltn len_V106_thisorderFivea_oz_F5cls rfl)) (show F52 1 3 = y52_0_3 from ((eF52 1 3).trans ey52_0_3))
      have r56 : (-2147483648 : Int) ≤ y52_0_4 ∧ y52_0_4 ≤ 2147483647 := rngE (show (-2147483648 : Int) ≤ F52 1 4 ∧ F52 1 4 ≤ 2147483647 from H.krg 1 4 (ltn len_V106_thisorderFivea_oz_F5cls rfl)) (show F52 1 4 = y52_0_4 from ((eF52 1 4).trans ey52_0_4))
      have ha3 := pz52_3 ⟨by omega, by omega, by omega, by omega⟩
      have ha31 := ha3.1 _ _ ha21
      have ha32 := ha3.2.1
      have ha33 := ha3.2.2
      refine Ew_of (pcₚ := 167) (fun _ => x_aload_n rfl l81_1) ?_
      refine v_inv H (o := 1) rfl rfl rfl rfl rfl rfl (by rfl) (C165h (D := puc 1025 D22) (N := puc 1025 N22) (HW_subc H oz_F5cls_9 oz_F5cls_16) ((((((((((((show F52 1 0 = F47 1 0 from (eF52 1 0).trans (hS52 0 0 rfl))).trans ((show F47 1 0 = F42 1 0 from (eF47 1 0).trans (hS47 0 0 rfl)))).trans ((show F42 1 0 = F_81 1 0 from (eF42 1 0).trans (hS42 0 0 rfl)))).trans (hS_81 1 0 rfl)).trans ((show F36 1 0 = F34 1 0 from (eF36 1 0)))).trans ((show F34 1 0 = F28 1 0 from (eF34 1 0)))).trans ((show F28 1 0 = F27 1 0 from (eF28 1 0).trans (hS28 1 0 rfl)))).trans ((show F27 1 0 = F25 1 0 from (eF27 1 0)))).trans ((show F25 1 0 = F22 1 0 from (eF25 1 0))))).trans (pf22_1_0)) (m22_1) ((congrArg (fun q : Nat => (q : Int)) (eN22 2)).trans em22_1) (y52_0_1) (((eF52 1 1).trans ey52_0_1)) (y52_0_2) (((eF52 1 2).trans ey52_0_2)) (y52_0_3) (((eF52 1 3).trans ey52_0_3)) (y52_0_4) (((eF52 1 4).trans ey52_0_4)) (w52_1) ((eA52 2).trans ew52_1) (show 0 ≤ (y52_0_1) ∧ (y52_0_1) ≤ (m22_1) ∧ (m22_1) ≤ 65536 from pz52_0) (show 0 ≤ (y52_0_4) from q_3575 pz52_2) (fun σ57 F57ₚ A57ₚ Hₚ Oₚ hS57 hA57 y57_0_1 ey57_0_1 y57_0_2 ey57_0_2 y57_0_3 ey57_0_3 y57_0_4 ey57_0_4 w57_1 ew57_1 pz57_0 pz57_1 pz57_2 pz57_3 pz57_4 => ⟨rfl, ?_⟩))
      refine v_backc (c := (c + c22)) (s := (s + s22)) H oz_F5cls_9 oz_F5cls_16 Hₚ Oₚ (fun F57 A57 H Oₚ eF57 eA57 => ?_)
      have O := OUT_trans O Oₚ
      -- Row.endBits
      have cF57 : SF oz_F5clsl_0 F F57 := SF_trans (cF52) (SF_gluc (ι := oz_F5clsl_4) oz_F5cls_16 hS57 eF57 (by decide +kernel)) (any_sub (lₚ := [(1, 1), (1, 2), (1, 3), (1, 4)]) (by decide +kernel))
      have mF57 := SFm_of cF57 oz_F5cls_12
      have cA57 : SA oz_F5clsl_1 A A57 := SA_trans (cA52) (SA_gluc (ι := oz_F5clsl_4) oz_F5cls_16 hA57 eA57 (by decide +kernel)) (any_subA (lₚ := [2]) (by decide +kernel))
      have mA57 := SAm_of cA57 oz_F5cls_13
      have r58 : (-2147483648 : Int) ≤ y57_0_1 ∧ y57_0_1 ≤ 2147483647 := rngE (show (-2147483648 : Int) ≤ F57 1 1 ∧ F57 1 1 ≤ 2147483647 from H.krg 1 1 (ltn len_V106_thisorderFivea_oz_F5cls rfl)) (show F57 1 1 = y57_0_1 from ((eF57 1 1).trans ey57_0_1))
      have r59 : (0 : Int) ≤ y57_0_2 ∧ y57_0_2 ≤ 1 := rngE (show (0 : Int) ≤ F57 1 2 ∧ F57 1 2 ≤ 1 from H.krg 1 2 (ltn len_V106_thisorderFivea_oz_F5cls rfl)) (show F57 1 2 = y57_0_2 from ((eF57 1 2).trans ey57_0_2))
      have r60 : (-2147483648 : Int) ≤ y57_0_3 ∧ y57_0_3 ≤ 2147483647 := rngE (show (-2147483648 : Int) ≤ F57 1 3 ∧ F57 1 3 ≤ 2147483647 from H.krg 1 3 (ltn len_V106_thisorderFivea_oz_F5cls rfl)) (show F57 1 3 = y57_0_3 from ((eF57 1 3).trans ey57_0_3))
      have r61 : (-2147483648 : Int) ≤ y57_0_4 ∧ y57_0_4 ≤ 2147483647 := rngE (show (-2147483648 : Int) ≤ F57 1 4 ∧ F57 1 4 ≤ 2147483647 from H.krg 1 4 (ltn len_V106_thisorderFivea_oz_F5cls rfl)) (show F57 1 4 = y57_0_4 from ((eF57 1 4).trans ey57_0_4))
      have hfin := pz57_3 ⟨by omega, by omega⟩ _ _ ha31
      have hWE := WSO_e hWS (by omega) (L := ((y25_0_0))) rfl
      have hLo : ((y25_0_0)) = (a3) := pz25_2
      have hend : sc ((w57_1)) 0 ((y57_0_1)) = byw (STB (dvP (cutP ((u3_1)) ((w13))) ((a2)) (p2 (a3))) ((a3))) ++ byw (WSB (((a3), 12, (dvP (cutP ((u3_1)) ((w13))) ((a2)) (p2 (a3)))) : Tb) ((w12)) ((a2))) := by have e := (RBB_L hfin).1; have w := hWE; simp only [List.append_assoc] at e; rw [hLo] at e w; rw [← w] at e; exact e
      have hbu0 := (RBB_L hfin).2
      exact w_ret rfl (k _ _ _ _ _ _ _ H O (cD22) (cN22) (cF57) (cA57) (((((((((((((show F57 1 0 = F52 1 0 from (eF57 1 0).trans (hS57 0 0 rfl))).trans ((show F52 1 0 = F47 1 0 from (eF52 1 0).trans (hS52 0 0 rfl)))).trans ((show F47 1 0 = F42 1 0 from (eF47 1 0).trans (hS47 0 0 rfl)))).trans ((show F42 1 0 = F_81 1 0 from (eF42 1 0).trans (hS42 0 0 rfl)))).trans (hS_81 1 0 rfl)).trans ((show F36 1 0 = F34 1 0 from (eF36 1 0)))).trans ((show F34 1 0 = F28 1 0 from (eF34 1 0)))).trans ((show F28 1 0 = F27 1 0 from (eF28 1 0).trans (hS28 1 0 rfl)))).trans ((show F27 1 0 = F25 1 0 from (eF27 1 0)))).trans ((show F25 1 0 = F22 1 0 from (eF25 1 0))))).trans (pf22_1_0)) (m22_1) ((congrArg (fun q : Nat => (q : Int)) (eN22 2)).trans em22_1) (y57_0_1) (((eF57 1 1).trans ey57_0_1)) (y57_0_2) (((eF57 1 2).trans ey57_0_2)) (y57_0_3) (((eF57 1 3).trans ey57_0_3)) (y57_0_4) (((eF57 1 4).trans ey57_0_4)) (w57_1) ((eA57 2).trans ew57_1) (show 0 ≤ (y57_0_1) ∧ (y57_0_1) ≤ (m22_1) ∧ (m22_1) ≤ 65536 from pz57_0) (show (y57_0_4) = 0 from q_3098 pz57_1) (hend) (show (y57_0_2) = 0 by omega) (show (y57_0_3) = 0 from pz57_2))
    · refine Ew_of (pcₚ := 87) (fun _ => x_aload_n rfl l81_0) ?_
      refine v_g H (o := 0) (v := .ref (D22 3)) rfl rfl rfl rfl rfl (vrf ((mF_81 0 6 rfl).trans ((pf3).trans (congrArg (fun q : Nat => (q : Int)) (mD22 3 rfl).symm)))) ?_
      refine Ew_of (pcₚ := 92) (fun _ => x_iload rfl l81_4) ?_
      refine Ew_of (pcₚ := 93) (fun _ => x_aload_n rfl l81_0) ?_
      refine v_g H (o := 0) (v := .ref (D22 12)) rfl rfl rfl rfl rfl (vrf ((mF_81 0 4 rfl).trans ((pf12).trans (congrArg (fun q : Nat => (q : Int)) (mD22 12 rfl).symm)))) ?_
      refine Ew_of (pcₚ := 98) (fun _ => x_iload rfl l81_6) ?_
      refine v_lI H (o := 12) rfl rfl rfl rfl (n := n12) ((congrArg (fun q : Nat => (q : Int)) (mN22 12 rfl)).trans (en12)) (show 0 ≤ x81_6 ∧ x81_6 < n12 from q_3793 b41 h4 h6 j81_3 r15) (fun v62 ev62 qv62 => ?_)
      have ev62 : (w12) (x81_6) = v62 := (congrFun ((funext (mA_81 12 rfl)).trans (ew12)) (x81_6)).symm.trans ev62
      have hwaz := hwg ((x81_6)) (by omega) (by omega)
      have heaz := ev62
      rw [heaz] at hwaz
      have hcpz := WCN_pos hwc (by omega) (by omega) heaz (by omega) (by omega)
      have hdpz := hdv ((v62)) (by omega) (by omega)
      obtain ⟨qz, hqz⟩ : ∃ q : Int, q = (v62) := ⟨_, rfl⟩
      have hzq : ((w12)) ((x81_6)) = qz := by rw [hqz]; exact heaz
      refine v_inv H (o := 3) rfl rfl rfl rfl rfl rfl (by rfl) (C175 (D := puc 37880551437274713425923 D22) (N := puc 37880551437274713425923 N22) (HW_subc H oz_F5cls_10 oz_F5cls_20) ((mF_81 3 2 rfl).trans ((pf4).trans (congrArg (fun q : Nat => (q : Int)) (mD22 4 rfl).symm))) ((mF_81 3 3 rfl).trans ((pf5).trans (congrArg (fun q : Nat => (q : Int)) (mD22 5 rfl).symm))) ((mF_81 3 4 rfl).trans ((pf6).trans (congrArg (fun q : Nat => (q : Int)) (mD22 6 rfl).symm))) ((mF_81 3 5 rfl).trans ((pf7).trans (congrArg (fun q : Nat => (q : Int)) (mD22 7 rfl).symm))) ((mF_81 3 7 rfl).trans ((pf10).trans (congrArg (fun q : Nat => (q : Int)) (mD22 10 rfl).symm))) ((mF_81 3 8 rfl).trans ((pf9).trans (congrArg (fun q : Nat => (q : Int)) (mD22 9 rfl).symm))) ((mF_81 3 9 rfl).trans ((pf11).trans (congrArg (fun q : Nat => (q : Int)) (mD22 11 rfl).symm))) ((mF_81 3 6 rfl).trans ((pf8).trans (congrArg (fun q : Nat => (q : Int)) (mD22 8 rfl).symm))) (n4) ((congrArg (fun q : Nat => (q : Int)) (mN22 4 rfl)).trans (en4)) (n5) ((congrArg (fun q : Nat => (q : Int)) (mN22 5 rfl)).trans (en5)) (n6) ((congrArg (fun q : Nat => (q : Int)) (mN22 6 rfl)).trans (en6)) (n7) ((congrArg (fun q : Nat => (q : Int)) (mN22 7 rfl)).trans (en7)) (n10) ((congrArg (fun q : Nat => (q : Int)) (mN22 10 rfl)).trans (en10)) (n9) ((congrArg (fun q : Nat => (q : Int)) (mN22 9 rfl)).trans (en9)) (n11) ((congrArg (fun q : Nat => (q : Int)) (mN22 11 rfl)).trans (en11)) (n8) ((congrArg (fun q : Nat => (q : Int)) (mN22 8 rfl)).trans (en8)) (y25_0_0) (((((((hS_81 3 0 rfl).trans ((show F36 3 0 = F34 3 0 from (eF36 3 0).trans (hS36 0 0 rfl)))).trans ((show F34 3 0 = F28 3 0 from (eF34 3 0).trans (hS34 0 0 rfl)))).trans ((show F28 3 0 = F27 3 0 from (eF28 3 0).trans (hS28 0 0 rfl)))).trans ((show F27 3 0 = F25 3 0 from (eF27 3 0).trans (hS27 0 0 rfl)))).trans ((eF25 3 0).trans ey25_0_0))) (u3_1) (((mF_81 3 1 rfl).trans (eu3_1))) (w25_2) ((funext (hA_81 4 rfl)).trans (((show A36 4 = A34 4 from (eA36 4).trans (funext (hA36 1 rfl)))).trans (((show A34 4 = A28 4 from (eA34 4).trans (funext (hA34 1 rfl)))).trans (((show A28 4 = A27 4 from (eA28 4).trans (funext (hA28 2 rfl)))).trans (((show A27 4 = A25 4 from (eA27 4).trans (funext (hA27 1 rfl)))).trans ((eA25 4).trans ew25_2)))))) (w27_2) ((funext (hA_81 5 rfl)).trans (((show A36 5 = A34 5 from (eA36 5).trans (funext (hA36 2 rfl)))).trans (((show A34 5 = A28 5 from (eA34 5).trans (funext (hA34 2 rfl)))).trans (((show A28 5 = A27 5 from (eA28 5))).trans ((eA27 5).trans ew27_2))))) (w27_3) ((funext (hA_81 6 rfl)).trans (((show A36 6 = A34 6 from (eA36 6).trans (funext (hA36 3 rfl)))).trans (((show A34 6 = A28 6 from (eA34 6).trans (funext (hA34 3 rfl)))).trans (((show A28 6 = A27 6 from (eA28 6))).trans ((eA27 6).trans ew27_3))))) (w27_4) ((funext (hA_81 7 rfl)).trans (((show A36 7 = A34 7 from (eA36 7).trans (funext (hA36 4 rfl)))).trans (((show A34 7 = A28 7 from (eA34 7).trans (funext (hA34 4 rfl)))).trans (((show A28 7 = A27 7 from (eA28 7))).trans ((eA27 7).trans ew27_4))))) (w27_7) ((funext (hA_81 10 rfl)).trans (((show A36 10 = A34 10 from (eA36 10).trans (funext (hA36 5 rfl)))).trans (((show A34 10 = A28 10 from (eA34 10).trans (funext (hA34 5 rfl)))).trans (((show A28 10 = A27 10 from (eA28 10))).trans ((eA27 10).trans ew27_7))))) (w27_6) ((funext (hA_81 9 rfl)).trans (((show A36 9 = A34 9 from (eA36 9).trans (funext (hA36 6 rfl)))).trans (((show A34 9 = A28 9 from (eA34 9).trans (funext (hA34 6 rfl)))).trans (((show A28 9 = A27 9 from (eA28 9))).trans ((eA27 9).trans ew27_6))))) (w27_8) ((funext (hA_81 11 rfl)).trans (((show A36 11 = A34 11 from (eA36 11).trans (funext (hA36 7 rfl)))).trans (((show A34 11 = A28 11 from (eA34 11).trans (funext (hA34 7 rfl)))).trans (((show A28 11 = A27 11 from (eA28 11))).trans ((eA27 11).trans ew27_8))))) (show inr (x81_4) from j81_0) (show inr (v62) from qv62) (pz27_0) (show (n4) = (u3_1) ∧ (n5) = (u3_1) ∧ (n6) = (u3_1) ∧ (n7) = (u3_1) ∧ (n8) = (u3_1) ∧ (n9) = (n10) ∧ (n11) = (n10) ∧ p2 ((y25_0_0)) ≤ (n10) from q_3779 h3 hp6 hpo) (show 0 ≤ (x81_4) ∧ (x81_4) < p2 ((y25_0_0)) from j81_5) (show 0 ≤ (v62) ∧ (v62) < ((u3_1)) ∧ ((w25_2)) (v62) ≠ 0 by omega) (fun z63 σ63 F63ₚ A63ₚ Hₚ Oₚ hS63 hA63 pz63_0 pz63_1 pz63_2 => ⟨rfl, ?_⟩))
      refine v_backc (c := (c + c22)) (s := (s + s22)) H oz_F5cls_10 oz_F5cls_20 Hₚ Oₚ (fun F63 A63 H Oₚ eF63 eA63 => ?_)
      have O := OUT_trans O Oₚ
      -- Share.bitsAhead
      have cF63 : SF oz_F5clsl_0 F F63 := SF_trans (cF_81) (SF_gluc (ι := oz_F5clsl_8) oz_F5cls_20 hS63 eF63 (by decide +kernel)) (any_sub (lₚ := []) (by decide +kernel))
      have mF63 := SFm_of cF63 oz_F5cls_12
      have cA63 : SA oz_F5clsl_1 A A63 := SA_trans (cA_81) (SA_gluc (ι := oz_F5clsl_8) oz_F5cls_20 hA63 eA63 (by decide +kernel)) (any_subA (lₚ := []) (by decide +kernel))
      have mA63 := SAm_of cA63 oz_F5cls_13
      refine Ew_of (pcₚ := 104) (fun _ => x_istore rfl) ?_
      refine Ew_of (pcₚ := 105) (fun _ => x_aload_n rfl (rk_o (l81_1) rfl rfl)) ?_
      refine Ew_of (pcₚ := 107) (fun _ => x_iload rfl (rk_o (l81_4) rfl rfl)) ?_
      refine Ew_of (pcₚ := 109) (fun _ => x_iload rfl rk_s) ?_
      refine v_inv H (o := 1) rfl rfl rfl rfl rfl rfl (by rfl) (C164 (D := puc 1025 D22) (N := puc 1025 N22) (HW_subc H oz_F5cls_8 oz_F5cls_16) ((((((((((show F63 1 0 = F_81 1 0 from (eF63 1 0))).trans (hS_81 1 0 rfl)).trans ((show F36 1 0 = F34 1 0 from (eF36 1 0)))).trans ((show F34 1 0 = F28 1 0 from (eF34 1 0)))).trans ((show F28 1 0 = F27 1 0 from (eF28 1 0).trans (hS28 1 0 rfl)))).trans ((show F27 1 0 = F25 1 0 from (eF27 1 0)))).trans ((show F25 1 0 = F22 1 0 from (eF25 1 0))))).trans (pf22_1_0)) (m22_1) ((congrArg (fun q : Nat => (q : Int)) (eN22 2)).trans em22_1) (y81_1_1) ((((show F63 1 1 = F_81 1 1 from (eF63 1 1))).trans (ey81_1_1))) (y81_1_2) ((((show F63 1 2 = F_81 1 2 from (eF63 1 2))).trans (ey81_1_2))) (y81_1_3) ((((show F63 1 3 = F_81 1 3 from (eF63 1 3))).trans (ey81_1_3))) (y81_1_4) ((((show F63 1 4 = F_81 1 4 from (eF63 1 4))).trans (ey81_1_4))) (w81_2) (((show A63 2 = A_81 2 from (eA63 2))).trans (ew81_2)) (show inr (x81_4) from j81_0) (show inr (z63) from pz63_0) (show 0 ≤ (y81_1_1) ∧ (y81_1_1) ≤ (m22_1) ∧ (m22_1) ≤ 65536 from j81_7) (show 0 ≤ (z63) ∧ (z63) ≤ 31 from q_3794 h5 pz25_2 pz63_2) (show 0 ≤ (y81_1_4) ∧ (y81_1_4) ≤ 7 from j81_8) (fun σ64 F64ₚ A64ₚ Hₚ Oₚ hS64 hA64 y64_0_1 ey64_0_1 y64_0_2 ey64_0_2 y64_0_3 ey64_0_3 y64_0_4 ey64_0_4 w64_1 ew64_1 pz64_0 pz64_1 pz64_2 pz64_3 => ⟨rfl, ?_⟩))
      refine v_backc (c := (c + c22)) (s := (s + s22)) H oz_F5cls_8 oz_F5cls_16 Hₚ Oₚ (fun F64 A64 H Oₚ eF64 eA64 => ?_)
      have O := OUT_trans O Oₚ
      -- Row.addBits
      have cF64 : SF oz_F5clsl_0 F F64 := SF_trans (cF63) (SF_gluc (ι := oz_F5clsl_4) oz_F5cls_16 hS64 eF64 (by decide +kernel)) (any_sub (lₚ := [(1, 1), (1, 2), (1, 3), (1, 4)]) (by decide +kernel))
      have mF64 := SFm_of cF64 oz_F5cls_12
      have cA64 : SA oz_F5clsl_1 A A64 := SA_trans (cA63) (SA_gluc (ι := oz_F5clsl_4) oz_F5cls_16 hA64 eA64 (by decide +kernel)) (any_subA (lₚ := [2]) (by decide +kernel))
      have mA64 := SAm_of cA64 oz_F5cls_13
      have r65 : (-2147483648 : Int) ≤ y64_0_1 ∧ y64_0_1 ≤ 2147483647 := rngE (show (-2147483648 : Int) ≤ F64 1 1 ∧ F64 1 1 ≤ 2147483647 from H.krg 1 1 (ltn len_V106_thisorderFivea_oz_F5cls rfl)) (show F64 1 1 = y64_0_1 from ((eF64 1 1).trans ey64_0_1))
      have r66 : (0 : Int) ≤ y64_0_2 ∧ y64_0_2 ≤ 1 := rngE (show (0 : Int) ≤ F64 1 2 ∧ F64 1 2 ≤ 1 from H.krg 1 2 (ltn len_V106_thisorderFivea_oz_F5cls rfl)) (show F64 1 2 = y64_0_2 from ((eF64 1 2).trans ey64_0_2))
      have r67 : (-2147483648 : Int) ≤ y64_0_3 ∧ y64_0_3 ≤ 2147483647 := rngE (show (-2147483648 : Int) ≤ F64 1 3 ∧ F64 1 3 ≤ 2147483647 from H.krg 1 3 (ltn len_V106_thisorderFivea_oz_F5cls rfl)) (show F64 1 3 = y64_0_3 from ((eF64 1 3).trans ey64_0_3))
      have r68 : (-2147483648 : Int) ≤ y64_0_4 ∧ y64_0_4 ≤ 2147483647 := rngE (show (-2147483648 : Int) ≤ F64 1 4 ∧ F64 1 4 ≤ 2147483647 from H.krg 1 4 (ltn len_V106_thisorderFivea_oz_F5cls rfl)) (show F64 1 4 = y64_0_4 from ((eF64 1 4).trans ey64_0_4))
      have hab := pz64_3 ⟨by omega, by omega, by omega, by omega⟩
      have hB12 := hab.1 _ _ hRB
      have hab2 := hab.2.1
      have hab3 := hab.2.2
      refine Ew_of (pcₚ := 113) (fun _ => x_aload_n rfl (rk_o (l81_0) rfl rfl)) ?_
      refine v_g H (o := 0) (v := .ref (D22 3)) rfl rfl rfl rfl rfl (vrf ((mF64 0 6 rfl).trans ((pf3).trans (congrArg (fun q : Nat => (q : Int)) (mD22 3 rfl).symm)))) ?_
      refine Ew_of (pcₚ := 118) (fun _ => x_iload rfl (rk_o (l81_4) rfl rfl)) ?_
      refine Ew_of (pcₚ := 119) (fun _ => x_aload_n rfl (rk_o (l81_0) rfl rfl)) ?_
      refine v_g H (o := 0) (v := .ref (D22 12)) rfl rfl rfl rfl rfl (vrf ((mF64 0 4 rfl).trans ((pf12).trans (congrArg (fun q : Nat => (q : Int)) (mD22 12 rfl).symm)))) ?_
      refine Ew_of (pcₚ := 124) (fun _ => x_iload rfl (rk_o (l81_6) rfl rfl)) ?_
      refine v_lI H (o := 12) rfl rfl rfl rfl (n := n12) ((congrArg (fun q : Nat => (q : Int)) (mN22 12 rfl)).trans (en12)) (show 0 ≤ x81_6 ∧ x81_6 < n12 from q_3793 b41 h4 h6 j81_3 r15) (fun v69 ev69 qv69 => ?_)
      have ev69 : (w12) (x81_6) = v69 := (congrFun ((funext (mA64 12 rfl)).trans (ew12)) (x81_6)).symm.trans ev69
      have hwaw := hwg ((x81_6)) (by omega) (by omega)
      have heaw := ev69
      rw [heaw] at hwaw
      have hcpw := WCN_pos hwc (by omega) (by omega) heaw (by omega) (by omega)
      have hdpw := hdv ((v69)) (by omega) (by omega)
      refine Ew_of (pcₚ := 127) (fun _ => x_iload rfl rk_s) ?_
      have hqz1 : (v69) = qz := heaw.symm.trans hzq
      have hbz : BA (mass (((w25_2)) qz)) ((y25_0_0)) ((x81_4)) ((z63)) := by rw [hqz]; exact pz63_1
      have hbx : BA (mass (((w25_2)) ((v69)))) ((y25_0_0)) ((x81_4)) ((z63)) := by rw [← heaw, heaz]; exact pz63_1
      refine v_inv H (o := 3) rfl rfl rfl rfl rfl rfl (by rfl) (C176 (D := puc 37880551437274713425923 D22) (N := puc 37880551437274713425923 N22) (HW_subc H oz_F5cls_11 oz_F5cls_20) ((mF64 3 2 rfl).trans ((pf4).trans (congrArg (fun q : Nat => (q : Int)) (mD22 4 rfl).symm))) ((mF64 3 3 rfl).trans ((pf5).trans (congrArg (fun q : Nat => (q : Int)) (mD22 5 rfl).symm))) ((mF64 3 4 rfl).trans ((pf6).trans (congrArg (fun q : Nat => (q : Int)) (mD22 6 rfl).symm))) ((mF64 3 5 rfl).trans ((pf7).trans (congrArg (fun q : Nat => (q : Int)) (mD22 7 rfl).symm))) ((mF64 3 7 rfl).trans ((pf10).trans (congrArg (fun q : Nat => (q : Int)) (mD22 10 rfl).symm))) ((mF64 3 8 rfl).trans ((pf9).trans (congrArg (fun q : Nat => (q : Int)) (mD22 9 rfl).symm))) ((mF64 3 9 rfl).trans ((pf11).trans (congrArg (fun q : Nat => (q : Int)) (mD22 11 rfl).symm))) ((mF64 3 6 rfl).trans ((pf8).trans (congrArg (fun q : Nat => (q : Int)) (mD22 8 rfl).symm))) (n4) ((congrArg (fun q : Nat => (q : Int)) (mN22 4 rfl)).trans (en4)) (n5) ((congrArg (fun q : Nat => (q : Int)) (mN22 5 rfl)).trans (en5)) (n6) ((congrArg (fun q : Nat => (q : Int)) (mN22 6 rfl)).trans (en6)) (n7) ((congrArg (fun q : Nat => (q : Int)) (mN22 7 rfl)).trans (en7)) (n10) ((congrArg (fun q : Nat => (q : Int)) (mN22 10 rfl)).trans (en10)) (n9) ((congrArg (fun q : Nat => (q : Int)) (mN22 9 rfl)).trans (en9)) (n11) ((congrArg (fun q : Nat => (q : Int)) (mN22 11 rfl)).trans (en11)) (n8) ((congrArg (fun q : Nat => (q : Int)) (mN22 8 rfl)).trans (en8)) (y25_0_0) ((((((((((show F64 3 0 = F63 3 0 from (eF64 3 0))).trans ((show F63 3 0 = F_81 3 0 from (eF63 3 0).trans (hS63 0 0 rfl)))).trans (hS_81 3 0 rfl)).trans ((show F36 3 0 = F34 3 0 from (eF36 3 0).trans (hS36 0 0 rfl)))).trans ((show F34 3 0 = F28 3 0 from (eF34 3 0).trans (hS34 0 0 rfl)))).trans ((show F28 3 0 = F27 3 0 from (eF28 3 0).trans (hS28 0 0 rfl)))).trans ((show F27 3 0 = F25 3 0 from (eF27 3 0).trans (hS27 0 0 rfl)))).trans ((eF25 3 0).trans ey25_0_0))) (u3_1) (((mF64 3 1 rfl).trans (eu3_1))) (w25_2) (((show A64 4 = A63 4 from (eA64 4))).trans (((show A63 4 = A_81 4 from (eA63 4).trans (funext (hA63 1 rfl)))).trans ((funext (hA_81 4 rfl)).trans (((show A36 4 = A34 4 from (eA36 4).trans (funext (hA36 1 rfl)))).trans (((show A34 4 = A28 4 from (eA34 4).trans (funext (hA34 1 rfl)))).trans (((show A28 4 = A27 4 from (eA28 4).trans (funext (hA28 2 rfl)))).trans (((show A27 4 = A25 4 from (eA27 4).trans (funext (hA27 1 rfl)))).trans ((eA25 4).trans ew25_2)))))))) (w27_2) (((show A64 5 = A63 5 from (eA64 5))).trans (((show A63 5 = A_81 5 from (eA63 5).trans (funext (hA63 2 rfl)))).trans ((funext (hA_81 5 rfl)).trans (((show A36 5 = A34 5 from (eA36 5).trans (funext (hA36 2 rfl)))).trans (((show A34 5 = A28 5 from (eA34 5).trans (funext (hA34 2 rfl)))).trans (((show A28 5 = A27 5 from (eA28 5))).trans ((eA27 5).trans ew27_2))))))) (w27_3) (((show A64 6 = A63 6 from (eA64 6))).trans (((show A63 6 = A_81 6 from (eA63 6).trans (funext (hA63 3 rfl)))).trans ((funext (hA_81 6 rfl)).trans (((show A36 6 = A34 6 from (eA36 6).trans (funext (hA36 3 rfl)))).trans (((show A34 6 = A28 6 from (eA34 6).trans (funext (hA34 3 rfl)))).trans (((show A28 6 = A27 6 from (eA28 6))).trans ((eA27 6).trans ew27_3))))))) (w27_4) (((show A64 7 = A63 7 from (eA64 7))).trans (((show A63 7 = A_81 7 from (eA63 7).trans (funext (hA63 4 rfl)))).trans ((funext (hA_81 7 rfl)).trans (((show A36 7 = A34 7 from (eA36 7).trans (funext (hA36 4 rfl)))).trans (((show A34 7 = A28 7 from (eA34 7).trans (funext (hA34 4 rfl)))).trans (((show A28 7 = A27 7 from (eA28 7))).trans ((eA27 7).trans ew27_4))))))) (w27_7) (((show A64 10 = A63 10 from (eA64 10))).trans (((show A63 10 = A_81 10 from (eA63 10).trans (funext (hA63 5 rfl)))).trans ((funext (hA_81 10 rfl)).trans (((show A36 10 = A34 10 from (eA36 10).trans (funext (hA36 5 rfl)))).trans (((show A34 10 = A28 10 from (eA34 10).trans (funext (hA34 5 rfl)))).trans (((show A28 10 = A27 10 from (eA28 10))).trans ((eA27 10).trans ew27_7))))))) (w27_6) (((show A64 9 = A63 9 from (eA64 9))).trans (((show A63 9 = A_81 9 from (eA63 9).trans (funext (hA63 6 rfl)))).trans ((funext (hA_81 9 rfl)).trans (((show A36 9 = A34 9 from (eA36 9).trans (funext (hA36 6 rfl)))).trans (((show A34 9 = A28 9 from (eA34 9).trans (funext (hA34 6 rfl)))).trans (((show A28 9 = A27 9 from (eA28 9))).trans ((eA27 9).trans ew27_6))))))) (w27_8) (((show A64 11 = A63 11 from (eA64 11))).trans (((show A63 11 = A_81 11 from (eA63 11).trans (funext (hA63 7 rfl)))).trans ((funext (hA_81 11 rfl)).trans (((show A36 11 = A34 11 from (eA36 11).trans (funext (hA36 7 rfl)))).trans (((show A34 11 = A28 11 from (eA34 11).trans (funext (hA34 7 rfl)))).trans (((show A28 11 = A27 11 from (eA28 11))).trans ((eA27 11).trans ew27_8))))))) (show inr (x81_4) from j81_0) (show inr (v69) from qv69) (show inr (z63) from pz63_0) (pz27_0) (show (n4) = (u3_1) ∧ (n5) = (u3_1) ∧ (n6) = (u3_1) ∧ (n7) = (u3_1) ∧ (n8) = (u3_1) ∧ (n9) = (n10) ∧ (n11) = (n10) ∧ p2 ((y25_0_0)) ≤ (n10) from q_3779 h3 hp6 hpo) (show 0 ≤ (x81_4) ∧ (x81_4) < p2 ((y25_0_0)) from j81_5) (show 0 ≤ (v69) ∧ (v69) < ((u3_1)) ∧ ((w25_2)) (v69) ≠ 0 by omega) (hbx) (fun z70 σ70 F70ₚ A70ₚ Hₚ Oₚ hS70 hA70 pz70_0 pz70_1 pz70_2 => ⟨rfl, ?_⟩))
      refine v_backc (c := (c + c22)) (s := (s + s22)) H oz_F5cls_11 oz_F5cls_20 Hₚ Oₚ (fun F70 A70 H Oₚ eF70 eA70 => ?_)
      have O := OUT_trans O Oₚ
      -- Share.placeAhead
      have cF70 : SF oz_F5clsl_0 F F70 := SF_trans (cF64) (SF_gluc (ι := oz_F5clsl_8) oz_F5cls_20 hS70 eF70 (by decide +kernel)) (any_sub (lₚ := []) (by decide +kernel))
      have mF70 := SFm_of cF70 oz_F5cls_12
      have cA70 : SA oz_F5clsl_1 A A70 := SA_trans (cA64) (SA_gluc (ι := oz_F5clsl_8) oz_F5cls_20 hA70 eA70 (by decide +kernel)) (any_subA (lₚ := []) (by decide +kernel))
      have mA70 := SAm_of cA70 oz_F5cls_13
      have hle9 := SL_LEAD hSLw hBIA (r := (z70)) (s := qz) (st := (x81_4)) (b := (z63)) (by omega) (by rw [← hqz1]; exact pz70_2.1) (by omega) hbz pz70_2.2
      have hld9 := ldF_e hTB hle9.1
      have hts9 : (tsF ((((y25_0_0)), 12, (dvP (cutP ((u3_1)) ((w13))) ((a2)) (p2 (a3)))) : Tb) ((z70))).2.1 = (z63) := by rw [hTB.2 _ (by omega) (by omega)]; exact hle9.2
      refine Ew_of (pcₚ := 132) (fun _ => x_istore rfl) ?_
      refine Ew_of (pcₚ := 134) (fun _ => x_iload rfl (rk_o (rk_o (l81_5) rfl rfl) rfl rfl)) ?_
      refine Ew_of (pcₚ := 136) (fun _ => x_istore rfl) ?_
      refine Ew_of (pcₚ := 138) (fun _ => x_iload rfl (rk_o (rk_s) rfl rfl)) ?_
      refine Ew_of (pcₚ := 140) (fun _ => x_istore rfl) ?_
      refine Ew_of (pcₚ := 143) (fun _ => x_iinc (len := 3) rfl (rk_o (rk_o (rk_o (rk_o (l81_6) rfl rfl) rfl rfl) rfl rfl) rfl rfl)) ?_
      refine Ew_of (pcₚ := 81) (fun _ => x_goto rfl rfl) ?_
      have hw81 : ∃ B, WSO ((((y25_0_0)), 12, (dvP (cutP ((u3_1)) ((w13))) ((a2)) (p2 (a3)))) : Tb) ((w12)) ((a2)) (((x81_6 + (-1)))) ((x81_5)) ((z70)) B ∧ RBB ((y64_0_2)) ((w64_1)) ((y64_0_1)) ((y64_0_3)) ((y64_0_4)) (byw (STB (dvP (cutP ((u3_1)) ((w13))) ((a2)) (p2 (a3))) ((y25_0_0)))) (B) := ⟨_, WSO_s hWS (by omega) hzq hld9 hts9 rfl rfl, hB12⟩
      exact ih81 _ (msE hm81 q_432 (q_433 b41)) _ _ _ _ (x81_5) (z70) ((x81_6 + (-1))) (rk_o (rk_o (rk_o (rk_o (rk_o (l81_0) rfl rfl) rfl rfl) rfl rfl) rfl rfl) rfl rfl) (rk_o (rk_o (rk_o (rk_o (rk_o (l81_1) rfl rfl) rfl rfl) rfl rfl) rfl rfl) rfl rfl) (rk_o (rk_o (rk_o (rk_o (rk_o (l81_3) rfl rfl) rfl rfl) rfl rfl) rfl rfl) rfl rfl) (rk_o (rk_o (rk_s) rfl rfl) rfl rfl) (rk_o (rk_s) rfl rfl) (rk_s) H O (SF_trans (SF_trans (SF_trans (hS_81) (SF_gluc (ι := oz_F5clsl_8) oz_F5cls_20 hS63 eF63 (by decide +kernel)) (any_sub (lₚ := []) (by decide +kernel))) (SF_gluc (ι := oz_F5clsl_4) oz_F5cls_16 hS64 eF64 (by decide +kernel)) (any_sub (lₚ := [(1, 1), (1, 2), (1, 3), (1, 4)]) (by decide +kernel))) (SF_gluc (ι := oz_F5clsl_8) oz_F5cls_20 hS70 eF70 (by decide +kernel)) (any_sub (lₚ := []) (by decide +kernel))) (SA_trans (SA_trans (SA_trans (hA_81) (SA_gluc (ι := oz_F5clsl_8) oz_F5cls_20 hA63 eA63 (by decide +kernel)) (any_subA (lₚ := []) (by decide +kernel))) (SA_gluc (ι := oz_F5clsl_4) oz_F5cls_16 hA64 eA64 (by decide +kernel)) (any_subA (lₚ := [2]) (by decide +kernel))) (SA_gluc (ι := oz_F5clsl_8) oz_F5cls_20 hA70 eA70 (by decide +kernel)) (any_subA (lₚ := []) (by decide +kernel)))   (y64_0_1) ((((show F70 1 1 = F64 1 1 from (eF70 1 1))).trans ((eF64 1 1).trans ey64_0_1))) (y64_0_2) ((((show F70 1 2 = F64 1 2 from (eF70 1 2))).trans ((eF64 1 2).trans ey64_0_2))) (y64_0_3) ((((show F70 1 3 = F64 1 3 from (eF70 1 3))).trans ((eF64 1 3).trans ey64_0_3))) (y64_0_4) ((((show F70 1 4 = F64 1 4 from (eF70 1 4))).trans ((eF64 1 4).trans ey64_0_4))) (w64_1) (((show A70 2 = A64 2 from (eA70 2))).trans ((eA64 2).trans ew64_1)) (show inr (x81_5) from j81_1) (show inr (z70) from pz70_0) (show inr ((x81_6 + (-1))) from q_431 b41 j81_2) (show ((x81_6 + (-1))) ≤ ((a2 - 3)) from q_3796 j81_3) (show ((a2 - 3)) ≤ ((x81_6 + (-1))) ∨ ((-1)) ≤ ((x81_6 + (-1))) from q_3795 b41) (show 0 ≤ (x81_5) ∧ (x81_5) < p2 ((y25_0_0)) from j81_6) (show 0 ≤ (z70) ∧ (z70) < p2 ((y25_0_0)) from pz70_1) (show 0 ≤ (y64_0_1) ∧ (y64_0_1) ≤ (m22_1) ∧ (m22_1) ≤ 65536 from pz64_0) (show 0 ≤ (y64_0_4) ∧ (y64_0_4) ≤ 7 from pz64_2) (show 0 ≤ (y64_0_3) ∧ (y64_0_3) < p2 ((y64_0_4)) by omega) (show 8 * (y64_0_1) + (y64_0_4) ≤ 808 + 6 * ((a2) - 3 - ((x81_6 + (-1)))) by omega) (show 128 + (a2) ≤ (m22_1) from j81_11) (show -1 ≤ ((x81_6 + (-1))) from q_3514 b41) (hw81) rfl
abbrev V106_thisorderSixa : vV := [(0, 3, [(4, 0), (4, 0), (4, 0), (0, 0), (4, 0), (4, 0), (4, 0), (4, 0), (4, 0), (4, 0), (4, 0), (4, 0), (4, 0), (0, 0), (0, 0), (0, 0), (0, 0)]), (0, 7, [(4, 0), (0, 0), (1, 0), (0, 0), (0, 0)]), (1, 0, []), (0, 8, [(0, 0), (0, 0), (4, 0), (4, 0), (4, 0), (4, 0), (4, 0), (4, 0), (4, 0), (4, 0), (4, 0), (0, 0), (0, 0)]), (1, 1, []), (1, 1, []), (1, 1, []), (1, 1, []), (1, 1, []), (1, 1, []), (1, 1, []), (1, 1, []), (1, 1, []), (1, 1, [])]
theorem len_V106_thisorderSixa_oz_F5cls : (V106_thisorderSixa).length = 14 := by decide +kernel
theorem oz_F5cls_22 : vsub V106_thisorderSixa V156 [1] = true := by decide +kernel
theorem oz_F5cls_23 : vsub V106_thisorderSixa V157 [1, 2] = true := by decide +kernel
theorem oz_F5cls_24 : vmov V106_thisorderSixa [1, 2] [1] = true := by decide +kernel
theorem oz_F5cls_25 : vsub V106_thisorderSixa V178_Ir [3, 13, 4] = true := by decide +kernel
theorem oz_F5cls_26 : vsub V106_thisorderSixa V169 [3, 4, 5, 6, 7, 8, 9, 10, 11] = true := by decide +kernel
theorem oz_F5cls_27 : vsub V106_thisorderSixa V181_Row [3, 1, 4, 2] = true := by decide +kernel
theorem oz_F5cls_28 : vsub V106_thisorderSixa V174 [3, 4, 5, 6, 7, 10, 9, 11, 8] = true := by decide +kernel
theorem oz_F5cls_29 : vsub V106_thisorderSixa V164 [1, 2] = true := by decide +kernel
theorem oz_F5cls_30 : vsub V106_thisorderSixa V165 [1, 2] = true := by decide +kernel
theorem oz_F5cls_31 : vsub V106_thisorderSixa V175 [3, 4, 5, 6, 7, 10, 9, 11, 8] = true := by decide +kernel
theorem oz_F5cls_32 : vsub V106_thisorderSixa V176 [3, 4, 5, 6, 7, 10, 9, 11, 8] = true := by decide +kernel
set_option maxHeartbeats 16000000 in
theorem C106_thisorderSixa {σE : rS} {D N : Nat → Nat} {F : hF} {A : hA} {d c s : Nat} {Q : wQ} (H : HW V106_thisorderSixa σE D N F A) {a2 a3 : Int} (pf1 : F 0 8 = (D 1 : Int)) (pf2 : F 1 0 = (D 2 : Int)) (pf3 : F 0 6 = (D 3 : Int)) (pf4 : F 3 2 = (D 4 : Int)) (pf5 : F 3 3 = (D 5 : Int)) (pf6 : F 3 4 = (D 6 : Int)) (pf7 : F 3 5 = (D 7 : Int)) (pf8 : F 3 6 = (D 8 : Int)) (pf9 : F 3 8 = (D 9 : Int)) (pf10 : F 3 7 = (D 10 : Int)) (pf11 : F 3 9 = (D 11 : Int)) (pf12 : F 0 4 = (D 12 : Int)) (pf13 : F 0 5 = (D 13 : Int)) (n2 : Int) (en2 : (N 2 : Int) = n2) (n4 : Int) (en4 : (N 4 : Int) = n4) (n5 : Int) (en5 : (N 5 : Int) = n5) (n6 : Int) (en6 : (N 6 : Int) = n6) (n7 : Int) (en7 : (N 7 : Int) = n7) (n8 : Int) (en8 : (N 8 : Int) = n8) (n9 : Int) (en9 : (N 9 : Int) = n9) (n10 : Int) (en10 : (N 10 : Int) = n10) (n11 : Int) (en11 : (N 11 : Int) = n11) (n12 : Int) (en12 : (N 12 : Int) = n12) (n13 : Int) (en13 : (N 13 : Int) = n13) (u1_1 : Int) (eu1_1 : F 1 1 = u1_1) (u1_2 : Int) (eu1_2 : F 1 2 = u1_2) (u1_3 : Int) (eu1_3 : F 1 3 = u1_3) (u1_4 : Int) (eu1_4 : F 1 4 = u1_4) (u3_1 : Int) (eu3_1 : F 3 1 = u3_1) (w2 : Int → Int) (ew2 : A 2 = w2) (w12 : Int → Int) (ew12 : A 12 = w12) (w13 : Int → Int) (ew13 : A 13 = w13) (h0 : inr (a2)) (h1 : inr (a3)) (h2 : 0 ≤ (u1_1) ∧ (u1_1) ≤ (n2) ∧ (n2) ≤ 65536) (h3 : (n4) = (u3_1) ∧ (n5) = (u3_1) ∧ (n6) = (u3_1) ∧ (n7) = (u3_1) ∧ (n8) = (u3_1) ∧ (n9) = (n10) ∧ (n11) = (n10) ∧ 1 ≤ (u3_1) ∧ (u3_1) ≤ 64 ∧ (u3_1) = 12 ∧ (n10) = 64) (h4 : 2 ≤ (a2) ∧ (a2) ≤ 255) (h5 : 5 ≤ (a3) ∧ (a3) ≤ 6) (h6 : (n12) = 256 ∧ (n13) = 12) (h7 : WGB ((w12)) 11 (a2)) (h8 : WCN ((w12)) ((w13)) (a2)) (k : ∀ (σ : rS) (Dₚ Nₚ : Nat → Nat) (Fₚ : hF) (Aₚ : hA) (cₚ sₚ : Nat), HW V106_thisorderSixa σ Dₚ Nₚ Fₚ Aₚ → OUT (V106_thisorderSixa).length D N σE c s Dₚ Nₚ σ cₚ sₚ → SD [2] D Dₚ → SD [2] N Nₚ → SF [(1, 0), (1, 1), (1, 2), (1, 3), (1, 4), (3, 0)] F Fₚ → SA [2, 4, 5, 6, 7, 8, 9, 10, 11] A Aₚ → Fₚ 1 0 = (Dₚ 2 : Int) → ∀ m2 : Int, (Nₚ 2 : Int) = m2 → ∀ y1_1 : Int, Fₚ 1 1 = y1_1 → ∀ y1_2 : Int, Fₚ 1 2 = y1_2 → ∀ y1_3 : Int, Fₚ 1 3 = y1_3 → ∀ y1_4 : Int, Fₚ 1 4 = y1_4 → ∀ v2 : Int → Int, Aₚ 2 = v2 → (0 ≤ (y1_1) ∧ (y1_1) ≤ (m2) ∧ (m2) ≤ 65536) → ((y1_4) = 0) → (sc ((v2)) 0 ((y1_1)) = byw (STB (dvP (cutP ((u3_1)) ((w13))) ((a2)) (p2 (a3))) ((a3))) ++ byw (WSB (((a3), 12, (dvP (cutP ((u3_1)) ((w13))) ((a2)) (p2 (a3)))) : Tb) ((w12)) ((a2)))) → ((y1_2) = 0) → ((y1_3) = 0) → Q none σ cₚ sₚ) : Ew 106 (d + 2) 0 (rargs 0 [.ref (D 0), .ref (D 1), I a2, I a3]) [] σE c s Q := by
  have O := OUT_refl (n := (V106_thisorderSixa).length) (D := D) (N := N) (σ := σE) (c := c) (s := s)
  have HE := H
  have r1 : (-2147483648 : Int) ≤ u1_1 ∧ u1_1 ≤ 2147483647 := rngE (show (-2147483648 : Int) ≤ F 1 1 ∧ F 1 1 ≤ 2147483647 from H.krg 1 1 (ltn len_V106_thisorderSixa_oz_F5cls rfl)) (show F 1 1 = u1_1 from (eu1_1))
  have r2 : (0 : Int) ≤ u1_2 ∧ u1_2 ≤ 1 := rngE (show (0 : Int) ≤ F 1 2 ∧ F 1 2 ≤ 1 from H.krg 1 2 (ltn len_V106_thisorderSixa_oz_F5cls rfl)) (show F 1 2 = u1_2 from (eu1_2))
  have r3 : (-2147483648 : Int) ≤ u1_3 ∧ u1_3 ≤ 2147483647 := rngE (show (-2147483648 : Int) ≤ F 1 3 ∧ F 1 3 ≤ 2147483647 from H.krg 1 3 (ltn len_V106_thisorderSixa_oz_F5cls rfl)) (show F 1 3 = u1_3 from (eu1_3))
  have r4 : (-2147483648 : Int) ≤ u1_4 ∧ u1_4 ≤ 2147483647 := rngE (show (-2147483648 : Int) ≤ F 1 4 ∧ F 1 4 ≤ 2147483647 from H.krg 1 4 (ltn len_V106_thisorderSixa_oz_F5cls rfl)) (show F 1 4 = u1_4 from (eu1_4))
  have r5 : (-2147483648 : Int) ≤ u3_1 ∧ u3_1 ≤ 2147483647 := rngE (show (-2147483648 : Int) ≤ F 3 1 ∧ F 3 1 ≤ 2147483647 from H.krg 3 1 (ltn len_V106_thisorderSixa_oz_F5cls rfl)) (show F 3 1 = u3_1 from (eu3_1))
  have r6 : (0 : Int) ≤ n2 ∧ n2 ≤ 1000000 := nleE (H.nle 2 (ltn len_V106_thisorderSixa_oz_F5cls rfl)) (show (N 2 : Int) = n2 from en2)
  have r7 : (0 : Int) ≤ n4 ∧ n4 ≤ 1000000 := nleE (H.nle 4 (ltn len_V106_thisorderSixa_oz_F5cls rfl)) (show (N 4 : Int) = n4 from en4)
  have r8 : (0 : Int) ≤ n5 ∧ n5 ≤ 1000000 := nleE (H.nle 5 (ltn len_V106_thisorderSixa_oz_F5cls rfl)) (show (N 5 : Int) = n5 from en5)
  have r9 : (0 : Int) ≤ n6 ∧ n6 ≤ 1000000 := nleE (H.nle 6 (ltn len_V106_thisorderSixa_oz_F5cls rfl)) (show (N 6 : Int) = n6 from en6)
  have r10 : (0 : Int) ≤ n7 ∧ n7 ≤ 1000000 := nleE (H.nle 7 (ltn len_V106_thisorderSixa_oz_F5cls rfl)) (show (N 7 : Int) = n7 from en7)
  have r11 : (0 : Int) ≤ n8 ∧ n8 ≤ 1000000 := nleE (H.nle 8 (ltn len_V106_thisorderSixa_oz_F5cls rfl)) (show (N 8 : Int) = n8 from en8)
  have r12 : (0 : Int) ≤ n9 ∧ n9 ≤ 1000000 := nleE (H.nle 9 (ltn len_V106_thisorderSixa_oz_F5cls rfl)) (show (N 9 : Int) = n9 from en9)
  have r13 : (0 : Int) ≤ n10 ∧ n10 ≤ 1000000 := nleE (H.nle 10 (ltn len_V106_thisorderSixa_oz_F5cls rfl)) (show (N 10 : Int) = n10 from en10)
  have r14 : (0 : Int) ≤ n11 ∧ n11 ≤ 1000000 := nleE (H.nle 11 (ltn len_V106_thisorderSixa_oz_F5cls rfl)) (show (N 11 : Int) = n11 from en11)
  have r15 : (0 : Int) ≤ n12 ∧ n12 ≤ 1000000 := nleE (H.nle 12 (ltn len_V106_thisorderSixa_oz_F5cls rfl)) (show (N 12 : Int) = n12 from en12)
  have r16 : (0 : Int) ≤ n13 ∧ n13 ≤ 1000000 := nleE (H.nle 13 (ltn len_V106_thisorderSixa_oz_F5cls rfl)) (show (N 13 : Int) = n13 from en13)
  have hwg : WGB ((w12)) 11 (a2) := h7
  have hwc : WCN ((w12)) ((w13)) (a2) := h8
  have hp6 : p2 6 = 64 := by decide
  refine Ew_of (pcₚ := 1) (fun _ => x_aload_n rfl rfl) ?_
  refine v_inv H (o := 1) rfl rfl rfl rfl rfl rfl (by rfl) (C156h (D := puc 1 D) (N := puc 1 N) (HW_subc H oz_F5cls_22 oz_F5cls_15) (u1_1) ((eu1_1)) (u1_2) ((eu1_2)) (u1_3) ((eu1_3)) (u1_4) ((eu1_4))  (fun σ17 F17ₚ A17ₚ Hₚ Oₚ hS17 hA17 y17_0_1 ey17_0_1 y17_0_2 ey17_0_2 y17_0_3 ey17_0_3 y17_0_4 ey17_0_4 pz17_0 pz17_1 => ⟨rfl, ?_⟩))
  refine v_backc (c := c) (s := s) H oz_F5cls_22 oz_F5cls_15 Hₚ Oₚ (fun F17 A17 H Oₚ eF17 eA17 => ?_)
  have O := OUT_trans O Oₚ
  -- Row.clear
  have cF17 : SF oz_F5clsl_0 F F17 := SF_trans (SF_refl) (SF_gluc (ι := oz_F5clsl_3) oz_F5cls_15 hS17 eF17 (by decide +kernel)) (any_sub (lₚ := [(1, 1), (1, 2), (1, 3), (1, 4)]) (by decide +kernel))
  have mF17 := SFm_of cF17 oz_F5cls_12
  have cA17 : SA oz_F5clsl_1 A A17 := SA_trans (SA_refl) (SA_gluc (ι := oz_F5clsl_3) oz_F5cls_15 hA17 eA17 (by decide +kernel)) (any_subA (lₚ := []) (by decide +kernel))
  have mA17 := SAm_of cA17 oz_F5cls_13
  have r18 : (-2147483648 : Int) ≤ y17_0_1 ∧ y17_0_1 ≤ 2147483647 := rngE (show (-2147483648 : Int) ≤ F17 1 1 ∧ F17 1 1 ≤ 2147483647 from H.krg 1 1 (ltn len_V106_thisorderSixa_oz_F5cls rfl)) (show F17 1 1 = y17_0_1 from ((eF17 1 1).trans ey17_0_1))
  have r19 : (0 : Int) ≤ y17_0_2 ∧ y17_0_2 ≤ 1 := rngE (show (0 : Int) ≤ F17 1 2 ∧ F17 1 2 ≤ 1 from H.krg 1 2 (ltn len_V106_thisorderSixa_oz_F5cls rfl)) (show F17 1 2 = y17_0_2 from ((eF17 1 2).trans ey17_0_2))
  have r20 : (-2147483648 : Int) ≤ y17_0_3 ∧ y17_0_3 ≤ 2147483647 := rngE (show (-2147483648 : Int) ≤ F17 1 3 ∧ F17 1 3 ≤ 2147483647 from H.krg 1 3 (ltn len_V106_thisorderSixa_oz_F5cls rfl)) (show F17 1 3 = y17_0_3 from ((eF17 1 3).trans ey17_0_3))
  have r21 : (-2147483648 : Int) ≤ y17_0_4 ∧ y17_0_4 ≤ 2147483647 := rngE (show (-2147483648 : Int) ≤ F17 1 4 ∧ F17 1 4 ≤ 2147483647 from H.krg 1 4 (ltn len_V106_thisorderSixa_oz_F5cls rfl)) (show F17 1 4 = y17_0_4 from ((eF17 1 4).trans ey17_0_4))
  refine Ew_of (pcₚ := 5) (fun _ => x_aload_n rfl rfl) ?_
  refine Ew_of (pcₚ := 8) (fun _ => x_sipush (z := 128) rfl (by decide)) ?_
  refine Ew_of (pcₚ := 9) (fun _ => x_iload_n rfl rfl) ?_
  refine w_iadd rfl ?_
  refine v_inv H (o := 1) rfl rfl rfl rfl rfl rfl (by rfl) (C157 (D := puc 1025 D) (N := puc 1025 N) (HW_subc H oz_F5cls_23 oz_F5cls_16) ((((show F17 1 0 = F 1 0 from (eF17 1 0).trans (hS17 0 0 rfl)))).trans (pf2)) (n2) (en2) (y17_0_1) (((eF17 1 1).trans ey17_0_1)) (w2) (((show A17 2 = A 2 from (eA17 2))).trans (ew2)) (show inr ((128 + a2)) from q_3777 h4) (show 0 ≤ (y17_0_1) ∧ (y17_0_1) ≤ (n2) ∧ (n2) ≤ 65536 from q_3776 h2 pz17_0 r6) (fun z22 σ22 D22ₚ N22ₚ F22ₚ A22ₚ c22 s22 Hₚ Oₚ hD22 hN22 hS22 hA22 pm22_1 m22_1 em22_1 w22_1 ew22_1 pz22_0 pz22_1 pz22_2 pz22_3 pz22_4 => ⟨rretB rfl pz22_0, ?_⟩))
  refine v_backMc (c := c) (s := s) H oz_F5cls_23 oz_F5cls_16 Hₚ Oₚ hD22 oz_F5cls_24 (fun D22 N22 F22 A22 H Oₚ eD22 eN22 eF22 eA22 => ?_)
  have O := OUT_trans O Oₚ
  -- Row.reserve
  have cF22 : SF oz_F5clsl_0 F F22 := SF_trans (cF17) (SF_gluc (ι := oz_F5clsl_4) oz_F5cls_16 hS22 eF22 (by decide +kernel)) (any_sub (lₚ := [(1, 0)]) (by decide +kernel))
  have mF22 := SFm_of cF22 oz_F5cls_12
  have cA22 : SA oz_F5clsl_1 A A22 := SA_trans (cA17) (SA_gluc (ι := oz_F5clsl_4) oz_F5cls_16 hA22 eA22 (by decide +kernel)) (any_subA (lₚ := [2]) (by decide +kernel))
  have mA22 := SAm_of cA22 oz_F5cls_13
  have cD22 : SD oz_F5clsl_2 D D22 := SD_trans (SD_refl) (SD_gluc (ι := oz_F5clsl_4) oz_F5cls_16 hD22 eD22 (by decide +kernel)) (any_subA (lₚ := [2]) (by decide +kernel))
  have mD22 := SDm_of cD22 oz_F5cls_14
  have cN22 : SD oz_F5clsl_2 N N22 := SD_trans (SD_refl) (SD_gluc (ι := oz_F5clsl_4) oz_F5cls_16 hN22 eN22 (by decide +kernel)) (any_subA (lₚ := [2]) (by decide +kernel))
  have mN22 := SDm_of cN22 oz_F5cls_14
  have pf22_1_0 : F22 1 0 = (D22 2 : Int) := (eF22 1 0).trans (pm22_1.trans (congrArg (fun q : Nat => (q : Int)) (eD22 2).symm))
  have r23 : (0 : Int) ≤ m22_1 ∧ m22_1 ≤ 1000000 := nleE (H.nle 2 (ltn len_V106_thisorderSixa_oz_F5cls rfl)) (show (N22 2 : Int) = m22_1 from (congrArg (fun q : Nat => (q : Int)) (eN22 2)).trans em22_1)
  refine Ew_of (pcₚ := 14) (fun _ => x_pop rfl rfl) ?_
  refine Ew_of (pcₚ := 15) (fun _ => x_aload_n rfl rfl) ?_
  refine Ew_stk (congrArg (fun qz : Nat => ([.ref qz] : List Value)) (show D22 0 = D 0 from mD22 0 rfl).symm) ?_
  refine v_g H (o := 0) (v := .ref (D22 3)) rfl rfl rfl rfl rfl (vrf ((mF22 0 6 rfl).trans ((pf3).trans (congrArg (fun q : Nat => (q : Int)) (mD22 3 rfl).symm)))) ?_
  refine Ew_of (pcₚ := 19) (fun _ => x_aload_n rfl rfl) ?_
  refine Ew_stk (congrArg (fun qz : Nat => ([.ref qz, .ref (D22 3)] : List Value)) (show D22 0 = D 0 from mD22 0 rfl).symm) ?_
  refine v_g H (o := 0) (v := .ref (D22 13)) rfl rfl rfl rfl rfl (vrf ((mF22 0 5 rfl).trans ((pf13).trans (congrArg (fun q : Nat => (q : Int)) (mD22 13 rfl).symm)))) ?_
  refine Ew_of (pcₚ := 23) (fun _ => x_iload_n rfl rfl) ?_
  refine Ew_of (pcₚ := 24) (fun _ => x_iload_n rfl rfl) ?_
  have hcn : CNT ((w13)) ((u3_1)) (a2) (a3) := by rw [show ((u3_1)) = 12 by omega]; exact WCN_CNT hwc hwg (by omega) (by omega) ⟨by omega, by omega⟩
  have r24 : (-2147483648 : Int) ≤ F 3 0 ∧ F 3 0 ≤ 2147483647 := rngE (show (-2147483648 : Int) ≤ F22 3 0 ∧ F22 3 0 ≤ 2147483647 from H.krg 3 0 (ltn len_V106_thisorderSixa_oz_F5cls rfl)) (show F22 3 0 = F 3 0 from (((show F22 3 0 = F17 3 0 from (eF22 3 0))).trans ((show F17 3 0 = F 3 0 from (eF17 3 0)))))
  refine v_inv H (o := 3) rfl rfl rfl rfl rfl rfl (by rfl) (C178_Ir (D := puc 1055235 D22) (N := puc 1055235 N22) (HW_subc H oz_F5cls_25 oz_F5cls_17) ((mF22 3 2 rfl).trans ((pf4).trans (congrArg (fun q : Nat => (q : Int)) (mD22 4 rfl).symm))) (n13) ((congrArg (fun q : Nat => (q : Int)) (mN22 13 rfl)).trans (en13)) (n4) ((congrArg (fun q : Nat => (q : Int)) (mN22 4 rfl)).trans (en4)) (F 3 0) ((((show F22 3 0 = F17 3 0 from (eF22 3 0))).trans ((show F17 3 0 = F 3 0 from (eF17 3 0))))) (u3_1) (((mF22 3 1 rfl).trans (eu3_1))) (w13) ((funext (mA22 13 rfl)).trans (ew13)) (A 4) (((show A22 4 = A17 4 from (eA22 4))).trans ((show A17 4 = A 4 from (eA17 4)))) (show inr (a2) from h0) (show inr (a3) from h1) (hcn) (show ((u3_1)) ≤ (n13) ∧ (n4) = ((u3_1)) from q_3778 h3 h6) (fun σ25 F25ₚ A25ₚ Hₚ Oₚ hS25 hA25 y25_0_0 ey25_0_0 w25_2 ew25_2 pz25_0 pz25_1 pz25_2 pz25_3 => ⟨rfl, ?_⟩))
  refine v_backc (c := (c + c22)) (s := (s + s22)) H oz_F5cls_25 oz_F5cls_17 Hₚ Oₚ (fun F25 A25 H Oₚ eF25 eA25 => ?_)
  have O := OUT_trans O Oₚ
  -- Share.takeCounts
  have cF25 : SF oz_F5clsl_0 F F25 := SF_trans (cF22) (SF_gluc (ι := oz_F5clsl_5) oz_F5cls_17 hS25 eF25 (by decide +kernel)) (any_sub (lₚ := [(3, 0)]) (by decide +kernel))
  have mF25 := SFm_of cF25 oz_F5cls_12
  have cA25 : SA oz_F5clsl_1 A A25 := SA_trans (cA22) (SA_gluc (ι := oz_F5clsl_5) oz_F5cls_17 hA25 eA25 (by decide +kernel)) (any_subA (lₚ := [4]) (by decide +kernel))
  have mA25 := SAm_of cA25 oz_F5cls_13
  have r26 : (-2147483648 : Int) ≤ y25_0_0 ∧ y25_0_0 ≤ 2147483647 := rngE (show (-2147483648 : Int) ≤ F25 3 0 ∧ F25 3 0 ≤ 2147483647 from H.krg 3 0 (ltn len_V106_thisorderSixa_oz_F5cls rfl)) (show F25 3 0 = y25_0_0 from ((eF25 3 0).trans ey25_0_0))
  refine Ew_of (pcₚ := 28) (fun _ => x_aload_n rfl rfl) ?_
  refine Ew_stk (congrArg (fun qz : Nat => ([.ref qz] : List Value)) (show D22 0 = D 0 from mD22 0 rfl).symm) ?_
  refine v_g H (o := 0) (v := .ref (D22 3)) rfl rfl rfl rfl rfl (vrf ((mF25 0 6 rfl).trans ((pf3).trans (congrArg (fun q : Nat => (q : Int)) (mD22 3 rfl).symm)))) ?_
  have hpo : p2 ((y25_0_0)) ≤ p2 6 := p2_mono (by omega)
  have hdv := pz25_1
  refine v_inv H (o := 3) rfl rfl rfl rfl rfl rfl (by rfl) (C169 (D := puc 52038427443478050113539 D22) (N := puc 52038427443478050113539 N22) (HW_subc H oz_F5cls_26 oz_F5cls_18) ((mF25 3 2 rfl).trans ((pf4).trans (congrArg (fun q : Nat => (q : Int)) (mD22 4 rfl).symm))) ((mF25 3 3 rfl).trans ((pf5).trans (congrArg (fun q : Nat => (q : Int)) (mD22 5 rfl).symm))) ((mF25 3 4 rfl).trans ((pf6).trans (congrArg (fun q : Nat => (q : Int)) (mD22 6 rfl).symm))) ((mF25 3 5 rfl).trans ((pf7).trans (congrArg (fun q : Nat => (q : Int)) (mD22 7 rfl).symm))) ((mF25 3 6 rfl).trans ((pf8).trans (congrArg (fun q : Nat => (q : Int)) (mD22 8 rfl).symm))) ((mF25 3 8 rfl).trans ((pf9).trans (congrArg (fun q : Nat => (q : Int)) (mD22 9 rfl).symm))) ((mF25 3 7 rfl).trans ((pf10).trans (congrArg (fun q : Nat => (q : Int)) (mD22 10 rfl).symm))) ((mF25 3 9 rfl).trans ((pf11).trans (congrArg (fun q : Nat => (q : Int)) (mD22 11 rfl).symm))) (n4) ((congrArg (fun q : Nat => (q : Int)) (mN22 4 rfl)).trans (en4)) (n5) ((congrArg (fun q : Nat => (q : Int)) (mN22 5 rfl)).trans (en5)) (n6) ((congrArg (fun q : Nat => (q : Int)) (mN22 6 rfl)).trans (en6)) (n7) ((congrArg (fun q : Nat => (q : Int)) (mN22 7 rfl)).trans (en7)) (n8) ((congrArg (fun q : Nat => (q : Int)) (mN22 8 rfl)).trans (en8)) (n9) ((congrArg (fun q : Nat => (q : Int)) (mN22 9 rfl)).trans (en9)) (n10) ((congrArg (fun q : Nat => (q : Int)) (mN22 10 rfl)).trans (en10)) (n11) ((congrArg (fun q : Nat => (q : Int)) (mN22 11 rfl)).trans (en11)) (y25_0_0) (((eF25 3 0).trans ey25_0_0)) (u3_1) (((mF25 3 1 rfl).trans (eu3_1))) (w25_2) ((eA25 4).trans ew25_2) (A 5) (((show A25 5 = A22 5 from (eA25 5))).trans (((show A22 5 = A17 5 from (eA22 5))).trans ((show A17 5 = A 5 from (eA17 5))))) (A 6) (((show A25 6 = A22 6 from (eA25 6))).trans (((show A22 6 = A17 6 from (eA22 6))).trans ((show A17 6 = A 6 from (eA17 6))))) (A 7) (((show A25 7 = A22 7 from (eA25 7))).trans (((show A22 7 = A17 7 from (eA22 7))).trans ((show A17 7 = A 7 from (eA17 7))))) (A 9) (((show A25 9 = A22 9 from (eA25 9))).trans (((show A22 9 = A17 9 from (eA22 9))).trans ((show A17 9 = A 9 from (eA17 9))))) (A 10) (((show A25 10 = A22 10 from (eA25 10))).trans (((show A22 10 = A17 10 from (eA22 10))).trans ((show A17 10 = A 10 from (eA17 10))))) (A 11) (((show A25 11 = A22 11 from (eA25 11))).trans (((show A22 11 = A17 11 from (eA22 11))).trans ((show A17 11 = A 11 from (eA17 11))))) (pz25_0) (show (n4) = (u3_1) ∧ (n5) = (u3_1) ∧ (n6) = (u3_1) ∧ (n7) = (u3_1) ∧ (n8) = (u3_1) ∧ (n9) = (n10) ∧ (n11) = (n10) ∧ p2 ((y25_0_0)) ≤ (n10) from q_3779 h3 hp6 hpo) (fun σ27 F27ₚ A27ₚ Hₚ Oₚ hS27 hA27 w27_2 ew27_2 w27_3 ew27_3 w27_4 ew27_4 w27_6 ew27_6 w27_7 ew27_7 w27_8 ew27_8 pz27_0 => ⟨rfl, ?_⟩))
  refine v_backc (c := (c + c22)) (s := (s + s22)) H oz_F5cls_26 oz_F5cls_18 Hₚ Oₚ (fun F27 A27 H Oₚ eF27 eA27 => ?_)
  have O := OUT_trans O Oₚ
  -- Share.lay
  have cF27 : SF oz_F5clsl_0 F F27 := SF_trans (cF25) (SF_gluc (ι := oz_F5clsl_6) oz_F5cls_18 hS27 eF27 (by decide +kernel)) (any_sub (lₚ := []) (by decide +kernel))
  have mF27 := SFm_of cF27 oz_F5cls_12
  have cA27 : SA oz_F5clsl_1 A A27 := SA_trans (cA25) (SA_gluc (ι := oz_F5clsl_6) oz_F5cls_18 hA27 eA27 (by decide +kernel)) (any_subA (lₚ := [5, 6, 7, 8, 9, 10, 11]) (by decide +kernel))
  have mA27 := SAm_of cA27 oz_F5cls_13
  obtain ⟨bi_, ba_, hLD, hBIA⟩ := SL_LD pz27_0
  have hSLw := pz27_0
  have hPD : (dvP (cutP ((u3_1)) ((w13))) ((a2)) (p2 (a3))) = cutP ((u3_1)) ((w25_2)) := dvP_c pz25_3 (by omega)
  have hTB : TBX ((((y25_0_0)), 12, (dvP (cutP ((u3_1)) ((w13))) ((a2)) (p2 (a3)))) : Tb) ((y25_0_0)) ((w27_7)) bi_ ba_ := TBX_LD hLD (by omega) (by omega) (fun i a b => by rw [hPD]) (fun i a b => cutP_z (by omega))
  refine Ew_of (pcₚ := 35) (fun _ => x_aload_n rfl rfl) ?_
  refine Ew_stk (congrArg (fun qz : Nat => ([.ref qz] : List Value)) (show D22 0 = D 0 from mD22 0 rfl).symm) ?_
  refine v_g H (o := 0) (v := .ref (D22 3)) rfl rfl rfl rfl rfl (vrf ((mF27 0 6 rfl).trans ((pf3).trans (congrArg (fun q : Nat => (q : Int)) (mD22 3 rfl).symm)))) ?_
  refine Ew_of (pcₚ := 39) (fun _ => x_aload_n rfl rfl) ?_
  have hp39 := p2_pos ((y17_0_4))
  refine Ew_stk (congrArg (fun qz : Nat => ([.ref qz, .ref (D22 3)] : List Value)) (show D22 1 = D 1 from mD22 1 rfl).symm) ?_
  refine v_inv H (o := 3) rfl rfl rfl rfl rfl rfl (by rfl) (C181_Row (D := puc 269484547 D22) (N := puc 269484547 N22) (HW_subc H oz_F5cls_27 oz_F5cls_19) ((mF27 3 2 rfl).trans ((pf4).trans (congrArg (fun q : Nat => (q : Int)) (mD22 4 rfl).symm))) (((((show F27 1 0 = F25 1 0 from (eF27 1 0))).trans ((show F25 1 0 = F22 1 0 from (eF25 1 0))))).trans (pf22_1_0)) (n4) ((congrArg (fun q : Nat => (q : Int)) (mN22 4 rfl)).trans (en4)) (m22_1) ((congrArg (fun q : Nat => (q : Int)) (eN22 2)).trans em22_1) (y25_0_0) ((((show F27 3 0 = F25 3 0 from (eF27 3 0).trans (hS27 0 0 rfl))).trans ((eF25 3 0).trans ey25_0_0))) (u3_1) (((mF27 3 1 rfl).trans (eu3_1))) (y17_0_1) ((((((show F27 1 1 = F25 1 1 from (eF27 1 1))).trans ((show F25 1 1 = F22 1 1 from (eF25 1 1)))).trans ((show F22 1 1 = F17 1 1 from (eF22 1 1).trans (hS22 0 1 rfl)))).trans ((eF17 1 1).trans ey17_0_1))) (y17_0_2) ((((((show F27 1 2 = F25 1 2 from (eF27 1 2))).trans ((show F25 1 2 = F22 1 2 from (eF25 1 2)))).trans ((show F22 1 2 = F17 1 2 from (eF22 1 2).trans (hS22 0 2 rfl)))).trans ((eF17 1 2).trans ey17_0_2))) (y17_0_3) ((((((show F27 1 3 = F25 1 3 from (eF27 1 3))).trans ((show F25 1 3 = F22 1 3 from (eF25 1 3)))).trans ((show F22 1 3 = F17 1 3 from (eF22 1 3).trans (hS22 0 3 rfl)))).trans ((eF17 1 3).trans ey17_0_3))) (y17_0_4) ((((((show F27 1 4 = F25 1 4 from (eF27 1 4))).trans ((show F25 1 4 = F22 1 4 from (eF25 1 4)))).trans ((show F22 1 4 = F17 1 4 from (eF22 1 4).trans (hS22 0 4 rfl)))).trans ((eF17 1 4).trans ey17_0_4))) (w25_2) (((show A27 4 = A25 4 from (eA27 4).trans (funext (hA27 1 rfl)))).trans ((eA25 4).trans ew25_2)) (w22_1) (((show A27 2 = A25 2 from (eA27 2))).trans (((show A25 2 = A22 2 from (eA25 2))).trans ((eA22 2).trans ew22_1))) (pz25_0) (show 5 ≤ ((y25_0_0)) from q_3782 h5 pz25_2) (show (n4) = ((u3_1)) from q_3781 h3) (show 0 ≤ (y17_0_1) ∧ (y17_0_1) ≤ (m22_1) ∧ (m22_1) ≤ 65536 from pz22_1) (show 0 ≤ (y17_0_4) ∧ (y17_0_4) ≤ 7 from q_3780 pz17_0) (fun σ28 F28ₚ A28ₚ Hₚ Oₚ hS28 hA28 y28_1_1 ey28_1_1 y28_1_2 ey28_1_2 y28_1_3 ey28_1_3 y28_1_4 ey28_1_4 w28_3 ew28_3 pz28_0 pz28_1 pz28_2 pz28_3 pz28_4 => ⟨rfl, ?_⟩))
  refine v_backc (c := (c + c22)) (s := (s + s22)) H oz_F5cls_27 oz_F5cls_19 Hₚ Oₚ (fun F28 A28 H Oₚ eF28 eA28 => ?_)
  have O := OUT_trans O Oₚ
  -- Share.tell
  have cF28 : SF oz_F5clsl_0 F F28 := SF_trans (cF27) (SF_gluc (ι := oz_F5clsl_7) oz_F5cls_19 hS28 eF28 (by decide +kernel)) (any_sub (lₚ := [(1, 1), (1, 2), (1, 3), (1, 4)]) (by decide +kernel))
  have mF28 := SFm_of cF28 oz_F5cls_12
  have cA28 : SA oz_F5clsl_1 A A28 := SA_trans (cA27) (SA_gluc (ι := oz_F5clsl_7) oz_F5cls_19 hA28 eA28 (by decide +kernel)) (any_subA (lₚ := [2]) (by decide +kernel))
  have mA28 := SAm_of cA28 oz_F5cls_13
  have r29 : (-2147483648 : Int) ≤ y28_1_1 ∧ y28_1_1 ≤ 2147483647 := rngE (show (-2147483648 : Int) ≤ F28 1 1 ∧ F28 1 1 ≤ 2147483647 from H.krg 1 1 (ltn len_V106_thisorderSixa_oz_F5cls rfl)) (show F28 1 1 = y28_1_1 from ((eF28 1 1).trans ey28_1_1))
  have r30 : (0 : Int) ≤ y28_1_2 ∧ y28_1_2 ≤ 1 := rngE (show (0 : Int) ≤ F28 1 2 ∧ F28 1 2 ≤ 1 from H.krg 1 2 (ltn len_V106_thisorderSixa_oz_F5cls rfl)) (show F28 1 2 = y28_1_2 from ((eF28 1 2).trans ey28_1_2))
  have r31 : (-2147483648 : Int) ≤ y28_1_3 ∧ y28_1_3 ≤ 2147483647 := rngE (show (-2147483648 : Int) ≤ F28 1 3 ∧ F28 1 3 ≤ 2147483647 from H.krg 1 3 (ltn len_V106_thisorderSixa_oz_F5cls rfl)) (show F28 1 3 = y28_1_3 from ((eF28 1 3).trans ey28_1_3))
  have r32 : (-2147483648 : Int) ≤ y28_1_4 ∧ y28_1_4 ≤ 2147483647 := rngE (show (-2147483648 : Int) ≤ F28 1 4 ∧ F28 1 4 ≤ 2147483647 from H.krg 1 4 (ltn len_V106_thisorderSixa_oz_F5cls rfl)) (show F28 1 4 = y28_1_4 from ((eF28 1 4).trans ey28_1_4))
  have hph : p2 ((y28_1_4)) = 1 := by rw [show (y28_1_4) = 0 by omega]; decide
  have hT42 : RBB ((y28_1_2)) ((w28_3)) ((y28_1_1)) ((y28_1_3)) ((y28_1_4)) (byw (STB (dvP (cutP ((u3_1)) ((w13))) ((a2)) (p2 (a3))) ((y25_0_0)))) ([]) := by have h := (pz28_3 ⟨by omega, by omega, by have := p2_pos ((y28_1_4)); omega⟩).1 [] [] (RBB_new (by omega) (sc_nil (by omega)) (by omega) (by omega)); rw [List.nil_append, List.nil_append, ← hPD] at h; exact h
  have hc42 : (y28_1_1) ≤ 100 := by have h := (pz28_3 ⟨by omega, by omega, by omega⟩).2; omega
  have hpz : p2 (0 : Int) = 1 := by decide
  refine Ew_of (pcₚ := 43) (fun _ => x_aload_n rfl rfl) ?_
  refine Ew_stk (congrArg (fun qz : Nat => ([.ref qz] : List Value)) (show D22 0 = D 0 from mD22 0 rfl).symm) ?_
  refine v_g H (o := 0) (v := .ref (D22 3)) rfl rfl rfl rfl rfl (vrf ((mF28 0 6 rfl).trans ((pf3).trans (congrArg (fun q : Nat => (q : Int)) (mD22 3 rfl).symm)))) ?_
  refine Ew_of (pcₚ := 47) (fun _ => x_aload_n rfl rfl) ?_
  refine Ew_stk (congrArg (fun qz : Nat => ([.ref qz, .ref (D22 3)] : List Value)) (show D22 0 = D 0 from mD22 0 rfl).symm) ?_
  refine v_g H (o := 0) (v := .ref (D22 12)) rfl rfl rfl rfl rfl (vrf ((mF28 0 4 rfl).trans ((pf12).trans (congrArg (fun q : Nat => (q : Int)) (mD22 12 rfl).symm)))) ?_
  refine Ew_of (pcₚ := 51) (fun _ => x_iload_n rfl rfl) ?_
  refine Ew_of (pcₚ := 52) (fun _ => x_iconst rfl) ?_
  refine w_isub rfl ?_
  refine v_lI H (o := 12) rfl rfl rfl rfl (n := n12) ((congrArg (fun q : Nat => (q : Int)) (mN22 12 rfl)).trans (en12)) (show 0 ≤ (a2 - 1) ∧ (a2 - 1) < n12 from q_3783 h4 h6 r15) (fun v33 ev33 qv33 => ?_)
  have ev33 : (w12) ((a2 - 1)) = v33 := (congrFun ((funext (mA28 12 rfl)).trans (ew12)) ((a2 - 1))).symm.trans ev33
  have hwax := hwg ((a2) - 1) (by omega) (by omega)
  have heax := ev33
  rw [heax] at hwax
  have hcpx := WCN_pos hwc (by omega) (by omega) heax (by omega) (by omega)
  have hdpx := hdv ((v33)) (by omega) (by omega)
  obtain ⟨qx, hqx⟩ : ∃ q : Int, q = (v33) := ⟨_, rfl⟩
  have hxq : ((w12)) ((a2) - 1) = qx := by rw [hqx]; exact heax
  refine v_inv H (o := 3) rfl rfl rfl rfl rfl rfl (by rfl) (C174 (D := puc 37880551437274713425923 D22) (N := puc 37880551437274713425923 N22) (HW_subc H oz_F5cls_28 oz_F5cls_20) ((mF28 3 2 rfl).trans ((pf4).trans (congrArg (fun q : Nat => (q : Int)) (mD22 4 rfl).symm))) ((mF28 3 3 rfl).trans ((pf5).trans (congrArg (fun q : Nat => (q : Int)) (mD22 5 rfl).symm))) ((mF28 3 4 rfl).trans ((pf6).trans (congrArg (fun q : Nat => (q : Int)) (mD22 6 rfl).symm))) ((mF28 3 5 rfl).trans ((pf7).trans (congrArg (fun q : Nat => (q : Int)) (mD22 7 rfl).symm))) ((mF28 3 7 rfl).trans ((pf10).trans (congrArg (fun q : Nat => (q : Int)) (mD22 10 rfl).symm))) ((mF28 3 8 rfl).trans ((pf9).trans (congrArg (fun q : Nat => (q : Int)) (mD22 9 rfl).symm))) ((mF28 3 9 rfl).trans ((pf11).trans (congrArg (fun q : Nat => (q : Int)) (mD22 11 rfl).symm))) ((mF28 3 6 rfl).trans ((pf8).trans (congrArg (fun q : Nat => (q : Int)) (mD22 8 rfl).symm))) (n4) ((congrArg (fun q : Nat => (q : Int)) (mN22 4 rfl)).trans (en4)) (n5) ((congrArg (fun q : Nat => (q : Int)) (mN22 5 rfl)).trans (en5)) (n6) ((congrArg (fun q : Nat => (q : Int)) (mN22 6 rfl)).trans (en6)) (n7) ((congrArg (fun q : Nat => (q : Int)) (mN22 7 rfl)).trans (en7)) (n10) ((congrArg (fun q : Nat => (q : Int)) (mN22 10 rfl)).trans (en10)) (n9) ((congrArg (fun q : Nat => (q : Int)) (mN22 9 rfl)).trans (en9)) (n11) ((congrArg (fun q : Nat => (q : Int)) (mN22 11 rfl)).trans (en11)) (n8) ((congrArg (fun q : Nat => (q : Int)) (mN22 8 rfl)).trans (en8)) (y25_0_0) (((((show F28 3 0 = F27 3 0 from (eF28 3 0).trans (hS28 0 0 rfl))).trans ((show F27 3 0 = F25 3 0 from (eF27 3 0).trans (hS27 0 0 rfl)))).trans ((eF25 3 0).trans ey25_0_0))) (u3_1) (((mF28 3 1 rfl).trans (eu3_1))) (w25_2) (((show A28 4 = A27 4 from (eA28 4).trans (funext (hA28 2 rfl)))).trans (((show A27 4 = A25 4 from (eA27 4).trans (funext (hA27 1 rfl)))).trans ((eA25 4).trans ew25_2))) (w27_2) (((show A28 5 = A27 5 from (eA28 5))).trans ((eA27 5).trans ew27_2)) (w27_3) (((show A28 6 = A27 6 from (eA28 6))).trans ((eA27 6).trans ew27_3)) (w27_4) (((show A28 7 = A27 7 from (eA28 7))).trans ((eA27 7).trans ew27_4)) (w27_7) (((show A28 10 = A27 10 from (eA28 10))).trans ((eA27 10).trans ew27_7)) (w27_6) (((show A28 9 = A27 9 from (eA28 9))).trans ((eA27 9).trans ew27_6)) (w27_8) (((show A28 11 = A27 11 from (eA28 11))).trans ((eA27 11).trans ew27_8)) (show inr (v33) from qv33) (pz27_0) (show (n4) = (u3_1) ∧ (n5) = (u3_1) ∧ (n6) = (u3_1) ∧ (n7) = (u3_1) ∧ (n8) = (u3_1) ∧ (n9) = (n10) ∧ (n11) = (n10) ∧ p2 ((y25_0_0)) ≤ (n10) from q_3779 h3 hp6 hpo) (show 0 ≤ (v33) ∧ (v33) < ((u3_1)) ∧ ((w25_2)) (v33) ≠ 0 by omega) (fun z34 σ34 F34ₚ A34ₚ Hₚ Oₚ hS34 hA34 pz34_0 pz34_1 pz34_2 => ⟨rfl, ?_⟩))
  refine v_backc (c := (c + c22)) (s := (s + s22)) H oz_F5cls_28 oz_F5cls_20 Hₚ Oₚ (fun F34 A34 H Oₚ eF34 eA34 => ?_)
  have O := OUT_trans O Oₚ
  -- Share.lowestPlace
  have cF34 : SF oz_F5clsl_0 F F34 := SF_trans (cF28) (SF_gluc (ι := oz_F5clsl_8) oz_F5cls_20 hS34 eF34 (by decide +kernel)) (any_sub (lₚ := []) (by decide +kernel))
  have mF34 := SFm_of cF34 oz_F5cls_12
  have cA34 : SA oz_F5clsl_1 A A34 := SA_trans (cA28) (SA_gluc (ι := oz_F5clsl_8) oz_F5cls_20 hA34 eA34 (by decide +kernel)) (any_subA (lₚ := []) (by decide +kernel))
  have mA34 := SAm_of cA34 oz_F5cls_13
  have hlo1 : loF ((((y25_0_0)), 12, (dvP (cutP ((u3_1)) ((w13))) ((a2)) (p2 (a3)))) : Tb) qx = (z34) := by rw [hqx]; exact loF_e hTB (SL_LOW (by omega) pz34_2.1 pz34_2.2)
  refine Ew_of (pcₚ := 59) (fun _ => x_istore rfl) ?_
  refine Ew_of (pcₚ := 60) (fun _ => x_aload_n rfl (rk_o (rfl) rfl rfl)) ?_
  refine Ew_stk (congrArg (fun qz : Nat => ([.ref qz] : List Value)) (show D22 0 = D 0 from mD22 0 rfl).symm) ?_
  refine v_g H (o := 0) (v := .ref (D22 3)) rfl rfl rfl rfl rfl (vrf ((mF34 0 6 rfl).trans ((pf3).trans (congrArg (fun q : Nat => (q : Int)) (mD22 3 rfl).symm)))) ?_
  refine Ew_of (pcₚ := 64) (fun _ => x_aload_n rfl (rk_o (rfl) rfl rfl)) ?_
  refine Ew_stk (congrArg (fun qz : Nat => ([.ref qz, .ref (D22 3)] : List Value)) (show D22 0 = D 0 from mD22 0 rfl).symm) ?_
  refine v_g H (o := 0) (v := .ref (D22 12)) rfl rfl rfl rfl rfl (vrf ((mF34 0 4 rfl).trans ((pf12).trans (congrArg (fun q : Nat => (q : Int)) (mD22 12 rfl).symm)))) ?_
  refine Ew_of (pcₚ := 68) (fun _ => x_iload_n rfl (rk_o (rfl) rfl rfl)) ?_
  refine Ew_of (pcₚ := 69) (fun _ => x_iconst rfl) ?_
  refine w_isub rfl ?_
  refine v_lI H (o := 12) rfl rfl rfl rfl (n := n12) ((congrArg (fun q : Nat => (q : Int)) (mN22 12 rfl)).trans (en12)) (show 0 ≤ (a2 - 2) ∧ (a2 - 2) < n12 from q_3784 h4 h6 r15) (fun v35 ev35 qv35 => ?_)
  have ev35 : (w12) ((a2 - 2)) = v35 := (congrFun ((funext (mA34 12 rfl)).trans (ew12)) ((a2 - 2))).symm.trans ev35
  have hway := hwg ((a2) - 2) (by omega) (by omega)
  have heay := ev35
  rw [heay] at hway
  have hcpy := WCN_pos hwc (by omega) (by omega) heay (by omega) (by omega)
  have hdpy := hdv ((v35)) (by omega) (by omega)
  obtain ⟨qy, hqy⟩ : ∃ q : Int, q = (v35) := ⟨_, rfl⟩
  have hyq : ((w12)) ((a2) - 2) = qy := by rw [hqy]; exact heay
  refine v_inv H (o := 3) rfl rfl rfl rfl rfl rfl (by rfl) (C174 (D := puc 37880551437274713425923 D22) (N := puc 37880551437274713425923 N22) (HW_subc H oz_F5cls_28 oz_F5cls_20) ((mF34 3 2 rfl).trans ((pf4).trans (congrArg (fun q : Nat => (q : Int)) (mD22 4 rfl).symm))) ((mF34 3 3 rfl).trans ((pf5).trans (congrArg (fun q : Nat => (q : Int)) (mD22 5 rfl).symm))) ((mF34 3 4 rfl).trans ((pf6).trans (congrArg (fun q : Nat => (q : Int)) (mD22 6 rfl).symm))) ((mF34 3 5 rfl).trans ((pf7).trans (congrArg (fun q : Nat => (q : Int)) (mD22 7 rfl).symm))) ((mF34 3 7 rfl).trans ((pf10).trans (congrArg (fun q : Nat => (q : Int)) (mD22 10 rfl).symm))) ((mF34 3 8 rfl).trans ((pf9).trans (congrArg (fun q : Nat => (q : Int)) (mD22 9 rfl).symm))) ((mF34 3 9 rfl).trans ((pf11).trans (congrArg (fun q : Nat => (q : Int)) (mD22 11 rfl).symm))) ((mF34 3 6 rfl).trans ((pf8).trans (congrArg (fun q : Nat => (q : Int)) (mD22 8 rfl).symm))) (n4) ((congrArg (fun q : Nat => (q : Int)) (mN22 4 rfl)).trans (en4)) (n5) ((congrArg (fun q : Nat => (q : Int)) (mN22 5 rfl)).trans (en5)) (n6) ((congrArg (fun q : Nat => (q : Int)) (mN22 6 rfl)).trans (en6)) (n7) ((congrArg (fun q : Nat => (q : Int)) (mN22 7 rfl)).trans (en7)) (n10) ((congrArg (fun q : Nat => (q : Int)) (mN22 10 rfl)).trans (en10)) (n9) ((congrArg (fun q : Nat => (q : Int)) (mN22 9 rfl)).trans (en9)) (n11) ((congrArg (fun q : Nat => (q : Int)) (mN22 11 rfl)).trans (en11)) (n8) ((congrArg (fun q : Nat => (q : Int)) (mN22 8 rfl)).trans (en8)) (y25_0_0) ((((((show F34 3 0 = F28 3 0 from (eF34 3 0).trans (hS34 0 0 rfl))).trans ((show F28 3 0 = F27 3 0 from (eF28 3 0).trans (hS28 0 0 rfl)))).trans ((show F27 3 0 = F25 3 0 from (eF27 3 0).trans (hS27 0 0 rfl)))).trans ((eF25 3 0).trans ey25_0_0))) (u3_1) (((mF34 3 1 rfl).trans (eu3_1))) (w25_2) (((show A34 4 = A28 4 from (eA34 4).trans (funext (hA34 1 rfl)))).trans (((show A28 4 = A27 4 from (eA28 4).trans (funext (hA28 2 rfl)))).trans (((show A27 4 = A25 4 from (eA27 4).trans (funext (hA27 1 rfl)))).trans ((eA25 4).trans ew25_2)))) (w27_2) (((show A34 5 = A28 5 from (eA34 5).trans (funext (hA34 2 rfl)))).trans (((show A28 5 = A27 5 from (eA28 5))).trans ((eA27 5).trans ew27_2))) (w27_3) (((show A34 6 = A28 6 from (eA34 6).trans (funext (hA34 3 rfl)))).trans (((show A28 6 = A27 6 from (eA28 6))).trans ((eA27 6).trans ew27_3))) (w27_4) (((show A34 7 = A28 7 from (eA34 7).trans (funext (hA34 4 rfl)))).trans (((show A28 7 = A27 7 from (eA28 7))).trans ((eA27 7).trans ew27_4))) (w27_7) (((show A34 10 = A28 10 from (eA34 10).trans (funext (hA34 5 rfl)))).trans (((show A28 10 = A27 10 from (eA28 10))).trans ((eA27 10).trans ew27_7))) (w27_6) (((show A34 9 = A28 9 from (eA34 9).trans (funext (hA34 6 rfl)))).trans (((show A28 9 = A27 9 from (eA28 9))).trans ((eA27 9).trans ew27_6))) (w27_8) (((show A34 11 = A28 11 from (eA34 11).trans (funext (hA34 7 rfl)))).trans (((show A28 11 = A27 11 from (eA28 11))).trans ((eA27 11).trans ew27_8))) (show inr (v35) from qv35) (pz27_0) (show (n4) = (u3_1) ∧ (n5) = (u3_1) ∧ (n6) = (u3_1) ∧ (n7) = (u3_1) ∧ (n8) = (u3_1) ∧ (n9) = (n10) ∧ (n11) = (n10) ∧ p2 ((y25_0_0)) ≤ (n10) from q_3779 h3 hp6 hpo) (show 0 ≤ (v35) ∧ (v35) < ((u3_1)) ∧ ((w25_2)) (v35) ≠ 0 by omega) (fun z36 σ36 F36ₚ A36ₚ Hₚ Oₚ hS36 hA36 pz36_0 pz36_1 pz36_2 => ⟨rfl, ?_⟩))
  refine v_backc (c := (c + c22)) (s := (s + s22)) H oz_F5cls_28 oz_F5cls_20 Hₚ Oₚ (fun F36 A36 H Oₚ eF36 eA36 => ?_)
  have O := OUT_trans O Oₚ
  -- Share.lowestPlace
  have cF36 : SF oz_F5clsl_0 F F36 := SF_trans (cF34) (SF_gluc (ι := oz_F5clsl_8) oz_F5cls_20 hS36 eF36 (by decide +kernel)) (any_sub (lₚ := []) (by decide +kernel))
  have mF36 := SFm_of cF36 oz_F5cls_12
  have cA36 : SA oz_F5clsl_1 A A36 := SA_trans (cA34) (SA_gluc (ι := oz_F5clsl_8) oz_F5cls_20 hA36 eA36 (by decide +kernel)) (any_subA (lₚ := []) (by decide +kernel))
  have mA36 := SAm_of cA36 oz_F5cls_13
  have hlo2 : loF ((((y25_0_0)), 12, (dvP (cutP ((u3_1)) ((w13))) ((a2)) (p2 (a3)))) : Tb) qy = (z36) := by rw [hqy]; exact loF_e hTB (SL_LOW (by omega) pz36_2.1 pz36_2.2)
  refine Ew_of (pcₚ := 76) (fun _ => x_istore rfl) ?_
  refine Ew_of (pcₚ := 77) (fun _ => x_iload_n rfl (rk_o (rk_o (rfl) rfl rfl) rfl rfl)) ?_
  refine Ew_of (pcₚ := 78) (fun _ => x_iconst rfl) ?_
  refine w_isub rfl ?_
  refine Ew_of (pcₚ := 81) (fun _ => x_istore rfl) ?_
  have hw81 : ∃ B, WSO ((((y25_0_0)), 12, (dvP (cutP ((u3_1)) ((w13))) ((a2)) (p2 (a3)))) : Tb) ((w12)) ((a2)) (((a2 - 3))) ((z34)) ((z36)) B ∧ RBB ((y28_1_2)) ((w28_3)) ((y28_1_1)) ((y28_1_3)) ((y28_1_4)) (byw (STB (dvP (cutP ((u3_1)) ((w13))) ((a2)) (p2 (a3))) ((y25_0_0)))) (B) := ⟨[], WSO_0 hlo1 hxq hlo2 hyq (by omega), hT42⟩
  suffices hl81 : ∀ (m : Nat), ∀ (ls : rO) (σ : rS) (F_81 : hF) (A_81 : hA) (x81_4 : Int) (x81_5 : Int) (x81_6 : Int), rlook ls 0 = some (.ref (D22 0)) → rlook ls 1 = some (.ref (D22 1)) → rlook ls 3 = some (I (a3)) → rlook ls 4 = some (I (x81_4)) → rlook ls 5 = some (I (x81_5)) → rlook ls 6 = some (I (x81_6)) → HW V106_thisorderSixa σ D22 N22 F_81 A_81 → OUT (V106_thisorderSixa).length D N σE c s D22 N22 σ (c + c22) (s + s22) → SF [(1, 1), (1, 2), (1, 3), (1, 4)] F36 F_81 → SA [2] A36 A_81 → ∀ y81_1_1 : Int, F_81 1 1 = y81_1_1 → ∀ y81_1_2 : Int, F_81 1 2 = y81_1_2 → ∀ y81_1_3 : Int, F_81 1 3 = y81_1_3 → ∀ y81_1_4 : Int, F_81 1 4 = y81_1_4 → ∀ w81_2 : Int → Int, A_81 2 = w81_2 → (inr (x81_4)) → (inr (x81_5)) → (inr (x81_6)) → ((x81_6) ≤ ((a2 - 3))) → (((a2 - 3)) ≤ (x81_6) ∨ ((-1)) ≤ (x81_6)) → (0 ≤ (x81_4) ∧ (x81_4) < p2 ((y25_0_0))) → (0 ≤ (x81_5) ∧ (x81_5) < p2 ((y25_0_0))) → (0 ≤ (y81_1_1) ∧ (y81_1_1) ≤ (m22_1) ∧ (m22_1) ≤ 65536) → (0 ≤ (y81_1_4) ∧ (y81_1_4) ≤ 7) → (0 ≤ (y81_1_3) ∧ (y81_1_3) < p2 ((y81_1_4))) → (8 * (y81_1_1) + (y81_1_4) ≤ 808 + 6 * ((a2) - 3 - (x81_6))) → (128 + (a2) ≤ (m22_1)) → (-1 ≤ (x81_6)) → (∃ B, WSO ((((y25_0_0)), 12, (dvP (cutP ((u3_1)) ((w13))) ((a2)) (p2 (a3)))) : Tb) ((w12)) ((a2)) ((x81_6)) ((x81_4)) ((x81_5)) B ∧ RBB ((y81_1_2)) ((w81_2)) ((y81_1_1)) ((y81_1_3)) ((y81_1_4)) (byw (STB (dvP (cutP ((u3_1)) ((w13))) ((a2)) (p2 (a3))) ((y25_0_0)))) (B)) → ((x81_6) - ((-1))).toNat = m → Ew 106 (d + 2) 81 ls [] σ (c + c22) (s + s22) Q from
    hl81 _ _ _ _ _ (z34) (z36) ((a2 - 3)) ((rk_o (rk_o (rk_o (rfl) rfl rfl) rfl rfl) rfl rfl).trans (congrArg (fun q : Nat => some (Value.ref q)) (mD22 0 rfl).symm)) ((rk_o (rk_o (rk_o (rfl) rfl rfl) rfl rfl) rfl rfl).trans (congrArg (fun q : Nat => some (Value.ref q)) (mD22 1 rfl).symm)) (rk_o (rk_o (rk_o (rfl) rfl rfl) rfl rfl) rfl rfl) (rk_o (rk_o (rk_s) rfl rfl) rfl rfl) (rk_o (rk_s) rfl rfl) (rk_s) H O (SF_refl) (SA_refl)   (y28_1_1) (((((show F36 1 1 = F34 1 1 from (eF36 1 1))).trans ((show F34 1 1 = F28 1 1 from (eF34 1 1)))).trans ((eF28 1 1).trans ey28_1_1))) (y28_1_2) (((((show F36 1 2 = F34 1 2 from (eF36 1 2))).trans ((show F34 1 2 = F28 1 2 from (eF34 1 2)))).trans ((eF28 1 2).trans ey28_1_2))) (y28_1_3) (((((show F36 1 3 = F34 1 3 from (eF36 1 3))).trans ((show F34 1 3 = F28 1 3 from (eF34 1 3)))).trans ((eF28 1 3).trans ey28_1_3))) (y28_1_4) (((((show F36 1 4 = F34 1 4 from (eF36 1 4))).trans ((show F34 1 4 = F28 1 4 from (eF34 1 4)))).trans ((eF28 1 4).trans ey28_1_4))) (w28_3) (((show A36 2 = A34 2 from (eA36 2))).trans (((show A34 2 = A28 2 from (eA34 2))).trans ((eA28 2).trans ew28_3))) (show inr (z34) from pz34_0) (show inr (z36) from pz36_0) (show inr ((a2 - 3)) from q_3792 h4) (show ((a2 - 3)) ≤ ((a2 - 3)) from q_3791) (show ((a2 - 3)) ≤ ((a2 - 3)) ∨ ((-1)) ≤ ((a2 - 3)) from q_3790) (show 0 ≤ (z34) ∧ (z34) < p2 ((y25_0_0)) from pz34_1) (show 0 ≤ (z36) ∧ (z36) < p2 ((y25_0_0)) from pz36_1) (show 0 ≤ (y28_1_1) ∧ (y28_1_1) ≤ (m22_1) ∧ (m22_1) ≤ 65536 from pz28_0) (show 0 ≤ (y28_1_4) ∧ (y28_1_4) ≤ 7 from q_3789 pz28_1) (show 0 ≤ (y28_1_3) ∧ (y28_1_3) < p2 ((y28_1_4)) from q_3788 hph pz28_4) (show 8 * (y28_1_1) + (y28_1_4) ≤ 808 + 6 * ((a2) - 3 - ((a2 - 3))) from q_3787 hc42 pz28_1) (show 128 + (a2) ≤ (m22_1) from q_3786 h4 pz22_1 pz22_2 r23) (show -1 ≤ ((a2 - 3)) from q_3785 h4) (hw81) rfl
  as_aux_lemma =>
  intro m
  induction m using Nat.strongRecOn with
  | _ m ih81 =>
    intro ls σ F_81 A_81 x81_4 x81_5 x81_6 l81_0 l81_1 l81_3 l81_4 l81_5 l81_6 H O hS_81 hA_81   y81_1_1 ey81_1_1 y81_1_2 ey81_1_2 y81_1_3 ey81_1_3 y81_1_4 ey81_1_4 w81_2 ew81_2 j81_0 j81_1 j81_2 j81_3 j81_4 j81_5 j81_6 j81_7 j81_8 j81_9 j81_10 j81_11 j81_12 j81_13 hm81
    have cF_81 : SF oz_F5clsl_0 F F_81 := SF_trans (cF36) hS_81 (any_sub (by decide +kernel))
    have mF_81 := SFm_of cF_81 oz_F5cls_12
    have cA_81 : SA oz_F5clsl_1 A A_81 := SA_trans (cA36) hA_81 (any_subA (by decide +kernel))
    have mA_81 := SAm_of cA_81 oz_F5cls_13
    try clear pz22_2
    have r37 : (-2147483648 : Int) ≤ y81_1_1 ∧ y81_1_1 ≤ 2147483647 := rngE (show (-2147483648 : Int) ≤ F_81 1 1 ∧ F_81 1 1 ≤ 2147483647 from H.krg 1 1 (ltn len_V106_thisorderSixa_oz_F5cls rfl)) (show F_81 1 1 = y81_1_1 from (ey81_1_1))
    have r38 : (0 : Int) ≤ y81_1_2 ∧ y81_1_2 ≤ 1 := rngE (show (0 : Int) ≤ F_81 1 2 ∧ F_81 1 2 ≤ 1 from H.krg 1 2 (ltn len_V106_thisorderSixa_oz_F5cls rfl)) (show F_81 1 2 = y81_1_2 from (ey81_1_2))
    have r39 : (-2147483648 : Int) ≤ y81_1_3 ∧ y81_1_3 ≤ 2147483647 := rngE (show (-2147483648 : Int) ≤ F_81 1 3 ∧ F_81 1 3 ≤ 2147483647 from H.krg 1 3 (ltn len_V106_thisorderSixa_oz_F5cls rfl)) (show F_81 1 3 = y81_1_3 from (ey81_1_3))
    have r40 : (-2147483648 : Int) ≤ y81_1_4 ∧ y81_1_4 ≤ 2147483647 := rngE (show (-2147483648 : Int) ≤ F_81 1 4 ∧ F_81 1 4 ≤ 2147483647 from H.krg 1 4 (ltn len_V106_thisorderSixa_oz_F5cls rfl)) (show F_81 1 4 = y81_1_4 from (ey81_1_4))
    have j81_w : ∃ B, WSO ((((y25_0_0)), 12, (dvP (cutP ((u3_1)) ((w13))) ((a2)) (p2 (a3)))) : Tb) ((w12)) ((a2)) ((x81_6)) ((x81_4)) ((x81_5)) B ∧ RBB ((y81_1_2)) ((w81_2)) ((y81_1_1)) ((y81_1_3)) ((y81_1_4)) (byw (STB (dvP (cutP ((u3_1)) ((w13))) ((a2)) (p2 (a3))) ((y25_0_0)))) (B) := by assumption
    obtain ⟨B_, hWS, hRB⟩ := j81_w
    refine Ew_of (pcₚ := 83) (fun _ => x_iload rfl l81_6) ?_
    refine w_iflt (t := 146) rfl rfl (show inr (x81_6) from j81_2) (fun b41 => ?_) (fun b41 => ?_)
    · refine Ew_of (pcₚ := 147) (fun _ => x_aload_n rfl l81_1) ?_
      refine Ew_of (pcₚ := 149) (fun _ => x_iload rfl l81_4) ?_
      refine Ew_of (pcₚ := 150) (fun _ => x_iload_n rfl l81_3) ?_
      refine v_inv H (o := 1) rfl rfl rfl rfl rfl rfl (by rfl) (C164 (D := puc 1025 D22) (N := puc 1025 N22) (HW_subc H oz_F5cls_29 oz_F5cls_16) ((((((((hS_81 1 0 rfl).trans ((show F36 1 0 = F34 1 0 from (eF36 1 0)))).trans ((show F34 1 0 = F28 1 0 from (eF34 1 0)))).trans ((show F28 1 0 = F27 1 0 from (eF28 1 0).trans (hS28 1 0 rfl)))).trans ((show F27 1 0 = F25 1 0 from (eF27 1 0)))).trans ((show F25 1 0 = F22 1 0 from (eF25 1 0))))).trans (pf22_1_0)) (m22_1) ((congrArg (fun q : Nat => (q : Int)) (eN22 2)).trans em22_1) (y81_1_1) ((ey81_1_1)) (y81_1_2) ((ey81_1_2)) (y81_1_3) ((ey81_1_3)) (y81_1_4) ((ey81_1_4)) (w81_2) (ew81_2) (show inr (x81_4) from j81_0) (show inr (a3) from h1) (show 0 ≤ (y81_1_1) ∧ (y81_1_1) ≤ (m22_1) ∧ (m22_1) ≤ 65536 from j81_7) (show 0 ≤ (a3) ∧ (a3) ≤ 31 from q_2512 h5) (show 0 ≤ (y81_1_4) ∧ (y81_1_4) ≤ 7 from j81_8) (fun σ42 F42ₚ A42ₚ Hₚ Oₚ hS42 hA42 y42_0_1 ey42_0_1 y42_0_2 ey42_0_2 y42_0_3 ey42_0_3 y42_0_4 ey42_0_4 w42_1 ew42_1 pz42_0 pz42_1 pz42_2 pz42_3 => ⟨rfl, ?_⟩))
      refine v_backc (c := (c + c22)) (s := (s + s22)) H oz_F5cls_29 oz_F5cls_16 Hₚ Oₚ (fun F42 A42 H Oₚ eF42 eA42 => ?_)
      have O := OUT_trans O Oₚ
      -- Row.addBits
      have cF42 : SF oz_F5clsl_0 F F42 := SF_trans (cF_81) (SF_gluc (ι := oz_F5clsl_4) oz_F5cls_16 hS42 eF42 (by decide +kernel)) (any_sub (lₚ := [(1, 1), (1, 2), (1, 3), (1, 4)]) (by decide +kernel))
      have mF42 := SFm_of cF42 oz_F5cls_12
      have cA42 : SA oz_F5clsl_1 A A42 := SA_trans (cA_81) (SA_gluc (ι := oz_F5clsl_4) oz_F5cls_16 hA42 eA42 (by decide +kernel)) (any_subA (lₚ := [2]) (by decide +kernel))
      have mA42 := SAm_of cA42 oz_F5cls_13
      have r43 : (-2147483648 : Int) ≤ y42_0_1 ∧ y42_0_1 ≤ 2147483647 := rngE (show (-2147483648 : Int) ≤ F42 1 1 ∧ F42 1 1 ≤ 2147483647 from H.krg 1 1 (ltn len_V106_thisorderSixa_oz_F5cls rfl)) (show F42 1 1 = y42_0_1 from ((eF42 1 1).trans ey42_0_1))
      have r44 : (0 : Int) ≤ y42_0_2 ∧ y42_0_2 ≤ 1 := rngE (show (0 : Int) ≤ F42 1 2 ∧ F42 1 2 ≤ 1 from H.krg 1 2 (ltn len_V106_thisorderSixa_oz_F5cls rfl)) (show F42 1 2 = y42_0_2 from ((eF42 1 2).trans ey42_0_2))
      have r45 : (-2147483648 : Int) ≤ y42_0_3 ∧ y42_0_3 ≤ 2147483647 := rngE (show (-2147483648 : Int) ≤ F42 1 3 ∧ F42 1 3 ≤ 2147483647 from H.krg 1 3 (ltn len_V106_thisorderSixa_oz_F5cls rfl)) (show F42 1 3 = y42_0_3 from ((eF42 1 3).trans ey42_0_3))
      have r46 : (-2147483648 : Int) ≤ y42_0_4 ∧ y42_0_4 ≤ 2147483647 := rngE (show (-2147483648 : Int) ≤ F42 1 4 ∧ F42 1 4 ≤ 2147483647 from H.krg 1 4 (ltn len_V106_thisorderSixa_oz_F5cls rfl)) (show F42 1 4 = y42_0_4 from ((eF42 1 4).trans ey42_0_4))
      have ha1 := pz42_3 ⟨by omega, by omega, by omega, by omega⟩
      have ha11 := ha1.1 _ _ hRB
      have ha12 := ha1.2.1
      have ha13 := ha1.2.2
      refine Ew_of (pcₚ := 154) (fun _ => x_aload_n rfl l81_1) ?_
      refine Ew_of (pcₚ := 156) (fun _ => x_iload rfl l81_5) ?_
      refine Ew_of (pcₚ := 157) (fun _ => x_iload_n rfl l81_3) ?_
      refine v_inv H (o := 1) rfl rfl rfl rfl rfl rfl (by rfl) (C164 (D := puc 1025 D22) (N := puc 1025 N22) (HW_subc H oz_F5cls_29 oz_F5cls_16) ((((((((((show F42 1 0 = F_81 1 0 from (eF42 1 0).trans (hS42 0 0 rfl))).trans (hS_81 1 0 rfl)).trans ((show F36 1 0 = F34 1 0 from (eF36 1 0)))).trans ((show F34 1 0 = F28 1 0 from (eF34 1 0)))).trans ((show F28 1 0 = F27 1 0 from (eF28 1 0).trans (hS28 1 0 rfl)))).trans ((show F27 1 0 = F25 1 0 from (eF27 1 0)))).trans ((show F25 1 0 = F22 1 0 from (eF25 1 0))))).trans (pf22_1_0)) (m22_1) ((congrArg (fun q : Nat => (q : Int)) (eN22 2)).trans em22_1) (y42_0_1) (((eF42 1 1).trans ey42_0_1)) (y42_0_2) (((eF42 1 2).trans ey42_0_2)) (y42_0_3) (((eF42 1 3).trans ey42_0_3)) (y42_0_4) (((eF42 1 4).trans ey42_0_4)) (w42_1) ((eA42 2).trans ew42_1) (show inr (x81_5) from j81_1) (show inr (a3) from h1) (show 0 ≤ (y42_0_1) ∧ (y42_0_1) ≤ (m22_1) ∧ (m22_1) ≤ 65536 from pz42_0) (show 0 ≤ (a3) ∧ (a3) ≤ 31 from q_2512 h5) (show 0 ≤ (y42_0_4) ∧ (y42_0_4) ≤ 7 from pz42_2) (fun σ47 F47ₚ A47ₚ Hₚ Oₚ hS47 hA47 y47_0_1 ey47_0_1 y47_0_2 ey47_0_2 y47_0_3 ey47_0_3 y47_0_4 ey47_0_4 w47_1 ew47_1 pz47_0 pz47_1 pz47_2 pz47_3 => ⟨rfl, ?_⟩))
      refine v_backc (c := (c + c22)) (s := (s + s22)) H oz_F5cls_29 oz_F5cls_16 Hₚ Oₚ (fun F47 A47 H Oₚ eF47 eA47 => ?_)
      have O := OUT_trans O Oₚ
      -- Row.addBits
      have cF47 : SF oz_F5clsl_0 F F47 := SF_trans (cF42) (SF_gluc (ι := oz_F5clsl_4) oz_F5cls_16 hS47 eF47 (by decide +kernel)) (any_sub (lₚ := [(1, 1), (1, 2), (1, 3), (1, 4)]) (by decide +kernel))
      have mF47 := SFm_of cF47 oz_F5cls_12
      have cA47 : SA oz_F5clsl_1 A A47 := SA_trans (cA42) (SA_gluc (ι := oz_F5clsl_4) oz_F5cls_16 hA47 eA47 (by decide +kernel)) (any_subA (lₚ := [2]) (by decide +kernel))
      have mA47 := SAm_of cA47 oz_F5cls_13
      have r48 : (-2147483648 : Int) ≤ y47_0_1 ∧ y47_0_1 ≤ 2147483647 := rngE (show (-2147483648 : Int) ≤ F47 1 1 ∧ F47 1 1 ≤ 2147483647 from H.krg 1 1 (ltn len_V106_thisorderSixa_oz_F5cls rfl)) (show F47 1 1 = y47_0_1 from ((eF47 1 1).trans ey47_0_1))
      have r49 : (0 : Int) ≤ y47_0_2 ∧ y47_0_2 ≤ 1 := rngE (show (0 : Int) ≤ F47 1 2 ∧ F47 1 2 ≤ 1 from H.krg 1 2 (ltn len_V106_thisorderSixa_oz_F5cls rfl)) (show F47 1 2 = y47_0_2 from ((eF47 1 2).trans ey47_0_2))
      have r50 : (-2147483648 : Int) ≤ y47_0_3 ∧ y47_0_3 ≤ 2147483647 := rngE (show (-2147483648 : Int) ≤ F47 1 3 ∧ F47 1 3 ≤ 2147483647 from H.krg 1 3 (ltn len_V106_thisorderSixa_oz_F5cls rfl)) (show F47 1 3 = y47_0_3 from ((eF47 1 3).trans ey47_0_3))
      have r51 : (-2147483648 : Int) ≤ y47_0_4 ∧ y47_0_4 ≤ 2147483647 := rngE (show (-2147483648 : Int) ≤ F47 1 4 ∧ F47 1 4 ≤ 2147483647 from H.krg 1 4 (ltn len_V106_thisorderSixa_oz_F5cls rfl)) (show F47 1 4 = y47_0_4 from ((eF47 1 4).trans ey47_0_4))
      have ha2 := pz47_3 ⟨by omega, by omega, by omega, by omega⟩
      have ha21 := ha2.1 _ _ ha11
      have ha22 := ha2.2.1
      have ha23 := ha2.2.2
      refine Ew_of (pcₚ := 161) (fun _ => x_aload_n rfl l81_1) ?_
      refine Ew_of (pcₚ := 162) (fun _ => x_iconst rfl) ?_
      refine Ew_of (pcₚ := 163) (fun _ => x_iconst rfl) ?_
      refine v_inv H (o := 1) rfl rfl rfl rfl rfl rfl (by rfl) (C164 (D := puc 1025 D22) (N := puc 1025 N22) (HW_subc H oz_F5cls_29 oz_F5cls_16) (((((((((((show F47 1 0 = F42 1 0 from (eF47 1 0).trans (hS47 0 0 rfl))).trans ((show F42 1 0 = F_81 1 0 from (eF42 1 0).trans (hS42 0 0 rfl)))).trans (hS_81 1 0 rfl)).trans ((show F36 1 0 = F34 1 0 from (eF36 1 0)))).trans ((show F34 1 0 = F28 1 0 from (eF34 1 0)))).trans ((show F28 1 0 = F27 1 0 from (eF28 1 0).trans (hS28 1 0 rfl)))).trans ((show F27 1 0 = F25 1 0 from (eF27 1 0)))).trans ((show F25 1 0 = F22 1 0 from (eF25 1 0))))).trans (pf22_1_0)) (m22_1) ((congrArg (fun q : Nat => (q : Int)) (eN22 2)).trans em22_1) (y47_0_1) (((eF47 1 1).trans ey47_0_1)) (y47_0_2) (((eF47 1 2).trans ey47_0_2)) (y47_0_3) (((eF47 1 3).trans ey47_0_3)) (y47_0_4) (((eF47 1 4).trans ey47_0_4)) (w47_1) ((eA47 2).trans ew47_1) (show inr (1) from q_135) (show inr (1) from q_135) (show 0 ≤ (y47_0_1) ∧ (y47_0_1) ≤ (m22_1) ∧ (m22_1) ≤ 65536 from pz47_0) (show 0 ≤ (1) ∧ (1) ≤ 31 from q_2204) (show 0 ≤ (y47_0_4) ∧ (y47_0_4) ≤ 7 from pz47_2) (fun σ52 F52ₚ A52ₚ Hₚ Oₚ hS52 hA52 y52_0_1 ey52_0_1 y52_0_2 ey52_0_2 y52_0_3 ey52_0_3 y52_0_4 ey52_0_4 w52_1 ew52_1 pz52_0 pz52_1 pz52_2 pz52_3 => ⟨rfl, ?_⟩))
      refine v_backc (c := (c + c22)) (s := (s + s22)) H oz_F5cls_29 oz_F5cls_16 Hₚ Oₚ (fun F52 A52 H Oₚ eF52 eA52 => ?_)
      have O := OUT_trans O Oₚ
      -- Row.addBits
      have cF52 : SF oz_F5clsl_0 F F52 := SF_trans (cF47) (SF_gluc (ι := oz_F5clsl_4) oz_F5cls_16 hS52 eF52 (by decide +kernel)) (any_sub (lₚ := [(1, 1), (1, 2), (1, 3), (1, 4)]) (by decide +kernel))
      have mF52 := SFm_of cF52 oz_F5cls_12
      have cA52 : SA oz_F5clsl_1 A A52 := SA_trans (cA47) (SA_gluc (ι := oz_F5clsl_4) oz_F5cls_16 hA52 eA52 (by decide +kernel)) (any_subA (lₚ := [2]) (by decide +kernel))
      have mA52 := SAm_of cA52 oz_F5cls_13
      have r53 : (-2147483648 : Int) ≤ y52_0_1 ∧ y52_0_1 ≤ 2147483647 := rngE (show (-2147483648 : Int) ≤ F52 1 1 ∧ F52 1 1 ≤ 2147483647 from H.krg 1 1 (ltn len_V106_thisorderSixa_oz_F5cls rfl)) (show F52 1 1 = y52_0_1 from ((eF52 1 1).trans ey52_0_1))
      have r54 : (0 : Int) ≤ y52_0_2 ∧ y52_0_2 ≤ 1 := rngE (show (0 : Int) ≤ F52 1 2 ∧ F52 1 2 ≤ 1 from H.krg 1 2 (ltn len_V106_thisorderSixa_oz_F5cls rfl)) (show F52 1 2 = y52_0_2 from ((eF52 1 2).trans ey52_0_2))
      have r55 : (-2147483648 : Int) ≤ y52_0_3 ∧ y52_0_3 ≤ 2147483647 := rngE (show (-2147483648 : Int) ≤ F52 1 3 ∧ F52 1 3 ≤ 2147483647 from H.krg 1 3 (ltn len_V106_thisorderSixa_oz_F5cls rfl)) (show F52 1 3 = y52_0_3 from ((eF52 1 3).trans ey52_0_3))
      have r56 : (-2147483648 : Int) ≤ y52_0_4 ∧ y52_0_4 ≤ 2147483647 := rngE (show (-2147483648 : Int) ≤ F52 1 4 ∧ F52 1 4 ≤ 2147483647 from H.krg 1 4 (ltn len_V106_thisorderSixa_oz_F5cls rfl)) (show F52 1 4 = y52_0_4 from ((eF52 1 4).trans ey52_0_4))
      have ha3 := pz52_3 ⟨by omega, by omega, by omega, by omega⟩
      have ha31 := ha3.1 _ _ ha21
      have ha32 := ha3.2.1
      have ha33 := ha3.2.2
      refine Ew_of (pcₚ := 167) (fun _ => x_aload_n rfl l81_1) ?_
      refine v_inv H (o := 1) rfl rfl rfl rfl rfl rfl (by rfl) (C165h (D := puc 1025 D22) (N := puc 1025 N22) (HW_subc H oz_F5cls_30 oz_F5cls_16) ((((((((((((show F52 1 0 = F47 1 0 from (eF52 1 0).trans (hS52 0 0 rfl))).trans ((show F47 1 0 = F42 1 0 from (eF47 1 0).trans (hS47 0 0 rfl)))).trans ((show F42 1 0 = F_81 1 0 from (eF42 1 0).trans (hS42 0 0 rfl)))).trans (hS_81 1 0 rfl)).trans ((show F36 1 0 = F34 1 0 from (eF36 1 0)))).trans ((show F34 1 0 = F28 1 0 from (eF34 1 0)))).trans ((show F28 1 0 = F27 1 0 from (eF28 1 0).trans (hS28 1 0 rfl)))).trans ((show F27 1 0 = F25 1 0 from (eF27 1 0)))).trans ((show F25 1 0 = F22 1 0 from (eF25 1 0))))).trans (pf22_1_0)) (m22_1) ((congrArg (fun q : Nat => (q : Int)) (eN22 2)).trans em22_1) (y52_0_1) (((eF52 1 1).trans ey52_0_1)) (y52_0_2) (((eF52 1 2).trans ey52_0_2)) (y52_0_3) (((eF52 1 3).trans ey52_0_3)) (y52_0_4) (((eF52 1 4).trans ey52_0_4)) (w52_1) ((eA52 2).trans ew52_1) (show 0 ≤ (y52_0_1) ∧ (y52_0_1) ≤ (m22_1) ∧ (m22_1) ≤ 65536 from pz52_0) (show 0 ≤ (y52_0_4) from q_3575 pz52_2) (fun σ57 F57ₚ A57ₚ Hₚ Oₚ hS57 hA57 y57_0_1 ey57_0_1 y57_0_2 ey57_0_2 y57_0_3 ey57_0_3 y57_0_4 ey57_0_4 w57_1 ew57_1 pz57_0 pz57_1 pz57_2 pz57_3 pz57_4 => ⟨rfl, ?_⟩))
      refine v_backc (c := (c + c22)) (s := (s + s22)) H oz_F5cls_30 oz_F5cls_16 Hₚ Oₚ (fun F57 A57 H Oₚ eF57 eA57 => ?_)
      have O := OUT_trans O Oₚ
      -- Row.endBits
      have cF57 : SF oz_F5clsl_0 F F57 := SF_trans (cF52) (SF_gluc (ι := oz_F5clsl_4) oz_F5cls_16 hS57 eF57 (by decide +kernel)) (any_sub (lₚ := [(1, 1), (1, 2), (1, 3), (1, 4)]) (by decide +kernel))
      have mF57 := SFm_of cF57 oz_F5cls_12
      have cA57 : SA oz_F5clsl_1 A A57 := SA_trans (cA52) (SA_gluc (ι := oz_F5clsl_4) oz_F5cls_16 hA57 eA57 (by decide +kernel)) (any_subA (lₚ := [2]) (by decide +kernel))
      have mA57 := SAm_of cA57 oz_F5cls_13
      have r58 : (-2147483648 : Int) ≤ y57_0_1 ∧ y57_0_1 ≤ 2147483647 := rngE (show (-2147483648 : Int) ≤ F57 1 1 ∧ F57 1 1 ≤ 2147483647 from H.krg 1 1 (ltn len_V106_thisorderSixa_oz_F5cls rfl)) (show F57 1 1 = y57_0_1 from ((eF57 1 1).trans ey57_0_1))
      have r59 : (0 : Int) ≤ y57_0_2 ∧ y57_0_2 ≤ 1 := rngE (show (0 : Int) ≤ F57 1 2 ∧ F57 1 2 ≤ 1 from H.krg 1 2 (ltn len_V106_thisorderSixa_oz_F5cls rfl)) (show F57 1 2 = y57_0_2 from ((eF57 1 2).trans ey57_0_2))
      have r60 : (-2147483648 : Int) ≤ y57_0_3 ∧ y57_0_3 ≤ 2147483647 := rngE (show (-2147483648 : Int) ≤ F57 1 3 ∧ F57 1 3 ≤ 2147483647 from H.krg 1 3 (ltn len_V106_thisorderSixa_oz_F5cls rfl)) (show F57 1 3 = y57_0_3 from ((eF57 1 3).trans ey57_0_3))
      have r61 : (-2147483648 : Int) ≤ y57_0_4 ∧ y57_0_4 ≤ 2147483647 := rngE (show (-2147483648 : Int) ≤ F57 1 4 ∧ F57 1 4 ≤ 2147483647 from H.krg 1 4 (ltn len_V106_thisorderSixa_oz_F5cls rfl)) (show F57 1 4 = y57_0_4 from ((eF57 1 4).trans ey57_0_4))
      have hfin := pz57_3 ⟨by omega, by omega⟩ _ _ ha31
      have hWE := WSO_e hWS (by omega) (L := ((y25_0_0))) rfl
      have hLo : ((y25_0_0)) = (a3) := pz25_2
      have hend : sc ((w57_1)) 0 ((y57_0_1)) = byw (STB (dvP (cutP ((u3_1)) ((w13))) ((a2)) (p2 (a3))) ((a3))) ++ byw (WSB (((a3), 12, (dvP (cutP ((u3_1)) ((w13))) ((a2)) (p2 (a3)))) : Tb) ((w12)) ((a2))) := by have e := (RBB_L hfin).1; have w := hWE; simp only [List.append_assoc] at e; rw [hLo] at e w; rw [← w] at e; exact e
      have hbu0 := (RBB_L hfin).2
      exact w_ret rfl (k _ _ _ _ _ _ _ H O (cD22) (cN22) (cF57) (cA57) (((((((((((((show F57 1 0 = F52 1 0 from (eF57 1 0).trans (hS57 0 0 rfl))).trans ((show F52 1 0 = F47 1 0 from (eF52 1 0).trans (hS52 0 0 rfl)))).trans ((show F47 1 0 = F42 1 0 from (eF47 1 0).trans (hS47 0 0 rfl)))).trans ((show F42 1 0 = F_81 1 0 from (eF42 1 0).trans (hS42 0 0 rfl)))).trans (hS_81 1 0 rfl)).trans ((show F36 1 0 = F34 1 0 from (eF36 1 0)))).trans ((show F34 1 0 = F28 1 0 from (eF34 1 0)))).trans ((show F28 1 0 = F27 1 0 from (eF28 1 0).trans (hS28 1 0 rfl)))).trans ((show F27 1 0 = F25 1 0 from (eF27 1 0)))).trans ((show F25 1 0 = F22 1 0 from (eF25 1 0))))).trans (pf22_1_0)) (m22_1) ((congrArg (fun q : Nat => (q : Int)) (eN22 2)).trans em22_1) (y57_0_1) (((eF57 1 1).trans ey57_0_1)) (y57_0_2) (((eF57 1 2).trans ey57_0_2)) (y57_0_3) (((eF57 1 3).trans ey57_0_3)) (y57_0_4) (((eF57 1 4).trans ey57_0_4)) (w57_1) ((eA57 2).trans ew57_1) (show 0 ≤ (y57_0_1) ∧ (y57_0_1) ≤ (m22_1) ∧ (m22_1) ≤ 65536 from pz57_0) (show (y57_0_4) = 0 from q_3098 pz57_1) (hend) (show (y57_0_2) = 0 by omega) (show (y57_0_3) = 0 from pz57_2))
    · refine Ew_of (pcₚ := 87) (fun _ => x_aload_n rfl l81_0) ?_
      refine v_g H (o := 0) (v := .ref (D22 3)) rfl rfl rfl rfl rfl (vrf ((mF_81 0 6 rfl).trans ((pf3).trans (congrArg (fun q : Nat => (q : Int)) (mD22 3 rfl).symm)))) ?_
      refine Ew_of (pcₚ := 92) (fun _ => x_iload rfl l81_4) ?_
      refine Ew_of (pcₚ := 93) (fun _ => x_aload_n rfl l81_0) ?_
      refine v_g H (o := 0) (v := .ref (D22 12)) rfl rfl rfl rfl rfl (vrf ((mF_81 0 4 rfl).trans ((pf12).trans (congrArg (fun q : Nat => (q : Int)) (mD22 12 rfl).symm)))) ?_
      refine Ew_of (pcₚ := 98) (fun _ => x_iload rfl l81_6) ?_
      refine v_lI H (o := 12) rfl rfl rfl rfl (n := n12) ((congrArg (fun q : Nat => (q : Int)) (mN22 12 rfl)).trans (en12)) (show 0 ≤ x81_6 ∧ x81_6 < n12 from q_3793 b41 h4 h6 j81_3 r15) (fun v62 ev62 qv62 => ?_)
      have ev62 : (w12) (x81_6) = v62 := (congrFun ((funext (mA_81 12 rfl)).trans (ew12)) (x81_6)).symm.trans ev62
      have hwaz := hwg ((x81_6)) (by omega) (by omega)
      have heaz := ev62
      rw [heaz] at hwaz
      have hcpz := WCN_pos hwc (by omega) (by omega) heaz (by omega) (by omega)
      have hdpz := hdv ((v62)) (by omega) (by omega)
      obtain ⟨qz, hqz⟩ : ∃ q : Int, q = (v62) := ⟨_, rfl⟩
      have hzq : ((w12)) ((x81_6)) = qz := by rw [hqz]; exact heaz
      refine v_inv H (o := 3) rfl rfl rfl rfl rfl rfl (by rfl) (C175 (D := puc 37880551437274713425923 D22) (N := puc 37880551437274713425923 N22) (HW_subc H oz_F5cls_31 oz_F5cls_20) ((mF_81 3 2 rfl).trans ((pf4).trans (congrArg (fun q : Nat => (q : Int)) (mD22 4 rfl).symm))) ((mF_81 3 3 rfl).trans ((pf5).trans (congrArg (fun q : Nat => (q : Int)) (mD22 5 rfl).symm))) ((mF_81 3 4 rfl).trans ((pf6).trans (congrArg (fun q : Nat => (q : Int)) (mD22 6 rfl).symm))) ((mF_81 3 5 rfl).trans ((pf7).trans (congrArg (fun q : Nat => (q : Int)) (mD22 7 rfl).symm))) ((mF_81 3 7 rfl).trans ((pf10).trans (congrArg (fun q : Nat => (q : Int)) (mD22 10 rfl).symm))) ((mF_81 3 8 rfl).trans ((pf9).trans (congrArg (fun q : Nat => (q : Int)) (mD22 9 rfl).symm))) ((mF_81 3 9 rfl).trans ((pf11).trans (congrArg (fun q : Nat => (q : Int)) (mD22 11 rfl).symm))) ((mF_81 3 6 rfl).trans ((pf8).trans (congrArg (fun q : Nat => (q : Int)) (mD22 8 rfl).symm))) (n4) ((congrArg (fun q : Nat => (q : Int)) (mN22 4 rfl)).trans (en4)) (n5) ((congrArg (fun q : Nat => (q : Int)) (mN22 5 rfl)).trans (en5)) (n6) ((congrArg (fun q : Nat => (q : Int)) (mN22 6 rfl)).trans (en6)) (n7) ((congrArg (fun q : Nat => (q : Int)) (mN22 7 rfl)).trans (en7)) (n10) ((congrArg (fun q : Nat => (q : Int)) (mN22 10 rfl)).trans (en10)) (n9) ((congrArg (fun q : Nat => (q : Int)) (mN22 9 rfl)).trans (en9)) (n11) ((congrArg (fun q : Nat => (q : Int)) (mN22 11 rfl)).trans (en11)) (n8) ((congrArg (fun q : Nat => (q : Int)) (mN22 8 rfl)).trans (en8)) (y25_0_0) (((((((hS_81 3 0 rfl).trans ((show F36 3 0 = F34 3 0 from (eF36 3 0).trans (hS36 0 0 rfl)))).trans ((show F34 3 0 = F28 3 0 from (eF34 3 0).trans (hS34 0 0 rfl)))).trans ((show F28 3 0 = F27 3 0 from (eF28 3 0).trans (hS28 0 0 rfl)))).trans ((show F27 3 0 = F25 3 0 from (eF27 3 0).trans (hS27 0 0 rfl)))).trans ((eF25 3 0).trans ey25_0_0))) (u3_1) (((mF_81 3 1 rfl).trans (eu3_1))) (w25_2) ((funext (hA_81 4 rfl)).trans (((show A36 4 = A34 4 from (eA36 4).trans (funext (hA36 1 rfl)))).trans (((show A34 4 = A28 4 from (eA34 4).trans (funext (hA34 1 rfl)))).trans (((show A28 4 = A27 4 from (eA28 4).trans (funext (hA28 2 rfl)))).trans (((show A27 4 = A25 4 from (eA27 4).trans (funext (hA27 1 rfl)))).trans ((eA25 4).trans ew25_2)))))) (w27_2) ((funext (hA_81 5 rfl)).trans (((show A36 5 = A34 5 from (eA36 5).trans (funext (hA36 2 rfl)))).trans (((show A34 5 = A28 5 from (eA34 5).trans (funext (hA34 2 rfl)))).trans (((show A28 5 = A27 5 from (eA28 5))).trans ((eA27 5).trans ew27_2))))) (w27_3) ((funext (hA_81 6 rfl)).trans (((show A36 6 = A34 6 from (eA36 6).trans (funext (hA36 3 rfl)))).trans (((show A34 6 = A28 6 from (eA34 6).trans (funext (hA34 3 rfl)))).trans (((show A28 6 = A27 6 from (eA28 6))).trans ((eA27 6).trans ew27_3))))) (w27_4) ((funext (hA_81 7 rfl)).trans (((show A36 7 = A34 7 from (eA36 7).trans (funext (hA36 4 rfl)))).trans (((show A34 7 = A28 7 from (eA34 7).trans (funext (hA34 4 rfl)))).trans (((show A28 7 = A27 7 from (eA28 7))).trans ((eA27 7).trans ew27_4))))) (w27_7) ((funext (hA_81 10 rfl)).trans (((show A36 10 = A34 10 from (eA36 10).trans (funext (hA36 5 rfl)))).trans (((show A34 10 = A28 10 from (eA34 10).trans (funext (hA34 5 rfl)))).trans (((show A28 10 = A27 10 from (eA28 10))).trans ((eA27 10).trans ew27_7))))) (w27_6) ((funext (hA_81 9 rfl)).trans (((show A36 9 = A34 9 from (eA36 9).trans (funext (hA36 6 rfl)))).trans (((show A34 9 = A28 9 from (eA34 9).trans (funext (hA34 6 rfl)))).trans (((show A28 9 = A27 9 from (eA28 9))).trans ((eA27 9).trans ew27_6))))) (w27_8) ((funext (hA_81 11 rfl)).trans (((show A36 11 = A34 11 from (eA36 11).trans (funext (hA36 7 rfl)))).trans (((show A34 11 = A28 11 from (eA34 11).trans (funext (hA34 7 rfl)))).trans (((show A28 11 = A27 11 from (eA28 11))).trans ((eA27 11).trans ew27_8))))) (show inr (x81_4) from j81_0) (show inr (v62) from qv62) (pz27_0) (show (n4) = (u3_1) ∧ (n5) = (u3_1) ∧ (n6) = (u3_1) ∧ (n7) = (u3_1) ∧ (n8) = (u3_1) ∧ (n9) = (n10) ∧ (n11) = (n10) ∧ p2 ((y25_0_0)) ≤ (n10) from q_3779 h3 hp6 hpo) (show 0 ≤ (x81_4) ∧ (x81_4) < p2 ((y25_0_0)) from j81_5) (show 0 ≤ (v62) ∧ (v62) < ((u3_1)) ∧ ((w25_2)) (v62) ≠ 0 by omega) (fun z63 σ63 F63ₚ A63ₚ Hₚ Oₚ hS63 hA63 pz63_0 pz63_1 pz63_2 => ⟨rfl, ?_⟩))
      refine v_backc (c := (c + c22)) (s := (s + s22)) H oz_F5cls_31 oz_F5cls_20 Hₚ Oₚ (fun F63 A63 H Oₚ eF63 eA63 => ?_)
      have O := OUT_trans O Oₚ
      -- Share.bitsAhead
      have cF63 : SF oz_F5clsl_0 F F63 := SF_trans (cF_81) (SF_gluc (ι := oz_F5clsl_8) oz_F5cls_20 hS63 eF63 (by decide +kernel)) (any_sub (lₚ := []) (by decide +kernel))
      have mF63 := SFm_of cF63 oz_F5cls_12
      have cA63 : SA oz_F5clsl_1 A A63 := SA_trans (cA_81) (SA_gluc (ι := oz_F5clsl_8) oz_F5cls_20 hA63 eA63 (by decide +kernel)) (any_subA (lₚ := []) (by decide +kernel))
      have mA63 := SAm_of cA63 oz_F5cls_13
      refine Ew_of (pcₚ := 104) (fun _ => x_istore rfl) ?_
      refine Ew_of (pcₚ := 105) (fun _ => x_aload_n rfl (rk_o (l81_1) rfl rfl)) ?_
      refine Ew_of (pcₚ := 107) (fun _ => x_iload rfl (rk_o (l81_4) rfl rfl)) ?_
      refine Ew_of (pcₚ := 109) (fun _ => x_iload rfl rk_s) ?_
      refine v_inv H (o := 1) rfl rfl rfl rfl rfl rfl (by rfl) (C164 (D := puc 1025 D22) (N := puc 1025 N22) (HW_subc H oz_F5cls_29 oz_F5cls_16) ((((((((((show F63 1 0 = F_81 1 0 from (eF63 1 0))).trans (hS_81 1 0 rfl)).trans ((show F36 1 0 = F34 1 0 from (eF36 1 0)))).trans ((show F34 1 0 = F28 1 0 from (eF34 1 0)))).trans ((show F28 1 0 = F27 1 0 from (eF28 1 0).trans (hS28 1 0 rfl)))).trans ((show F27 1 0 = F25 1 0 from (eF27 1 0)))).trans ((show F25 1 0 = F22 1 0 from (eF25 1 0))))).trans (pf22_1_0)) (m22_1) ((congrArg (fun q : Nat => (q : Int)) (eN22 2)).trans em22_1) (y81_1_1) ((((show F63 1 1 = F_81 1 1 from (eF63 1 1))).trans (ey81_1_1))) (y81_1_2) ((((show F63 1 2 = F_81 1 2 from (eF63 1 2))).trans (ey81_1_2))) (y81_1_3) ((((show F63 1 3 = F_81 1 3 from (eF63 1 3))).trans (ey81_1_3))) (y81_1_4) ((((show F63 1 4 = F_81 1 4 from (eF63 1 4))).trans (ey81_1_4))) (w81_2) (((show A63 2 = A_81 2 from (eA63 2))).trans (ew81_2)) (show inr (x81_4) from j81_0) (show inr (z63) from pz63_0) (show 0 ≤ (y81_1_1) ∧ (y81_1_1) ≤ (m22_1) ∧ (m22_1) ≤ 65536 from j81_7) (show 0 ≤ (z63) ∧ (z63) ≤ 31 from q_3794 h5 pz25_2 pz63_2) (show 0 ≤ (y81_1_4) ∧ (y81_1_4) ≤ 7 from j81_8) (fun σ64 F64ₚ A64ₚ Hₚ Oₚ hS64 hA64 y64_0_1 ey64_0_1 y64_0_2 ey64_0_2 y64_0_3 ey64_0_3 y64_0_4 ey64_0_4 w64_1 ew64_1 pz64_0 pz64_1 pz64_2 pz64_3 => ⟨rfl, ?_⟩))
      refine v_backc (c := (c + c22)) (s := (s + s22)) H oz_F5cls_29 oz_F5cls_16 Hₚ Oₚ (fun F64 A64 H Oₚ eF64 eA64 => ?_)
      have O := OUT_trans O Oₚ
      -- Row.addBits
      have cF64 : SF oz_F5clsl_0 F F64 := SF_trans (cF63) (SF_gluc (ι := oz_F5clsl_4) oz_F5cls_16 hS64 eF64 (by decide +kernel)) (any_sub (lₚ := [(1, 1), (1, 2), (1, 3), (1, 4)]) (by decide +kernel))
      have mF64 := SFm_of cF64 oz_F5cls_12
      have cA64 : SA oz_F5clsl_1 A A64 := SA_trans (cA63) (SA_gluc (ι := oz_F5clsl_4) oz_F5cls_16 hA64 eA64 (by decide +kernel)) (any_subA (lₚ := [2]) (by decide +kernel))
      have mA64 := SAm_of cA64 oz_F5cls_13
      have r65 : (-2147483648 : Int) ≤ y64_0_1 ∧ y64_0_1 ≤ 2147483647 := rngE (show (-2147483648 : Int) ≤ F64 1 1 ∧ F64 1 1 ≤ 2147483647 from H.krg 1 1 (ltn len_V106_thisorderSixa_oz_F5cls rfl)) (show F64 1 1 = y64_0_1 from ((eF64 1 1).trans ey64_0_1))
      have r66 : (0 : Int) ≤ y64_0_2 ∧ y64_0_2 ≤ 1 := rngE (show (0 : Int) ≤ F64 1 2 ∧ F64 1 2 ≤ 1 from H.krg 1 2 (ltn len_V106_thisorderSixa_oz_F5cls rfl)) (show F64 1 2 = y64_0_2 from ((eF64 1 2).trans ey64_0_2))
      have r67 : (-2147483648 : Int) ≤ y64_0_3 ∧ y64_0_3 ≤ 2147483647 := rngE (show (-2147483648 : Int) ≤ F64 1 3 ∧ F64 1 3 ≤ 2147483647 from H.krg 1 3 (ltn len_V106_thisorderSixa_oz_F5cls rfl)) (show F64 1 3 = y64_0_3 from ((eF64 1 3).trans ey64_0_3))
      have r68 : (-2147483648 : Int) ≤ y64_0_4 ∧ y64_0_4 ≤ 2147483647 := rngE (show (-2147483648 : Int) ≤ F64 1 4 ∧ F64 1 4 ≤ 2147483647 from H.krg 1 4 (ltn len_V106_thisorderSixa_oz_F5cls rfl)) (show F64 1 4 = y64_0_4 from ((eF64 1 4).trans ey64_0_4))
      have hab := pz64_3 ⟨by omega, by omega, by omega, by omega⟩
      have hB12 := hab.1 _ _ hRB
      have hab2 := hab.2.1
      have hab3 := hab.2.2
      refine Ew_of (pcₚ := 113) (fun _ => x_aload_n rfl (rk_o (l81_0) rfl rfl)) ?_
      refine v_g H (o := 0) (v := .ref (D22 3)) rfl rfl rfl rfl rfl (vrf ((mF64 0 6 rfl).trans ((pf3).trans (congrArg (fun q : Nat => (q : Int)) (mD22 3 rfl).symm)))) ?_
      refine Ew_of (pcₚ := 118) (fun _ => x_iload rfl (rk_o (l81_4) rfl rfl)) ?_
      refine Ew_of (pcₚ := 119) (fun _ => x_aload_n rfl (rk_o (l81_0) rfl rfl)) ?_
      refine v_g H (o := 0) (v := .ref (D22 12)) rfl rfl rfl rfl rfl (vrf ((mF64 0 4 rfl).trans ((pf12).trans (congrArg (fun q : Nat => (q : Int)) (mD22 12 rfl).symm)))) ?_
      refine Ew_of (pcₚ := 124) (fun _ => x_iload rfl (rk_o (l81_6) rfl rfl)) ?_
      refine v_lI H (o := 12) rfl rfl rfl rfl (n := n12) ((congrArg (fun q : Nat => (q : Int)) (mN22 12 rfl)).trans (en12)) (show 0 ≤ x81_6 ∧ x81_6 < n12 from q_3793 b41 h4 h6 j81_3 r15) (fun v69 ev69 qv69 => ?_)
      have ev69 : (w12) (x81_6) = v69 := (congrFun ((funext (mA64 12 rfl)).trans (ew12)) (x81_6)).symm.trans ev69
      have hwaw := hwg ((x81_6)) (by omega) (by omega)
      have heaw := ev69
      rw [heaw] at hwaw
      have hcpw := WCN_pos hwc (by omega) (by omega) heaw (by omega) (by omega)
      have hdpw := hdv ((v69)) (by omega) (by omega)
      refine Ew_of (pcₚ := 127) (fun _ => x_iload rfl rk_s) ?_
      have hqz1 : (v69) = qz := heaw.symm.trans hzq
      have hbz : BA (mass (((w25_2)) qz)) ((y25_0_0)) ((x81_4)) ((z63)) := by rw [hqz]; exact pz63_1
      have hbx : BA (mass (((w25_2)) ((v69)))) ((y25_0_0)) ((x81_4)) ((z63)) := by rw [← heaw, heaz]; exact pz63_1
      refine v_inv H (o := 3) rfl rfl rfl rfl rfl rfl (by rfl) (C176 (D := puc 37880551437274713425923 D22) (N := puc 37880551437274713425923 N22) (HW_subc H oz_F5cls_32 oz_F5cls_20) ((mF64 3 2 rfl).trans ((pf4).trans (congrArg (fun q : Nat => (q : Int)) (mD22 4 rfl).symm))) ((mF64 3 3 rfl).trans ((pf5).trans (congrArg (fun q : Nat => (q : Int)) (mD22 5 rfl).symm))) ((mF64 3 4 rfl).trans ((pf6).trans (congrArg (fun q : Nat => (q : Int)) (mD22 6 rfl).symm))) ((mF64 3 5 rfl).trans ((pf7).trans (congrArg (fun q : Nat => (q : Int)) (mD22 7 rfl).symm))) ((mF64 3 7 rfl).trans ((pf10).trans (congrArg (fun q : Nat => (q : Int)) (mD22 10 rfl).symm))) ((mF64 3 8 rfl).trans ((pf9).trans (congrArg (fun q : Nat => (q : Int)) (mD22 9 rfl).symm))) ((mF64 3 9 rfl).trans ((pf11).trans (congrArg (fun q : Nat => (q : Int)) (mD22 11 rfl).symm))) ((mF64 3 6 rfl).trans ((pf8).trans (congrArg (fun q : Nat => (q : Int)) (mD22 8 rfl).symm))) (n4) ((congrArg (fun q : Nat => (q : Int)) (mN22 4 rfl)).trans (en4)) (n5) ((congrArg (fun q : Nat => (q : Int)) (mN22 5 rfl)).trans (en5)) (n6) ((congrArg (fun q : Nat => (q : Int)) (mN22 6 rfl)).trans (en6)) (n7) ((congrArg (fun q : Nat => (q : Int)) (mN22 7 rfl)).trans (en7)) (n10) ((congrArg (fun q : Nat => (q : Int)) (mN22 10 rfl)).trans (en10)) (n9) ((congrArg (fun q : Nat => (q : Int)) (mN22 9 rfl)).trans (en9)) (n11) ((congrArg (fun q : Nat => (q : Int)) (mN22 11 rfl)).trans (en11)) (n8) ((congrArg (fun q : Nat => (q : Int)) (mN22 8 rfl)).trans (en8)) (y25_0_0) ((((((((((show F64 3 0 = F63 3 0 from (eF64 3 0))).trans ((show F63 3 0 = F_81 3 0 from (eF63 3 0).trans (hS63 0 0 rfl)))).trans (hS_81 3 0 rfl)).trans ((show F36 3 0 = F34 3 0 from (eF36 3 0).trans (hS36 0 0 rfl)))).trans ((show F34 3 0 = F28 3 0 from (eF34 3 0).trans (hS34 0 0 rfl)))).trans ((show F28 3 0 = F27 3 0 from (eF28 3 0).trans (hS28 0 0 rfl)))).trans ((show F27 3 0 = F25 3 0 from (eF27 3 0).trans (hS27 0 0 rfl)))).trans ((eF25 3 0).trans ey25_0_0))) (u3_1) (((mF64 3 1 rfl).trans (eu3_1))) (w25_2) (((show A64 4 = A63 4 from (eA64 4))).trans (((show A63 4 = A_81 4 from (eA63 4).trans (funext (hA63 1 rfl)))).trans ((funext (hA_81 4 rfl)).trans (((show A36 4 = A34 4 from (eA36 4).trans (funext (hA36 1 rfl)))).trans (((show A34 4 = A28 4 from (eA34 4).trans (funext (hA34 1 rfl)))).trans (((show A28 4 = A27 4 from (eA28 4).trans (funext (hA28 2 rfl)))).trans (((show A27 4 = A25 4 from (eA27 4).trans (funext (hA27 1 rfl)))).trans ((eA25 4).trans ew25_2)))))))) (w27_2) (((show A64 5 = A63 5 from (eA64 5))).trans (((show A63 5 = A_81 5 from (eA63 5).trans (funext (hA63 2 rfl)))).trans ((funext (hA_81 5 rfl)).trans (((show A36 5 = A34 5 from (eA36 5).trans (funext (hA36 2 rfl)))).trans (((show A34 5 = A28 5 from (eA34 5).trans (funext (hA34 2 rfl)))).trans (((show A28 5 = A27 5 from (eA28 5))).trans ((eA27 5).trans ew27_2))))))) (w27_3) (((show A64 6 = A63 6 from (eA64 6))).trans (((show A63 6 = A_81 6 from (eA63 6).trans (funext (hA63 3 rfl)))).trans ((funext (hA_81 6 rfl)).trans (((show A36 6 = A34 6 from (eA36 6).trans (funext (hA36 3 rfl)))).trans (((show A34 6 = A28 6 from (eA34 6).trans (funext (hA34 3 rfl)))).trans (((show A28 6 = A27 6 from (eA28 6))).trans ((eA27 6).trans ew27_3))))))) (w27_4) (((show A64 7 = A63 7 from (eA64 7))).trans (((show A63 7 = A_81 7 from (eA63 7).trans (funext (hA63 4 rfl)))).trans ((funext (hA_81 7 rfl)).trans (((show A36 7 = A34 7 from (eA36 7).trans (funext (hA36 4 rfl)))).trans (((show A34 7 = A28 7 from (eA34 7).trans (funext (hA34 4 rfl)))).trans (((show A28 7 = A27 7 from (eA28 7))).trans ((eA27 7).trans ew27_4))))))) (w27_7) (((show A64 10 = A63 10 from (eA64 10))).trans (((show A63 10 = A_81 10 from (eA63 10).trans (funext (hA63 5 rfl)))).trans ((funext (hA_81 10 rfl)).trans (((show A36 10 = A34 10 from (eA36 10).trans (funext (hA36 5 rfl)))).trans (((show A34 10 = A28 10 from (eA34 10).trans (funext (hA34 5 rfl)))).trans (((show A28 10 = A27 10 from (eA28 10))).trans ((eA27 10).trans ew27_7))))))) (w27_6) (((show A64 9 = A63 9 from (eA64 9))).trans (((show A63 9 = A_81 9 from (eA63 9).trans (funext (hA63 6 rfl)))).trans ((funext (hA_81 9 rfl)).trans (((show A36 9 = A34 9 from (eA36 9).trans (funext (hA36 6 rfl)))).trans (((show A34 9 = A28 9 from (eA34 9).trans (funext (hA34 6 rfl)))).trans (((show A28 9 = A27 9 from (eA28 9))).trans ((eA27 9).trans ew27_6))))))) (w27_8) (((show A64 11 = A63 11 from (eA64 11))).trans (((show A63 11 = A_81 11 from (eA63 11).trans (funext (hA63 7 rfl)))).trans ((funext (hA_81 11 rfl)).trans (((show A36 11 = A34 11 from (eA36 11).trans (funext (hA36 7 rfl)))).trans (((show A34 11 = A28 11 from (eA34 11).trans (funext (hA34 7 rfl)))).trans (((show A28 11 = A27 11 from (eA28 11))).trans ((eA27 11).trans ew27_8))))))) (show inr (x81_4) from j81_0) (show inr (v69) from qv69) (show inr (z63) from pz63_0) (pz27_0) (show (n4) = (u3_1) ∧ (n5) = (u3_1) ∧ (n6) = (u3_1) ∧ (n7) = (u3_1) ∧ (n8) = (u3_1) ∧ (n9) = (n10) ∧ (n11) = (n10) ∧ p2 ((y25_0_0)) ≤ (n10) from q_3779 h3 hp6 hpo) (show 0 ≤ (x81_4) ∧ (x81_4) < p2 ((y25_0_0)) from j81_5) (show 0 ≤ (v69) ∧ (v69) < ((u3_1)) ∧ ((w25_2)) (v69) ≠ 0 by omega) (hbx) (fun z70 σ70 F70ₚ A70ₚ Hₚ Oₚ hS70 hA70 pz70_0 pz70_1 pz70_2 => ⟨rfl, ?_⟩))
      refine v_backc (c := (c + c22)) (s := (s + s22)) H oz_F5cls_32 oz_F5cls_20 Hₚ Oₚ (fun F70 A70 H Oₚ eF70 eA70 => ?_)
      have O := OUT_trans O Oₚ
      -- Share.placeAhead
      have cF70 : SF oz_F5clsl_0 F F70 := SF_trans (cF64) (SF_gluc (ι := oz_F5clsl_8) oz_F5cls_20 hS70 eF70 (by decide +kernel)) (any_sub (lₚ := []) (by decide +kernel))
      have mF70 := SFm_of cF70 oz_F5cls_12
      have cA70 : SA oz_F5clsl_1 A A70 := SA_trans (cA64) (SA_gluc (ι := oz_F5clsl_8) oz_F5cls_20 hA70 eA70 (by decide +kernel)) (any_subA (lₚ := []) (by decide +kernel))
      have mA70 := SAm_of cA70 oz_F5cls_13
      have hle9 := SL_LEAD hSLw hBIA (r := (z70)) (s := qz) (st := (x81_4)) (b := (z63)) (by omega) (by rw [← hqz1]; exact pz70_2.1) (by omega) hbz pz70_2.2
      have hld9 := ldF_e hTB hle9.1
      have hts9 : (tsF ((((y25_0_0)), 12, (dvP (cutP ((u3_1)) ((w13))) ((a2)) (p2 (a3)))) : Tb) ((z70))).2.1 = (z63) := by rw [hTB.2 _ (by omega) (by omega)]; exact hle9.2
      refine Ew_of (pcₚ := 132) (fun _ => x_istore rfl) ?_
      refine Ew_of (pcₚ := 134) (fun _ => x_iload rfl (rk_o (rk_o (l81_5) rfl rfl) rfl rfl)) ?_
      refine Ew_of (pcₚ := 136) (fun _ => x_istore rfl) ?_
      refine Ew_of (pcₚ := 138) (fun _ => x_iload rfl (rk_o (rk_s) rfl rfl)) ?_
      refine Ew_of (pcₚ := 140) (fun _ => x_istore rfl) ?_
      refine Ew_of (pcₚ := 143) (fun _ => x_iinc (len := 3) rfl (rk_o (rk_o (rk_o (rk_o (l81_6) rfl rfl) rfl rfl) rfl rfl) rfl rfl)) ?_
      refine Ew_of (pcₚ := 81) (fun _ => x_goto rfl rfl) ?_
      have hw81 : ∃ B, WSO ((((y25_0_0)), 12, (dvP (cutP ((u3_1)) ((w13))) ((a2)) (p2 (a3)))) : Tb) ((w12)) ((a2)) (((x81_6 + (-1)))) ((x81_5)) ((z70)) B ∧ RBB ((y64_0_2)) ((w64_1)) ((y64_0_1)) ((y64_0_3)) ((y64_0_4)) (byw (STB (dvP (cutP ((u3_1)) ((w13))) ((a2)) (p2 (a3))) ((y25_0_0)))) (B) := ⟨_, WSO_s hWS (by omega) hzq hld9 hts9 rfl rfl, hB12⟩
      exact ih81 _ (msE hm81 q_432 (q_433 b41)) _ _ _ _ (x81_5) (z70) ((x81_6 + (-1))) (rk_o (rk_o (rk_o (rk_o (rk_o (l81_0) rfl rfl) rfl rfl) rfl rfl) rfl rfl) rfl rfl) (rk_o (rk_o (rk_o (rk_o (rk_o (l81_1) rfl rfl) rfl rfl) rfl rfl) rfl rfl) rfl rfl) (rk_o (rk_o (rk_o (rk_o (rk_o (l81_3) rfl rfl) rfl rfl) rfl rfl) rfl rfl) rfl rfl) (rk_o (rk_o (rk_s) rfl rfl) rfl rfl) (rk_o (rk_s) rfl rfl) (rk_s) H O (SF_trans (SF_trans (SF_trans (hS_81) (SF_gluc (ι := oz_F5clsl_8) oz_F5cls_20 hS63 eF63 (by decide +kernel)) (any_sub (lₚ := []) (by decide +kernel))) (SF_gluc (ι := oz_F5clsl_4) oz_F5cls_16 hS64 eF64 (by decide +kernel)) (any_sub (lₚ := [(1, 1), (1, 2), (1, 3), (1, 4)]) (by decide +kernel))) (SF_gluc (ι := oz_F5clsl_8) oz_F5cls_20 hS70 eF70 (by decide +kernel)) (any_sub (lₚ := []) (by decide +kernel))) (SA_trans (SA_trans (SA_trans (hA_81) (SA_gluc (ι := oz_F5clsl_8) oz_F5cls_20 hA63 eA63 (by decide +kernel)) (any_subA (lₚ := []) (by decide +kernel))) (SA_gluc (ι := oz_F5clsl_4) oz_F5cls_16 hA64 eA64 (by decide +kernel)) (any_subA (lₚ := [2]) (by decide +kernel))) (SA_gluc (ι := oz_F5clsl_8) oz_F5cls_20 hA70 eA70 (by decide +kernel)) (any_subA (lₚ := []) (by decide +kernel)))   (y64_0_1) ((((show F70 1 1 = F64 1 1 from (eF70 1 1))).trans ((eF64 1 1).trans ey64_0_1))) (y64_0_2) ((((show F70 1 2 = F64 1 2 from (eF70 1 2))).trans ((eF64 1 2).trans ey64_0_2))) (y64_0_3) ((((show F70 1 3 = F64 1 3 from (eF70 1 3))).trans ((eF64 1 3).trans ey64_0_3))) (y64_0_4) ((((show F70 1 4 = F64 1 4 from (eF70 1 4))).trans ((eF64 1 4).trans ey64_0_4))) (w64_1) (((show A70 2 = A64 2 from (eA70 2))).trans ((eA64 2).trans ew64_1)) (show inr (x81_5) from j81_1) (show inr (z70) from pz70_0) (show inr ((x81_6 + (-1))) from q_431 b41 j81_2) (show ((x81_6 + (-1))) ≤ ((a2 - 3)) from q_3796 j81_3) (show ((a2 - 3)) ≤ ((x81_6 + (-1))) ∨ ((-1)) ≤ ((x81_6 + (-1))) from q_3795 b41) (show 0 ≤ (x81_5) ∧ (x81_5) < p2 ((y25_0_0)) from j81_6) (show 0 ≤ (z70) ∧ (z70) < p2 ((y25_0_0)) from pz70_1) (show 0 ≤ (y64_0_1) ∧ (y64_0_1) ≤ (m22_1) ∧ (m22_1) ≤ 65536 from pz64_0) (show 0 ≤ (y64_0_4) ∧ (y64_0_4) ≤ 7 from pz64_2) (show 0 ≤ (y64_0_3) ∧ (y64_0_3) < p2 ((y64_0_4)) by omega) (show 8 * (y64_0_1) + (y64_0_4) ≤ 808 + 6 * ((a2) - 3 - ((x81_6 + (-1)))) by omega) (show 128 + (a2) ≤ (m22_1) from j81_11) (show -1 ≤ ((x81_6 + (-1))) from q_3514 b41) (hw81) rfl
abbrev V104_Row : vV := [(0, 3, [(4, 0), (4, 0), (4, 0), (0, 0), (4, 0), (4, 0), (4, 0), (4, 0), (4, 0), (4, 0), (4, 0), (4, 0), (4, 0), (0, 0), (0, 0), (0, 0), (0, 0)]), (0, 7, [(4, 0), (0, 0), (1, 0), (0, 0), (0, 0)]), (1, 0, []), (0, 7, [(4, 0), (0, 0), (1, 0), (0, 0), (0, 0)]), (1, 0, []), (0, 7, [(4, 0), (0, 0), (1, 0), (0, 0), (0, 0)]), (1, 0, []), (0, 8, [(0, 0), (0, 0), (4, 0), (4, 0), (4, 0), (4, 0), (4, 0), (4, 0), (4, 0), (4, 0), (4, 0), (0, 0), (0, 0)]), (1, 1, []), (1, 1, []), (1, 1, []), (1, 1, []), (1, 1, []), (1, 1, []), (1, 1, []), (1, 1, []), (1, 1, []), (1, 1, []), (1, 1, [])]
theorem len_V104_Row_oz_F5cls : (V104_Row).length = 19 := by decide +kernel
theorem oz_F5cls_34 : vsub V104_Row V159 [1, 2] = true := by decide +kernel
theorem oz_F5cls_35 : vmov V104_Row [1, 2] [1] = true := by decide +kernel
theorem oz_F5cls_36 : vsub V104_Row V161_Br [1, 4, 2] = true := by decide +kernel
theorem oz_F5cls_37 : vmov V104_Row [1, 4, 2] [2] = true := by decide +kernel
theorem oz_F5cls_38 : vsub V104_Row V105_Row [0, 1, 2, 16] = true := by decide +kernel
theorem oz_F5cls_39 : vmov V104_Row [0, 1, 2, 16] [2] = true := by decide +kernel
theorem oz_F5cls_40 : vsub V104_Row V106_thisorderFivea [0, 3, 4, 7, 8, 9, 10, 11, 12, 13, 14, 15, 16, 17] = true := by decide +kernel
theorem oz_F5cls_41 : vmov V104_Row [0, 3, 4, 7, 8, 9, 10, 11, 12, 13, 14, 15, 16, 17] [2] = true := by decide +kernel
theorem oz_F5cls_42 : vsub V104_Row V106_thisorderSixa [0, 5, 6, 7, 8, 9, 10, 11, 12, 13, 14, 15, 16, 17] = true := by decide +kernel
theorem oz_F5cls_43 : vmov V104_Row [0, 5, 6, 7, 8, 9, 10, 11, 12, 13, 14, 15, 16, 17] [2] = true := by decide +kernel
theorem oz_F5cls_44 : vsub V104_Row V161_Br [1, 6, 2] = true := by decide +kernel
theorem oz_F5cls_45 : vmov V104_Row [1, 6, 2] [2] = true := by decide +kernel
def oz_F5clsl_9 : List (Nat × Nat) := [(1, 0), (1, 1), (1, 2), (1, 3), (1, 4), (3, 0), (3, 1), (3, 2), (3, 3), (3, 4), (5, 0), (5, 1), (5, 2), (5, 3), (5, 4), (7, 0)]
theorem oz_F5cls_46 : (oz_F5clsl_9).all (fun p => !tbz 26959946667150639839973565844277621140407447274687540555970525528064 (Nat.add (Nat.mul 32 p.1) p.2)) = true := by decide +kernel
def oz_F5clsl_10 : List Nat := [2, 4, 6, 8, 9, 10, 11, 12, 13, 14, 15, 16, 17]
theorem oz_F5cls_47 : (oz_F5clsl_10).all (fun p => !tbz 261972 p) = true := by decide +kernel
def oz_F5clsl_11 : List Nat := [2, 4, 6]
theorem oz_F5cls_48 : (oz_F5clsl_11).all (fun p => !tbz 84 p) = true := by decide +kernel
def oz_F5clsl_12 : List Nat := [1, 4, 2]
theorem oz_F5cls_49 : okc oz_F5clsl_12 526337 = true := by decide +kernel
def oz_F5clsl_13 : List Nat := [0, 1, 2, 16]
theorem oz_F5cls_50 : okc oz_F5clsl_13 2148008448 = true := by decide +kernel
def oz_F5clsl_14 : List Nat := [0, 3, 4, 7, 8, 9, 10, 11, 12, 13, 14, 15, 16, 17]
theorem oz_F5cls_51 : okc oz_F5clsl_14 2829811312643632160610283968114198016 = true := by decide +kernel
def oz_F5clsl_15 : List Nat := [0, 5, 6, 7, 8, 9, 10, 11, 12, 13, 14, 15, 16, 17]
theorem oz_F5cls_52 : okc oz_F5clsl_15 2829811312643632160610283968114723328 = true := by decide +kernel
def oz_F5clsl_16 : List Nat := [1, 6, 2]
theorem oz_F5cls_53 : okc oz_F5clsl_16 527361 = true := by decide +kernel
set_option maxHeartbeats 16000000 in
theorem C104_Row {σE : rS} {D N : Nat → Nat} {F : hF} {A : hA} {d c s : Nat} {Q : wQ} (H : HW V104_Row σE D N F A)  (pf2 : F 1 0 = (D 2 : Int)) (pf3 : F 0 7 = (D 3 : Int)) (pf4 : F 3 0 = (D 4 : Int)) (pf5 : F 0 8 = (D 5 : Int)) (pf6 : F 5 0 = (D 6 : Int)) (pf7 : F 0 6 = (D 7 : Int)) (pf8 : F 7 2 = (D 8 : Int)) (pf9 : F 7 3 = (D 9 : Int)) (pf10 : F 7 4 = (D 10 : Int)) (pf11 : F 7 5 = (D 11 : Int)) (pf12 : F 7 6 = (D 12 : Int)) (pf13 : F 7 8 = (D 13 : Int)) (pf14 : F 7 7 = (D 14 : Int)) (pf15 : F 7 9 = (D 15 : Int)) (pf16 : F 0 4 = (D 16 : Int)) (pf17 : F 0 5 = (D 17 : Int)) (pf18 : F 0 0 = (D 18 : Int)) (n2 : Int) (en2 : (N 2 : Int) = n2) (n4 : Int) (en4 : (N 4 : Int) = n4) (n6 : Int) (en6 : (N 6 : Int) = n6) (n8 : Int) (en8 : (N 8 : Int) = n8) (n9 : Int) (en9 : (N 9 : Int) = n9) (n10 : Int) (en10 : (N 10 : Int) = n10) (n11 : Int) (en11 : (N 11 : Int) = n11) (n12 : Int) (en12 : (N 12 : Int) = n12) (n13 : Int) (en13 : (N 13 : Int) = n13) (n14 : Int) (en14 : (N 14 : Int) = n14) (n15 : Int) (en15 : (N 15 : Int) = n15) (n16 : Int) (en16 : (N 16 : Int) = n16) (n17 : Int) (en17 : (N 17 : Int) = n17) (n18 : Int) (en18 : (N 18 : Int) = n18) (u0_3 : Int) (eu0_3 : F 0 3 = u0_3) (u1_1 : Int) (eu1_1 : F 1 1 = u1_1) (u1_2 : Int) (eu1_2 : F 1 2 = u1_2) (u1_3 : Int) (eu1_3 : F 1 3 = u1_3) (u1_4 : Int) (eu1_4 : F 1 4 = u1_4) (u3_1 : Int) (eu3_1 : F 3 1 = u3_1) (u5_1 : Int) (eu5_1 : F 5 1 = u5_1) (u7_1 : Int) (eu7_1 : F 7 1 = u7_1) (w2 : Int → Int) (ew2 : A 2 = w2) (w18 : Int → Int) (ew18 : A 18 = w18) (h0 : 0 ≤ (u1_1) ∧ (u1_1) ≤ (n2) ∧ (n2) ≤ 65536) (h1 : 0 ≤ (u1_4) ∧ (u1_4) ≤ 7) (h2 : 0 ≤ (u3_1) ∧ (u3_1) ≤ (n4) ∧ (n4) ≤ 65536) (h3 : 0 ≤ (u5_1) ∧ (u5_1) ≤ (n6) ∧ (n6) ≤ 65536) (h4 : (n8) = (u7_1) ∧ (n9) = (u7_1) ∧ (n10) = (u7_1) ∧ (n11) = (u7_1) ∧ (n12) = (u7_1) ∧ (n13) = (n14) ∧ (n15) = (n14) ∧ 1 ≤ (u7_1) ∧ (u7_1) ≤ 64 ∧ (u7_1) = 12 ∧ (n14) = 64) (h5 : (n16) = 256 ∧ (n17) = 12 ∧ (n18) = 256) (h6 : 0 ≤ ((u0_3)) ∧ ((u0_3)) ≤ 11) (h7 : LNG ((w18)) ((u0_3))) (h8 : (u1_1) = 0 ∧ (u1_4) = 0 ∧ (u1_3) = 0 ∧ (u1_2) = 0) (k : ∀ (z : Int) (σ : rS) (Dₚ Nₚ : Nat → Nat) (Fₚ : hF) (Aₚ : hA) (cₚ sₚ : Nat), HW V104_Row σ Dₚ Nₚ Fₚ Aₚ → OUT (V104_Row).length D N σE c s Dₚ Nₚ σ cₚ sₚ → SD [2, 4, 6] D Dₚ → SD [2, 4, 6] N Nₚ → SF [(1, 0), (1, 1), (1, 2), (1, 3), (1, 4), (3, 0), (3, 1), (3, 2), (3, 3), (3, 4), (5, 0), (5, 1), (5, 2), (5, 3), (5, 4), (7, 0)] F Fₚ → SA [2, 4, 6, 8, 9, 10, 11, 12, 13, 14, 15, 16, 17] A Aₚ → Fₚ 1 0 = (Dₚ 2 : Int) → Fₚ 3 0 = (Dₚ 4 : Int) → Fₚ 5 0 = (Dₚ 6 : Int) → ∀ m2 : Int, (Nₚ 2 : Int) = m2 → ∀ m4 : Int, (Nₚ 4 : Int) = m4 → ∀ m6 : Int, (Nₚ 6 : Int) = m6 → ∀ y1_1 : Int, Fₚ 1 1 = y1_1 → ∀ y1_2 : Int, Fₚ 1 2 = y1_2 → ∀ y1_3 : Int, Fₚ 1 3 = y1_3 → ∀ y1_4 : Int, Fₚ 1 4 = y1_4 → ∀ y3_1 : Int, Fₚ 3 1 = y3_1 → ∀ y5_1 : Int, Fₚ 5 1 = y5_1 → ∀ v2 : Int → Int, Aₚ 2 = v2 → ((z) = 0 ∨ (z) = 1) → (0 ≤ (y1_1) ∧ (y1_1) ≤ (m2) ∧ (m2) ≤ 65536) → (0 ≤ (y1_4) ∧ (y1_4) ≤ 7) → (0 ≤ (y3_1) ∧ (y3_1) ≤ (m4) ∧ (m4) ≤ 65536) → (0 ≤ (y5_1) ∧ (y5_1) ≤ (m6) ∧ (m6) ≤ 65536) → ((u1_1) ≤ (y1_1)) → ((y1_4) = 0 ∧ (y1_3) = 0 ∧ (y1_2) = 0) → (DSR ((z)) (DSC (wtF ((w18)) (((u0_3)))) (lzN ((w18)) 256)) (sc ((v2)) 0 ((y1_1)))) → Q (some (I z)) σ cₚ sₚ) : Ew 104 (d + 3) 0 (rargs 0 [.ref (D 0), .ref (D 1)]) [] σE c s Q := by
  have O := OUT_refl (n := (V104_Row).length) (D := D) (N := N) (σ := σE) (c := c) (s := s)
  have HE := H
  have r1 : (-2147483648 : Int) ≤ u0_3 ∧ u0_3 ≤ 2147483647 := rngE (show (-2147483648 : Int) ≤ F 0 3 ∧ F 0 3 ≤ 2147483647 from H.krg 0 3 (ltn len_V104_Row_oz_F5cls rfl)) (show F 0 3 = u0_3 from (eu0_3))
  have r2 : (-2147483648 : Int) ≤ u1_1 ∧ u1_1 ≤ 2147483647 := rngE (show (-2147483648 : Int) ≤ F 1 1 ∧ F 1 1 ≤ 2147483647 from H.krg 1 1 (ltn len_V104_Row_oz_F5cls rfl)) (show F 1 1 = u1_1 from (eu1_1))
  have r3 : (0 : Int) ≤ u1_2 ∧ u1_2 ≤ 1 := rngE (show (0 : Int) ≤ F 1 2 ∧ F 1 2 ≤ 1 from H.krg 1 2 (ltn len_V104_Row_oz_F5cls rfl)) (show F 1 2 = u1_2 from (eu1_2))
  have r4 : (-2147483648 : Int) ≤ u1_3 ∧ u1_3 ≤ 2147483647 := rngE (show (-2147483648 : Int) ≤ F 1 3 ∧ F 1 3 ≤ 2147483647 from H.krg 1 3 (ltn len_V104_Row_oz_F5cls rfl)) (show F 1 3 = u1_3 from (eu1_3))
  have r5 : (-2147483648 : Int) ≤ u1_4 ∧ u1_4 ≤ 2147483647 := rngE (show (-2147483648 : Int) ≤ F 1 4 ∧ F 1 4 ≤ 2147483647 from H.krg 1 4 (ltn len_V104_Row_oz_F5cls rfl)) (show F 1 4 = u1_4 from (eu1_4))
  have r6 : (-2147483648 : Int) ≤ u3_1 ∧ u3_1 ≤ 2147483647 := rngE (show (-2147483648 : Int) ≤ F 3 1 ∧ F 3 1 ≤ 2147483647 from H.krg 3 1 (ltn len_V104_Row_oz_F5cls rfl)) (show F 3 1 = u3_1 from (eu3_1))
  have r7 : (-2147483648 : Int) ≤ u5_1 ∧ u5_1 ≤ 2147483647 := rngE (show (-2147483648 : Int) ≤ F 5 1 ∧ F 5 1 ≤ 2147483647 from H.krg 5 1 (ltn len_V104_Row_oz_F5cls rfl)) (show F 5 1 = u5_1 from (eu5_1))
  have r8 : (-2147483648 : Int) ≤ u7_1 ∧ u7_1 ≤ 2147483647 := rngE (show (-2147483648 : Int) ≤ F 7 1 ∧ F 7 1 ≤ 2147483647 from H.krg 7 1 (ltn len_V104_Row_oz_F5cls rfl)) (show F 7 1 = u7_1 from (eu7_1))
  have r9 : (0 : Int) ≤ n2 ∧ n2 ≤ 1000000 := nleE (H.nle 2 (ltn len_V104_Row_oz_F5cls rfl)) (show (N 2 : Int) = n2 from en2)
  have r10 : (0 : Int) ≤ n4 ∧ n4 ≤ 1000000 := nleE (H.nle 4 (ltn len_V104_Row_oz_F5cls rfl)) (show (N 4 : Int) = n4 from en4)
  have r11 : (0 : Int) ≤ n6 ∧ n6 ≤ 1000000 := nleE (H.nle 6 (ltn len_V104_Row_oz_F5cls rfl)) (show (N 6 : Int) = n6 from en6)
  have r12 : (0 : Int) ≤ n8 ∧ n8 ≤ 1000000 := nleE (H.nle 8 (ltn len_V104_Row_oz_F5cls rfl)) (show (N 8 : Int) = n8 from en8)
  have r13 : (0 : Int) ≤ n9 ∧ n9 ≤ 1000000 := nleE (H.nle 9 (ltn len_V104_Row_oz_F5cls rfl)) (show (N 9 : Int) = n9 from en9)
  have r14 : (0 : Int) ≤ n10 ∧ n10 ≤ 1000000 := nleE (H.nle 10 (ltn len_V104_Row_oz_F5cls rfl)) (show (N 10 : Int) = n10 from en10)
  have r15 : (0 : Int) ≤ n11 ∧ n11 ≤ 1000000 := nleE (H.nle 11 (ltn len_V104_Row_oz_F5cls rfl)) (show (N 11 : Int) = n11 from en11)
  have r16 : (0 : Int) ≤ n12 ∧ n12 ≤ 1000000 := nleE (H.nle 12 (ltn len_V104_Row_oz_F5cls rfl)) (show (N 12 : Int) = n12 from en12)
  have r17 : (0 : Int) ≤ n13 ∧ n13 ≤ 1000000 := nleE (H.nle 13 (ltn len_V104_Row_oz_F5cls rfl)) (show (N 13 : Int) = n13 from en13)
  have r18 : (0 : Int) ≤ n14 ∧ n14 ≤ 1000000 := nleE (H.nle 14 (ltn len_V104_Row_oz_F5cls rfl)) (show (N 14 : Int) = n14 from en14)
  have r19 : (0 : Int) ≤ n15 ∧ n15 ≤ 1000000 := nleE (H.nle 15 (ltn len_V104_Row_oz_F5cls rfl)) (show (N 15 : Int) = n15 from en15)
  have r20 : (0 : Int) ≤ n16 ∧ n16 ≤ 1000000 := nleE (H.nle 16 (ltn len_V104_Row_oz_F5cls rfl)) (show (N 16 : Int) = n16 from en16)
  have r21 : (0 : Int) ≤ n17 ∧ n17 ≤ 1000000 := nleE (H.nle 17 (ltn len_V104_Row_oz_F5cls rfl)) (show (N 17 : Int) = n17 from en17)
  have r22 : (0 : Int) ≤ n18 ∧ n18 ≤ 1000000 := nleE (H.nle 18 (ltn len_V104_Row_oz_F5cls rfl)) (show (N 18 : Int) = n18 from en18)
  have hln : LNG ((w18)) ((u0_3)) := h7
  refine Ew_of (pcₚ := 3) (fun _ => x_sipush (z := 255) rfl (by decide)) ?_
  refine Ew_of (pcₚ := 4) (fun _ => x_istore_n rfl) ?_
  have : ∀ i, 255 < i → i < 256 → ((w18)) i = 0 := fun i a b => by omega
  suffices hl4 : ∀ (m : Nat), ∀ (ls : rO) (σ : rS) (F_4 : hF) (A_4 : hA) (x4_2 : Int), rlook ls 0 = some (.ref (D 0)) → rlook ls 1 = some (.ref (D 1)) → rlook ls 2 = some (I (x4_2)) → HW V104_Row σ D N F_4 A_4 → OUT (V104_Row).length D N σE c s D N σ c s → SF [] F F_4 → SA [16] A A_4 → (inr (x4_2)) → ((x4_2) ≤ (255)) → ((255) ≤ (x4_2) ∨ (0) ≤ (x4_2)) → (0 ≤ (x4_2)) → (∀ i, (x4_2) < i → i < 256 → ((w18)) i = 0) → ((x4_2) - (0)).toNat = m → Ew 104 (d + 3) 4 ls [] σ c s Q from
    hl4 _ _ _ _ _ (255) (rk_o (rfl) rfl rfl) (rk_o (rfl) rfl rfl) (rk_s) H O (SF_refl) (SA_refl)     (show inr (255) from q_297) (show (255) ≤ (255) from q_3799) (show (255) ≤ (255) ∨ (0) ≤ (255) from q_3798) (show 0 ≤ (255) from q_3797) (show ∀ i, (255) < i → i < 256 → ((w18)) i = 0 by assumption) rfl
  as_aux_lemma =>
  intro m
  induction m using Nat.strongRecOn with
  | _ m ih4 =>
    intro ls σ F_4 A_4 x4_2 l4_0 l4_1 l4_2 H O hS_4 hA_4     j4_0 j4_1 j4_2 j4_3 j4_4 hm4
    have cF_4 : SF oz_F5clsl_9 F F_4 := SF_trans (SF_refl) hS_4 (any_sub (by decide +kernel))
    have mF_4 := SFm_of cF_4 oz_F5cls_46
    have cA_4 : SA oz_F5clsl_10 A A_4 := SA_trans (SA_refl) hA_4 (any_subA (by decide +kernel))
    have mA_4 := SAm_of cA_4 oz_F5cls_47
    have j4_z : ∀ i, (x4_2) < i → i < 256 → ((w18)) i = 0 := by assumption
    refine Ew_of (pcₚ := 5) (fun _ => x_iload_n rfl l4_2) ?_
    have hc30 : ∀ (ls : rO) (σ : rS) (F_c30 : hF) (A_c30 : hA) , rlook ls 0 = some (.ref (D 0)) → rlook ls 1 = some (.ref (D 1)) → rlook ls 2 = some (I (x4_2)) → HW V104_Row σ D N F_c30 A_c30 → OUT (V104_Row).length D N σE c s D N σ c s → SF [] F_4 F_c30 → SA [] A_4 A_c30 → (((x4_2) ≤ (0)) ∨ ((x4_2) > (0) ∧ -2147483648 ≤ ((w18) (x4_2)) ∧ ((w18) (x4_2)) ≤ 2147483647 ∧ ((w18) (x4_2)) ≠ (0))) → Ew 104 (d + 3) 30 ls [] σ c s Q := by
     as_aux_lemma =>
      intro  ls σ F_c30 A_c30  lc30_0 lc30_1 lc30_2 H O hS_c30 hA_c30     jc30_0
      have cF_c30 : SF oz_F5clsl_9 F F_c30 := SF_trans (cF_4) hS_c30 (any_sub (by decide +kernel))
      have mF_c30 := SFm_of cF_c30 oz_F5cls_46
      have cA_c30 : SA oz_F5clsl_10 A A_c30 := SA_trans (cA_4) hA_c30 (any_subA (by decide +kernel))
      have mA_c30 := SAm_of cA_c30 oz_F5cls_47
      have hlz : (x4_2) = lzN ((w18)) 256 := lzN_is (by omega) (by omega) (by omega) (fun i a b => j4_z i a (by omega))
      have hl2 : 0 ≤ (x4_2) ∧ (x4_2) ≤ 255 := q_3800 j4_1 j4_3
      refine Ew_of (pcₚ := 31) (fun _ => x_aload_n rfl lc30_0) ?_
      refine v_g H (o := 0) (v := .ref (D 17)) rfl rfl rfl rfl rfl (vrf ((mF_c30 0 5 rfl).trans (pf17))) ?_
      refine Ew_of (pcₚ := 35) (fun _ => x_iconst rfl) ?_
      refine v_fil H (t := 17) (v := 0) rfl rfl rfl rfl rfl (show inr (0) from q_2) (fun σ A23 H Oₚ hA23 ga23 => ?_)
      have O := OUT_trans O Oₚ
      have cA23 : SA oz_F5clsl_10 A A23 := SA_trans (cA_c30) hA23 (any_subA (by decide +kernel))
      have mA23 := SAm_of cA23 oz_F5cls_47
      refine Ew_of (pcₚ := 39) (fun _ => x_iconst rfl) ?_
      refine Ew_of (pcₚ := 40) (fun _ => x_istore_n rfl) ?_
      refine Ew_of (pcₚ := 41) (fun _ => x_iconst rfl) ?_
      refine Ew_of (pcₚ := 43) (fun _ => x_istore rfl) ?_
      have hg0 : WGB ((A_4 16)) ((u0_3)) 0 := fun i a b => by omega
      have hc0 : WCN ((A_4 16)) ((A23 17)) 0 := WCN_0 ga23
      have : ∀ i, 0 ≤ i → i < 0 → ((A_4 16)) i = wtF ((w18)) (((u0_3))) i := fun i a b => by omega
      have : ADC ((A_4 16)) (0) (1) := .inl ⟨rfl, ALW_0⟩
      suffices hl43 : ∀ (m : Nat), ∀ (ls : rO) (σ : rS) (F_43 : hF) (A_43 : hA) (x43_3 : Int) (x43_4 : Int), rlook ls 0 = some (.ref (D 0)) → rlook ls 1 = some (.ref (D 1)) → rlook ls 2 = some (I (x4_2)) → rlook ls 3 = some (I (x43_3)) → rlook ls 4 = some (I (x43_4)) → HW V104_Row σ D N F_43 A_43 → OUT (V104_Row).length D N σE c s D N σ c s → SF [] F_c30 F_43 → SA [16, 17] A23 A_43 → ∀ w43_16 : Int → Int, A_43 16 = w43_16 → ∀ w43_17 : Int → Int, A_43 17 = w43_17 → (inr (x43_3)) → (inr (x43_4)) → ((0) ≤ (x43_4)) → ((x43_4) ≤ (0) ∨ (x43_4) ≤ ((x4_2))) → (0 ≤ (x43_3) ∧ (x43_3) ≤ 1) → (WGB ((w43_16)) ((u0_3)) (x43_4)) → (WCN ((w43_16)) ((w43_17)) (x43_4)) → (∀ i, 0 ≤ i → i < (x43_4) → ((w43_16)) i = wtF ((w18)) (((u0_3))) i) → (ADC ((w43_16)) ((x43_4)) ((x43_3))) → (((x4_2)) - (x43_4)).toNat = m → Ew 104 (d + 3) 43 ls [] σ c s Q from
        hl43 _ _ _ _ _ (1) (0) (rk_o (rk_o (lc30_0) rfl rfl) rfl rfl) (rk_o (rk_o (lc30_1) rfl rfl) rfl rfl) (rk_o (rk_o (lc30_2) rfl rfl) rfl rfl) (rk_o (rk_s) rfl rfl) (rk_s) H O (SF_refl) (SA_refl)    (A_4 16) ((funext (hA23 16 rfl)).trans (funext (hA_c30 16 rfl))) (A23 17) (rfl) (show inr (1) from q_135) (show inr (0) from q_2) (show (0) ≤ (0) from q_1) (show (0) ≤ (0) ∨ (0) ≤ ((x4_2)) from q_5) (show 0 ≤ (1) ∧ (1) ≤ 1 from q_35) (hg0) (hc0) (show ∀ i, 0 ≤ i → i < (0) → ((A_4 16)) i = wtF ((w18)) (((u0_3))) i by assumption) (show ADC ((A_4 16)) ((0)) ((1)) by assumption) rfl
      as_aux_lemma =>
      intro m
      induction m using Nat.strongRecOn with
      | _ m ih43 =>
        intro ls σ F_43 A_43 x43_3 x43_4 l43_0 l43_1 l43_2 l43_3 l43_4 H O hS_43 hA_43    w43_16 ew43_16 w43_17 ew43_17 j43_0 j43_1 j43_2 j43_3 j43_4 j43_5 j43_6 j43_7 j43_8 hm43
        have cF_43 : SF oz_F5clsl_9 F F_43 := SF_trans (cF_c30) hS_43 (any_sub (by decide +kernel))
        have mF_43 := SFm_of cF_43 oz_F5cls_46
        have cA_43 : SA oz_F5clsl_10 A A_43 := SA_trans (cA23) hA_43 (any_subA (by decide +kernel))
        have mA_43 := SAm_of cA_43 oz_F5cls_47
        have j43_w : ∀ i, 0 ≤ i → i < (x43_4) → ((w43_16)) i = wtF ((w18)) (((u0_3))) i := by assumption
        have j43_a : ADC ((w43_16)) ((x43_4)) ((x43_3)) := j43_8
        refine Ew_of (pcₚ := 45) (fun _ => x_iload rfl l43_4) ?_
        refine Ew_of (pcₚ := 46) (fun _ => x_iload_n rfl l43_2) ?_
        refine w_icmpge (t := 132) rfl rfl (show inr (x43_4) from j43_1) (show inr (x4_2) from j4_0) (fun b24 => ?_) (fun b24 => ?_)
        · have hl4 : (x43_4) = (x4_2) := q_3801 b24 hl2 j43_3
          have hw0 : WGB ((w43_16)) ((u0_3)) (x43_4) := j43_5
          have hwg : WGB ((w43_16)) 11 ((x4_2)) := fun i a b => by have := hw0 i a (by omega); omega
          have hwc : WCN ((w43_16)) ((w43_17)) ((x4_2)) := by rw [← hl4]; assumption
          obtain ⟨qk, hqk⟩ : ∃ q : Int, q = (x4_2) := ⟨_, rfl⟩
          have hAl : ADC ((w43_16)) (qk) ((x43_3)) := by rw [hqk, ← hl4]; exact j43_a
          have hag := AG_ct (N := ((u7_1))) (by omega) hwg hwc
          rw [← hqk] at hag
          have hDS : DSC ((w43_16)) qk = DSC (wtF ((w18)) (((u0_3)))) (lzN ((w18)) 256) := by rw [← hlz, hqk]; exact DSC_cg (fun i a b => j43_w i a (by omega))
          refine Ew_of (pcₚ := 133) (fun _ => x_aload_n rfl l43_0) ?_
          refine v_g H (o := 0) (v := .ref (D 3)) rfl rfl rfl rfl rfl (vrf ((mF_43 0 7 rfl).trans (pf3))) ?_
          refine Ew_of (pcₚ := 138) (fun _ => x_astore rfl) ?_
          refine Ew_of (pcₚ := 139) (fun _ => x_iload_n rfl (rk_o (l43_2) rfl rfl)) ?_
          refine Ew_of (pcₚ := 140) (fun _ => x_iconst rfl) ?_
          have hc152 : ∀ (tc152_0 : Int), ∀ (ls : rO) (σ : rS) (F_c152 : hF) (A_c152 : hA) , rlook ls 0 = some (.ref (D 0)) → rlook ls 1 = some (.ref (D 1)) → rlook ls 2 = some (I (x4_2)) → rlook ls 4 = some (.ref (D 3)) → HW V104_Row σ D N F_c152 A_c152 → OUT (V104_Row).length D N σE c s D N σ c s → SF [] F_43 F_c152 → SA [] A_43 A_c152 → (inr (tc152_0)) → (((x4_2) < (2) ∧ (tc152_0) = (0)) ∨ ((x4_2) ≥ (2) ∧ (x43_3) ≠ (0) ∧ (tc152_0) = (0)) ∨ ((x4_2) ≥ (2) ∧ (x43_3) = (0) ∧ (tc152_0) = (1))) → Ew 104 (d + 3) 152 ls [I (tc152_0)] σ c s Q := by
           as_aux_lemma =>
            intro tc152_0 ls σ F_c152 A_c152  lc152_0 lc152_1 lc152_2 lc152_4 H O hS_c152 hA_c152     jc152_0 jc152_1
            have cF_c152 : SF oz_F5clsl_9 F F_c152 := SF_trans (cF_43) hS_c152 (any_sub (by decide +kernel))
            have mF_c152 := SFm_of cF_c152 oz_F5cls_46
            have cA_c152 : SA oz_F5clsl_10 A A_c152 := SA_trans (cA_43) hA_c152 (any_subA (by decide +kernel))
            have mA_c152 := SAm_of cA_c152 oz_F5cls_47
            refine Ew_of (pcₚ := 154) (fun _ => x_istore rfl) ?_
            refine Ew_of (pcₚ := 156) (fun _ => x_iload rfl rk_s) ?_
            refine w_ifeq (t := 228) rfl rfl (show inr (tc152_0) from jc152_0) (fun b25 => ?_) (fun b25 => ?_)
            · have hc261 : ∀ (ls : rO) (σ : rS) (F_c261 : hF) (A_c261 : hA) , rlook ls 1 = some (.ref (D 1)) → rlook ls 4 = some (.ref (D 3)) → rlook ls 5 = some (I (tc152_0)) → HW V104_Row σ D N F_c261 A_c261 → OUT (V104_Row).length D N σE c s D N σ c s → SF [] F_c152 F_c261 → SA [] A_c152 A_c261 → (NDO ((w43_16)) qk) → (BYO ((tc152_0)) ((w43_16)) qk) → Ew 104 (d + 3) 261 ls [] σ c s Q := by
               as_aux_lemma =>
                intro  ls σ F_c261 A_c261  lc261_1 lc261_4 lc261_5 H O hS_c261 hA_c261     jc261_0 jc261_1
                have cF_c261 : SF oz_F5clsl_9 F F_c261 := SF_trans (cF_c152) hS_c261 (any_sub (by decide +kernel))
                have mF_c261 := SFm_of cF_c261 oz_F5cls_46
                have cA_c261 : SA oz_F5clsl_10 A A_c261 := SA_trans (cA_c152) hA_c261 (any_subA (by decide +kernel))
                have mA_c261 := SAm_of cA_c261 oz_F5cls_47
                have hND : NDO ((w43_16)) qk := jc261_0
                have hBY : BYO ((tc152_0)) ((w43_16)) qk := jc261_1
                refine Ew_of (pcₚ := 263) (fun _ => x_iload rfl lc261_5) ?_
                refine w_ifeq (t := 290) rfl rfl (show inr (tc152_0) from jc152_0) (fun b26 => ?_) (fun b26 => ?_)
                · refine Ew_of (pcₚ := 292) (fun _ => x_iload rfl lc261_5) ?_
                  have : DSR ((tc152_0)) (DSC (wtF ((w18)) (((u0_3)))) (lzN ((w18)) 256)) (sc ((w2)) 0 ((u1_1))) := by first | exact .inr ⟨by omega, by rw [← hDS]; exact DSC_n (BYO_0 hBY (by omega)) (NDO_n hND (BYO_0 hBY (by omega)))⟩ | exact .inl ⟨by omega, by rw [← hDS, DSC_s (BYO_1 hBY (by omega)) (NDO_s hND), (DSS_of hr1 (pNONE_3 (by omega)) (by omega) (by omega) hT_ hTl_ (by omega)).1]⟩
                  have hbu0 : (u1_2) = 0 := by first | omega | exact (DSS_of hr1 (pNONE_3 (by omega)) (by omega) (by omega) hT_ hTl_ (by omega)).2
                  exact w_ireturn rfl (k (tc152_0) _ _ _ _ _ _ _ H O (SD_refl) (SD_refl) (cF_c261) (cA_c261) (((((((hS_c261 1 0 rfl).trans (hS_c152 1 0 rfl)).trans (hS_43 1 0 rfl)).trans (hS_c30 1 0 rfl)).trans (hS_4 1 0 rfl))).trans (pf2)) (((((((hS_c261 3 0 rfl).trans (hS_c152 3 0 rfl)).trans (hS_43 3 0 rfl)).trans (hS_c30 3 0 rfl)).trans (hS_4 3 0 rfl))).trans (pf4)) (((((((hS_c261 5 0 rfl).trans (hS_c152 5 0 rfl)).trans (hS_43 5 0 rfl)).trans (hS_c30 5 0 rfl)).trans (hS_4 5 0 rfl))).trans (pf6)) (n2) (en2) (n4) (en4) (n6) (en6) (u1_1) (((((((hS_c261 1 1 rfl).trans (hS_c152 1 1 rfl)).trans (hS_43 1 1 rfl)).trans (hS_c30 1 1 rfl)).trans (hS_4 1 1 rfl)).trans (eu1_1))) (u1_2) (((((((hS_c261 1 2 rfl).trans (hS_c152 1 2 rfl)).trans (hS_43 1 2 rfl)).trans (hS_c30 1 2 rfl)).trans (hS_4 1 2 rfl)).trans (eu1_2))) (u1_3) (((((((hS_c261 1 3 rfl).trans (hS_c152 1 3 rfl)).trans (hS_43 1 3 rfl)).trans (hS_c30 1 3 rfl)).trans (hS_4 1 3 rfl)).trans (eu1_3))) (u1_4) (((((((hS_c261 1 4 rfl).trans (hS_c152 1 4 rfl)).trans (hS_43 1 4 rfl)).trans (hS_c30 1 4 rfl)).trans (hS_4 1 4 rfl)).trans (eu1_4))) (u3_1) (((((((hS_c261 3 1 rfl).trans (hS_c152 3 1 rfl)).trans (hS_43 3 1 rfl)).trans (hS_c30 3 1 rfl)).trans (hS_4 3 1 rfl)).trans (eu3_1))) (u5_1) (((((((hS_c261 5 1 rfl).trans (hS_c152 5 1 rfl)).trans (hS_43 5 1 rfl)).trans (hS_c30 5 1 rfl)).trans (hS_4 5 1 rfl)).trans (eu5_1))) (w2) ((funext (hA_c261 2 rfl)).trans ((funext (hA_c152 2 rfl)).trans ((funext (hA_43 2 rfl)).trans ((funext (hA23 2 rfl)).trans ((funext (hA_c30 2 rfl)).trans ((funext (hA_4 2 rfl)).trans (ew2))))))) (show (tc152_0) = 0 ∨ (tc152_0) = 1 from q_750 b26) (show 0 ≤ (u1_1) ∧ (u1_1) ≤ (n2) ∧ (n2) ≤ 65536 from h0) (show 0 ≤ (u1_4) ∧ (u1_4) ≤ 7 from h1) (show 0 ≤ (u3_1) ∧ (u3_1) ≤ (n4) ∧ (n4) ≤ 65536 from h2) (show 0 ≤ (u5_1) ∧ (u5_1) ≤ (n6) ∧ (n6) ≤ 65536 from h3) (show (u1_1) ≤ (u1_1) from q_43) (show (u1_4) = 0 ∧ (u1_3) = 0 ∧ (u1_2) = 0 from q_3802 h8) (show DSR ((tc152_0)) (DSC (wtF ((w18)) (((u0_3)))) (lzN ((w18)) 256)) (sc ((w2)) 0 ((u1_1))) by assumption))
                · refine Ew_of (pcₚ := 267) (fun _ => x_aload_n rfl lc261_1) ?_
                  refine Ew_of (pcₚ := 269) (fun _ => x_aload rfl lc261_4) ?_
                  refine v_g H (o := 3) (v := I (u3_1)) rfl rfl rfl rfl rfl (congrArg (fun z : Int => I z) (((((((hS_c261 3 1 rfl).trans (hS_c152 3 1 rfl)).trans (hS_43 3 1 rfl)).trans (hS_c30 3 1 rfl)).trans (hS_4 3 1 rfl)).trans (eu3_1)) : F_c261 3 1 = u3_1)) ?_
                  refine v_inv H (o := 1) rfl rfl rfl rfl rfl rfl (by rfl) (C159 (D := puc 1025 D) (N := puc 1025 N) (HW_subc H oz_F5cls_34 oz_F5cls_16) (((((((hS_c261 1 0 rfl).trans (hS_c152 1 0 rfl)).trans (hS_43 1 0 rfl)).trans (hS_c30 1 0 rfl)).trans (hS_4 1 0 rfl))).trans (pf2)) (n2) (en2) (u1_1) (((((((hS_c261 1 1 rfl).trans (hS_c152 1 1 rfl)).trans (hS_43 1 1 rfl)).trans (hS_c30 1 1 rfl)).trans (hS_4 1 1 rfl)).trans (eu1_1))) (u1_2) (((((((hS_c261 1 2 rfl).trans (hS_c152 1 2 rfl)).trans (hS_43 1 2 rfl)).trans (hS_c30 1 2 rfl)).trans (hS_4 1 2 rfl)).trans (eu1_2))) (w2) ((funext (hA_c261 2 rfl)).trans ((funext (hA_c152 2 rfl)).trans ((funext (hA_43 2 rfl)).trans ((funext (hA23 2 rfl)).trans ((funext (hA_c30 2 rfl)).trans ((funext (hA_4 2 rfl)).trans (ew2))))))) (show inr (u3_1) from q_38 h2) (show 0 ≤ (u1_1) ∧ (u1_1) ≤ (n2) ∧ (n2) ≤ 65536 from h0) (fun σ27 D27ₚ N27ₚ F27ₚ A27ₚ c27 s27 Hₚ Oₚ hD27 hN27 hS27 hA27 pm27_1 m27_1 em27_1 y27_0_1 ey27_0_1 y27_0_2 ey27_0_2 w27_1 ew27_1 pz27_0 pz27_1 pz27_2 pz27_3 => ⟨rfl, ?_⟩))
                  refine v_backMc (c := c) (s := s) H oz_F5cls_34 oz_F5cls_16 Hₚ Oₚ hD27 oz_F5cls_35 (fun D27 N27 F27 A27 H Oₚ eD27 eN27 eF27 eA27 => ?_)
                  have O := OUT_trans O Oₚ
                  -- Row.add
                  have cF27 : SF oz_F5clsl_9 F F27 := SF_trans (cF_c261) (SF_gluc (ι := oz_F5clsl_4) oz_F5cls_16 hS27 eF27 (by decide +kernel)) (any_sub (lₚ := [(1, 0), (1, 1), (1, 2)]) (by decide +kernel))
                  have mF27 := SFm_of cF27 oz_F5cls_46
                  have cA27 : SA oz_F5clsl_10 A A27 := SA_trans (cA_c261) (SA_gluc (ι := oz_F5clsl_4) oz_F5cls_16 hA27 eA27 (by decide +kernel)) (any_subA (lₚ := [2]) (by decide +kernel))
                  have mA27 := SAm_of cA27 oz_F5cls_47
                  have cD27 : SD oz_F5clsl_11 D D27 := SD_trans (SD_refl) (SD_gluc (ι := oz_F5clsl_4) oz_F5cls_16 hD27 eD27 (by decide +kernel)) (any_subA (lₚ := [2]) (by decide +kernel))
                  have mD27 := SDm_of cD27 oz_F5cls_48
                  have cN27 : SD oz_F5clsl_11 N N27 := SD_trans (SD_refl) (SD_gluc (ι := oz_F5clsl_4) oz_F5cls_16 hN27 eN27 (by decide +kernel)) (any_subA (lₚ := [2]) (by decide +kernel))
                  have mN27 := SDm_of cN27 oz_F5cls_48
                  have pf27_1_0 : F27 1 0 = (D27 2 : Int) := (eF27 1 0).trans (pm27_1.trans (congrArg (fun q : Nat => (q : Int)) (eD27 2).symm))
                  have pf27_3_0 : F27 3 0 = (D27 4 : Int) := ((show F27 3 0 = F_c261 3 0 from (eF27 3 0))).trans ((((((((hS_c261 3 0 rfl).trans (hS_c152 3 0 rfl)).trans (hS_43 3 0 rfl)).trans (hS_c30 3 0 rfl)).trans (hS_4 3 0 rfl))).trans (pf4)).trans (congrArg (fun q : Nat => (q : Int)) ((show D27 4 = D 4 from (eD27 4))).symm))
                  have pf27_5_0 : F27 5 0 = (D27 6 : Int) := ((show F27 5 0 = F_c261 5 0 from (eF27 5 0))).trans ((((((((hS_c261 5 0 rfl).trans (hS_c152 5 0 rfl)).trans (hS_43 5 0 rfl)).trans (hS_c30 5 0 rfl)).trans (hS_4 5 0 rfl))).trans (pf6)).trans (congrArg (fun q : Nat => (q : Int)) ((show D27 6 = D 6 from (eD27 6))).symm))
                  have r28 : (0 : Int) ≤ m27_1 ∧ m27_1 ≤ 1000000 := nleE (H.nle 2 (ltn len_V104_Row_oz_F5cls rfl)) (show (N27 2 : Int) = m27_1 from (congrArg (fun q : Nat => (q : Int)) (eN27 2)).trans em27_1)
                  have r29 : (-2147483648 : Int) ≤ y27_0_1 ∧ y27_0_1 ≤ 2147483647 := rngE (show (-2147483648 : Int) ≤ F27 1 1 ∧ F27 1 1 ≤ 2147483647 from H.krg 1 1 (ltn len_V104_Row_oz_F5cls rfl)) (show F27 1 1 = y27_0_1 from ((eF27 1 1).trans ey27_0_1))
                  have r30 : (0 : Int) ≤ y27_0_2 ∧ y27_0_2 ≤ 1 := rngE (show (0 : Int) ≤ F27 1 2 ∧ F27 1 2 ≤ 1 from H.krg 1 2 (ltn len_V104_Row_oz_F5cls rfl)) (show F27 1 2 = y27_0_2 from ((eF27 1 2).trans ey27_0_2))
                  have hr1 := pz27_3
                  refine Ew_of (pcₚ := 276) (fun _ => x_aload_n rfl lc261_1) ?_
                  refine Ew_of (pcₚ := 278) (fun _ => x_aload rfl lc261_4) ?_
                  refine Ew_stk (show ([.ref (D 3), .ref (D 1)] : List Value) = [.ref (D27 3), .ref (D27 1)] by rw [show D27 1 = D 1 from mD27 1 rfl, show D27 3 = D 3 from mD27 3 rfl]) ?_
                  refine v_g H (o := 3) (v := .ref (D27 4)) rfl rfl rfl rfl rfl (vrf (pf27_3_0)) ?_
                  refine Ew_of (pcₚ := 282) (fun _ => x_iconst rfl) ?_
                  refine Ew_of (pcₚ := 284) (fun _ => x_aload rfl lc261_4) ?_
                  refine Ew_stk (congrArg (fun qz : Nat => ([.ref qz, I (0), .ref (D27 4), .ref (D27 1)] : List Value)) (show D27 3 = D 3 from mD27 3 rfl).symm) ?_
                  refine v_g H (o := 3) (v := I (u3_1)) rfl rfl rfl rfl rfl (congrArg (fun z : Int => I z) (((((((((show F27 3 1 = F_c261 3 1 from (eF27 3 1))).trans (hS_c261 3 1 rfl)).trans (hS_c152 3 1 rfl)).trans (hS_43 3 1 rfl)).trans (hS_c30 3 1 rfl)).trans (hS_4 3 1 rfl)).trans (eu3_1)) : F27 3 1 = u3_1)) ?_
                  refine v_inv H (o := 1) rfl rfl rfl rfl rfl rfl (by rfl) (C161_Br (D := puc 526337 D27) (N := puc 526337 N27) (HW_subc H oz_F5cls_36 oz_F5cls_49) (pf27_1_0) (n4) ((congrArg (fun q : Nat => (q : Int)) (show N27 4 = N 4 from (eN27 4))).trans (en4)) (m27_1) ((congrArg (fun q : Nat => (q : Int)) (eN27 2)).trans em27_1) (y27_0_1) (((eF27 1 1).trans ey27_0_1)) (y27_0_2) (((eF27 1 2).trans ey27_0_2)) (A 4) (((show A27 4 = A_c261 4 from (eA27 4))).trans ((funext (hA_c261 4 rfl)).trans ((funext (hA_c152 4 rfl)).trans ((funext (hA_43 4 rfl)).trans ((funext (hA23 4 rfl)).trans ((funext (hA_c30 4 rfl)).trans (funext (hA_4 4 rfl)))))))) (w27_1) ((eA27 2).trans ew27_1) (show inr (0) from q_2) (show inr (u3_1) from q_38 h2) (show 0 ≤ (y27_0_1) ∧ (y27_0_1) ≤ (m27_1) ∧ (m27_1) ≤ 65536 from pz27_0) (show (u3_1) < 0 ∨ 0 ≤ (0) ∧ (0) + (u3_1) ≤ (n4) from q_2944 h2) (fun σ31 D31ₚ N31ₚ F31ₚ A31ₚ c31 s31 Hₚ Oₚ hD31 hN31 hS31 hA31 pm31_2 m31_2 em31_2 y31_0_1 ey31_0_1 y31_0_2 ey31_0_2 w31_2 ew31_2 pz31_0 pz31_1 pz31_2 pz31_3 => ⟨rfl, ?_⟩))
                  refine v_backMc (c := (c + c27)) (s := (s + s27)) H oz_F5cls_36 oz_F5cls_49 Hₚ Oₚ hD31 oz_F5cls_37 (fun D31 N31 F31 A31 H Oₚ eD31 eN31 eF31 eA31 => ?_)
                  have O := OUT_trans O Oₚ
                  -- Row.addPart
                  have cF31 : SF oz_F5clsl_9 F F31 := SF_trans (cF27) (SF_gluc (ι := oz_F5clsl_12) oz_F5cls_49 hS31 eF31 (by decide +kernel)) (any_sub (lₚ := [(1, 0), (1, 1), (1, 2)]) (by decide +kernel))
                  have mF31 := SFm_of cF31 oz_F5cls_46
                  have cA31 : SA oz_F5clsl_10 A A31 := SA_trans (cA27) (SA_gluc (ι := oz_F5clsl_12) oz_F5cls_49 hA31 eA31 (by decide +kernel)) (any_subA (lₚ := [2]) (by decide +kernel))
                  have mA31 := SAm_of cA31 oz_F5cls_47
                  have cD31 : SD oz_F5clsl_11 D D31 := SD_trans (cD27) (SD_gluc (ι := oz_F5clsl_12) oz_F5cls_49 hD31 eD31 (by decide +kernel)) (any_subA (lₚ := [2]) (by decide +kernel))
                  have mD31 := SDm_of cD31 oz_F5cls_48
                  have cN31 : SD oz_F5clsl_11 N N31 := SD_trans (cN27) (SD_gluc (ι := oz_F5clsl_12) oz_F5cls_49 hN31 eN31 (by decide +kernel)) (any_subA (lₚ := [2]) (by decide +kernel))
                  have mN31 := SDm_of cN31 oz_F5cls_48
                  have pf31_1_0 : F31 1 0 = (D31 2 : Int) := (eF31 1 0).trans (pm31_2.trans (congrArg (fun q : Nat => (q : Int)) (eD31 2).symm))
                  have pf31_3_0 : F31 3 0 = (D31 4 : Int) := ((show F31 3 0 = F27 3 0 from (eF31 3 0))).trans ((pf27_3_0).trans (congrArg (fun q : Nat => (q : Int)) ((show D31 4 = D27 4 from (eD31 4).trans (hD31 1 rfl))).symm))
                  have pf31_5_0 : F31 5 0 = (D31 6 : Int) := ((show F31 5 0 = F27 5 0 from (eF31 5 0))).trans ((pf27_5_0).trans (congrArg (fun q : Nat => (q : Int)) ((show D31 6 = D27 6 from (eD31 6))).symm))
                  have r32 : (0 : Int) ≤ m31_2 ∧ m31_2 ≤ 1000000 := nleE (H.nle 2 (ltn len_V104_Row_oz_F5cls rfl)) (show (N31 2 : Int) = m31_2 from (congrArg (fun q : Nat => (q : Int)) (eN31 2)).trans em31_2)
                  have r33 : (-2147483648 : Int) ≤ y31_0_1 ∧ y31_0_1 ≤ 2147483647 := rngE (show (-2147483648 : Int) ≤ F31 1 1 ∧ F31 1 1 ≤ 2147483647 from H.krg 1 1 (ltn len_V104_Row_oz_F5cls rfl)) (show F31 1 1 = y31_0_1 from ((eF31 1 1).trans ey31_0_1))
                  have r34 : (0 : Int) ≤ y31_0_2 ∧ y31_0_2 ≤ 1 := rngE (show (0 : Int) ≤ F31 1 2 ∧ F31 1 2 ≤ 1 from H.krg 1 2 (ltn len_V104_Row_oz_F5cls rfl)) (show F31 1 2 = y31_0_2 from ((eF31 1 2).trans ey31_0_2))
                  refine Ew_of (pcₚ := 292) (fun _ => x_iload rfl lc261_5) ?_
                  have : DSR ((tc152_0)) (DSC (wtF ((w18)) (((u0_3)))) (lzN ((w18)) 256)) (sc ((w31_2)) 0 ((y31_0_1))) := by first | exact .inr ⟨by omega, by rw [← hDS]; exact DSC_n (BYO_0 hBY (by omega)) (NDO_n hND (BYO_0 hBY (by omega)))⟩ | exact .inl ⟨by omega, by rw [← hDS, DSC_s (BYO_1 hBY (by omega)) (NDO_s hND), (DSS_of hr1 (pz31_3 (by omega)) (by omega) (by omega) hT_ hTl_ (by omega)).1]⟩
                  have hbu0 : (y31_0_2) = 0 := by first | omega | exact (DSS_of hr1 (pz31_3 (by omega)) (by omega) (by omega) hT_ hTl_ (by omega)).2
                  exact w_ireturn rfl (k (tc152_0) _ _ _ _ _ _ _ H O (cD31) (cN31) (cF31) (cA31) (pf31_1_0) (pf31_3_0) (pf31_5_0) (m31_2) ((congrArg (fun q : Nat => (q : Int)) (eN31 2)).trans em31_2) (n4) ((congrArg (fun q : Nat => (q : Int)) (show N31 4 = N27 4 from (eN31 4).trans (hN31 1 rfl))).trans ((congrArg (fun q : Nat => (q : Int)) (show N27 4 = N 4 from (eN27 4))).trans (en4))) (n6) ((congrArg (fun q : Nat => (q : Int)) (show N31 6 = N27 6 from (eN31 6))).trans ((congrArg (fun q : Nat => (q : Int)) (show N27 6 = N 6 from (eN27 6))).trans (en6))) (y31_0_1) (((eF31 1 1).trans ey31_0_1)) (y31_0_2) (((eF31 1 2).trans ey31_0_2)) (u1_3) ((((((((((show F31 1 3 = F27 1 3 from (eF31 1 3).trans (hS31 0 3 rfl))).trans ((show F27 1 3 = F_c261 1 3 from (eF27 1 3).trans (hS27 0 3 rfl)))).trans (hS_c261 1 3 rfl)).trans (hS_c152 1 3 rfl)).trans (hS_43 1 3 rfl)).trans (hS_c30 1 3 rfl)).trans (hS_4 1 3 rfl)).trans (eu1_3))) (u1_4) ((((((((((show F31 1 4 = F27 1 4 from (eF31 1 4).trans (hS31 0 4 rfl))).trans ((show F27 1 4 = F_c261 1 4 from (eF27 1 4).trans (hS27 0 4 rfl)))).trans (hS_c261 1 4 rfl)).trans (hS_c152 1 4 rfl)).trans (hS_43 1 4 rfl)).trans (hS_c30 1 4 rfl)).trans (hS_4 1 4 rfl)).trans (eu1_4))) (u3_1) ((((((((((show F31 3 1 = F27 3 1 from (eF31 3 1))).trans ((show F27 3 1 = F_c261 3 1 from (eF27 3 1)))).trans (hS_c261 3 1 rfl)).trans (hS_c152 3 1 rfl)).trans (hS_43 3 1 rfl)).trans (hS_c30 3 1 rfl)).trans (hS_4 3 1 rfl)).trans (eu3_1))) (u5_1) ((((((((((show F31 5 1 = F27 5 1 from (eF31 5 1))).trans ((show F27 5 1 = F_c261 5 1 from (eF27 5 1)))).trans (hS_c261 5 1 rfl)).trans (hS_c152 5 1 rfl)).trans (hS_43 5 1 rfl)).trans (hS_c30 5 1 rfl)).trans (hS_4 5 1 rfl)).trans (eu5_1))) (w31_2) ((eA31 2).trans ew31_2) (show (tc152_0) = 0 ∨ (tc152_0) = 1 from q_750 b25) (show 0 ≤ (y31_0_1) ∧ (y31_0_1) ≤ (m31_2) ∧ (m31_2) ≤ 65536 from pz31_0) (show 0 ≤ (u1_4) ∧ (u1_4) ≤ 7 from h1) (show 0 ≤ (u3_1) ∧ (u3_1) ≤ (n4) ∧ (n4) ≤ 65536 from h2) (show 0 ≤ (u5_1) ∧ (u5_1) ≤ (n6) ∧ (n6) ≤ 65536 from h3) (show (u1_1) ≤ (y31_0_1) from q_3804 h8 pz31_0) (show (u1_4) = 0 ∧ (u1_3) = 0 ∧ (y31_0_2) = 0 from q_3803 h8 hbu0) (show DSR ((tc152_0)) (DSC (wtF ((w18)) (((u0_3)))) (lzN ((w18)) 256)) (sc ((w31_2)) 0 ((y31_0_1))) by assumption))
              have hBY : BYO ((tc152_0)) ((w43_16)) qk := by first | exact .inr ⟨by omega, fun q => by have q1 := q.1; rcases hAl with ⟨a, b⟩ | ⟨a, b⟩; (exact q.2.1 b); omega⟩ | (by_cases z : (tc152_0) = 1; (exact .inl ⟨z, by omega, hnA, by omega⟩); exact .inr ⟨by omega, fun q => by have := q.2.2; omega⟩)
              refine Ew_of (pcₚ := 229) (fun _ => x_iload_n rfl (rk_o (lc152_2) rfl rfl)) ?_
              refine Ew_of (pcₚ := 232) (fun _ => x_sipush (z := 128) rfl (by decide)) ?_
              refine w_icmpgt (t := 261) rfl rfl (show inr (x4_2) from j4_0) (show inr (128) from q_313) (fun b35 => ?_) (fun b35 => ?_)
              · have : NDO ((w43_16)) qk := by first | exact .inl (by omega) | exact .inr ⟨BYO_1 hBY (by omega), by omega⟩
                exact hc261  _ _ _ _  (rk_o (lc152_1) rfl rfl) (rk_o (lc152_4) rfl rfl) (rk_s) H O (SF_refl) (SA_refl)     (show NDO ((w43_16)) qk by assumption) (hBY)
              · refine Ew_of (pcₚ := 237) (fun _ => x_iload rfl rk_s) ?_
                have hc253 : ∀ (ls : rO) (σ : rS) (F_c253 : hF) (A_c253 : hA) , rlook ls 0 = some (.ref (D 0)) → rlook ls 1 = some (.ref (D 1)) → rlook ls 2 = some (I (x4_2)) → HW V104_Row σ D N F_c253 A_c253 → OUT (V104_Row).length D N σE c s D N σ c s → SF [] F_c152 F_c253 → SA [] A_c152 A_c253 → (((tc152_0) = (0)) ∨ ((tc152_0) ≠ (0) ∧ (((x4_2 + 1) / 2)) ≤ (u3_1))) → Ew 104 (d + 3) 253 ls [] σ c s Q := by
                 as_aux_lemma =>
                  intro  ls σ F_c253 A_c253  lc253_0 lc253_1 lc253_2 H O hS_c253 hA_c253     jc253_0
                  have cF_c253 : SF oz_F5clsl_9 F F_c253 := SF_trans (cF_c152) hS_c253 (any_sub (by decide +kernel))
                  have mF_c253 := SFm_of cF_c253 oz_F5cls_46
                  have cA_c253 : SA oz_F5clsl_10 A A_c253 := SA_trans (cA_c152) hA_c253 (any_subA (by decide +kernel))
                  have mA_c253 := SAm_of cA_c253 oz_F5cls_47
                  refine Ew_of (pcₚ := 254) (fun _ => x_aload_n rfl lc253_0) ?_
                  refine Ew_of (pcₚ := 255) (fun _ => x_aload_n rfl lc253_1) ?_
                  refine Ew_of (pcₚ := 256) (fun _ => x_iload_n rfl lc253_2) ?_
                  refine v_inv H (o := 0) rfl rfl rfl rfl rfl rfl (by rfl) (C105_Row (D := puc 2148008448 D) (N := puc 2148008448 N) (HW_subc H oz_F5cls_38 oz_F5cls_50) (((((((hS_c253 1 0 rfl).trans (hS_c152 1 0 rfl)).trans (hS_43 1 0 rfl)).trans (hS_c30 1 0 rfl)).trans (hS_4 1 0 rfl))).trans (pf2)) ((mF_c253 0 4 rfl).trans (pf16)) (n2) (en2) (n16) (en16) (u1_1) (((((((hS_c253 1 1 rfl).trans (hS_c152 1 1 rfl)).trans (hS_43 1 1 rfl)).trans (hS_c30 1 1 rfl)).trans (hS_4 1 1 rfl)).trans (eu1_1))) (u1_2) (((((((hS_c253 1 2 rfl).trans (hS_c152 1 2 rfl)).trans (hS_43 1 2 rfl)).trans (hS_c30 1 2 rfl)).trans (hS_4 1 2 rfl)).trans (eu1_2))) (u1_3) (((((((hS_c253 1 3 rfl).trans (hS_c152 1 3 rfl)).trans (hS_43 1 3 rfl)).trans (hS_c30 1 3 rfl)).trans (hS_4 1 3 rfl)).trans (eu1_3))) (u1_4) (((((((hS_c253 1 4 rfl).trans (hS_c152 1 4 rfl)).trans (hS_43 1 4 rfl)).trans (hS_c30 1 4 rfl)).trans (hS_4 1 4 rfl)).trans (eu1_4))) (w2) ((funext (hA_c253 2 rfl)).trans ((funext (hA_c152 2 rfl)).trans ((funext (hA_43 2 rfl)).trans ((funext (hA23 2 rfl)).trans ((funext (hA_c30 2 rfl)).trans ((funext (hA_4 2 rfl)).trans (ew2))))))) (w43_16) ((funext (hA_c253 16 rfl)).trans ((funext (hA_c152 16 rfl)).trans (ew43_16))) (show inr (x4_2) from j4_0) (show 0 ≤ (u1_1) ∧ (u1_1) ≤ (n2) ∧ (n2) ≤ 65536 from h0) (show 0 ≤ (u1_4) ∧ (u1_4) ≤ 7 from h1) (show 0 ≤ (x4_2) ∧ (x4_2) ≤ 128 from q_3806 b35 hl2) (show (n16) = 256 from q_3805 h5) (show (u1_1) = 0 ∧ (u1_4) = 0 ∧ (u1_3) = 0 ∧ (u1_2) = 0 from h8) (hwg) (fun σ36 D36ₚ N36ₚ F36ₚ A36ₚ c36 s36 Hₚ Oₚ hD36 hN36 hS36 hA36 pm36_2 m36_2 em36_2 y36_1_1 ey36_1_1 y36_1_2 ey36_1_2 y36_1_3 ey36_1_3 y36_1_4 ey36_1_4 w36_2 ew36_2 pz36_0 pz36_1 pz36_2 pz36_3 pz36_4 => ⟨rfl, ?_⟩))
                  refine v_backMc (c := c) (s := s) H oz_F5cls_38 oz_F5cls_50 Hₚ Oₚ hD36 oz_F5cls_39 (fun D36 N36 F36 A36 H Oₚ eD36 eN36 eF36 eA36 => ?_)
                  have O := OUT_trans O Oₚ
                  -- Codes.describeDirectly
                  have cF36 : SF oz_F5clsl_9 F F36 := SF_trans (cF_c253) (SF_gluc (ι := oz_F5clsl_13) oz_F5cls_50 hS36 eF36 (by decide +kernel)) (any_sub (lₚ := [(1, 0), (1, 1), (1, 2), (1, 3), (1, 4)]) (by decide +kernel))
                  have mF36 := SFm_of cF36 oz_F5cls_46
                  have cA36 : SA oz_F5clsl_10 A A36 := SA_trans (cA_c253) (SA_gluc (ι := oz_F5clsl_13) oz_F5cls_50 hA36 eA36 (by decide +kernel)) (any_subA (lₚ := [2]) (by decide +kernel))
                  have mA36 := SAm_of cA36 oz_F5cls_47
                  have cD36 : SD oz_F5clsl_11 D D36 := SD_trans (SD_refl) (SD_gluc (ι := oz_F5clsl_13) oz_F5cls_50 hD36 eD36 (by decide +kernel)) (any_subA (lₚ := [2]) (by decide +kernel))
                  have mD36 := SDm_of cD36 oz_F5cls_48
                  have cN36 : SD oz_F5clsl_11 N N36 := SD_trans (SD_refl) (SD_gluc (ι := oz_F5clsl_13) oz_F5cls_50 hN36 eN36 (by decide +kernel)) (any_subA (lₚ := [2]) (by decide +kernel))
                  have mN36 := SDm_of cN36 oz_F5cls_48
                  have pf36_1_0 : F36 1 0 = (D36 2 : Int) := (eF36 1 0).trans (pm36_2.trans (congrArg (fun q : Nat => (q : Int)) (eD36 2).symm))
                  have pf36_3_0 : F36 3 0 = (D36 4 : Int) := ((show F36 3 0 = F_c253 3 0 from (eF36 3 0))).trans ((((((((hS_c253 3 0 rfl).trans (hS_c152 3 0 rfl)).trans (hS_43 3 0 rfl)).trans (hS_c30 3 0 rfl)).trans (hS_4 3 0 rfl))).trans (pf4)).trans (congrArg (fun q : Nat => (q : Int)) ((show D36 4 = D 4 from (eD36 4))).symm))
                  have pf36_5_0 : F36 5 0 = (D36 6 : Int) := ((show F36 5 0 = F_c253 5 0 from (eF36 5 0))).trans ((((((((hS_c253 5 0 rfl).trans (hS_c152 5 0 rfl)).trans (hS_43 5 0 rfl)).trans (hS_c30 5 0 rfl)).trans (hS_4 5 0 rfl))).trans (pf6)).trans (congrArg (fun q : Nat => (q : Int)) ((show D36 6 = D 6 from (eD36 6))).symm))
                  have r37 : (0 : Int) ≤ m36_2 ∧ m36_2 ≤ 1000000 := nleE (H.nle 2 (ltn len_V104_Row_oz_F5cls rfl)) (show (N36 2 : Int) = m36_2 from (congrArg (fun q : Nat => (q : Int)) (eN36 2)).trans em36_2)
                  have r38 : (-2147483648 : Int) ≤ y36_1_1 ∧ y36_1_1 ≤ 2147483647 := rngE (show (-2147483648 : Int) ≤ F36 1 1 ∧ F36 1 1 ≤ 2147483647 from H.krg 1 1 (ltn len_V104_Row_oz_F5cls rfl)) (show F36 1 1 = y36_1_1 from ((eF36 1 1).trans ey36_1_1))
                  have r39 : (0 : Int) ≤ y36_1_2 ∧ y36_1_2 ≤ 1 := rngE (show (0 : Int) ≤ F36 1 2 ∧ F36 1 2 ≤ 1 from H.krg 1 2 (ltn len_V104_Row_oz_F5cls rfl)) (show F36 1 2 = y36_1_2 from ((eF36 1 2).trans ey36_1_2))
                  have r40 : (-2147483648 : Int) ≤ y36_1_3 ∧ y36_1_3 ≤ 2147483647 := rngE (show (-2147483648 : Int) ≤ F36 1 3 ∧ F36 1 3 ≤ 2147483647 from H.krg 1 3 (ltn len_V104_Row_oz_F5cls rfl)) (show F36 1 3 = y36_1_3 from ((eF36 1 3).trans ey36_1_3))
                  have r41 : (-2147483648 : Int) ≤ y36_1_4 ∧ y36_1_4 ≤ 2147483647 := rngE (show (-2147483648 : Int) ≤ F36 1 4 ∧ F36 1 4 ≤ 2147483647 from H.krg 1 4 (ltn len_V104_Row_oz_F5cls rfl)) (show F36 1 4 = y36_1_4 from ((eF36 1 4).trans ey36_1_4))
                  refine Ew_of (pcₚ := 260) (fun _ => x_iconst rfl) ?_
                  have : DSR ((1)) (DSC (wtF ((w18)) (((u0_3)))) (lzN ((w18)) 256)) (sc ((w36_2)) 0 ((y36_1_1))) := .inl ⟨rfl, by rw [pz36_4, ← hqk, ← hDS]; exact DSC_d (by omega) (by first | exact .inl (BYO_0 hBY (by omega)) | exact .inr (by omega))⟩
                  exact w_ireturn rfl (k (1) _ _ _ _ _ _ _ H O (cD36) (cN36) (cF36) (cA36) (pf36_1_0) (pf36_3_0) (pf36_5_0) (m36_2) ((congrArg (fun q : Nat => (q : Int)) (eN36 2)).trans em36_2) (n4) ((congrArg (fun q : Nat => (q : Int)) (show N36 4 = N 4 from (eN36 4))).trans (en4)) (n6) ((congrArg (fun q : Nat => (q : Int)) (show N36 6 = N 6 from (eN36 6))).trans (en6)) (y36_1_1) (((eF36 1 1).trans ey36_1_1)) (y36_1_2) (((eF36 1 2).trans ey36_1_2)) (y36_1_3) (((eF36 1 3).trans ey36_1_3)) (y36_1_4) (((eF36 1 4).trans ey36_1_4)) (u3_1) (((((((((show F36 3 1 = F_c253 3 1 from (eF36 3 1))).trans (hS_c253 3 1 rfl)).trans (hS_c152 3 1 rfl)).trans (hS_43 3 1 rfl)).trans (hS_c30 3 1 rfl)).trans (hS_4 3 1 rfl)).trans (eu3_1))) (u5_1) (((((((((show F36 5 1 = F_c253 5 1 from (eF36 5 1))).trans (hS_c253 5 1 rfl)).trans (hS_c152 5 1 rfl)).trans (hS_43 5 1 rfl)).trans (hS_c30 5 1 rfl)).trans (hS_4 5 1 rfl)).trans (eu5_1))) (w36_2) ((eA36 2).trans ew36_2) (show (1) = 0 ∨ (1) = 1 by first | exact q_49 | omega) (show 0 ≤ (y36_1_1) ∧ (y36_1_1) ≤ (m36_2) ∧ (m36_2) ≤ 65536 from pz36_0) (show 0 ≤ (y36_1_4) ∧ (y36_1_4) ≤ 7 from pz36_1) (show 0 ≤ (u3_1) ∧ (u3_1) ≤ (n4) ∧ (n4) ≤ 65536 from h2) (show 0 ≤ (u5_1) ∧ (u5_1) ≤ (n6) ∧ (n6) ≤ 65536 from h3) (show (u1_1) ≤ (y36_1_1) from pz36_2) (show (y36_1_4) = 0 ∧ (y36_1_3) = 0 ∧ (y36_1_2) = 0 from pz36_3) (show DSR ((1)) (DSC (wtF ((w18)) (((u0_3)))) (lzN ((w18)) 256)) (sc ((w36_2)) 0 ((y36_1_1))) by assumption))
                refine w_ifeq (t := 253) rfl rfl (show inr (tc152_0) from jc152_0) (fun b42 => ?_) (fun b42 => ?_)
                · exact hc253  _ _ _ _  (rk_o (lc152_0) rfl rfl) (rk_o (lc152_1) rfl rfl) (rk_o (lc152_2) rfl rfl) H O (SF_refl) (SA_refl)     (show ((tc152_0) = (0)) ∨ ((tc152_0) ≠ (0) ∧ (((x4_2 + 1) / 2)) ≤ (u3_1)) from q_3807 b42)
                · refine Ew_of (pcₚ := 241) (fun _ => x_iload_n rfl (rk_o (lc152_2) rfl rfl)) ?_
                  refine Ew_of (pcₚ := 242) (fun _ => x_iconst rfl) ?_
                  refine w_iadd rfl ?_
                  refine Ew_of (pcₚ := 244) (fun _ => x_iconst rfl) ?_
                  refine w_idiv rfl (show inr ((x4_2 + 1)) ∧ 0 ≤ (x4_2 + 1) from q_3808 b35 hl2) (show inr (2) ∧ 0 < 2 from q_1234) ?_
                  refine Ew_of (pcₚ := 247) (fun _ => x_aload rfl (rk_o (lc152_4) rfl rfl)) ?_
                  refine v_g H (o := 3) (v := I (u3_1)) rfl rfl rfl rfl rfl (congrArg (fun z : Int => I z) ((((((hS_c152 3 1 rfl).trans (hS_43 3 1 rfl)).trans (hS_c30 3 1 rfl)).trans (hS_4 3 1 rfl)).trans (eu3_1)) : F_c152 3 1 = u3_1)) ?_
                  refine w_icmpgt (t := 261) rfl rfl (show inr (((x4_2 + 1) / 2)) from q_3809 b35 hl2) (show inr (u3_1) from q_38 h2) (fun b43 => ?_) (fun b43 => ?_)
                  · have : NDO ((w43_16)) qk := by first | exact .inl (by omega) | exact .inr ⟨BYO_1 hBY (by omega), by omega⟩
                    exact hc261  _ _ _ _  (rk_o (lc152_1) rfl rfl) (rk_o (lc152_4) rfl rfl) (rk_s) H O (SF_refl) (SA_refl)     (show NDO ((w43_16)) qk by assumption) (hBY)
                  · exact hc253  _ _ _ _  (rk_o (lc152_0) rfl rfl) (rk_o (lc152_1) rfl rfl) (rk_o (lc152_2) rfl rfl) H O (SF_refl) (SA_refl)     (show ((tc152_0) = (0)) ∨ ((tc152_0) ≠ (0) ∧ (((x4_2 + 1) / 2)) ≤ (u3_1)) from q_3807 b25)
            · have hnA : ¬ ALW ((w43_16)) qk := ALA_n hAl (by omega)
              refine Ew_of (pcₚ := 160) (fun _ => x_aload_n rfl (rk_o (lc152_0) rfl rfl)) ?_
              refine Ew_of (pcₚ := 161) (fun _ => x_aload_n rfl (rk_o (lc152_0) rfl rfl)) ?_
              refine v_g H (o := 0) (v := .ref (D 3)) rfl rfl rfl rfl rfl (vrf ((mF_c152 0 7 rfl).trans (pf3))) ?_
              refine Ew_of (pcₚ := 165) (fun _ => x_iload_n rfl (rk_o (lc152_2) rfl rfl)) ?_
              refine Ew_of (pcₚ := 166) (fun _ => x_iconst rfl) ?_
              have r44 : (0 : Int) ≤ F 3 2 ∧ F 3 2 ≤ 1 := rngE (show (0 : Int) ≤ F_c152 3 2 ∧ F_c152 3 2 ≤ 1 from H.krg 3 2 (ltn len_V104_Row_oz_F5cls rfl)) (show F_c152 3 2 = F 3 2 from ((((hS_c152 3 2 rfl).trans (hS_43 3 2 rfl)).trans (hS_c30 3 2 rfl)).trans (hS_4 3 2 rfl)))
              have r45 : (-2147483648 : Int) ≤ F 3 3 ∧ F 3 3 ≤ 2147483647 := rngE (show (-2147483648 : Int) ≤ F_c152 3 3 ∧ F_c152 3 3 ≤ 2147483647 from H.krg 3 3 (ltn len_V104_Row_oz_F5cls rfl)) (show F_c152 3 3 = F 3 3 from ((((hS_c152 3 3 rfl).trans (hS_43 3 3 rfl)).trans (hS_c30 3 3 rfl)).trans (hS_4 3 3 rfl)))
              have r46 : (-2147483648 : Int) ≤ F 3 4 ∧ F 3 4 ≤ 2147483647 := rngE (show (-2147483648 : Int) ≤ F_c152 3 4 ∧ F_c152 3 4 ≤ 2147483647 from H.krg 3 4 (ltn len_V104_Row_oz_F5cls rfl)) (show F_c152 3 4 = F 3 4 from ((((hS_c152 3 4 rfl).trans (hS_43 3 4 rfl)).trans (hS_c30 3 4 rfl)).trans (hS_4 3 4 rfl)))
              refine v_inv H (o := 0) rfl rfl rfl rfl rfl rfl (by rfl) (C106_thisorderFivea (D := puc 2829811312643632160610283968114198016 D) (N := puc 2829811312643632160610283968114198016 N) (HW_subc H oz_F5cls_40 oz_F5cls_51) ((mF_c152 0 7 rfl).trans (pf3)) ((((((hS_c152 3 0 rfl).trans (hS_43 3 0 rfl)).trans (hS_c30 3 0 rfl)).trans (hS_4 3 0 rfl))).trans (pf4)) ((mF_c152 0 6 rfl).trans (pf7)) ((mF_c152 7 2 rfl).trans (pf8)) ((mF_c152 7 3 rfl).trans (pf9)) ((mF_c152 7 4 rfl).trans (pf10)) ((mF_c152 7 5 rfl).trans (pf11)) ((mF_c152 7 6 rfl).trans (pf12)) ((mF_c152 7 8 rfl).trans (pf13)) ((mF_c152 7 7 rfl).trans (pf14)) ((mF_c152 7 9 rfl).trans (pf15)) ((mF_c152 0 4 rfl).trans (pf16)) ((mF_c152 0 5 rfl).trans (pf17)) (n4) (en4) (n8) (en8) (n9) (en9) (n10) (en10) (n11) (en11) (n12) (en12) (n13) (en13) (n14) (en14) (n15) (en15) (n16) (en16) (n17) (en17) (u3_1) ((((((hS_c152 3 1 rfl).trans (hS_43 3 1 rfl)).trans (hS_c30 3 1 rfl)).trans (hS_4 3 1 rfl)).trans (eu3_1))) (F 3 2) (((((hS_c152 3 2 rfl).trans (hS_43 3 2 rfl)).trans (hS_c30 3 2 rfl)).trans (hS_4 3 2 rfl))) (F 3 3) (((((hS_c152 3 3 rfl).trans (hS_43 3 3 rfl)).trans (hS_c30 3 3 rfl)).trans (hS_4 3 3 rfl))) (F 3 4) (((((hS_c152 3 4 rfl).trans (hS_43 3 4 rfl)).trans (hS_c30 3 4 rfl)).trans (hS_4 3 4 rfl))) (u7_1) (((mF_c152 7 1 rfl).trans (eu7_1))) (A 4) ((funext (hA_c152 4 rfl)).trans ((funext (hA_43 4 rfl)).trans ((funext (hA23 4 rfl)).trans ((funext (hA_c30 4 rfl)).trans (funext (hA_4 4 rfl)))))) (w43_16) ((funext (hA_c152 16 rfl)).trans (ew43_16)) (w43_17) ((funext (hA_c152 17 rfl)).trans (ew43_17)) (show inr (x4_2) from j4_0) (show inr (5) from q_727) (show 0 ≤ (u3_1) ∧ (u3_1) ≤ (n4) ∧ (n4) ≤ 65536 from h2) (show (n8) = (u7_1) ∧ (n9) = (u7_1) ∧ (n10) = (u7_1) ∧ (n11) = (u7_1) ∧ (n12) = (u7_1) ∧ (n13) = (n14) ∧ (n15) = (n14) ∧ 1 ≤ (u7_1) ∧ (u7_1) ≤ 64 ∧ (u7_1) = 12 ∧ (n14) = 64 from h4) (show 2 ≤ (x4_2) ∧ (x4_2) ≤ 255 by omega) (show 5 ≤ (5) ∧ (5) ≤ 6 from q_2106) (show (n16) = 256 ∧ (n17) = 12 from q_3810 h5) (hwg) (hwc) (fun σ47 D47ₚ N47ₚ F47ₚ A47ₚ c47 s47 Hₚ Oₚ hD47 hN47 hS47 hA47 pm47_2 m47_2 em47_2 y47_1_1 ey47_1_1 y47_1_2 ey47_1_2 y47_1_3 ey47_1_3 y47_1_4 ey47_1_4 w47_2 ew47_2 pz47_0 pz47_1 pz47_2 pz47_3 pz47_4 => ⟨rfl, ?_⟩))
              refine v_backMc (c := c) (s := s) H oz_F5cls_40 oz_F5cls_51 Hₚ Oₚ hD47 oz_F5cls_41 (fun D47 N47 F47 A47 H Oₚ eD47 eN47 eF47 eA47 => ?_)
              have O := OUT_trans O Oₚ
              -- Codes.describeByStates
              have cF47 : SF oz_F5clsl_9 F F47 := SF_trans (cF_c152) (SF_gluc (ι := oz_F5clsl_14) oz_F5cls_51 hS47 eF47 (by decide +kernel)) (any_sub (lₚ := [(3, 0), (3, 1), (3, 2), (3, 3), (3, 4), (7, 0)]) (by decide +kernel))
              have mF47 := SFm_of cF47 oz_F5cls_46
              have cA47 : SA oz_F5clsl_10 A A47 := SA_trans (cA_c152) (SA_gluc (ι := oz_F5clsl_14) oz_F5cls_51 hA47 eA47 (by decide +kernel)) (any_subA (lₚ := [4, 8, 9, 10, 11, 12, 13, 14, 15]) (by decide +kernel))
              have mA47 := SAm_of cA47 oz_F5cls_47
              have cD47 : SD oz_F5clsl_11 D D47 := SD_trans (SD_refl) (SD_gluc (ι := oz_F5clsl_14) oz_F5cls_51 hD47 eD47 (by decide +kernel)) (any_subA (lₚ := [4]) (by decide +kernel))
              have mD47 := SDm_of cD47 oz_F5cls_48
              have cN47 : SD oz_F5clsl_11 N N47 := SD_trans (SD_refl) (SD_gluc (ι := oz_F5clsl_14) oz_F5cls_51 hN47 eN47 (by decide +kernel)) (any_subA (lₚ := [4]) (by decide +kernel))
              have mN47 := SDm_of cN47 oz_F5cls_48
              have pf47_1_0 : F47 1 0 = (D47 2 : Int) := ((show F47 1 0 = F_c152 1 0 from (eF47 1 0))).trans (((((((hS_c152 1 0 rfl).trans (hS_43 1 0 rfl)).trans (hS_c30 1 0 rfl)).trans (hS_4 1 0 rfl))).trans (pf2)).trans (congrArg (fun q : Nat => (q : Int)) ((show D47 2 = D 2 from (eD47 2))).symm))
              have pf47_3_0 : F47 3 0 = (D47 4 : Int) := (eF47 3 0).trans (pm47_2.trans (congrArg (fun q : Nat => (q : Int)) (eD47 4).symm))
              have pf47_5_0 : F47 5 0 = (D47 6 : Int) := ((show F47 5 0 = F_c152 5 0 from (eF47 5 0))).trans (((((((hS_c152 5 0 rfl).trans (hS_43 5 0 rfl)).trans (hS_c30 5 0 rfl)).trans (hS_4 5 0 rfl))).trans (pf6)).trans (congrArg (fun q : Nat => (q : Int)) ((show D47 6 = D 6 from (eD47 6))).symm))
              have r48 : (0 : Int) ≤ m47_2 ∧ m47_2 ≤ 1000000 := nleE (H.nle 4 (ltn len_V104_Row_oz_F5cls rfl)) (show (N47 4 : Int) = m47_2 from (congrArg (fun q : Nat => (q : Int)) (eN47 4)).trans em47_2)
              have r49 : (-2147483648 : Int) ≤ y47_1_1 ∧ y47_1_1 ≤ 2147483647 := rngE (show (-2147483648 : Int) ≤ F47 3 1 ∧ F47 3 1 ≤ 2147483647 from H.krg 3 1 (ltn len_V104_Row_oz_F5cls rfl)) (show F47 3 1 = y47_1_1 from ((eF47 3 1).trans ey47_1_1))
              have r50 : (0 : Int) ≤ y47_1_2 ∧ y47_1_2 ≤ 1 := rngE (show (0 : Int) ≤ F47 3 2 ∧ F47 3 2 ≤ 1 from H.krg 3 2 (ltn len_V104_Row_oz_F5cls rfl)) (show F47 3 2 = y47_1_2 from ((eF47 3 2).trans ey47_1_2))
              have r51 : (-2147483648 : Int) ≤ y47_1_3 ∧ y47_1_3 ≤ 2147483647 := rngE (show (-2147483648 : Int) ≤ F47 3 3 ∧ F47 3 3 ≤ 2147483647 from H.krg 3 3 (ltn len_V104_Row_oz_F5cls rfl)) (show F47 3 3 = y47_1_3 from ((eF47 3 3).trans ey47_1_3))
              have r52 : (-2147483648 : Int) ≤ y47_1_4 ∧ y47_1_4 ≤ 2147483647 := rngE (show (-2147483648 : Int) ≤ F47 3 4 ∧ F47 3 4 ≤ 2147483647 from H.krg 3 4 (ltn len_V104_Row_oz_F5cls rfl)) (show F47 3 4 = y47_1_4 from ((eF47 3 4).trans ey47_1_4))
              have hd5 : sc ((w47_2)) 0 ((y47_1_1)) = dsB ((w43_16)) qk 5 := DSB_of hag (by rw [hqk]; exact pz47_2)
              have hl5 := len_of hd5 (by omega)
              refine Ew_of (pcₚ := 170) (fun _ => x_aload_n rfl (rk_o (lc152_0) rfl rfl)) ?_
              refine Ew_of (pcₚ := 171) (fun _ => x_aload_n rfl (rk_o (lc152_0) rfl rfl)) ?_
              refine Ew_stk (show ([.ref (D 0), .ref (D 0)] : List Value) = [.ref (D47 0), .ref (D47 0)] by rw [show D47 0 = D 0 from mD47 0 rfl]) ?_
              refine v_g H (o := 0) (v := .ref (D47 5)) rfl rfl rfl rfl rfl (vrf ((mF47 0 8 rfl).trans ((pf5).trans (congrArg (fun q : Nat => (q : Int)) (mD47 5 rfl).symm)))) ?_
              refine Ew_of (pcₚ := 175) (fun _ => x_iload_n rfl (rk_o (lc152_2) rfl rfl)) ?_
              refine Ew_of (pcₚ := 177) (fun _ => x_bipush (z := 6) rfl (by decide)) ?_
              have r53 : (0 : Int) ≤ F 5 2 ∧ F 5 2 ≤ 1 := rngE (show (0 : Int) ≤ F47 5 2 ∧ F47 5 2 ≤ 1 from H.krg 5 2 (ltn len_V104_Row_oz_F5cls rfl)) (show F47 5 2 = F 5 2 from ((((((show F47 5 2 = F_c152 5 2 from (eF47 5 2))).trans (hS_c152 5 2 rfl)).trans (hS_43 5 2 rfl)).trans (hS_c30 5 2 rfl)).trans (hS_4 5 2 rfl)))
              have r54 : (-2147483648 : Int) ≤ F 5 3 ∧ F 5 3 ≤ 2147483647 := rngE (show (-2147483648 : Int) ≤ F47 5 3 ∧ F47 5 3 ≤ 2147483647 from H.krg 5 3 (ltn len_V104_Row_oz_F5cls rfl)) (show F47 5 3 = F 5 3 from ((((((show F47 5 3 = F_c152 5 3 from (eF47 5 3))).trans (hS_c152 5 3 rfl)).trans (hS_43 5 3 rfl)).trans (hS_c30 5 3 rfl)).trans (hS_4 5 3 rfl)))
              have r55 : (-2147483648 : Int) ≤ F 5 4 ∧ F 5 4 ≤ 2147483647 := rngE (show (-2147483648 : Int) ≤ F47 5 4 ∧ F47 5 4 ≤ 2147483647 from H.krg 5 4 (ltn len_V104_Row_oz_F5cls rfl)) (show F47 5 4 = F 5 4 from ((((((show F47 5 4 = F_c152 5 4 from (eF47 5 4))).trans (hS_c152 5 4 rfl)).trans (hS_43 5 4 rfl)).trans (hS_c30 5 4 rfl)).trans (hS_4 5 4 rfl)))
              refine v_inv H (o := 0) rfl rfl rfl rfl rfl rfl (by rfl) (C106_thisorderSixa (D := puc 2829811312643632160610283968114723328 D47) (N := puc 2829811312643632160610283968114723328 N47) (HW_subc H oz_F5cls_42 oz_F5cls_52) ((mF47 0 8 rfl).trans ((pf5).trans (congrArg (fun q : Nat => (q : Int)) (mD47 5 rfl).symm))) (pf47_5_0) ((mF47 0 6 rfl).trans ((pf7).trans (congrArg (fun q : Nat => (q : Int)) (mD47 7 rfl).symm))) ((mF47 7 2 rfl).trans ((pf8).trans (congrArg (fun q : Nat => (q : Int)) (mD47 8 rfl).symm))) ((mF47 7 3 rfl).trans ((pf9).trans (congrArg (fun q : Nat => (q : Int)) (mD47 9 rfl).symm))) ((mF47 7 4 rfl).trans ((pf10).trans (congrArg (fun q : Nat => (q : Int)) (mD47 10 rfl).symm))) ((mF47 7 5 rfl).trans ((pf11).trans (congrArg (fun q : Nat => (q : Int)) (mD47 11 rfl).symm))) ((mF47 7 6 rfl).trans ((pf12).trans (congrArg (fun q : Nat => (q : Int)) (mD47 12 rfl).symm))) ((mF47 7 8 rfl).trans ((pf13).trans (congrArg (fun q : Nat => (q : Int)) (mD47 13 rfl).symm))) ((mF47 7 7 rfl).trans ((pf14).trans (congrArg (fun q : Nat => (q : Int)) (mD47 14 rfl).symm))) ((mF47 7 9 rfl).trans ((pf15).trans (congrArg (fun q : Nat => (q : Int)) (mD47 15 rfl).symm))) ((mF47 0 4 rfl).trans ((pf16).trans (congrArg (fun q : Nat => (q : Int)) (mD47 16 rfl).symm))) ((mF47 0 5 rfl).trans ((pf17).trans (congrArg (fun q : Nat => (q : Int)) (mD47 17 rfl).symm))) (n6) ((congrArg (fun q : Nat => (q : Int)) (show N47 6 = N 6 from (eN47 6))).trans (en6)) (n8) ((congrArg (fun q : Nat => (q : Int)) (mN47 8 rfl)).trans (en8)) (n9) ((congrArg (fun q : Nat => (q : Int)) (mN47 9 rfl)).trans (en9)) (n10) ((congrArg (fun q : Nat => (q : Int)) (mN47 10 rfl)).trans (en10)) (n11) ((congrArg (fun q : Nat => (q : Int)) (mN47 11 rfl)).trans (en11)) (n12) ((congrArg (fun q : Nat => (q : Int)) (mN47 12 rfl)).trans (en12)) (n13) ((congrArg (fun q : Nat => (q : Int)) (mN47 13 rfl)).trans (en13)) (n14) ((congrArg (fun q : Nat => (q : Int)) (mN47 14 rfl)).trans (en14)) (n15) ((congrArg (fun q : Nat => (q : Int)) (mN47 15 rfl)).trans (en15)) (n16) ((congrArg (fun q : Nat => (q : Int)) (mN47 16 rfl)).trans (en16)) (n17) ((congrArg (fun q : Nat => (q : Int)) (mN47 17 rfl)).trans (en17)) (u5_1) ((((((((show F47 5 1 = F_c152 5 1 from (eF47 5 1))).trans (hS_c152 5 1 rfl)).trans (hS_43 5 1 rfl)).trans (hS_c30 5 1 rfl)).trans (hS_4 5 1 rfl)).trans (eu5_1))) (F 5 2) (((((((show F47 5 2 = F_c152 5 2 from (eF47 5 2))).trans (hS_c152 5 2 rfl)).trans (hS_43 5 2 rfl)).trans (hS_c30 5 2 rfl)).trans (hS_4 5 2 rfl))) (F 5 3) (((((((show F47 5 3 = F_c152 5 3 from (eF47 5 3))).trans (hS_c152 5 3 rfl)).trans (hS_43 5 3 rfl)).trans (hS_c30 5 3 rfl)).trans (hS_4 5 3 rfl))) (F 5 4) (((((((show F47 5 4 = F_c152 5 4 from (eF47 5 4))).trans (hS_c152 5 4 rfl)).trans (hS_43 5 4 rfl)).trans (hS_c30 5 4 rfl)).trans (hS_4 5 4 rfl))) (u7_1) (((mF47 7 1 rfl).trans (eu7_1))) (A 6) (((show A47 6 = A_c152 6 from (eA47 6))).trans ((funext (hA_c152 6 rfl)).trans ((funext (hA_43 6 rfl)).trans ((funext (hA23 6 rfl)).trans ((funext (hA_c30 6 rfl)).trans (funext (hA_4 6 rfl))))))) (w43_16) (((show A47 16 = A_c152 16 from (eA47 16).trans (funext (hA47 12 rfl)))).trans ((funext (hA_c152 16 rfl)).trans (ew43_16))) (w43_17) (((show A47 17 = A_c152 17 from (eA47 17).trans (funext (hA47 13 rfl)))).trans ((funext (hA_c152 17 rfl)).trans (ew43_17))) (show inr (x4_2) from j4_0) (show inr (6) from q_756) (show 0 ≤ (u5_1) ∧ (u5_1) ≤ (n6) ∧ (n6) ≤ 65536 from h3) (show (n8) = (u7_1) ∧ (n9) = (u7_1) ∧ (n10) = (u7_1) ∧ (n11) = (u7_1) ∧ (n12) = (u7_1) ∧ (n13) = (n14) ∧ (n15) = (n14) ∧ 1 ≤ (u7_1) ∧ (u7_1) ≤ 64 ∧ (u7_1) = 12 ∧ (n14) = 64 from h4) (show 2 ≤ (x4_2) ∧ (x4_2) ≤ 255 by omega) (show 5 ≤ (6) ∧ (6) ≤ 6 from q_2104) (show (n16) = 256 ∧ (n17) = 12 from q_3810 h5) (hwg) (hwc) (fun σ56 D56ₚ N56ₚ F56ₚ A56ₚ c56 s56 Hₚ Oₚ hD56 hN56 hS56 hA56 pm56_2 m56_2 em56_2 y56_1_1 ey56_1_1 y56_1_2 ey56_1_2 y56_1_3 ey56_1_3 y56_1_4 ey56_1_4 w56_2 ew56_2 pz56_0 pz56_1 pz56_2 pz56_3 pz56_4 => ⟨rfl, ?_⟩))
              refine v_backMc (c := (c + c47)) (s := (s + s47)) H oz_F5cls_42 oz_F5cls_52 Hₚ Oₚ hD56 oz_F5cls_43 (fun D56 N56 F56 A56 H Oₚ eD56 eN56 eF56 eA56 => ?_)
              have O := OUT_trans O Oₚ
              -- Codes.describeByStates
              have cF56 : SF oz_F5clsl_9 F F56 := SF_trans (cF47) (SF_gluc (ι := oz_F5clsl_15) oz_F5cls_52 hS56 eF56 (by decide +kernel)) (any_sub (lₚ := [(5, 0), (5, 1), (5, 2), (5, 3), (5, 4), (7, 0)]) (by decide +kernel))
              have mF56 := SFm_of cF56 oz_F5cls_46
              have cA56 : SA oz_F5clsl_10 A A56 := SA_trans (cA47) (SA_gluc (ι := oz_F5clsl_15) oz_F5cls_52 hA56 eA56 (by decide +kernel)) (any_subA (lₚ := [6, 8, 9, 10, 11, 12, 13, 14, 15]) (by decide +kernel))
              have mA56 := SAm_of cA56 oz_F5cls_47
              have cD56 : SD oz_F5clsl_11 D D56 := SD_trans (cD47) (SD_gluc (ι := oz_F5clsl_15) oz_F5cls_52 hD56 eD56 (by decide +kernel)) (any_subA (lₚ := [6]) (by decide +kernel))
              have mD56 := SDm_of cD56 oz_F5cls_48
              have cN56 : SD oz_F5clsl_11 N N56 := SD_trans (cN47) (SD_gluc (ι := oz_F5clsl_15) oz_F5cls_52 hN56 eN56 (by decide +kernel)) (any_subA (lₚ := [6]) (by decide +kernel))
              have mN56 := SDm_of cN56 oz_F5cls_48
              have pf56_1_0 : F56 1 0 = (D56 2 : Int) := ((show F56 1 0 = F47 1 0 from (eF56 1 0))).trans ((pf47_1_0).trans (congrArg (fun q : Nat => (q : Int)) ((show D56 2 = D47 2 from (eD56 2))).symm))
              have pf56_3_0 : F56 3 0 = (D56 4 : Int) := ((show F56 3 0 = F47 3 0 from (eF56 3 0))).trans ((pf47_3_0).trans (congrArg (fun q : Nat => (q : Int)) ((show D56 4 = D47 4 from (eD56 4))).symm))
              have pf56_5_0 : F56 5 0 = (D56 6 : Int) := (eF56 5 0).trans (pm56_2.trans (congrArg (fun q : Nat => (q : Int)) (eD56 6).symm))
              have r57 : (0 : Int) ≤ m56_2 ∧ m56_2 ≤ 1000000 := nleE (H.nle 6 (ltn len_V104_Row_oz_F5cls rfl)) (show (N56 6 : Int) = m56_2 from (congrArg (fun q : Nat => (q : Int)) (eN56 6)).trans em56_2)
              have r58 : (-2147483648 : Int) ≤ y56_1_1 ∧ y56_1_1 ≤ 2147483647 := rngE (show (-2147483648 : Int) ≤ F56 5 1 ∧ F56 5 1 ≤ 2147483647 from H.krg 5 1 (ltn len_V104_Row_oz_F5cls rfl)) (show F56 5 1 = y56_1_1 from ((eF56 5 1).trans ey56_1_1))
              have r59 : (0 : Int) ≤ y56_1_2 ∧ y56_1_2 ≤ 1 := rngE (show (0 : Int) ≤ F56 5 2 ∧ F56 5 2 ≤ 1 from H.krg 5 2 (ltn len_V104_Row_oz_F5cls rfl)) (show F56 5 2 = y56_1_2 from ((eF56 5 2).trans ey56_1_2))
              have r60 : (-2147483648 : Int) ≤ y56_1_3 ∧ y56_1_3 ≤ 2147483647 := rngE (show (-2147483648 : Int) ≤ F56 5 3 ∧ F56 5 3 ≤ 2147483647 from H.krg 5 3 (ltn len_V104_Row_oz_F5cls rfl)) (show F56 5 3 = y56_1_3 from ((eF56 5 3).trans ey56_1_3))
              have r61 : (-2147483648 : Int) ≤ y56_1_4 ∧ y56_1_4 ≤ 2147483647 := rngE (show (-2147483648 : Int) ≤ F56 5 4 ∧ F56 5 4 ≤ 2147483647 from H.krg 5 4 (ltn len_V104_Row_oz_F5cls rfl)) (show F56 5 4 = y56_1_4 from ((eF56 5 4).trans ey56_1_4))
              have hd6 : sc ((w56_2)) 0 ((y56_1_1)) = dsB ((w43_16)) qk 6 := DSB_of hag (by rw [hqk]; exact pz56_2)
              have hl6 := len_of hd6 (by omega)
              refine Ew_of (pcₚ := 181) (fun _ => x_aload_n rfl (rk_o (lc152_0) rfl rfl)) ?_
              refine Ew_stk (congrArg (fun qz : Nat => ([.ref qz] : List Value)) (show D56 0 = D 0 from mD56 0 rfl).symm) ?_
              refine v_g H (o := 0) (v := .ref (D56 5)) rfl rfl rfl rfl rfl (vrf ((mF56 0 8 rfl).trans ((pf5).trans (congrArg (fun q : Nat => (q : Int)) (mD56 5 rfl).symm)))) ?_
              refine v_g H (o := 5) (v := I (y56_1_1)) rfl rfl rfl rfl rfl (congrArg (fun z : Int => I z) (((eF56 5 1).trans ey56_1_1) : F56 5 1 = y56_1_1)) ?_
              refine Ew_of (pcₚ := 188) (fun _ => x_aload_n rfl (rk_o (lc152_0) rfl rfl)) ?_
              refine Ew_stk (congrArg (fun qz : Nat => ([.ref qz, I (y56_1_1)] : List Value)) (show D56 0 = D 0 from mD56 0 rfl).symm) ?_
              refine v_g H (o := 0) (v := .ref (D56 3)) rfl rfl rfl rfl rfl (vrf ((mF56 0 7 rfl).trans ((pf3).trans (congrArg (fun q : Nat => (q : Int)) (mD56 3 rfl).symm)))) ?_
              refine v_g H (o := 3) (v := I (y47_1_1)) rfl rfl rfl rfl rfl (congrArg (fun z : Int => I z) ((((show F56 3 1 = F47 3 1 from (eF56 3 1))).trans ((eF47 3 1).trans ey47_1_1)) : F56 3 1 = y47_1_1)) ?_
              refine w_icmpge (t := 204) rfl rfl (show inr (y56_1_1) from q_38 pz56_0) (show inr (y47_1_1) from q_38 pz47_0) (fun b62 => ?_) (fun b62 => ?_)
              · have hS_ : stB ((w43_16)) qk = dsB ((w43_16)) qk 5 := stB_5 (by omega)
                have hT_ : sc ((w47_2)) 0 ((y47_1_1)) = stB ((w43_16)) qk := by rw [hS_]; exact hd5
                have hTl_ : (y47_1_1) = ((stB ((w43_16)) qk).length : Int) := by rw [hS_]; exact hl5
                refine Ew_of (pcₚ := 205) (fun _ => x_aload_n rfl (rk_o (lc152_0) rfl rfl)) ?_
                refine Ew_stk (congrArg (fun qz : Nat => ([.ref qz] : List Value)) (show D56 0 = D 0 from mD56 0 rfl).symm) ?_
                refine v_g H (o := 0) (v := .ref (D56 3)) rfl rfl rfl rfl rfl (vrf ((mF56 0 7 rfl).trans ((pf3).trans (congrArg (fun q : Nat => (q : Int)) (mD56 3 rfl).symm)))) ?_
                refine Ew_of (pcₚ := 210) (fun _ => x_astore rfl) ?_
                refine Ew_of (pcₚ := 212) (fun _ => x_aload rfl rk_s) ?_
                refine v_g H (o := 3) (v := I (y47_1_1)) rfl rfl rfl rfl rfl (congrArg (fun z : Int => I z) ((((show F56 3 1 = F47 3 1 from (eF56 3 1))).trans ((eF47 3 1).trans ey47_1_1)) : F56 3 1 = y47_1_1)) ?_
                refine Ew_of (pcₚ := 218) (fun _ => x_sipush (z := 128) rfl (by decide)) ?_
                have hc226 : ∀ (tc226_0 : Int), ∀ (ls : rO) (σ : rS) (F_c226 : hF) (A_c226 : hA) , rlook ls 0 = some (.ref (D56 0)) → rlook ls 1 = some (.ref (D56 1)) → rlook ls 2 = some (I (x4_2)) → rlook ls 4 = some (.ref (D56 3)) → HW V104_Row σ D56 N56 F_c226 A_c226 → OUT (V104_Row).length D N σE c s D56 N56 σ ((c + c47) + c56) ((s + s47) + s56) → SF [] F56 F_c226 → SA [] A56 A_c226 → (inr (tc226_0)) → (((y47_1_1) ≥ (128) ∧ (tc226_0) = (0)) ∨ ((y47_1_1) < (128) ∧ (tc226_0) = (1))) → Ew 104 (d + 3) 226 ls [I (tc226_0)] σ ((c + c47) + c56) ((s + s47) + s56) Q := by
                 as_aux_lemma =>
                  intro tc226_0 ls σ F_c226 A_c226  lc226_0 lc226_1 lc226_2 lc226_4 H O hS_c226 hA_c226     jc226_0 jc226_1
                  have cF_c226 : SF oz_F5clsl_9 F F_c226 := SF_trans (cF56) hS_c226 (any_sub (by decide +kernel))
                  have mF_c226 := SFm_of cF_c226 oz_F5cls_46
                  have cA_c226 : SA oz_F5clsl_10 A A_c226 := SA_trans (cA56) hA_c226 (any_subA (by decide +kernel))
                  have mA_c226 := SAm_of cA_c226 oz_F5cls_47
                  refine Ew_of (pcₚ := 228) (fun _ => x_istore rfl) ?_
                  have hc261 : ∀ (ls : rO) (σ : rS) (F_c261 : hF) (A_c261 : hA) , rlook ls 1 = some (.ref (D56 1)) → rlook ls 4 = some (.ref (D56 3)) → rlook ls 5 = some (I (tc226_0)) → HW V104_Row σ D56 N56 F_c261 A_c261 → OUT (V104_Row).length D N σE c s D56 N56 σ ((c + c47) + c56) ((s + s47) + s56) → SF [] F_c226 F_c261 → SA [] A_c226 A_c261 → (NDO ((w43_16)) qk) → (BYO ((tc226_0)) ((w43_16)) qk) → Ew 104 (d + 3) 261 ls [] σ ((c + c47) + c56) ((s + s47) + s56) Q := by
                   as_aux_lemma =>
                    intro  ls σ F_c261 A_c261  lc261_1 lc261_4 lc261_5 H O hS_c261 hA_c261     jc261_0 jc261_1
                    have cF_c261 : SF oz_F5clsl_9 F F_c261 := SF_trans (cF_c226) hS_c261 (any_sub (by decide +kernel))
                    have mF_c261 := SFm_of cF_c261 oz_F5cls_46
                    have cA_c261 : SA oz_F5clsl_10 A A_c261 := SA_trans (cA_c226) hA_c261 (any_subA (by decide +kernel))
                    have mA_c261 := SAm_of cA_c261 oz_F5cls_47
                    have hND : NDO ((w43_16)) qk := jc261_0
                    have hBY : BYO ((tc226_0)) ((w43_16)) qk := jc261_1
                    refine Ew_of (pcₚ := 263) (fun _ => x_iload rfl lc261_5) ?_
                    refine w_ifeq (t := 290) rfl rfl (show inr (tc226_0) from jc226_0) (fun b63 => ?_) (fun b63 => ?_)
                    · refine Ew_of (pcₚ := 292) (fun _ => x_iload rfl lc261_5) ?_
                      have : DSR ((tc226_0)) (DSC (wtF ((w18)) (((u0_3)))) (lzN ((w18)) 256)) (sc ((w2)) 0 ((u1_1))) := by first | exact .inr ⟨by omega, by rw [← hDS]; exact DSC_n (BYO_0 hBY (by omega)) (NDO_n hND (BYO_0 hBY (by omega)))⟩ | exact .inl ⟨by omega, by rw [← hDS, DSC_s (BYO_1 hBY (by omega)) (NDO_s hND), (DSS_of hr1 (pz31_3 (by omega)) (by omega) (by omega) hT_ hTl_ (by omega)).1]⟩
                      have hbu0 : (u1_2) = 0 := by first | omega | exact (DSS_of hr1 (pz31_3 (by omega)) (by omega) (by omega) hT_ hTl_ (by omega)).2
                      exact w_ireturn rfl (k (tc226_0) _ _ _ _ _ _ _ H O (cD56) (cN56) (cF_c261) (cA_c261) ((((hS_c261 1 0 rfl).trans (hS_c226 1 0 rfl))).trans (pf56_1_0)) ((((hS_c261 3 0 rfl).trans (hS_c226 3 0 rfl))).trans (pf56_3_0)) ((((hS_c261 5 0 rfl).trans (hS_c226 5 0 rfl))).trans (pf56_5_0)) (n2) ((congrArg (fun q : Nat => (q : Int)) (show N56 2 = N47 2 from (eN56 2))).trans ((congrArg (fun q : Nat => (q : Int)) (show N47 2 = N 2 from (eN47 2))).trans (en2))) (m47_2) ((congrArg (fun q : Nat => (q : Int)) (show N56 4 = N47 4 from (eN56 4))).trans ((congrArg (fun q : Nat => (q : Int)) (eN47 4)).trans em47_2)) (m56_2) ((congrArg (fun q : Nat => (q : Int)) (eN56 6)).trans em56_2) (u1_1) ((((((((((hS_c261 1 1 rfl).trans (hS_c226 1 1 rfl)).trans ((show F56 1 1 = F47 1 1 from (eF56 1 1)))).trans ((show F47 1 1 = F_c152 1 1 from (eF47 1 1)))).trans (hS_c152 1 1 rfl)).trans (hS_43 1 1 rfl)).trans (hS_c30 1 1 rfl)).trans (hS_4 1 1 rfl)).trans (eu1_1))) (u1_2) ((((((((((hS_c261 1 2 rfl).trans (hS_c226 1 2 rfl)).trans ((show F56 1 2 = F47 1 2 from (eF56 1 2)))).trans ((show F47 1 2 = F_c152 1 2 from (eF47 1 2)))).trans (hS_c152 1 2 rfl)).trans (hS_43 1 2 rfl)).trans (hS_c30 1 2 rfl)).trans (hS_4 1 2 rfl)).trans (eu1_2))) (u1_3) ((((((((((hS_c261 1 3 rfl).trans (hS_c226 1 3 rfl)).trans ((show F56 1 3 = F47 1 3 from (eF56 1 3)))).trans ((show F47 1 3 = F_c152 1 3 from (eF47 1 3)))).trans (hS_c152 1 3 rfl)).trans (hS_43 1 3 rfl)).trans (hS_c30 1 3 rfl)).trans (hS_4 1 3 rfl)).trans (eu1_3))) (u1_4) ((((((((((hS_c261 1 4 rfl).trans (hS_c226 1 4 rfl)).trans ((show F56 1 4 = F47 1 4 from (eF56 1 4)))).trans ((show F47 1 4 = F_c152 1 4 from (eF47 1 4)))).trans (hS_c152 1 4 rfl)).trans (hS_43 1 4 rfl)).trans (hS_c30 1 4 rfl)).trans (hS_4 1 4 rfl)).trans (eu1_4))) (y47_1_1) (((((hS_c261 3 1 rfl).trans (hS_c226 3 1 rfl)).trans ((show F56 3 1 = F47 3 1 from (eF56 3 1)))).trans ((eF47 3 1).trans ey47_1_1))) (y56_1_1) ((((hS_c261 5 1 rfl).trans (hS_c226 5 1 rfl)).trans ((eF56 5 1).trans ey56_1_1))) (w2) ((funext (hA_c261 2 rfl)).trans ((funext (hA_c226 2 rfl)).trans (((show A56 2 = A47 2 from (eA56 2))).trans (((show A47 2 = A_c152 2 from (eA47 2))).trans ((funext (hA_c152 2 rfl)).trans ((funext (hA_43 2 rfl)).trans ((funext (hA23 2 rfl)).trans ((funext (hA_c30 2 rfl)).trans ((funext (hA_4 2 rfl)).trans (ew2)))))))))) (show (tc226_0) = 0 ∨ (tc226_0) = 1 from q_750 b63) (show 0 ≤ (u1_1) ∧ (u1_1) ≤ (n2) ∧ (n2) ≤ 65536 from h0) (show 0 ≤ (u1_4) ∧ (u1_4) ≤ 7 from h1) (show 0 ≤ (y47_1_1) ∧ (y47_1_1) ≤ (m47_2) ∧ (m47_2) ≤ 65536 from pz47_0) (show 0 ≤ (y56_1_1) ∧ (y56_1_1) ≤ (m56_2) ∧ (m56_2) ≤ 65536 from pz56_0) (show (u1_1) ≤ (u1_1) from q_43) (show (u1_4) = 0 ∧ (u1_3) = 0 ∧ (u1_2) = 0 from q_3802 h8) (show DSR ((tc226_0)) (DSC (wtF ((w18)) (((u0_3)))) (lzN ((w18)) 256)) (sc ((w2)) 0 ((u1_1))) by assumption))
                    · refine Ew_of (pcₚ := 267) (fun _ => x_aload_n rfl lc261_1) ?_
                      refine Ew_of (pcₚ := 269) (fun _ => x_aload rfl lc261_4) ?_
                      refine v_g H (o := 3) (v := I (y47_1_1)) rfl rfl rfl rfl rfl (congrArg (fun z : Int => I z) (((((hS_c261 3 1 rfl).trans (hS_c226 3 1 rfl)).trans ((show F56 3 1 = F47 3 1 from (eF56 3 1)))).trans ((eF47 3 1).trans ey47_1_1)) : F_c261 3 1 = y47_1_1)) ?_
                      refine v_inv H (o := 1) rfl rfl rfl rfl rfl rfl (by rfl) (C159 (D := puc 1025 D56) (N := puc 1025 N56) (HW_subc H oz_F5cls_34 oz_F5cls_16) ((((hS_c261 1 0 rfl).trans (hS_c226 1 0 rfl))).trans (pf56_1_0)) (n2) ((congrArg (fun q : Nat => (q : Int)) (show N56 2 = N47 2 from (eN56 2))).trans ((congrArg (fun q : Nat => (q : Int)) (show N47 2 = N 2 from (eN47 2))).trans (en2))) (u1_1) ((((((((((hS_c261 1 1 rfl).trans (hS_c226 1 1 rfl)).trans ((show F56 1 1 = F47 1 1 from (eF56 1 1)))).trans ((show F47 1 1 = F_c152 1 1 from (eF47 1 1)))).trans (hS_c152 1 1 rfl)).trans (hS_43 1 1 rfl)).trans (hS_c30 1 1 rfl)).trans (hS_4 1 1 rfl)).trans (eu1_1))) (u1_2) ((((((((((hS_c261 1 2 rfl).trans (hS_c226 1 2 rfl)).trans ((show F56 1 2 = F47 1 2 from (eF56 1 2)))).trans ((show F47 1 2 = F_c152 1 2 from (eF47 1 2)))).trans (hS_c152 1 2 rfl)).trans (hS_43 1 2 rfl)).trans (hS_c30 1 2 rfl)).trans (hS_4 1 2 rfl)).trans (eu1_2))) (w2) ((funext (hA_c261 2 rfl)).trans ((funext (hA_c226 2 rfl)).trans (((show A56 2 = A47 2 from (eA56 2))).trans (((show A47 2 = A_c152 2 from (eA47 2))).trans ((funext (hA_c152 2 rfl)).trans ((funext (hA_43 2 rfl)).trans ((funext (hA23 2 rfl)).trans ((funext (hA_c30 2 rfl)).trans ((funext (hA_4 2 rfl)).trans (ew2)))))))))) (show inr (y47_1_1) from q_38 pz47_0) (show 0 ≤ (u1_1) ∧ (u1_1) ≤ (n2) ∧ (n2) ≤ 65536 from h0) (fun σ64 D64ₚ N64ₚ F64ₚ A64ₚ c64 s64 Hₚ Oₚ hD64 hN64 hS64 hA64 pm64_1 m64_1 em64_1 y64_0_1 ey64_0_1 y64_0_2 ey64_0_2 w64_1 ew64_1 pz64_0 pz64_1 pz64_2 pz64_3 => ⟨rfl, ?_⟩))
                      refine v_backMc (c := ((c + c47) + c56)) (s := ((s + s47) + s56)) H oz_F5cls_34 oz_F5cls_16 Hₚ Oₚ hD64 oz_F5cls_35 (fun D64 N64 F64 A64 H Oₚ eD64 eN64 eF64 eA64 => ?_)
                      have O := OUT_trans O Oₚ
                      -- Row.add
                      have cF64 : SF oz_F5clsl_9 F F64 := SF_trans (cF_c261) (SF_gluc (ι := oz_F5clsl_4) oz_F5cls_16 hS64 eF64 (by decide +kernel)) (any_sub (lₚ := [(1, 0), (1, 1), (1, 2)]) (by decide +kernel))
                      have mF64 := SFm_of cF64 oz_F5cls_46
                      have cA64 : SA oz_F5clsl_10 A A64 := SA_trans (cA_c261) (SA_gluc (ι := oz_F5clsl_4) oz_F5cls_16 hA64 eA64 (by decide +kernel)) (any_subA (lₚ := [2]) (by decide +kernel))
                      have mA64 := SAm_of cA64 oz_F5cls_47
                      have cD64 : SD oz_F5clsl_11 D D64 := SD_trans (cD56) (SD_gluc (ι := oz_F5clsl_4) oz_F5cls_16 hD64 eD64 (by decide +kernel)) (any_subA (lₚ := [2]) (by decide +kernel))
                      have mD64 := SDm_of cD64 oz_F5cls_48
                      have cN64 : SD oz_F5clsl_11 N N64 := SD_trans (cN56) (SD_gluc (ι := oz_F5clsl_4) oz_F5cls_16 hN64 eN64 (by decide +kernel)) (any_subA (lₚ := [2]) (by decide +kernel))
                      have mN64 := SDm_of cN64 oz_F5cls_48
                      have pf64_1_0 : F64 1 0 = (D64 2 : Int) := (eF64 1 0).trans (pm64_1.trans (congrArg (fun q : Nat => (q : Int)) (eD64 2).symm))
                      have pf64_3_0 : F64 3 0 = (D64 4 : Int) := ((show F64 3 0 = F_c261 3 0 from (eF64 3 0))).trans (((((hS_c261 3 0 rfl).trans (hS_c226 3 0 rfl))).trans (pf56_3_0)).trans (congrArg (fun q : Nat => (q : Int)) ((show D64 4 = D56 4 from (eD64 4))).symm))
                      have pf64_5_0 : F64 5 0 = (D64 6 : Int) := ((show F64 5 0 = F_c261 5 0 from (eF64 5 0))).trans (((((hS_c261 5 0 rfl).trans (hS_c226 5 0 rfl))).trans (pf56_5_0)).trans (congrArg (fun q : Nat => (q : Int)) ((show D64 6 = D56 6 from (eD64 6))).symm))
                      have r65 : (0 : Int) ≤ m64_1 ∧ m64_1 ≤ 1000000 := nleE (H.nle 2 (ltn len_V104_Row_oz_F5cls rfl)) (show (N64 2 : Int) = m64_1 from (congrArg (fun q : Nat => (q : Int)) (eN64 2)).trans em64_1)
                      have r66 : (-2147483648 : Int) ≤ y64_0_1 ∧ y64_0_1 ≤ 2147483647 := rngE (show (-2147483648 : Int) ≤ F64 1 1 ∧ F64 1 1 ≤ 2147483647 from H.krg 1 1 (ltn len_V104_Row_oz_F5cls rfl)) (show F64 1 1 = y64_0_1 from ((eF64 1 1).trans ey64_0_1))
                      have r67 : (0 : Int) ≤ y64_0_2 ∧ y64_0_2 ≤ 1 := rngE (show (0 : Int) ≤ F64 1 2 ∧ F64 1 2 ≤ 1 from H.krg 1 2 (ltn len_V104_Row_oz_F5cls rfl)) (show F64 1 2 = y64_0_2 from ((eF64 1 2).trans ey64_0_2))
                      have hr1 := pz64_3
                      refine Ew_of (pcₚ := 276) (fun _ => x_aload_n rfl lc261_1) ?_
                      refine Ew_of (pcₚ := 278) (fun _ => x_aload rfl lc261_4) ?_
                      refine Ew_stk (show ([.ref (D56 3), .ref (D56 1)] : List Value) = [.ref (D64 3), .ref (D64 1)] by rw [show D64 1 = D56 1 from ((show D64 1 = D56 1 from (eD64 1).trans (hD64 0 rfl))), show D64 3 = D56 3 from ((show D64 3 = D56 3 from (eD64 3)))]) ?_
                      refine v_g H (o := 3) (v := .ref (D64 4)) rfl rfl rfl rfl rfl (vrf (pf64_3_0)) ?_
                      refine Ew_of (pcₚ := 282) (fun _ => x_iconst rfl) ?_
                      refine Ew_of (pcₚ := 284) (fun _ => x_aload rfl lc261_4) ?_
                      refine Ew_stk (congrArg (fun qz : Nat => ([.ref qz, I (0), .ref (D64 4), .ref (D64 1)] : List Value)) (show D64 3 = D56 3 from ((show D64 3 = D56 3 from (eD64 3)))).symm) ?_
                      refine v_g H (o := 3) (v := I (y47_1_1)) rfl rfl rfl rfl rfl (congrArg (fun z : Int => I z) (((((((show F64 3 1 = F_c261 3 1 from (eF64 3 1))).trans (hS_c261 3 1 rfl)).trans (hS_c226 3 1 rfl)).trans ((show F56 3 1 = F47 3 1 from (eF56 3 1)))).trans ((eF47 3 1).trans ey47_1_1)) : F64 3 1 = y47_1_1)) ?_
                      refine v_inv H (o := 1) rfl rfl rfl rfl rfl rfl (by rfl) (C161_Br (D := puc 526337 D64) (N := puc 526337 N64) (HW_subc H oz_F5cls_36 oz_F5cls_49) (pf64_1_0) (m47_2) ((congrArg (fun q : Nat => (q : Int)) (show N64 4 = N56 4 from (eN64 4))).trans ((congrArg (fun q : Nat => (q : Int)) (show N56 4 = N47 4 from (eN56 4))).trans ((congrArg (fun q : Nat => (q : Int)) (eN47 4)).trans em47_2))) (m64_1) ((congrArg (fun q : Nat => (q : Int)) (eN64 2)).trans em64_1) (y64_0_1) (((eF64 1 1).trans ey64_0_1)) (y64_0_2) (((eF64 1 2).trans ey64_0_2)) (w47_2) (((show A64 4 = A_c261 4 from (eA64 4))).trans ((funext (hA_c261 4 rfl)).trans ((funext (hA_c226 4 rfl)).trans (((show A56 4 = A47 4 from (eA56 4))).trans ((eA47 4).trans ew47_2))))) (w64_1) ((eA64 2).trans ew64_1) (show inr (0) from q_2) (show inr (y47_1_1) from q_38 pz47_0) (show 0 ≤ (y64_0_1) ∧ (y64_0_1) ≤ (m64_1) ∧ (m64_1) ≤ 65536 from pz64_0) (show (y47_1_1) < 0 ∨ 0 ≤ (0) ∧ (0) + (y47_1_1) ≤ (m47_2) from q_2944 pz47_0) (fun σ68 D68ₚ N68ₚ F68ₚ A68ₚ c68 s68 Hₚ Oₚ hD68 hN68 hS68 hA68 pm68_2 m68_2 em68_2 y68_0_1 ey68_0_1 y68_0_2 ey68_0_2 w68_2 ew68_2 pz68_0 pz68_1 pz68_2 pz68_3 => ⟨rfl, ?_⟩))
                      refine v_backMc (c := (((c + c47) + c56) + c64)) (s := (((s + s47) + s56) + s64)) H oz_F5cls_36 oz_F5cls_49 Hₚ Oₚ hD68 oz_F5cls_37 (fun D68 N68 F68 A68 H Oₚ eD68 eN68 eF68 eA68 => ?_)
                      have O := OUT_trans O Oₚ
                      -- Row.addPart
                      have cF68 : SF oz_F5clsl_9 F F68 := SF_trans (cF64) (SF_gluc (ι := oz_F5clsl_12) oz_F5cls_49 hS68 eF68 (by decide +kernel)) (any_sub (lₚ := [(1, 0), (1, 1), (1, 2)]) (by decide +kernel))
                      have mF68 := SFm_of cF68 oz_F5cls_46
                      have cA68 : SA oz_F5clsl_10 A A68 := SA_trans (cA64) (SA_gluc (ι := oz_F5clsl_12) oz_F5cls_49 hA68 eA68 (by decide +kernel)) (any_subA (lₚ := [2]) (by decide +kernel))
                      have mA68 := SAm_of cA68 oz_F5cls_47
                      have cD68 : SD oz_F5clsl_11 D D68 := SD_trans (cD64) (SD_gluc (ι := oz_F5clsl_12) oz_F5cls_49 hD68 eD68 (by decide +kernel)) (any_subA (lₚ := [2]) (by decide +kernel))
                      have mD68 := SDm_of cD68 oz_F5cls_48
                      have cN68 : SD oz_F5clsl_11 N N68 := SD_trans (cN64) (SD_gluc (ι := oz_F5clsl_12) oz_F5cls_49 hN68 eN68 (by decide +kernel)) (any_subA (lₚ := [2]) (by decide +kernel))
                      have mN68 := SDm_of cN68 oz_F5cls_48
                      have pf68_1_0 : F68 1 0 = (D68 2 : Int) := (eF68 1 0).trans (pm68_2.trans (congrArg (fun q : Nat => (q : Int)) (eD68 2).symm))
                      have pf68_3_0 : F68 3 0 = (D68 4 : Int) := ((show F68 3 0 = F64 3 0 from (eF68 3 0))).trans ((pf64_3_0).trans (congrArg (fun q : Nat => (q : Int)) ((show D68 4 = D64 4 from (eD68 4).trans (hD68 1 rfl))).symm))
                      have pf68_5_0 : F68 5 0 = (D68 6 : Int) := ((show F68 5 0 = F64 5 0 from (eF68 5 0))).trans ((pf64_5_0).trans (congrArg (fun q : Nat => (q : Int)) ((show D68 6 = D64 6 from (eD68 6))).symm))
                      have r69 : (0 : Int) ≤ m68_2 ∧ m68_2 ≤ 1000000 := nleE (H.nle 2 (ltn len_V104_Row_oz_F5cls rfl)) (show (N68 2 : Int) = m68_2 from (congrArg (fun q : Nat => (q : Int)) (eN68 2)).trans em68_2)
                      have r70 : (-2147483648 : Int) ≤ y68_0_1 ∧ y68_0_1 ≤ 2147483647 := rngE (show (-2147483648 : Int) ≤ F68 1 1 ∧ F68 1 1 ≤ 2147483647 from H.krg 1 1 (ltn len_V104_Row_oz_F5cls rfl)) (show F68 1 1 = y68_0_1 from ((eF68 1 1).trans ey68_0_1))
                      have r71 : (0 : Int) ≤ y68_0_2 ∧ y68_0_2 ≤ 1 := rngE (show (0 : Int) ≤ F68 1 2 ∧ F68 1 2 ≤ 1 from H.krg 1 2 (ltn len_V104_Row_oz_F5cls rfl)) (show F68 1 2 = y68_0_2 from ((eF68 1 2).trans ey68_0_2))
                      refine Ew_of (pcₚ := 292) (fun _ => x_iload rfl lc261_5) ?_
                      have : DSR ((tc226_0)) (DSC (wtF ((w18)) (((u0_3)))) (lzN ((w18)) 256)) (sc ((w68_2)) 0 ((y68_0_1))) := by first | exact .inr ⟨by omega, by rw [← hDS]; exact DSC_n (BYO_0 hBY (by omega)) (NDO_n hND (BYO_0 hBY (by omega)))⟩ | exact .inl ⟨by omega, by rw [← hDS, DSC_s (BYO_1 hBY (by omega)) (NDO_s hND), (DSS_of hr1 (pz68_3 (by omega)) (by omega) (by omega) hT_ hTl_ (by omega)).1]⟩
                      have hbu0 : (y68_0_2) = 0 := by first | omega | exact (DSS_of hr1 (pz68_3 (by omega)) (by omega) (by omega) hT_ hTl_ (by omega)).2
                      exact w_ireturn rfl (k (tc226_0) _ _ _ _ _ _ _ H O (cD68) (cN68) (cF68) (cA68) (pf68_1_0) (pf68_3_0) (pf68_5_0) (m68_2) ((congrArg (fun q : Nat => (q : Int)) (eN68 2)).trans em68_2) (m47_2) ((congrArg (fun q : Nat => (q : Int)) (show N68 4 = N64 4 from (eN68 4).trans (hN68 1 rfl))).trans ((congrArg (fun q : Nat => (q : Int)) (show N64 4 = N56 4 from (eN64 4))).trans ((congrArg (fun q : Nat => (q : Int)) (show N56 4 = N47 4 from (eN56 4))).trans ((congrArg (fun q : Nat => (q : Int)) (eN47 4)).trans em47_2)))) (m56_2) ((congrArg (fun q : Nat => (q : Int)) (show N68 6 = N64 6 from (eN68 6))).trans ((congrArg (fun q : Nat => (q : Int)) (show N64 6 = N56 6 from (eN64 6))).trans ((congrArg (fun q : Nat => (q : Int)) (eN56 6)).trans em56_2))) (y68_0_1) (((eF68 1 1).trans ey68_0_1)) (y68_0_2) (((eF68 1 2).trans ey68_0_2)) (u1_3) (((((((((((((show F68 1 3 = F64 1 3 from (eF68 1 3).trans (hS68 0 3 rfl))).trans ((show F64 1 3 = F_c261 1 3 from (eF64 1 3).trans (hS64 0 3 rfl)))).trans (hS_c261 1 3 rfl)).trans (hS_c226 1 3 rfl)).trans ((show F56 1 3 = F47 1 3 from (eF56 1 3)))).trans ((show F47 1 3 = F_c152 1 3 from (eF47 1 3)))).trans (hS_c152 1 3 rfl)).trans (hS_43 1 3 rfl)).trans (hS_c30 1 3 rfl)).trans (hS_4 1 3 rfl)).trans (eu1_3))) (u1_4) (((((((((((((show F68 1 4 = F64 1 4 from (eF68 1 4).trans (hS68 0 4 rfl))).trans ((show F64 1 4 = F_c261 1 4 from (eF64 1 4).trans (hS64 0 4 rfl)))).trans (hS_c261 1 4 rfl)).trans (hS_c226 1 4 rfl)).trans ((show F56 1 4 = F47 1 4 from (eF56 1 4)))).trans ((show F47 1 4 = F_c152 1 4 from (eF47 1 4)))).trans (hS_c152 1 4 rfl)).trans (hS_43 1 4 rfl)).trans (hS_c30 1 4 rfl)).trans (hS_4 1 4 rfl)).trans (eu1_4))) (y47_1_1) ((((((((show F68 3 1 = F64 3 1 from (eF68 3 1))).trans ((show F64 3 1 = F_c261 3 1 from (eF64 3 1)))).trans (hS_c261 3 1 rfl)).trans (hS_c226 3 1 rfl)).trans ((show F56 3 1 = F47 3 1 from (eF56 3 1)))).trans ((eF47 3 1).trans ey47_1_1))) (y56_1_1) (((((((show F68 5 1 = F64 5 1 from (eF68 5 1))).trans ((show F64 5 1 = F_c261 5 1 from (eF64 5 1)))).trans (hS_c261 5 1 rfl)).trans (hS_c226 5 1 rfl)).trans ((eF56 5 1).trans ey56_1_1))) (w68_2) ((eA68 2).trans ew68_2) (show (tc226_0) = 0 ∨ (tc226_0) = 1 by omega) (show 0 ≤ (y68_0_1) ∧ (y68_0_1) ≤ (m68_2) ∧ (m68_2) ≤ 65536 from pz68_0) (show 0 ≤ (u1_4) ∧ (u1_4) ≤ 7 from h1) (show 0 ≤ (y47_1_1) ∧ (y47_1_1) ≤ (m47_2) ∧ (m47_2) ≤ 65536 from pz47_0) (show 0 ≤ (y56_1_1) ∧ (y56_1_1) ≤ (m56_2) ∧ (m56_2) ≤ 65536 from pz56_0) (show (u1_1) ≤ (y68_0_1) from q_3804 h8 pz68_0) (show (u1_4) = 0 ∧ (u1_3) = 0 ∧ (y68_0_2) = 0 from q_3803 h8 hbu0) (show DSR ((tc226_0)) (DSC (wtF ((w18)) (((u0_3)))) (lzN ((w18)) 256)) (sc ((w68_2)) 0 ((y68_0_1))) by assumption))
                  have hBY : BYO ((tc226_0)) ((w43_16)) qk := by first | exact .inr ⟨by omega, fun q => by have q1 := q.1; rcases hAl with ⟨a, b⟩ | ⟨a, b⟩; (exact q.2.1 b); omega⟩ | (by_cases z : (tc226_0) = 1; (exact .inl ⟨z, by omega, hnA, by omega⟩); exact .inr ⟨by omega, fun q => by have := q.2.2; omega⟩)
                  refine Ew_of (pcₚ := 229) (fun _ => x_iload_n rfl (rk_o (lc226_2) rfl rfl)) ?_
                  refine Ew_of (pcₚ := 232) (fun _ => x_sipush (z := 128) rfl (by decide)) ?_
                  refine w_icmpgt (t := 261) rfl rfl (show inr (x4_2) from j4_0) (show inr (128) from q_313) (fun b72 => ?_) (fun b72 => ?_)
                  · have : NDO ((w43_16)) qk := by first | exact .inl (by omega) | exact .inr ⟨BYO_1 hBY (by omega), by omega⟩
                    exact hc261  _ _ _ _  (rk_o (lc226_1) rfl rfl) (rk_o (lc226_4) rfl rfl) (rk_s) H O (SF_refl) (SA_refl)     (show NDO ((w43_16)) qk by assumption) (hBY)
                  · refine Ew_of (pcₚ := 237) (fun _ => x_iload rfl rk_s) ?_
                    have hc253 : ∀ (ls : rO) (σ : rS) (F_c253 : hF) (A_c253 : hA) , rlook ls 0 = some (.ref (D56 0)) → rlook ls 1 = some (.ref (D56 1)) → rlook ls 2 = some (I (x4_2)) → HW V104_Row σ D56 N56 F_c253 A_c253 → OUT (V104_Row).length D N σE c s D56 N56 σ ((c + c47) + c56) ((s + s47) + s56) → SF [] F_c226 F_c253 → SA [] A_c226 A_c253 → (((tc226_0) = (0)) ∨ ((tc226_0) ≠ (0) ∧ (((x4_2 + 1) / 2)) ≤ (y47_1_1))) → Ew 104 (d + 3) 253 ls [] σ ((c + c47) + c56) ((s + s47) + s56) Q := by
                     as_aux_lemma =>
                      intro  ls σ F_c253 A_c253  lc253_0 lc253_1 lc253_2 H O hS_c253 hA_c253     jc253_0
                      have cF_c253 : SF oz_F5clsl_9 F F_c253 := SF_trans (cF_c226) hS_c253 (any_sub (by decide +kernel))
                      have mF_c253 := SFm_of cF_c253 oz_F5cls_46
                      have cA_c253 : SA oz_F5clsl_10 A A_c253 := SA_trans (cA_c226) hA_c253 (any_subA (by decide +kernel))
                      have mA_c253 := SAm_of cA_c253 oz_F5cls_47
                      refine Ew_of (pcₚ := 254) (fun _ => x_aload_n rfl lc253_0) ?_
                      refine Ew_of (pcₚ := 255) (fun _ => x_aload_n rfl lc253_1) ?_
                      refine Ew_of (pcₚ := 256) (fun _ => x_iload_n rfl lc253_2) ?_
                      refine v_inv H (o := 0) rfl rfl rfl rfl rfl rfl (by rfl) (C105_Row (D := puc 2148008448 D56) (N := puc 2148008448 N56) (HW_subc H oz_F5cls_38 oz_F5cls_50) ((((hS_c253 1 0 rfl).trans (hS_c226 1 0 rfl))).trans (pf56_1_0)) ((mF_c253 0 4 rfl).trans ((pf16).trans (congrArg (fun q : Nat => (q : Int)) (mD56 16 rfl).symm))) (n2) ((congrArg (fun q : Nat => (q : Int)) (show N56 2 = N47 2 from (eN56 2))).trans ((congrArg (fun q : Nat => (q : Int)) (show N47 2 = N 2 from (eN47 2))).trans (en2))) (n16) ((congrArg (fun q : Nat => (q : Int)) (mN56 16 rfl)).trans (en16)) (u1_1) ((((((((((hS_c253 1 1 rfl).trans (hS_c226 1 1 rfl)).trans ((show F56 1 1 = F47 1 1 from (eF56 1 1)))).trans ((show F47 1 1 = F_c152 1 1 from (eF47 1 1)))).trans (hS_c152 1 1 rfl)).trans (hS_43 1 1 rfl)).trans (hS_c30 1 1 rfl)).trans (hS_4 1 1 rfl)).trans (eu1_1))) (u1_2) ((((((((((hS_c253 1 2 rfl).trans (hS_c226 1 2 rfl)).trans ((show F56 1 2 = F47 1 2 from (eF56 1 2)))).trans ((show F47 1 2 = F_c152 1 2 from (eF47 1 2)))).trans (hS_c152 1 2 rfl)).trans (hS_43 1 2 rfl)).trans (hS_c30 1 2 rfl)).trans (hS_4 1 2 rfl)).trans (eu1_2))) (u1_3) ((((((((((hS_c253 1 3 rfl).trans (hS_c226 1 3 rfl)).trans ((show F56 1 3 = F47 1 3 from (eF56 1 3)))).trans ((show F47 1 3 = F_c152 1 3 from (eF47 1 3)))).trans (hS_c152 1 3 rfl)).trans (hS_43 1 3 rfl)).trans (hS_c30 1 3 rfl)).trans (hS_4 1 3 rfl)).trans (eu1_3))) (u1_4) ((((((((((hS_c253 1 4 rfl).trans (hS_c226 1 4 rfl)).trans ((show F56 1 4 = F47 1 4 from (eF56 1 4)))).trans ((show F47 1 4 = F_c152 1 4 from (eF47 1 4)))).trans (hS_c152 1 4 rfl)).trans (hS_43 1 4 rfl)).trans (hS_c30 1 4 rfl)).trans (hS_4 1 4 rfl)).trans (eu1_4))) (w2) ((funext (hA_c253 2 rfl)).trans ((funext (hA_c226 2 rfl)).trans (((show A56 2 = A47 2 from (eA56 2))).trans (((show A47 2 = A_c152 2 from (eA47 2))).trans ((funext (hA_c152 2 rfl)).trans ((funext (hA_43 2 rfl)).trans ((funext (hA23 2 rfl)).trans ((funext (hA_c30 2 rfl)).trans ((funext (hA_4 2 rfl)).trans (ew2)))))))))) (w43_16) ((funext (hA_c253 16 rfl)).trans ((funext (hA_c226 16 rfl)).trans (((show A56 16 = A47 16 from (eA56 16).trans (funext (hA56 12 rfl)))).trans (((show A47 16 = A_c152 16 from (eA47 16).trans (funext (hA47 12 rfl)))).trans ((funext (hA_c152 16 rfl)).trans (ew43_16)))))) (show inr (x4_2) from j4_0) (show 0 ≤ (u1_1) ∧ (u1_1) ≤ (n2) ∧ (n2) ≤ 65536 from h0) (show 0 ≤ (u1_4) ∧ (u1_4) ≤ 7 from h1) (show 0 ≤ (x4_2) ∧ (x4_2) ≤ 128 from q_3806 b72 hl2) (show (n16) = 256 from q_3805 h5) (show (u1_1) = 0 ∧ (u1_4) = 0 ∧ (u1_3) = 0 ∧ (u1_2) = 0 from h8) (hwg) (fun σ73 D73ₚ N73ₚ F73ₚ A73ₚ c73 s73 Hₚ Oₚ hD73 hN73 hS73 hA73 pm73_2 m73_2 em73_2 y73_1_1 ey73_1_1 y73_1_2 ey73_1_2 y73_1_3 ey73_1_3 y73_1_4 ey73_1_4 w73_2 ew73_2 pz73_0 pz73_1 pz73_2 pz73_3 pz73_4 => ⟨rfl, ?_⟩))
                      refine v_backMc (c := ((c + c47) + c56)) (s := ((s + s47) + s56)) H oz_F5cls_38 oz_F5cls_50 Hₚ Oₚ hD73 oz_F5cls_39 (fun D73 N73 F73 A73 H Oₚ eD73 eN73 eF73 eA73 => ?_)
                      have O := OUT_trans O Oₚ
                      -- Codes.describeDirectly
                      have cF73 : SF oz_F5clsl_9 F F73 := SF_trans (cF_c253) (SF_gluc (ι := oz_F5clsl_13) oz_F5cls_50 hS73 eF73 (by decide +kernel)) (any_sub (lₚ := [(1, 0), (1, 1), (1, 2), (1, 3), (1, 4)]) (by decide +kernel))
                      have mF73 := SFm_of cF73 oz_F5cls_46
                      have cA73 : SA oz_F5clsl_10 A A73 := SA_trans (cA_c253) (SA_gluc (ι := oz_F5clsl_13) oz_F5cls_50 hA73 eA73 (by decide +kernel)) (any_subA (lₚ := [2]) (by decide +kernel))
                      have mA73 := SAm_of cA73 oz_F5cls_47
                      have cD73 : SD oz_F5clsl_11 D D73 := SD_trans (cD56) (SD_gluc (ι := oz_F5clsl_13) oz_F5cls_50 hD73 eD73 (by decide +kernel)) (any_subA (lₚ := [2]) (by decide +kernel))
                      have mD73 := SDm_of cD73 oz_F5cls_48
                      have cN73 : SD oz_F5clsl_11 N N73 := SD_trans (cN56) (SD_gluc (ι := oz_F5clsl_13) oz_F5cls_50 hN73 eN73 (by decide +kernel)) (any_subA (lₚ := [2]) (by decide +kernel))
                      have mN73 := SDm_of cN73 oz_F5cls_48
                      have pf73_1_0 : F73 1 0 = (D73 2 : Int) := (eF73 1 0).trans (pm73_2.trans (congrArg (fun q : Nat => (q : Int)) (eD73 2).symm))
                      have pf73_3_0 : F73 3 0 = (D73 4 : Int) := ((show F73 3 0 = F_c253 3 0 from (eF73 3 0))).trans (((((hS_c253 3 0 rfl).trans (hS_c226 3 0 rfl))).trans (pf56_3_0)).trans (congrArg (fun q : Nat => (q : Int)) ((show D73 4 = D56 4 from (eD73 4))).symm))
                      have pf73_5_0 : F73 5 0 = (D73 6 : Int) := ((show F73 5 0 = F_c253 5 0 from (eF73 5 0))).trans (((((hS_c253 5 0 rfl).trans (hS_c226 5 0 rfl))).trans (pf56_5_0)).trans (congrArg (fun q : Nat => (q : Int)) ((show D73 6 = D56 6 from (eD73 6))).symm))
                      have r74 : (0 : Int) ≤ m73_2 ∧ m73_2 ≤ 1000000 := nleE (H.nle 2 (ltn len_V104_Row_oz_F5cls rfl)) (show (N73 2 : Int) = m73_2 from (congrArg (fun q : Nat => (q : Int)) (eN73 2)).trans em73_2)
                      have r75 : (-2147483648 : Int) ≤ y73_1_1 ∧ y73_1_1 ≤ 2147483647 := rngE (show (-2147483648 : Int) ≤ F73 1 1 ∧ F73 1 1 ≤ 2147483647 from H.krg 1 1 (ltn len_V104_Row_oz_F5cls rfl)) (show F73 1 1 = y73_1_1 from ((eF73 1 1).trans ey73_1_1))
                      have r76 : (0 : Int) ≤ y73_1_2 ∧ y73_1_2 ≤ 1 := rngE (show (0 : Int) ≤ F73 1 2 ∧ F73 1 2 ≤ 1 from H.krg 1 2 (ltn len_V104_Row_oz_F5cls rfl)) (show F73 1 2 = y73_1_2 from ((eF73 1 2).trans ey73_1_2))
                      have r77 : (-2147483648 : Int) ≤ y73_1_3 ∧ y73_1_3 ≤ 2147483647 := rngE (show (-2147483648 : Int) ≤ F73 1 3 ∧ F73 1 3 ≤ 2147483647 from H.krg 1 3 (ltn len_V104_Row_oz_F5cls rfl)) (show F73 1 3 = y73_1_3 from ((eF73 1 3).trans ey73_1_3))
                      have r78 : (-2147483648 : Int) ≤ y73_1_4 ∧ y73_1_4 ≤ 2147483647 := rngE (show (-2147483648 : Int) ≤ F73 1 4 ∧ F73 1 4 ≤ 2147483647 from H.krg 1 4 (ltn len_V104_Row_oz_F5cls rfl)) (show F73 1 4 = y73_1_4 from ((eF73 1 4).trans ey73_1_4))
                      refine Ew_of (pcₚ := 260) (fun _ => x_iconst rfl) ?_
                      have : DSR ((1)) (DSC (wtF ((w18)) (((u0_3)))) (lzN ((w18)) 256)) (sc ((w73_2)) 0 ((y73_1_1))) := .inl ⟨rfl, by rw [pz73_4, ← hqk, ← hDS]; exact DSC_d (by omega) (by first | exact .inl (BYO_0 hBY (by omega)) | exact .inr (by omega))⟩
                      exact w_ireturn rfl (k (1) _ _ _ _ _ _ _ H O (cD73) (cN73) (cF73) (cA73) (pf73_1_0) (pf73_3_0) (pf73_5_0) (m73_2) ((congrArg (fun q : Nat => (q : Int)) (eN73 2)).trans em73_2) (m47_2) ((congrArg (fun q : Nat => (q : Int)) (show N73 4 = N56 4 from (eN73 4))).trans ((congrArg (fun q : Nat => (q : Int)) (show N56 4 = N47 4 from (eN56 4))).trans ((congrArg (fun q : Nat => (q : Int)) (eN47 4)).trans em47_2))) (m56_2) ((congrArg (fun q : Nat => (q : Int)) (show N73 6 = N56 6 from (eN73 6))).trans ((congrArg (fun q : Nat => (q : Int)) (eN56 6)).trans em56_2)) (y73_1_1) (((eF73 1 1).trans ey73_1_1)) (y73_1_2) (((eF73 1 2).trans ey73_1_2)) (y73_1_3) (((eF73 1 3).trans ey73_1_3)) (y73_1_4) (((eF73 1 4).trans ey73_1_4)) (y47_1_1) (((((((show F73 3 1 = F_c253 3 1 from (eF73 3 1))).trans (hS_c253 3 1 rfl)).trans (hS_c226 3 1 rfl)).trans ((show F56 3 1 = F47 3 1 from (eF56 3 1)))).trans ((eF47 3 1).trans ey47_1_1))) (y56_1_1) ((((((show F73 5 1 = F_c253 5 1 from (eF73 5 1))).trans (hS_c253 5 1 rfl)).trans (hS_c226 5 1 rfl)).trans ((eF56 5 1).trans ey56_1_1))) (w73_2) ((eA73 2).trans ew73_2) (show (1) = 0 ∨ (1) = 1 by first | exact q_49 | omega) (show 0 ≤ (y73_1_1) ∧ (y73_1_1) ≤ (m73_2) ∧ (m73_2) ≤ 65536 from pz73_0) (show 0 ≤ (y73_1_4) ∧ (y73_1_4) ≤ 7 from pz73_1) (show 0 ≤ (y47_1_1) ∧ (y47_1_1) ≤ (m47_2) ∧ (m47_2) ≤ 65536 from pz47_0) (show 0 ≤ (y56_1_1) ∧ (y56_1_1) ≤ (m56_2) ∧ (m56_2) ≤ 65536 from pz56_0) (show (u1_1) ≤ (y73_1_1) from pz73_2) (show (y73_1_4) = 0 ∧ (y73_1_3) = 0 ∧ (y73_1_2) = 0 from pz73_3) (show DSR ((1)) (DSC (wtF ((w18)) (((u0_3)))) (lzN ((w18)) 256)) (sc ((w73_2)) 0 ((y73_1_1))) by assumption))
                    refine w_ifeq (t := 253) rfl rfl (show inr (tc226_0) from jc226_0) (fun b79 => ?_) (fun b79 => ?_)
                    · exact hc253  _ _ _ _  (rk_o (lc226_0) rfl rfl) (rk_o (lc226_1) rfl rfl) (rk_o (lc226_2) rfl rfl) H O (SF_refl) (SA_refl)     (show ((tc226_0) = (0)) ∨ ((tc226_0) ≠ (0) ∧ (((x4_2 + 1) / 2)) ≤ (y47_1_1)) from q_3807 b79)
                    · refine Ew_of (pcₚ := 241) (fun _ => x_iload_n rfl (rk_o (lc226_2) rfl rfl)) ?_
                      refine Ew_of (pcₚ := 242) (fun _ => x_iconst rfl) ?_
                      refine w_iadd rfl ?_
                      refine Ew_of (pcₚ := 244) (fun _ => x_iconst rfl) ?_
                      refine w_idiv rfl (show inr ((x4_2 + 1)) ∧ 0 ≤ (x4_2 + 1) from q_3808 b72 hl2) (show inr (2) ∧ 0 < 2 from q_1234) ?_
                      refine Ew_of (pcₚ := 247) (fun _ => x_aload rfl (rk_o (lc226_4) rfl rfl)) ?_
                      refine v_g H (o := 3) (v := I (y47_1_1)) rfl rfl rfl rfl rfl (congrArg (fun z : Int => I z) ((((hS_c226 3 1 rfl).trans ((show F56 3 1 = F47 3 1 from (eF56 3 1)))).trans ((eF47 3 1).trans ey47_1_1)) : F_c226 3 1 = y47_1_1)) ?_
                      refine w_icmpgt (t := 261) rfl rfl (show inr (((x4_2 + 1) / 2)) from q_3809 b72 hl2) (show inr (y47_1_1) from q_38 pz47_0) (fun b80 => ?_) (fun b80 => ?_)
                      · have : NDO ((w43_16)) qk := by first | exact .inl (by omega) | exact .inr ⟨BYO_1 hBY (by omega), by omega⟩
                        exact hc261  _ _ _ _  (rk_o (lc226_1) rfl rfl) (rk_o (lc226_4) rfl rfl) (rk_s) H O (SF_refl) (SA_refl)     (show NDO ((w43_16)) qk by assumption) (hBY)
                      · exact hc253  _ _ _ _  (rk_o (lc226_0) rfl rfl) (rk_o (lc226_1) rfl rfl) (rk_o (lc226_2) rfl rfl) H O (SF_refl) (SA_refl)     (show ((tc226_0) = (0)) ∨ ((tc226_0) ≠ (0) ∧ (((x4_2 + 1) / 2)) ≤ (y47_1_1)) from q_3811 b79 b80)
                refine w_icmpge (t := 225) rfl rfl (show inr (y47_1_1) from q_38 pz47_0) (show inr (128) from q_313) (fun b81 => ?_) (fun b81 => ?_)
                · refine Ew_of (pcₚ := 226) (fun _ => x_iconst rfl) ?_
                  exact hc226 (0) _ _ _ _  ((rk_o (rk_o (lc152_0) rfl rfl) rfl rfl).trans (congrArg (fun q : Nat => some (Value.ref q)) (mD56 0 rfl).symm)) ((rk_o (rk_o (lc152_1) rfl rfl) rfl rfl).trans (congrArg (fun q : Nat => some (Value.ref q)) (mD56 1 rfl).symm)) (rk_o (rk_o (lc152_2) rfl rfl) rfl rfl) (rk_s) H O (SF_refl) (SA_refl)     (show inr (0) from q_2) (show ((y47_1_1) ≥ (128) ∧ (0) = (0)) ∨ ((y47_1_1) < (128) ∧ (0) = (1)) from q_3812 b81)
                · refine Ew_of (pcₚ := 222) (fun _ => x_iconst rfl) ?_
                  refine Ew_of (pcₚ := 226) (fun _ => x_goto rfl rfl) ?_
                  exact hc226 (1) _ _ _ _  ((rk_o (rk_o (lc152_0) rfl rfl) rfl rfl).trans (congrArg (fun q : Nat => some (Value.ref q)) (mD56 0 rfl).symm)) ((rk_o (rk_o (lc152_1) rfl rfl) rfl rfl).trans (congrArg (fun q : Nat => some (Value.ref q)) (mD56 1 rfl).symm)) (rk_o (rk_o (lc152_2) rfl rfl) rfl rfl) (rk_s) H O (SF_refl) (SA_refl)     (show inr (1) from q_135) (show ((y47_1_1) ≥ (128) ∧ (1) = (0)) ∨ ((y47_1_1) < (128) ∧ (1) = (1)) from q_3813 b81)
              · have hS_ : stB ((w43_16)) qk = dsB ((w43_16)) qk 6 := stB_6 (by omega)
                have hT_ : sc ((w56_2)) 0 ((y56_1_1)) = stB ((w43_16)) qk := by rw [hS_]; exact hd6
                have hTl_ : (y56_1_1) = ((stB ((w43_16)) qk).length : Int) := by rw [hS_]; exact hl6
                refine Ew_of (pcₚ := 198) (fun _ => x_aload_n rfl (rk_o (lc152_0) rfl rfl)) ?_
                refine Ew_stk (congrArg (fun qz : Nat => ([.ref qz] : List Value)) (show D56 0 = D 0 from mD56 0 rfl).symm) ?_
                refine v_g H (o := 0) (v := .ref (D56 5)) rfl rfl rfl rfl rfl (vrf ((mF56 0 8 rfl).trans ((pf5).trans (congrArg (fun q : Nat => (q : Int)) (mD56 5 rfl).symm)))) ?_
                refine Ew_of (pcₚ := 208) (fun _ => x_goto rfl rfl) ?_
                refine Ew_of (pcₚ := 210) (fun _ => x_astore rfl) ?_
                refine Ew_of (pcₚ := 212) (fun _ => x_aload rfl rk_s) ?_
                refine v_g H (o := 5) (v := I (y56_1_1)) rfl rfl rfl rfl rfl (congrArg (fun z : Int => I z) (((eF56 5 1).trans ey56_1_1) : F56 5 1 = y56_1_1)) ?_
                refine Ew_of (pcₚ := 218) (fun _ => x_sipush (z := 128) rfl (by decide)) ?_
                have hc226 : ∀ (tc226_0 : Int), ∀ (ls : rO) (σ : rS) (F_c226 : hF) (A_c226 : hA) , rlook ls 0 = some (.ref (D56 0)) → rlook ls 1 = some (.ref (D56 1)) → rlook ls 2 = some (I (x4_2)) → rlook ls 4 = some (.ref (D56 5)) → HW V104_Row σ D56 N56 F_c226 A_c226 → OUT (V104_Row).length D N σE c s D56 N56 σ ((c + c47) + c56) ((s + s47) + s56) → SF [] F56 F_c226 → SA [] A56 A_c226 → (inr (tc226_0)) → (((y56_1_1) ≥ (128) ∧ (tc226_0) = (0)) ∨ ((y56_1_1) < (128) ∧ (tc226_0) = (1))) → Ew 104 (d + 3) 226 ls [I (tc226_0)] σ ((c + c47) + c56) ((s + s47) + s56) Q := by
                 as_aux_lemma =>
                  intro tc226_0 ls σ F_c226 A_c226  lc226_0 lc226_1 lc226_2 lc226_4 H O hS_c226 hA_c226     jc226_0 jc226_1
                  have cF_c226 : SF oz_F5clsl_9 F F_c226 := SF_trans (cF56) hS_c226 (any_sub (by decide +kernel))
                  have mF_c226 := SFm_of cF_c226 oz_F5cls_46
                  have cA_c226 : SA oz_F5clsl_10 A A_c226 := SA_trans (cA56) hA_c226 (any_subA (by decide +kernel))
                  have mA_c226 := SAm_of cA_c226 oz_F5cls_47
                  refine Ew_of (pcₚ := 228) (fun _ => x_istore rfl) ?_
                  have hc261 : ∀ (ls : rO) (σ : rS) (F_c261 : hF) (A_c261 : hA) , rlook ls 1 = some (.ref (D56 1)) → rlook ls 4 = some (.ref (D56 5)) → rlook ls 5 = some (I (tc226_0)) → HW V104_Row σ D56 N56 F_c261 A_c261 → OUT (V104_Row).length D N σE c s D56 N56 σ ((c + c47) + c56) ((s + s47) + s56) → SF [] F_c226 F_c261 → SA [] A_c226 A_c261 → (NDO ((w43_16)) qk) → (BYO ((tc226_0)) ((w43_16)) qk) → Ew 104 (d + 3) 261 ls [] σ ((c + c47) + c56) ((s + s47) + s56) Q := by
                   as_aux_lemma =>
                    intro  ls σ F_c261 A_c261  lc261_1 lc261_4 lc261_5 H O hS_c261 hA_c261     jc261_0 jc261_1
                    have cF_c261 : SF oz_F5clsl_9 F F_c261 := SF_trans (cF_c226) hS_c261 (any_sub (by decide +kernel))
                    have mF_c261 := SFm_of cF_c261 oz_F5cls_46
                    have cA_c261 : SA oz_F5clsl_10 A A_c261 := SA_trans (cA_c226) hA_c261 (any_subA (by decide +kernel))
                    have mA_c261 := SAm_of cA_c261 oz_F5cls_47
                    have hND : NDO ((w43_16)) qk := jc261_0
                    have hBY : BYO ((tc226_0)) ((w43_16)) qk := jc261_1
                    refine Ew_of (pcₚ := 263) (fun _ => x_iload rfl lc261_5) ?_
                    refine w_ifeq (t := 290) rfl rfl (show inr (tc226_0) from jc226_0) (fun b82 => ?_) (fun b82 => ?_)
                    · refine Ew_of (pcₚ := 292) (fun _ => x_iload rfl lc261_5) ?_
                      have : DSR ((tc226_0)) (DSC (wtF ((w18)) (((u0_3)))) (lzN ((w18)) 256)) (sc ((w2)) 0 ((u1_1))) := by first | exact .inr ⟨by omega, by rw [← hDS]; exact DSC_n (BYO_0 hBY (by omega)) (NDO_n hND (BYO_0 hBY (by omega)))⟩ | exact .inl ⟨by omega, by rw [← hDS, DSC_s (BYO_1 hBY (by omega)) (NDO_s hND), (DSS_of hr1 (pz68_3 (by omega)) (by omega) (by omega) hT_ hTl_ (by omega)).1]⟩
                      have hbu0 : (u1_2) = 0 := by first | omega | exact (DSS_of hr1 (pz68_3 (by omega)) (by omega) (by omega) hT_ hTl_ (by omega)).2
                      exact w_ireturn rfl (k (tc226_0) _ _ _ _ _ _ _ H O (cD56) (cN56) (cF_c261) (cA_c261) ((((hS_c261 1 0 rfl).trans (hS_c226 1 0 rfl))).trans (pf56_1_0)) ((((hS_c261 3 0 rfl).trans (hS_c226 3 0 rfl))).trans (pf56_3_0)) ((((hS_c261 5 0 rfl).trans (hS_c226 5 0 rfl))).trans (pf56_5_0)) (n2) ((congrArg (fun q : Nat => (q : Int)) (show N56 2 = N47 2 from (eN56 2))).trans ((congrArg (fun q : Nat => (q : Int)) (show N47 2 = N 2 from (eN47 2))).trans (en2))) (m47_2) ((congrArg (fun q : Nat => (q : Int)) (show N56 4 = N47 4 from (eN56 4))).trans ((congrArg (fun q : Nat => (q : Int)) (eN47 4)).trans em47_2)) (m56_2) ((congrArg (fun q : Nat => (q : Int)) (eN56 6)).trans em56_2) (u1_1) ((((((((((hS_c261 1 1 rfl).trans (hS_c226 1 1 rfl)).trans ((show F56 1 1 = F47 1 1 from (eF56 1 1)))).trans ((show F47 1 1 = F_c152 1 1 from (eF47 1 1)))).trans (hS_c152 1 1 rfl)).trans (hS_43 1 1 rfl)).trans (hS_c30 1 1 rfl)).trans (hS_4 1 1 rfl)).trans (eu1_1))) (u1_2) ((((((((((hS_c261 1 2 rfl).trans (hS_c226 1 2 rfl)).trans ((show F56 1 2 = F47 1 2 from (eF56 1 2)))).trans ((show F47 1 2 = F_c152 1 2 from (eF47 1 2)))).trans (hS_c152 1 2 rfl)).trans (hS_43 1 2 rfl)).trans (hS_c30 1 2 rfl)).trans (hS_4 1 2 rfl)).trans (eu1_2))) (u1_3) ((((((((((hS_c261 1 3 rfl).trans (hS_c226 1 3 rfl)).trans ((show F56 1 3 = F47 1 3 from (eF56 1 3)))).trans ((show F47 1 3 = F_c152 1 3 from (eF47 1 3)))).trans (hS_c152 1 3 rfl)).trans (hS_43 1 3 rfl)).trans (hS_c30 1 3 rfl)).trans (hS_4 1 3 rfl)).trans (eu1_3))) (u1_4) ((((((((((hS_c261 1 4 rfl).trans (hS_c226 1 4 rfl)).trans ((show F56 1 4 = F47 1 4 from (eF56 1 4)))).trans ((show F47 1 4 = F_c152 1 4 from (eF47 1 4)))).trans (hS_c152 1 4 rfl)).trans (hS_43 1 4 rfl)).trans (hS_c30 1 4 rfl)).trans (hS_4 1 4 rfl)).trans (eu1_4))) (y47_1_1) (((((hS_c261 3 1 rfl).trans (hS_c226 3 1 rfl)).trans ((show F56 3 1 = F47 3 1 from (eF56 3 1)))).trans ((eF47 3 1).trans ey47_1_1))) (y56_1_1) ((((hS_c261 5 1 rfl).trans (hS_c226 5 1 rfl)).trans ((eF56 5 1).trans ey56_1_1))) (w2) ((funext (hA_c261 2 rfl)).trans ((funext (hA_c226 2 rfl)).trans (((show A56 2 = A47 2 from (eA56 2))).trans (((show A47 2 = A_c152 2 from (eA47 2))).trans ((funext (hA_c152 2 rfl)).trans ((funext (hA_43 2 rfl)).trans ((funext (hA23 2 rfl)).trans ((funext (hA_c30 2 rfl)).trans ((funext (hA_4 2 rfl)).trans (ew2)))))))))) (show (tc226_0) = 0 ∨ (tc226_0) = 1 from q_750 b82) (show 0 ≤ (u1_1) ∧ (u1_1) ≤ (n2) ∧ (n2) ≤ 65536 from h0) (show 0 ≤ (u1_4) ∧ (u1_4) ≤ 7 from h1) (show 0 ≤ (y47_1_1) ∧ (y47_1_1) ≤ (m47_2) ∧ (m47_2) ≤ 65536 from pz47_0) (show 0 ≤ (y56_1_1) ∧ (y56_1_1) ≤ (m56_2) ∧ (m56_2) ≤ 65536 from pz56_0) (show (u1_1) ≤ (u1_1) from q_43) (show (u1_4) = 0 ∧ (u1_3) = 0 ∧ (u1_2) = 0 from q_3802 h8) (show DSR ((tc226_0)) (DSC (wtF ((w18)) (((u0_3)))) (lzN ((w18)) 256)) (sc ((w2)) 0 ((u1_1))) by assumption))
                    · refine Ew_of (pcₚ := 267) (fun _ => x_aload_n rfl lc261_1) ?_
                      refine Ew_of (pcₚ := 269) (fun _ => x_aload rfl lc261_4) ?_
                      refine v_g H (o := 5) (v := I (y56_1_1)) rfl rfl rfl rfl rfl (congrArg (fun z : Int => I z) ((((hS_c261 5 1 rfl).trans (hS_c226 5 1 rfl)).trans ((eF56 5 1).trans ey56_1_1)) : F_c261 5 1 = y56_1_1)) ?_
                      refine v_inv H (o := 1) rfl rfl rfl rfl rfl rfl (by rfl) (C159 (D := puc 1025 D56) (N := puc 1025 N56) (HW_subc H oz_F5cls_34 oz_F5cls_16) ((((hS_c261 1 0 rfl).trans (hS_c226 1 0 rfl))).trans (pf56_1_0)) (n2) ((congrArg (fun q : Nat => (q : Int)) (show N56 2 = N47 2 from (eN56 2))).trans ((congrArg (fun q : Nat => (q : Int)) (show N47 2 = N 2 from (eN47 2))).trans (en2))) (u1_1) ((((((((((hS_c261 1 1 rfl).trans (hS_c226 1 1 rfl)).trans ((show F56 1 1 = F47 1 1 from (eF56 1 1)))).trans ((show F47 1 1 = F_c152 1 1 from (eF47 1 1)))).trans (hS_c152 1 1 rfl)).trans (hS_43 1 1 rfl)).trans (hS_c30 1 1 rfl)).trans (hS_4 1 1 rfl)).trans (eu1_1))) (u1_2) ((((((((((hS_c261 1 2 rfl).trans (hS_c226 1 2 rfl)).trans ((show F56 1 2 = F47 1 2 from (eF56 1 2)))).trans ((show F47 1 2 = F_c152 1 2 from (eF47 1 2)))).trans (hS_c152 1 2 rfl)).trans (hS_43 1 2 rfl)).trans (hS_c30 1 2 rfl)).trans (hS_4 1 2 rfl)).trans (eu1_2))) (w2) ((funext (hA_c261 2 rfl)).trans ((funext (hA_c226 2 rfl)).trans (((show A56 2 = A47 2 from (eA56 2))).trans (((show A47 2 = A_c152 2 from (eA47 2))).trans ((funext (hA_c152 2 rfl)).trans ((funext (hA_43 2 rfl)).trans ((funext (hA23 2 rfl)).trans ((funext (hA_c30 2 rfl)).trans ((funext (hA_4 2 rfl)).trans (ew2)))))))))) (show inr (y56_1_1) from q_38 pz56_0) (show 0 ≤ (u1_1) ∧ (u1_1) ≤ (n2) ∧ (n2) ≤ 65536 from h0) (fun σ83 D83ₚ N83ₚ F83ₚ A83ₚ c83 s83 Hₚ Oₚ hD83 hN83 hS83 hA83 pm83_1 m83_1 em83_1 y83_0_1 ey83_0_1 y83_0_2 ey83_0_2 w83_1 ew83_1 pz83_0 pz83_1 pz83_2 pz83_3 => ⟨rfl, ?_⟩))
                      refine v_backMc (c := ((c + c47) + c56)) (s := ((s + s47) + s56)) H oz_F5cls_34 oz_F5cls_16 Hₚ Oₚ hD83 oz_F5cls_35 (fun D83 N83 F83 A83 H Oₚ eD83 eN83 eF83 eA83 => ?_)
                      have O := OUT_trans O Oₚ
                      -- Row.add
                      have cF83 : SF oz_F5clsl_9 F F83 := SF_trans (cF_c261) (SF_gluc (ι := oz_F5clsl_4) oz_F5cls_16 hS83 eF83 (by decide +kernel)) (any_sub (lₚ := [(1, 0), (1, 1), (1, 2)]) (by decide +kernel))
                      have mF83 := SFm_of cF83 oz_F5cls_46
                      have cA83 : SA oz_F5clsl_10 A A83 := SA_trans (cA_c261) (SA_gluc (ι := oz_F5clsl_4) oz_F5cls_16 hA83 eA83 (by decide +kernel)) (any_subA (lₚ := [2]) (by decide +kernel))
                      have mA83 := SAm_of cA83 oz_F5cls_47
                      have cD83 : SD oz_F5clsl_11 D D83 := SD_trans (cD56) (SD_gluc (ι := oz_F5clsl_4) oz_F5cls_16 hD83 eD83 (by decide +kernel)) (any_subA (lₚ := [2]) (by decide +kernel))
                      have mD83 := SDm_of cD83 oz_F5cls_48
                      have cN83 : SD oz_F5clsl_11 N N83 := SD_trans (cN56) (SD_gluc (ι := oz_F5clsl_4) oz_F5cls_16 hN83 eN83 (by decide +kernel)) (any_subA (lₚ := [2]) (by decide +kernel))
                      have mN83 := SDm_of cN83 oz_F5cls_48
                      have pf83_1_0 : F83 1 0 = (D83 2 : Int) := (eF83 1 0).trans (pm83_1.trans (congrArg (fun q : Nat => (q : Int)) (eD83 2).symm))
                      have pf83_3_0 : F83 3 0 = (D83 4 : Int) := ((show F83 3 0 = F_c261 3 0 from (eF83 3 0))).trans (((((hS_c261 3 0 rfl).trans (hS_c226 3 0 rfl))).trans (pf56_3_0)).trans (congrArg (fun q : Nat => (q : Int)) ((show D83 4 = D56 4 from (eD83 4))).symm))
                      have pf83_5_0 : F83 5 0 = (D83 6 : Int) := ((show F83 5 0 = F_c261 5 0 from (eF83 5 0))).trans (((((hS_c261 5 0 rfl).trans (hS_c226 5 0 rfl))).trans (pf56_5_0)).trans (congrArg (fun q : Nat => (q : Int)) ((show D83 6 = D56 6 from (eD83 6))).symm))
                      have r84 : (0 : Int) ≤ m83_1 ∧ m83_1 ≤ 1000000 := nleE (H.nle 2 (ltn len_V104_Row_oz_F5cls rfl)) (show (N83 2 : Int) = m83_1 from (congrArg (fun q : Nat => (q : Int)) (eN83 2)).trans em83_1)
                      have r85 : (-2147483648 : Int) ≤ y83_0_1 ∧ y83_0_1 ≤ 2147483647 := rngE (show (-2147483648 : Int) ≤ F83 1 1 ∧ F83 1 1 ≤ 2147483647 from H.krg 1 1 (ltn len_V104_Row_oz_F5cls rfl)) (show F83 1 1 = y83_0_1 from ((eF83 1 1).trans ey83_0_1))
                      have r86 : (0 : Int) ≤ y83_0_2 ∧ y83_0_2 ≤ 1 := rngE (show (0 : Int) ≤ F83 1 2 ∧ F83 1 2 ≤ 1 from H.krg 1 2 (ltn len_V104_Row_oz_F5cls rfl)) (show F83 1 2 = y83_0_2 from ((eF83 1 2).trans ey83_0_2))
                      have hr1 := pz83_3
                      refine Ew_of (pcₚ := 276) (fun _ => x_aload_n rfl lc261_1) ?_
                      refine Ew_of (pcₚ := 278) (fun _ => x_aload rfl lc261_4) ?_
                      refine Ew_stk (show ([.ref (D56 5), .ref (D56 1)] : List Value) = [.ref (D83 5), .ref (D83 1)] by rw [show D83 1 = D56 1 from ((show D83 1 = D56 1 from (eD83 1).trans (hD83 0 rfl))), show D83 5 = D56 5 from ((show D83 5 = D56 5 from (eD83 5)))]) ?_
                      refine v_g H (o := 5) (v := .ref (D83 6)) rfl rfl rfl rfl rfl (vrf (pf83_5_0)) ?_
                      refine Ew_of (pcₚ := 282) (fun _ => x_iconst rfl) ?_
                      refine Ew_of (pcₚ := 284) (fun _ => x_aload rfl lc261_4) ?_
                      refine Ew_stk (congrArg (fun qz : Nat => ([.ref qz, I (0), .ref (D83 6), .ref (D83 1)] : List Value)) (show D83 5 = D56 5 from ((show D83 5 = D56 5 from (eD83 5)))).symm) ?_
                      refine v_g H (o := 5) (v := I (y56_1_1)) rfl rfl rfl rfl rfl (congrArg (fun z : Int => I z) ((((((show F83 5 1 = F_c261 5 1 from (eF83 5 1))).trans (hS_c261 5 1 rfl)).trans (hS_c226 5 1 rfl)).trans ((eF56 5 1).trans ey56_1_1)) : F83 5 1 = y56_1_1)) ?_
                      refine v_inv H (o := 1) rfl rfl rfl rfl rfl rfl (by rfl) (C161_Br (D := puc 527361 D83) (N := puc 527361 N83) (HW_subc H oz_F5cls_44 oz_F5cls_53) (pf83_1_0) (m56_2) ((congrArg (fun q : Nat => (q : Int)) (show N83 6 = N56 6 from (eN83 6))).trans ((congrArg (fun q : Nat => (q : Int)) (eN56 6)).trans em56_2)) (m83_1) ((congrArg (fun q : Nat => (q : Int)) (eN83 2)).trans em83_1) (y83_0_1) (((eF83 1 1).trans ey83_0_1)) (y83_0_2) (((eF83 1 2).trans ey83_0_2)) (w56_2) (((show A83 6 = A_c261 6 from (eA83 6))).trans ((funext (hA_c261 6 rfl)).trans ((funext (hA_c226 6 rfl)).trans ((eA56 6).trans ew56_2)))) (w83_1) ((eA83 2).trans ew83_1) (show inr (0) from q_2) (show inr (y56_1_1) from q_38 pz56_0) (show 0 ≤ (y83_0_1) ∧ (y83_0_1) ≤ (m83_1) ∧ (m83_1) ≤ 65536 from pz83_0) (show (y56_1_1) < 0 ∨ 0 ≤ (0) ∧ (0) + (y56_1_1) ≤ (m56_2) from q_2944 pz56_0) (fun σ87 D87ₚ N87ₚ F87ₚ A87ₚ c87 s87 Hₚ Oₚ hD87 hN87 hS87 hA87 pm87_2 m87_2 em87_2 y87_0_1 ey87_0_1 y87_0_2 ey87_0_2 w87_2 ew87_2 pz87_0 pz87_1 pz87_2 pz87_3 => ⟨rfl, ?_⟩))
                      refine v_backMc (c := (((c + c47) + c56) + c83)) (s := (((s + s47) + s56) + s83)) H oz_F5cls_44 oz_F5cls_53 Hₚ Oₚ hD87 oz_F5cls_45 (fun D87 N87 F87 A87 H Oₚ eD87 eN87 eF87 eA87 => ?_)
                      have O := OUT_trans O Oₚ
                      -- Row.addPart
                      have cF87 : SF oz_F5clsl_9 F F87 := SF_trans (cF83) (SF_gluc (ι := oz_F5clsl_16) oz_F5cls_53 hS87 eF87 (by decide +kernel)) (any_sub (lₚ := [(1, 0), (1, 1), (1, 2)]) (by decide +kernel))
                      have mF87 := SFm_of cF87 oz_F5cls_46
                      have cA87 : SA oz_F5clsl_10 A A87 := SA_trans (cA83) (SA_gluc (ι := oz_F5clsl_16) oz_F5cls_53 hA87 eA87 (by decide +kernel)) (any_subA (lₚ := [2]) (by decide +kernel))
                      have mA87 := SAm_of cA87 oz_F5cls_47
                      have cD87 : SD oz_F5clsl_11 D D87 := SD_trans (cD83) (SD_gluc (ι := oz_F5clsl_16) oz_F5cls_53 hD87 eD87 (by decide +kernel)) (any_subA (lₚ := [2]) (by decide +kernel))
                      have mD87 := SDm_of cD87 oz_F5cls_48
                      have cN87 : SD oz_F5clsl_11 N N87 := SD_trans (cN83) (SD_gluc (ι := oz_F5clsl_16) oz_F5cls_53 hN87 eN87 (by decide +kernel)) (any_subA (lₚ := [2]) (by decide +kernel))
                      have mN87 := SDm_of cN87 oz_F5cls_48
                      have pf87_1_0 : F87 1 0 = (D87 2 : Int) := (eF87 1 0).trans (pm87_2.trans (congrArg (fun q : Nat => (q : Int)) (eD87 2).symm))
                      have pf87_3_0 : F87 3 0 = (D87 4 : Int) := ((show F87 3 0 = F83 3 0 from (eF87 3 0))).trans ((pf83_3_0).trans (congrArg (fun q : Nat => (q : Int)) ((show D87 4 = D83 4 from (eD87 4))).symm))
                      have pf87_5_0 : F87 5 0 = (D87 6 : Int) := ((show F87 5 0 = F83 5 0 from (eF87 5 0))).trans ((pf83_5_0).trans (congrArg (fun q : Nat => (q : Int)) ((show D87 6 = D83 6 from (eD87 6).trans (hD87 1 rfl))).symm))
                      have r88 : (0 : Int) ≤ m87_2 ∧ m87_2 ≤ 1000000 := nleE (H.nle 2 (ltn len_V104_Row_oz_F5cls rfl)) (show (N87 2 : Int) = m87_2 from (congrArg (fun q : Nat => (q : Int)) (eN87 2)).trans em87_2)
                      have r89 : (-2147483648 : Int) ≤ y87_0_1 ∧ y87_0_1 ≤ 2147483647 := rngE (show (-2147483648 : Int) ≤ F87 1 1 ∧ F87 1 1 ≤ 2147483647 from H.krg 1 1 (ltn len_V104_Row_oz_F5cls rfl)) (show F87 1 1 = y87_0_1 from ((eF87 1 1).trans ey87_0_1))
                      have r90 : (0 : Int) ≤ y87_0_2 ∧ y87_0_2 ≤ 1 := rngE (show (0 : Int) ≤ F87 1 2 ∧ F87 1 2 ≤ 1 from H.krg 1 2 (ltn len_V104_Row_oz_F5cls rfl)) (show F87 1 2 = y87_0_2 from ((eF87 1 2).trans ey87_0_2))
                      refine Ew_of (pcₚ := 292) (fun _ => x_iload rfl lc261_5) ?_
                      have : DSR ((tc226_0)) (DSC (wtF ((w18)) (((u0_3)))) (lzN ((w18)) 256)) (sc ((w87_2)) 0 ((y87_0_1))) := by first | exact .inr ⟨by omega, by rw [← hDS]; exact DSC_n (BYO_0 hBY (by omega)) (NDO_n hND (BYO_0 hBY (by omega)))⟩ | exact .inl ⟨by omega, by rw [← hDS, DSC_s (BYO_1 hBY (by omega)) (NDO_s hND), (DSS_of hr1 (pz87_3 (by omega)) (by omega) (by omega) hT_ hTl_ (by omega)).1]⟩
                      have hbu0 : (y87_0_2) = 0 := by first | omega | exact (DSS_of hr1 (pz87_3 (by omega)) (by omega) (by omega) hT_ hTl_ (by omega)).2
                      exact w_ireturn rfl (k (tc226_0) _ _ _ _ _ _ _ H O (cD87) (cN87) (cF87) (cA87) (pf87_1_0) (pf87_3_0) (pf87_5_0) (m87_2) ((congrArg (fun q : Nat => (q : Int)) (eN87 2)).trans em87_2) (m47_2) ((congrArg (fun q : Nat => (q : Int)) (show N87 4 = N83 4 from (eN87 4))).trans ((congrArg (fun q : Nat => (q : Int)) (show N83 4 = N56 4 from (eN83 4))).trans ((congrArg (fun q : Nat => (q : Int)) (show N56 4 = N47 4 from (eN56 4))).trans ((congrArg (fun q : Nat => (q : Int)) (eN47 4)).trans em47_2)))) (m56_2) ((congrArg (fun q : Nat => (q : Int)) (show N87 6 = N83 6 from (eN87 6).trans (hN87 1 rfl))).trans ((congrArg (fun q : Nat => (q : Int)) (show N83 6 = N56 6 from (eN83 6))).trans ((congrArg (fun q : Nat => (q : Int)) (eN56 6)).trans em56_2))) (y87_0_1) (((eF87 1 1).trans ey87_0_1)) (y87_0_2) (((eF87 1 2).trans ey87_0_2)) (u1_3) (((((((((((((show F87 1 3 = F83 1 3 from (eF87 1 3).trans (hS87 0 3 rfl))).trans ((show F83 1 3 = F_c261 1 3 from (eF83 1 3).trans (hS83 0 3 rfl)))).trans (hS_c261 1 3 rfl)).trans (hS_c226 1 3 rfl)).trans ((show F56 1 3 = F47 1 3 from (eF56 1 3)))).trans ((show F47 1 3 = F_c152 1 3 from (eF47 1 3)))).trans (hS_c152 1 3 rfl)).trans (hS_43 1 3 rfl)).trans (hS_c30 1 3 rfl)).trans (hS_4 1 3 rfl)).trans (eu1_3))) (u1_4) (((((((((((((show F87 1 4 = F83 1 4 from (eF87 1 4).trans (hS87 0 4 rfl))).trans ((show F83 1 4 = F_c261 1 4 from (eF83 1 4).trans (hS83 0 4 rfl)))).trans (hS_c261 1 4 rfl)).trans (hS_c226 1 4 rfl)).trans ((show F56 1 4 = F47 1 4 from (eF56 1 4)))).trans ((show F47 1 4 = F_c152 1 4 from (eF47 1 4)))).trans (hS_c152 1 4 rfl)).trans (hS_43 1 4 rfl)).trans (hS_c30 1 4 rfl)).trans (hS_4 1 4 rfl)).trans (eu1_4))) (y47_1_1) ((((((((show F87 3 1 = F83 3 1 from (eF87 3 1))).trans ((show F83 3 1 = F_c261 3 1 from (eF83 3 1)))).trans (hS_c261 3 1 rfl)).trans (hS_c226 3 1 rfl)).trans ((show F56 3 1 = F47 3 1 from (eF56 3 1)))).trans ((eF47 3 1).trans ey47_1_1))) (y56_1_1) (((((((show F87 5 1 = F83 5 1 from (eF87 5 1))).trans ((show F83 5 1 = F_c261 5 1 from (eF83 5 1)))).trans (hS_c261 5 1 rfl)).trans (hS_c226 5 1 rfl)).trans ((eF56 5 1).trans ey56_1_1))) (w87_2) ((eA87 2).trans ew87_2) (show (tc226_0) = 0 ∨ (tc226_0) = 1 by omega) (show 0 ≤ (y87_0_1) ∧ (y87_0_1) ≤ (m87_2) ∧ (m87_2) ≤ 65536 from pz87_0) (show 0 ≤ (u1_4) ∧ (u1_4) ≤ 7 from h1) (show 0 ≤ (y47_1_1) ∧ (y47_1_1) ≤ (m47_2) ∧ (m47_2) ≤ 65536 from pz47_0) (show 0 ≤ (y56_1_1) ∧ (y56_1_1) ≤ (m56_2) ∧ (m56_2) ≤ 65536 from pz56_0) (show (u1_1) ≤ (y87_0_1) from q_3804 h8 pz87_0) (show (u1_4) = 0 ∧ (u1_3) = 0 ∧ (y87_0_2) = 0 from q_3803 h8 hbu0) (show DSR ((tc226_0)) (DSC (wtF ((w18)) (((u0_3)))) (lzN ((w18)) 256)) (sc ((w87_2)) 0 ((y87_0_1))) by assumption))
                  have hBY : BYO ((tc226_0)) ((w43_16)) qk := by first | exact .inr ⟨by omega, fun q => by have q1 := q.1; rcases hAl with ⟨a, b⟩ | ⟨a, b⟩; (exact q.2.1 b); omega⟩ | (by_cases z : (tc226_0) = 1; (exact .inl ⟨z, by omega, hnA, by omega⟩); exact .inr ⟨by omega, fun q => by have := q.2.2; omega⟩)
                  refine Ew_of (pcₚ := 229) (fun _ => x_iload_n rfl (rk_o (lc226_2) rfl rfl)) ?_
                  refine Ew_of (pcₚ := 232) (fun _ => x_sipush (z := 128) rfl (by decide)) ?_
                  refine w_icmpgt (t := 261) rfl rfl (show inr (x4_2) from j4_0) (show inr (128) from q_313) (fun b91 => ?_) (fun b91 => ?_)
                  · have : NDO ((w43_16)) qk := by first | exact .inl (by omega) | exact .inr ⟨BYO_1 hBY (by omega), by omega⟩
                    exact hc261  _ _ _ _  (rk_o (lc226_1) rfl rfl) (rk_o (lc226_4) rfl rfl) (rk_s) H O (SF_refl) (SA_refl)     (show NDO ((w43_16)) qk by assumption) (hBY)
                  · refine Ew_of (pcₚ := 237) (fun _ => x_iload rfl rk_s) ?_
                    have hc253 : ∀ (ls : rO) (σ : rS) (F_c253 : hF) (A_c253 : hA) , rlook ls 0 = some (.ref (D56 0)) → rlook ls 1 = some (.ref (D56 1)) → rlook ls 2 = some (I (x4_2)) → HW V104_Row σ D56 N56 F_c253 A_c253 → OUT (V104_Row).length D N σE c s D56 N56 σ ((c + c47) + c56) ((s + s47) + s56) → SF [] F_c226 F_c253 → SA [] A_c226 A_c253 → (((tc226_0) = (0)) ∨ ((tc226_0) ≠ (0) ∧ (((x4_2 + 1) / 2)) ≤ (y56_1_1))) → Ew 104 (d + 3) 253 ls [] σ ((c + c47) + c56) ((s + s47) + s56) Q := by
                     as_aux_lemma =>
                      intro  ls σ F_c253 A_c253  lc253_0 lc253_1 lc253_2 H O hS_c253 hA_c253     jc253_0
                      have cF_c253 : SF oz_F5clsl_9 F F_c253 := SF_trans (cF_c226) hS_c253 (any_sub (by decide +kernel))
                      have mF_c253 := SFm_of cF_c253 oz_F5cls_46
                      have cA_c253 : SA oz_F5clsl_10 A A_c253 := SA_trans (cA_c226) hA_c253 (any_subA (by decide +kernel))
                      have mA_c253 := SAm_of cA_c253 oz_F5cls_47
                      refine Ew_of (pcₚ := 254) (fun _ => x_aload_n rfl lc253_0) ?_
                      refine Ew_of (pcₚ := 255) (fun _ => x_aload_n rfl lc253_1) ?_
                      refine Ew_of (pcₚ := 256) (fun _ => x_iload_n rfl lc253_2) ?_
                      refine v_inv H (o := 0) rfl rfl rfl rfl rfl rfl (by rfl) (C105_Row (D := puc 2148008448 D56) (N := puc 2148008448 N56) (HW_subc H oz_F5cls_38 oz_F5cls_50) ((((hS_c253 1 0 rfl).trans (hS_c226 1 0 rfl))).trans (pf56_1_0)) ((mF_c253 0 4 rfl).trans ((pf16).trans (congrArg (fun q : Nat => (q : Int)) (mD56 16 rfl).symm))) (n2) ((congrArg (fun q : Nat => (q : Int)) (show N56 2 = N47 2 from (eN56 2))).trans ((congrArg (fun q : Nat => (q : Int)) (show N47 2 = N 2 from (eN47 2))).trans (en2))) (n16) ((congrArg (fun q : Nat => (q : Int)) (mN56 16 rfl)).trans (en16)) (u1_1) ((((((((((hS_c253 1 1 rfl).trans (hS_c226 1 1 rfl)).trans ((show F56 1 1 = F47 1 1 from (eF56 1 1)))).trans ((show F47 1 1 = F_c152 1 1 from (eF47 1 1)))).trans (hS_c152 1 1 rfl)).trans (hS_43 1 1 rfl)).trans (hS_c30 1 1 rfl)).trans (hS_4 1 1 rfl)).trans (eu1_1))) (u1_2) ((((((((((hS_c253 1 2 rfl).trans (hS_c226 1 2 rfl)).trans ((show F56 1 2 = F47 1 2 from (eF56 1 2)))).trans ((show F47 1 2 = F_c152 1 2 from (eF47 1 2)))).trans (hS_c152 1 2 rfl)).trans (hS_43 1 2 rfl)).trans (hS_c30 1 2 rfl)).trans (hS_4 1 2 rfl)).trans (eu1_2))) (u1_3) ((((((((((hS_c253 1 3 rfl).trans (hS_c226 1 3 rfl)).trans ((show F56 1 3 = F47 1 3 from (eF56 1 3)))).trans ((show F47 1 3 = F_c152 1 3 from (eF47 1 3)))).trans (hS_c152 1 3 rfl)).trans (hS_43 1 3 rfl)).trans (hS_c30 1 3 rfl)).trans (hS_4 1 3 rfl)).trans (eu1_3))) (u1_4) ((((((((((hS_c253 1 4 rfl).trans (hS_c226 1 4 rfl)).trans ((show F56 1 4 = F47 1 4 from (eF56 1 4)))).trans ((show F47 1 4 = F_c152 1 4 from (eF47 1 4)))).trans (hS_c152 1 4 rfl)).trans (hS_43 1 4 rfl)).trans (hS_c30 1 4 rfl)).trans (hS_4 1 4 rfl)).trans (eu1_4))) (w2) ((funext (hA_c253 2 rfl)).trans ((funext (hA_c226 2 rfl)).trans (((show A56 2 = A47 2 from (eA56 2))).trans (((show A47 2 = A_c152 2 from (eA47 2))).trans ((funext (hA_c152 2 rfl)).trans ((funext (hA_43 2 rfl)).trans ((funext (hA23 2 rfl)).trans ((funext (hA_c30 2 rfl)).trans ((funext (hA_4 2 rfl)).trans (ew2)))))))))) (w43_16) ((funext (hA_c253 16 rfl)).trans ((funext (hA_c226 16 rfl)).trans (((show A56 16 = A47 16 from (eA56 16).trans (funext (hA56 12 rfl)))).trans (((show A47 16 = A_c152 16 from (eA47 16).trans (funext (hA47 12 rfl)))).trans ((funext (hA_c152 16 rfl)).trans (ew43_16)))))) (show inr (x4_2) from j4_0) (show 0 ≤ (u1_1) ∧ (u1_1) ≤ (n2) ∧ (n2) ≤ 65536 from h0) (show 0 ≤ (u1_4) ∧ (u1_4) ≤ 7 from h1) (show 0 ≤ (x4_2) ∧ (x4_2) ≤ 128 from q_3806 b91 hl2) (show (n16) = 256 from q_3805 h5) (show (u1_1) = 0 ∧ (u1_4) = 0 ∧ (u1_3) = 0 ∧ (u1_2) = 0 from h8) (hwg) (fun σ92 D92ₚ N92ₚ F92ₚ A92ₚ c92 s92 Hₚ Oₚ hD92 hN92 hS92 hA92 pm92_2 m92_2 em92_2 y92_1_1 ey92_1_1 y92_1_2 ey92_1_2 y92_1_3 ey92_1_3 y92_1_4 ey92_1_4 w92_2 ew92_2 pz92_0 pz92_1 pz92_2 pz92_3 pz92_4 => ⟨rfl, ?_⟩))
                      refine v_backMc (c := ((c + c47) + c56)) (s := ((s + s47) + s56)) H oz_F5cls_38 oz_F5cls_50 Hₚ Oₚ hD92 oz_F5cls_39 (fun D92 N92 F92 A92 H Oₚ eD92 eN92 eF92 eA92 => ?_)
                      have O := OUT_trans O Oₚ
                      -- Codes.describeDirectly
                      have cF92 : SF oz_F5clsl_9 F F92 := SF_trans (cF_c253) (SF_gluc (ι := oz_F5clsl_13) oz_F5cls_50 hS92 eF92 (by decide +kernel)) (any_sub (lₚ := [(1, 0), (1, 1), (1, 2), (1, 3), (1, 4)]) (by decide +kernel))
                      have mF92 := SFm_of cF92 oz_F5cls_46
                      have cA92 : SA oz_F5clsl_10 A A92 := SA_trans (cA_c253) (SA_gluc (ι := oz_F5clsl_13) oz_F5cls_50 hA92 eA92 (by decide +kernel)) (any_subA (lₚ := [2]) (by decide +kernel))
                      have mA92 := SAm_of cA92 oz_F5cls_47
                      have cD92 : SD oz_F5clsl_11 D D92 := SD_trans (cD56) (SD_gluc (ι := oz_F5clsl_13) oz_F5cls_50 hD92 eD92 (by decide +kernel)) (any_subA (lₚ := [2]) (by decide +kernel))
                      have mD92 := SDm_of cD92 oz_F5cls_48
                      have cN92 : SD oz_F5clsl_11 N N92 := SD_trans (cN56) (SD_gluc (ι := oz_F5clsl_13) oz_F5cls_50 hN92 eN92 (by decide +kernel)) (any_subA (lₚ := [2]) (by decide +kernel))
                      have mN92 := SDm_of cN92 oz_F5cls_48
                      have pf92_1_0 : F92 1 0 = (D92 2 : Int) := (eF92 1 0).trans (pm92_2.trans (congrArg (fun q : Nat => (q : Int)) (eD92 2).symm))
                      have pf92_3_0 : F92 3 0 = (D92 4 : Int) := ((show F92 3 0 = F_c253 3 0 from (eF92 3 0))).trans (((((hS_c253 3 0 rfl).trans (hS_c226 3 0 rfl))).trans (pf56_3_0)).trans (congrArg (fun q : Nat => (q : Int)) ((show D92 4 = D56 4 from (eD92 4))).symm))
                      have pf92_5_0 : F92 5 0 = (D92 6 : Int) := ((show F92 5 0 = F_c253 5 0 from (eF92 5 0))).trans (((((hS_c253 5 0 rfl).trans (hS_c226 5 0 rfl))).trans (pf56_5_0)).trans (congrArg (fun q : Nat => (q : Int)) ((show D92 6 = D56 6 from (eD92 6))).symm))
                      have r93 : (0 : Int) ≤ m92_2 ∧ m92_2 ≤ 1000000 := nleE (H.nle 2 (ltn len_V104_Row_oz_F5cls rfl)) (show (N92 2 : Int) = m92_2 from (congrArg (fun q : Nat => (q : Int)) (eN92 2)).trans em92_2)
                      have r94 : (-2147483648 : Int) ≤ y92_1_1 ∧ y92_1_1 ≤ 2147483647 := rngE (show (-2147483648 : Int) ≤ F92 1 1 ∧ F92 1 1 ≤ 2147483647 from H.krg 1 1 (ltn len_V104_Row_oz_F5cls rfl)) (show F92 1 1 = y92_1_1 from ((eF92 1 1).trans ey92_1_1))
                      have r95 : (0 : Int) ≤ y92_1_2 ∧ y92_1_2 ≤ 1 := rngE (show (0 : Int) ≤ F92 1 2 ∧ F92 1 2 ≤ 1 from H.krg 1 2 (ltn len_V104_Row_oz_F5cls rfl)) (show F92 1 2 = y92_1_2 from ((eF92 1 2).trans ey92_1_2))
                      have r96 : (-2147483648 : Int) ≤ y92_1_3 ∧ y92_1_3 ≤ 2147483647 := rngE (show (-2147483648 : Int) ≤ F92 1 3 ∧ F92 1 3 ≤ 2147483647 from H.krg 1 3 (ltn len_V104_Row_oz_F5cls rfl)) (show F92 1 3 = y92_1_3 from ((eF92 1 3).trans ey92_1_3))
                      have r97 : (-2147483648 : Int) ≤ y92_1_4 ∧ y92_1_4 ≤ 2147483647 := rngE (show (-2147483648 : Int) ≤ F92 1 4 ∧ F92 1 4 ≤ 2147483647 from H.krg 1 4 (ltn len_V104_Row_oz_F5cls rfl)) (show F92 1 4 = y92_1_4 from ((eF92 1 4).trans ey92_1_4))
                      refine Ew_of (pcₚ := 260) (fun _ => x_iconst rfl) ?_
                      have : DSR ((1)) (DSC (wtF ((w18)) (((u0_3)))) (lzN ((w18)) 256)) (sc ((w92_2)) 0 ((y92_1_1))) := .inl ⟨rfl, by rw [pz92_4, ← hqk, ← hDS]; exact DSC_d (by omega) (by first | exact .inl (BYO_0 hBY (by omega)) | exact .inr (by omega))⟩
                      exact w_ireturn rfl (k (1) _ _ _ _ _ _ _ H O (cD92) (cN92) (cF92) (cA92) (pf92_1_0) (pf92_3_0) (pf92_5_0) (m92_2) ((congrArg (fun q : Nat => (q : Int)) (eN92 2)).trans em92_2) (m47_2) ((congrArg (fun q : Nat => (q : Int)) (show N92 4 = N56 4 from (eN92 4))).trans ((congrArg (fun q : Nat => (q : Int)) (show N56 4 = N47 4 from (eN56 4))).trans ((congrArg (fun q : Nat => (q : Int)) (eN47 4)).trans em47_2))) (m56_2) ((congrArg (fun q : Nat => (q : Int)) (show N92 6 = N56 6 from (eN92 6))).trans ((congrArg (fun q : Nat => (q : Int)) (eN56 6)).trans em56_2)) (y92_1_1) (((eF92 1 1).trans ey92_1_1)) (y92_1_2) (((eF92 1 2).trans ey92_1_2)) (y92_1_3) (((eF92 1 3).trans ey92_1_3)) (y92_1_4) (((eF92 1 4).trans ey92_1_4)) (y47_1_1) (((((((show F92 3 1 = F_c253 3 1 from (eF92 3 1))).trans (hS_c253 3 1 rfl)).trans (hS_c226 3 1 rfl)).trans ((show F56 3 1 = F47 3 1 from (eF56 3 1)))).trans ((eF47 3 1).trans ey47_1_1))) (y56_1_1) ((((((show F92 5 1 = F_c253 5 1 from (eF92 5 1))).trans (hS_c253 5 1 rfl)).trans (hS_c226 5 1 rfl)).trans ((eF56 5 1).trans ey56_1_1))) (w92_2) ((eA92 2).trans ew92_2) (show (1) = 0 ∨ (1) = 1 by first | exact q_49 | omega) (show 0 ≤ (y92_1_1) ∧ (y92_1_1) ≤ (m92_2) ∧ (m92_2) ≤ 65536 from pz92_0) (show 0 ≤ (y92_1_4) ∧ (y92_1_4) ≤ 7 from pz92_1) (show 0 ≤ (y47_1_1) ∧ (y47_1_1) ≤ (m47_2) ∧ (m47_2) ≤ 65536 from pz47_0) (show 0 ≤ (y56_1_1) ∧ (y56_1_1) ≤ (m56_2) ∧ (m56_2) ≤ 65536 from pz56_0) (show (u1_1) ≤ (y92_1_1) from pz92_2) (show (y92_1_4) = 0 ∧ (y92_1_3) = 0 ∧ (y92_1_2) = 0 from pz92_3) (show DSR ((1)) (DSC (wtF ((w18)) (((u0_3)))) (lzN ((w18)) 256)) (sc ((w92_2)) 0 ((y92_1_1))) by assumption))
                    refine w_ifeq (t := 253) rfl rfl (show inr (tc226_0) from jc226_0) (fun b98 => ?_) (fun b98 => ?_)
                    · exact hc253  _ _ _ _  (rk_o (lc226_0) rfl rfl) (rk_o (lc226_1) rfl rfl) (rk_o (lc226_2) rfl rfl) H O (SF_refl) (SA_refl)     (show ((tc226_0) = (0)) ∨ ((tc226_0) ≠ (0) ∧ (((x4_2 + 1) / 2)) ≤ (y56_1_1)) from q_3807 b98)
                    · refine Ew_of (pcₚ := 241) (fun _ => x_iload_n rfl (rk_o (lc226_2) rfl rfl)) ?_
                      refine Ew_of (pcₚ := 242) (fun _ => x_iconst rfl) ?_
                      refine w_iadd rfl ?_
                      refine Ew_of (pcₚ := 244) (fun _ => x_iconst rfl) ?_
                      refine w_idiv rfl (show inr ((x4_2 + 1)) ∧ 0 ≤ (x4_2 + 1) from q_3808 b91 hl2) (show inr (2) ∧ 0 < 2 from q_1234) ?_
                      refine Ew_of (pcₚ := 247) (fun _ => x_aload rfl (rk_o (lc226_4) rfl rfl)) ?_
                      refine v_g H (o := 5) (v := I (y56_1_1)) rfl rfl rfl rfl rfl (congrArg (fun z : Int => I z) (((hS_c226 5 1 rfl).trans ((eF56 5 1).trans ey56_1_1)) : F_c226 5 1 = y56_1_1)) ?_
                      refine w_icmpgt (t := 261) rfl rfl (show inr (((x4_2 + 1) / 2)) from q_3809 b91 hl2) (show inr (y56_1_1) from q_38 pz56_0) (fun b99 => ?_) (fun b99 => ?_)
                      · have : NDO ((w43_16)) qk := by first | exact .inl (by omega) | exact .inr ⟨BYO_1 hBY (by omega), by omega⟩
                        exact hc261  _ _ _ _  (rk_o (lc226_1) rfl rfl) (rk_o (lc226_4) rfl rfl) (rk_s) H O (SF_refl) (SA_refl)     (show NDO ((w43_16)) qk by assumption) (hBY)
                      · exact hc253  _ _ _ _  (rk_o (lc226_0) rfl rfl) (rk_o (lc226_1) rfl rfl) (rk_o (lc226_2) rfl rfl) H O (SF_refl) (SA_refl)     (show ((tc226_0) = (0)) ∨ ((tc226_0) ≠ (0) ∧ (((x4_2 + 1) / 2)) ≤ (y56_1_1)) from q_3811 b98 b99)
                refine w_icmpge (t := 225) rfl rfl (show inr (y56_1_1) from q_38 pz56_0) (show inr (128) from q_313) (fun b100 => ?_) (fun b100 => ?_)
                · refine Ew_of (pcₚ := 226) (fun _ => x_iconst rfl) ?_
                  exact hc226 (0) _ _ _ _  ((rk_o (rk_o (lc152_0) rfl rfl) rfl rfl).trans (congrArg (fun q : Nat => some (Value.ref q)) (mD56 0 rfl).symm)) ((rk_o (rk_o (lc152_1) rfl rfl) rfl rfl).trans (congrArg (fun q : Nat => some (Value.ref q)) (mD56 1 rfl).symm)) (rk_o (rk_o (lc152_2) rfl rfl) rfl rfl) (rk_s) H O (SF_refl) (SA_refl)     (show inr (0) from q_2) (show ((y56_1_1) ≥ (128) ∧ (0) = (0)) ∨ ((y56_1_1) < (128) ∧ (0) = (1)) from q_3812 b100)
                · refine Ew_of (pcₚ := 222) (fun _ => x_iconst rfl) ?_
                  refine Ew_of (pcₚ := 226) (fun _ => x_goto rfl rfl) ?_
                  exact hc226 (1) _ _ _ _  ((rk_o (rk_o (lc152_0) rfl rfl) rfl rfl).trans (congrArg (fun q : Nat => some (Value.ref q)) (mD56 0 rfl).symm)) ((rk_o (rk_o (lc152_1) rfl rfl) rfl rfl).trans (congrArg (fun q : Nat => some (Value.ref q)) (mD56 1 rfl).symm)) (rk_o (rk_o (lc152_2) rfl rfl) rfl rfl) (rk_s) H O (SF_refl) (SA_refl)     (show inr (1) from q_135) (show ((y56_1_1) ≥ (128) ∧ (1) = (0)) ∨ ((y56_1_1) < (128) ∧ (1) = (1)) from q_3813 b100)
          refine w_icmplt (t := 151) rfl rfl (show inr (x4_2) from j4_0) (show inr (2) from q_122) (fun b101 => ?_) (fun b101 => ?_)
          · refine Ew_of (pcₚ := 152) (fun _ => x_iconst rfl) ?_
            exact hc152 (0) _ _ _ _  (rk_o (l43_0) rfl rfl) (rk_o (l43_1) rfl rfl) (rk_o (l43_2) rfl rfl) (rk_s) H O (SF_refl) (SA_refl)     (show inr (0) from q_2) (show ((x4_2) < (2) ∧ (0) = (0)) ∨ ((x4_2) ≥ (2) ∧ (x43_3) ≠ (0) ∧ (0) = (0)) ∨ ((x4_2) ≥ (2) ∧ (x43_3) = (0) ∧ (0) = (1)) from q_3814 b101)
          · refine Ew_of (pcₚ := 144) (fun _ => x_iload_n rfl (rk_o (l43_3) rfl rfl)) ?_
            refine w_ifne (t := 151) rfl rfl (show inr (x43_3) from j43_0) (fun b102 => ?_) (fun b102 => ?_)
            · refine Ew_of (pcₚ := 152) (fun _ => x_iconst rfl) ?_
              exact hc152 (0) _ _ _ _  (rk_o (l43_0) rfl rfl) (rk_o (l43_1) rfl rfl) (rk_o (l43_2) rfl rfl) (rk_s) H O (SF_refl) (SA_refl)     (show inr (0) from q_2) (show ((x4_2) < (2) ∧ (0) = (0)) ∨ ((x4_2) ≥ (2) ∧ (x43_3) ≠ (0) ∧ (0) = (0)) ∨ ((x4_2) ≥ (2) ∧ (x43_3) = (0) ∧ (0) = (1)) from q_3815 b101 b102)
            · refine Ew_of (pcₚ := 148) (fun _ => x_iconst rfl) ?_
              refine Ew_of (pcₚ := 152) (fun _ => x_goto rfl rfl) ?_
              exact hc152 (1) _ _ _ _  (rk_o (l43_0) rfl rfl) (rk_o (l43_1) rfl rfl) (rk_o (l43_2) rfl rfl) (rk_s) H O (SF_refl) (SA_refl)     (show inr (1) from q_135) (show ((x4_2) < (2) ∧ (1) = (0)) ∨ ((x4_2) ≥ (2) ∧ (x43_3) ≠ (0) ∧ (1) = (0)) ∨ ((x4_2) ≥ (2) ∧ (x43_3) = (0) ∧ (1) = (1)) from q_3816 b101 b102)
        · have hlb := hln ((x43_4)) (by omega) (by omega)
          obtain ⟨ql4, hql4⟩ : ∃ q : Int, q = (x43_4) := ⟨_, rfl⟩
          refine Ew_of (pcₚ := 50) (fun _ => x_aload_n rfl l43_0) ?_
          refine v_g H (o := 0) (v := .ref (D 16)) rfl rfl rfl rfl rfl (vrf ((mF_43 0 4 rfl).trans (pf16))) ?_
          refine Ew_of (pcₚ := 55) (fun _ => x_iload rfl l43_4) ?_
          refine Ew_of (pcₚ := 56) (fun _ => x_aload_n rfl l43_0) ?_
          refine v_g H (o := 0) (v := .ref (D 18)) rfl rfl rfl rfl rfl (vrf ((mF_43 0 0 rfl).trans (pf18))) ?_
          refine Ew_of (pcₚ := 61) (fun _ => x_iload rfl l43_4) ?_
          refine v_lI H (o := 18) rfl rfl rfl rfl (n := n18) (en18) (show 0 ≤ x43_4 ∧ x43_4 < n18 from q_3817 b24 h5 hl2 j43_2 r22) (fun v103 ev103 qv103 => ?_)
          have ev103 : (w18) (x43_4) = v103 := (congrFun ((funext (mA_43 18 rfl)).trans (ew18)) (x43_4)).symm.trans ev103
          have hc83 : ∀ (tc83_0 : Int), ∀ (ls : rO) (σ : rS) (F_c83 : hF) (A_c83 : hA) , rlook ls 0 = some (.ref (D 0)) → rlook ls 1 = some (.ref (D 1)) → rlook ls 2 = some (I (x4_2)) → rlook ls 3 = some (I (x43_3)) → rlook ls 4 = some (I (x43_4)) → HW V104_Row σ D N F_c83 A_c83 → OUT (V104_Row).length D N σE c s D N σ c s → SF [] F_43 F_c83 → SA [] A_43 A_c83 → (inr (tc83_0)) → (((v103) ≠ (0) ∧ -2147483648 ≤ ((w18) (x43_4)) ∧ ((w18) (x43_4)) ≤ 2147483647 ∧ (tc83_0) = (((u0_3 + 1) - (w18) (x43_4)))) ∨ ((v103) = (0) ∧ (tc83_0) = (0))) → Ew 104 (d + 3) 83 ls [I (tc83_0), I (x43_4), .ref (D 16)] σ c s Q := by
           as_aux_lemma =>
            intro tc83_0 ls σ F_c83 A_c83  lc83_0 lc83_1 lc83_2 lc83_3 lc83_4 H O hS_c83 hA_c83     jc83_0 jc83_1
            have cF_c83 : SF oz_F5clsl_9 F F_c83 := SF_trans (cF_43) hS_c83 (any_sub (by decide +kernel))
            have mF_c83 := SFm_of cF_c83 oz_F5cls_46
            have cA_c83 : SA oz_F5clsl_10 A A_c83 := SA_trans (cA_43) hA_c83 (any_subA (by decide +kernel))
            have mA_c83 := SAm_of cA_c83 oz_F5cls_47
            have hsb : 0 ≤ ((tc83_0) : Int) ∧ ((tc83_0) : Int) ≤ ((u0_3)) := by omega
            have hsc : 0 ≤ ((tc83_0) : Int) ∧ ((tc83_0) : Int) < 12 := q_3818 h6 hsb
            have hwq : ((tc83_0) : Int) = wtF ((w18)) (((u0_3))) ql4 := by rw [hql4]; have := wtF_eq ((w18)) (((u0_3))) ((x43_4)); omega
            obtain ⟨wv, hwv⟩ : ∃ wv, wv = ((tc83_0) : Int) := ⟨_, rfl⟩
            have hwl := WCN_le (j43_6) (by omega) hsc.1 hsc.2
            refine v_sI H (o := 16) (z := tc83_0) rfl rfl rfl rfl (n := n16) (en16) (show 0 ≤ x43_4 ∧ x43_4 < n16 from q_3819 b24 h5 hl2 j43_2 r20) (show inr (tc83_0) from jc83_0) (fun σ H Oₚ => ?_)
            have O := OUT_trans O Oₚ
            have cAu104 : SA oz_F5clsl_10 A (updA A_c83 16 (x43_4) (tc83_0)) := SA_upd (cA_c83) rfl
            have mAu104 := SAm_of cAu104 oz_F5cls_47
            refine Ew_of (pcₚ := 85) (fun _ => x_aload_n rfl lc83_0) ?_
            refine v_g H (o := 0) (v := .ref (D 17)) rfl rfl rfl rfl rfl (vrf ((mF_c83 0 5 rfl).trans (pf17))) ?_
            refine Ew_of (pcₚ := 89) (fun _ => x_aload_n rfl lc83_0) ?_
            refine v_g H (o := 0) (v := .ref (D 16)) rfl rfl rfl rfl rfl (vrf ((mF_c83 0 4 rfl).trans (pf16))) ?_
            refine Ew_of (pcₚ := 94) (fun _ => x_iload rfl lc83_4) ?_
            refine v_lI H (o := 16) rfl rfl rfl rfl (n := n16) (en16) (show 0 ≤ x43_4 ∧ x43_4 < n16 from q_3819 b24 h5 hl2 j43_2 r20) (fun v105 ev105 qv105 => ?_)
            have ev105 : (upd1 (w43_16) (x43_4) (tc83_0)) (x43_4) = v105 := (congrFun (congrArg (fun q => upd1 q (x43_4) (tc83_0)) ((funext (hA_c83 16 rfl)).trans (ew43_16))) (x43_4)).symm.trans ev105
            have hix := ev105
            rw [upd1_s] at hix
            refine Ew_of (pcₚ := 96) (fun _ => x_dup2 rfl rfl rfl) ?_
            refine v_lI H (o := 17) rfl rfl rfl rfl (n := n17) (en17) (show 0 ≤ v105 ∧ v105 < n17 by omega) (fun v106 ev106 qv106 => ?_)
            have ev106 : (w43_17) (v105) = v106 := (congrFun ((funext (hA_c83 17 rfl)).trans (ew43_17)) (v105)).symm.trans ev106
            have hcv := ev106
            rw [← hix] at hcv
            refine Ew_of (pcₚ := 98) (fun _ => x_iconst rfl) ?_
            refine w_iadd rfl ?_
            refine v_sI H (o := 17) (z := (v106 + 1)) rfl rfl rfl rfl (n := n17) (en17) (show 0 ≤ v105 ∧ v105 < n17 by omega) (show inr ((v106 + 1)) by omega) (fun σ H Oₚ => ?_)
            have O := OUT_trans O Oₚ
            have cAu107 : SA oz_F5clsl_10 A (updA (updA A_c83 16 (x43_4) (tc83_0)) 17 (v105) ((v106 + 1))) := SA_upd (cAu104) rfl
            have mAu107 := SAm_of cAu107 oz_F5cls_47
            have hc125 : ∀ (tc125_0 : Int), ∀ (ls : rO) (σ : rS) (F_c125 : hF) (A_c125 : hA) , rlook ls 0 = some (.ref (D 0)) → rlook ls 1 = some (.ref (D 1)) → rlook ls 2 = some (I (x4_2)) → rlook ls 4 = some (I (x43_4)) → HW V104_Row σ D N F_c125 A_c125 → OUT (V104_Row).length D N σE c s D N σ c s → SF [] F_c83 F_c125 → SA [] (updA (updA A_c83 16 (x43_4) (tc83_0)) 17 (v105) ((v106 + 1))) A_c125 → (inr (tc125_0)) → (0 ≤ (tc125_0) ∧ (tc125_0) ≤ 1) → (ADC ((upd1 (w43_16) (x43_4) (tc83_0))) ((x43_4) + 1) ((tc125_0))) → Ew 104 (d + 3) 125 ls [I (tc125_0)] σ c s Q := by
             as_aux_lemma =>
              intro tc125_0 ls σ F_c125 A_c125  lc125_0 lc125_1 lc125_2 lc125_4 H O hS_c125 hA_c125     jc125_0 jc125_1 jc125_2
              have cF_c125 : SF oz_F5clsl_9 F F_c125 := SF_trans (cF_c83) hS_c125 (any_sub (by decide +kernel))
              have mF_c125 := SFm_of cF_c125 oz_F5cls_46
              have cA_c125 : SA oz_F5clsl_10 A A_c125 := SA_trans (cAu107) hA_c125 (any_subA (by decide +kernel))
              have mA_c125 := SAm_of cA_c125 oz_F5cls_47
              refine Ew_of (pcₚ := 126) (fun _ => x_istore_n rfl) ?_
              refine Ew_of (pcₚ := 129) (fun _ => x_iinc (len := 3) rfl (rk_o (lc125_4) rfl rfl)) ?_
              refine Ew_of (pcₚ := 43) (fun _ => x_goto rfl rfl) ?_
              have hg1 : WGB ((upd1 (w43_16) (x43_4) (tc83_0))) ((u0_3)) ((x43_4 + 1)) := WGB_s (by assumption) rfl hsb
              have hc1 : WCN ((upd1 (w43_16) (x43_4) (tc83_0))) ((upd1 (w43_17) (v105) ((v106 + 1)))) ((x43_4 + 1)) := by rw [← hix]; exact WCN_s (by assumption) (by omega) rfl hsc.1 hsc.2 (by omega)
              have : ∀ i, 0 ≤ i → i < ((x43_4 + 1)) → ((upd1 (w43_16) (x43_4) (tc83_0))) i = wtF ((w18)) (((u0_3))) i := fun i a b => by by_cases q : i = ql4; (rw [q, hql4, upd1_s, ← hql4]; exact hwq); (rw [upd1_o (by rw [← hql4]; exact q)]; exact j43_w i a (by omega))
              exact ih43 _ (msE hm43 q_16 (q_17 b24)) _ _ _ _ (tc125_0) ((x43_4 + 1)) (rk_o (rk_o (lc125_0) rfl rfl) rfl rfl) (rk_o (rk_o (lc125_1) rfl rfl) rfl rfl) (rk_o (rk_o (lc125_2) rfl rfl) rfl rfl) (rk_o (rk_s) rfl rfl) (rk_s) H O (SF_trans (SF_trans (hS_43) hS_c83 (any_sub (by decide +kernel))) hS_c125 (any_sub (by decide +kernel))) (SA_trans (SA_upd (SA_upd (SA_trans (hA_43) hA_c83 (any_subA (by decide +kernel))) rfl) rfl) hA_c125 (any_subA (by decide +kernel)))    (upd1 (w43_16) (x43_4) (tc83_0)) ((funext (hA_c125 16 rfl)).trans (congrArg (fun q => upd1 q (x43_4) (tc83_0)) ((funext (hA_c83 16 rfl)).trans (ew43_16)))) (upd1 (w43_17) (v105) ((v106 + 1))) ((funext (hA_c125 17 rfl)).trans (congrArg (fun q => upd1 q (v105) ((v106 + 1))) ((funext (hA_c83 17 rfl)).trans (ew43_17)))) (show inr (tc125_0) from jc125_0) (show inr ((x43_4 + 1)) from q_1217 b24 hl2 j43_2) (show (0) ≤ ((x43_4 + 1)) from q_14 j43_2) (show ((x43_4 + 1)) ≤ (0) ∨ ((x43_4 + 1)) ≤ ((x4_2)) from q_13 b24) (show 0 ≤ (tc125_0) ∧ (tc125_0) ≤ 1 from jc125_1) (hg1) (hc1) (show ∀ i, 0 ≤ i → i < ((x43_4 + 1)) → ((upd1 (w43_16) (x43_4) (tc83_0))) i = wtF ((w18)) (((u0_3))) i by assumption) (jc125_2) rfl
            have hA1 : ADC ((upd1 (w43_16) (x43_4) (tc83_0))) ((x43_4)) ((x43_3)) := ADC_u j43_a
            refine Ew_of (pcₚ := 101) (fun _ => x_iload_n rfl lc83_3) ?_
            refine w_ifeq (t := 124) rfl rfl (show inr (x43_3) from j43_0) (fun b108 => ?_) (fun b108 => ?_)
            · refine Ew_of (pcₚ := 125) (fun _ => x_iconst rfl) ?_
              have : ADC ((upd1 (w43_16) (x43_4) (tc83_0))) ((x43_4) + 1) ((0)) := by first | exact .inl ⟨rfl, ALW_y (ALA_y hA1 (by omega)) (by rw [hal1, hal0]; omega) rfl⟩ | exact .inr ⟨rfl, ALW_n1 (ALA_n hA1 (by omega)) rfl⟩ | exact .inr ⟨rfl, ALW_n2 (by omega) (by rw [hal1, hal0]; omega) rfl⟩
              exact hc125 (0) _ _ _ _  (lc83_0) (lc83_1) (lc83_2) (lc83_4) H O (SF_refl) (SA_refl)     (show inr (0) from q_2) (show 0 ≤ (0) ∧ (0) ≤ 1 from q_32) (show ADC ((upd1 (w43_16) (x43_4) (tc83_0))) ((x43_4) + 1) ((0)) by assumption)
            · refine Ew_of (pcₚ := 105) (fun _ => x_aload_n rfl lc83_0) ?_
              refine v_g H (o := 0) (v := .ref (D 16)) rfl rfl rfl rfl rfl (vrf ((mF_c83 0 4 rfl).trans (pf16))) ?_
              refine Ew_of (pcₚ := 110) (fun _ => x_iload rfl lc83_4) ?_
              refine v_lI H (o := 16) rfl rfl rfl rfl (n := n16) (en16) (show 0 ≤ x43_4 ∧ x43_4 < n16 from q_3819 b24 h5 hl2 j43_2 r20) (fun v109 ev109 qv109 => ?_)
              have ev109 : (upd1 (w43_16) (x43_4) (tc83_0)) (x43_4) = v109 := (congrFun (congrArg (fun q => upd1 q (x43_4) (tc83_0)) ((funext (hA_c83 16 rfl)).trans (ew43_16))) (x43_4)).symm.trans ev109
              have hal1 := ev109
              refine Ew_of (pcₚ := 112) (fun _ => x_aload_n rfl lc83_0) ?_
              refine v_g H (o := 0) (v := .ref (D 16)) rfl rfl rfl rfl rfl (vrf ((mF_c83 0 4 rfl).trans (pf16))) ?_
              refine Ew_of (pcₚ := 116) (fun _ => x_iconst rfl) ?_
              refine v_lI H (o := 16) rfl rfl rfl rfl (n := n16) (en16) (show 0 ≤ 0 ∧ 0 < n16 from q_3820 h5 r20) (fun v110 ev110 qv110 => ?_)
              have ev110 : (upd1 (w43_16) (x43_4) (tc83_0)) (0) = v110 := (congrFun (congrArg (fun q => upd1 q (x43_4) (tc83_0)) ((funext (hA_c83 16 rfl)).trans (ew43_16))) (0)).symm.trans ev110
              have hal0 := ev110
              refine w_icmpne (t := 124) rfl rfl (show inr (v109) from qv109) (show inr (v110) from qv110) (fun b111 => ?_) (fun b111 => ?_)
              · refine Ew_of (pcₚ := 125) (fun _ => x_iconst rfl) ?_
                have : ADC ((upd1 (w43_16) (x43_4) (tc83_0))) ((x43_4) + 1) ((0)) := by first | exact .inl ⟨rfl, ALW_y (ALA_y hA1 (by omega)) (by rw [hal1, hal0]; omega) rfl⟩ | exact .inr ⟨rfl, ALW_n1 (ALA_n hA1 (by omega)) rfl⟩ | exact .inr ⟨rfl, ALW_n2 (by omega) (by rw [hal1, hal0]; omega) rfl⟩
                exact hc125 (0) _ _ _ _  (lc83_0) (lc83_1) (lc83_2) (lc83_4) H O (SF_refl) (SA_refl)     (show inr (0) from q_2) (show 0 ≤ (0) ∧ (0) ≤ 1 from q_32) (show ADC ((upd1 (w43_16) (x43_4) (tc83_0))) ((x43_4) + 1) ((0)) by assumption)
              · refine Ew_of (pcₚ := 121) (fun _ => x_iconst rfl) ?_
                refine Ew_of (pcₚ := 125) (fun _ => x_goto rfl rfl) ?_
                have : ADC ((upd1 (w43_16) (x43_4) (tc83_0))) ((x43_4) + 1) ((1)) := by first | exact .inl ⟨rfl, ALW_y (ALA_y hA1 (by omega)) (by rw [hal1, hal0]; omega) rfl⟩ | exact .inr ⟨rfl, ALW_n1 (ALA_n hA1 (by omega)) rfl⟩ | exact .inr ⟨rfl, ALW_n2 (by omega) (by rw [hal1, hal0]; omega) rfl⟩
                exact hc125 (1) _ _ _ _  (lc83_0) (lc83_1) (lc83_2) (lc83_4) H O (SF_refl) (SA_refl)     (show inr (1) from q_135) (show 0 ≤ (1) ∧ (1) ≤ 1 from q_35) (show ADC ((upd1 (w43_16) (x43_4) (tc83_0))) ((x43_4) + 1) ((1)) by assumption)
          refine w_ifne (t := 69) rfl rfl (show inr (v103) from qv103) (fun b112 => ?_) (fun b112 => ?_)
          · refine Ew_of (pcₚ := 70) (fun _ => x_aload_n rfl l43_0) ?_
            refine v_g H (o := 0) (v := I (u0_3)) rfl rfl rfl rfl rfl (congrArg (fun z : Int => I z) (((mF_43 0 3 rfl).trans (eu0_3)) : F_43 0 3 = u0_3)) ?_
            refine Ew_of (pcₚ := 74) (fun _ => x_iconst rfl) ?_
            refine w_iadd rfl ?_
            refine Ew_of (pcₚ := 76) (fun _ => x_aload_n rfl l43_0) ?_
            refine v_g H (o := 0) (v := .ref (D 18)) rfl rfl rfl rfl rfl (vrf ((mF_43 0 0 rfl).trans (pf18))) ?_
            refine Ew_of (pcₚ := 81) (fun _ => x_iload rfl l43_4) ?_
            refine v_lI H (o := 18) rfl rfl rfl rfl (n := n18) (en18) (show 0 ≤ x43_4 ∧ x43_4 < n18 from q_3817 b24 h5 hl2 j43_2 r22) (fun v113 ev113 qv113 => ?_)
            have ev113 : (w18) (x43_4) = v113 := (congrFun ((funext (mA_43 18 rfl)).trans (ew18)) (x43_4)).symm.trans ev113
            refine w_isub rfl ?_
            exact hc83 (((u0_3 + 1) - v113)) _ _ _ _  (l43_0) (l43_1) (l43_2) (l43_3) (l43_4) H O (SF_refl) (SA_refl)     (show inr (((u0_3 + 1) - v113)) by omega) (show ((v103) ≠ (0) ∧ -2147483648 ≤ ((w18) (x43_4)) ∧ ((w18) (x43_4)) ≤ 2147483647 ∧ (((u0_3 + 1) - v113)) = (((u0_3 + 1) - (w18) (x43_4)))) ∨ ((v103) = (0) ∧ (((u0_3 + 1) - v113)) = (0)) from q_3821 b112 ev113 qv113)
          · refine Ew_of (pcₚ := 66) (fun _ => x_iconst rfl) ?_
            refine Ew_of (pcₚ := 83) (fun _ => x_goto rfl rfl) ?_
            exact hc83 (0) _ _ _ _  (l43_0) (l43_1) (l43_2) (l43_3) (l43_4) H O (SF_refl) (SA_refl)     (show inr (0) from q_2) (show ((v103) ≠ (0) ∧ -2147483648 ≤ ((w18) (x43_4)) ∧ ((w18) (x43_4)) ≤ 2147483647 ∧ (0) = (((u0_3 + 1) - (w18) (x43_4)))) ∨ ((v103) = (0) ∧ (0) = (0)) from q_3822 b112)
    refine w_ifle (t := 30) rfl rfl (show inr (x4_2) from j4_0) (fun b114 => ?_) (fun b114 => ?_)
    · exact hc30  _ _ _ _  (l4_0) (l4_1) (l4_2) H O (SF_refl) (SA_refl)     (show ((x4_2) ≤ (0)) ∨ ((x4_2) > (0) ∧ -2147483648 ≤ ((w18) (x4_2)) ∧ ((w18) (x4_2)) ≤ 2147483647 ∧ ((w18) (x4_2)) ≠ (0)) from q_3823 b114)
    · refine Ew_of (pcₚ := 9) (fun _ => x_aload_n rfl l4_0) ?_
      refine v_g H (o := 0) (v := .ref (D 18)) rfl rfl rfl rfl rfl (vrf ((mF_4 0 0 rfl).trans (pf18))) ?_
      refine Ew_of (pcₚ := 13) (fun _ => x_iload_n rfl l4_2) ?_
      refine v_lI H (o := 18) rfl rfl rfl rfl (n := n18) (en18) (show 0 ≤ x4_2 ∧ x4_2 < n18 from q_3824 h5 j4_1 j4_3) (fun v115 ev115 qv115 => ?_)
      have ev115 : (w18) (x4_2) = v115 := (congrFun ((funext (mA_4 18 rfl)).trans (ew18)) (x4_2)).symm.trans ev115
      have he14 := ev115
      refine w_ifne (t := 30) rfl rfl (show inr (v115) from qv115) (fun b116 => ?_) (fun b116 => ?_)
      · exact hc30  _ _ _ _  (l4_0) (l4_1) (l4_2) H O (SF_refl) (SA_refl)     (show ((x4_2) ≤ (0)) ∨ ((x4_2) > (0) ∧ -2147483648 ≤ ((w18) (x4_2)) ∧ ((w18) (x4_2)) ≤ 2147483647 ∧ ((w18) (x4_2)) ≠ (0)) by omega)
      · obtain ⟨ql2, hql2⟩ : ∃ q : Int, q = (x4_2) := ⟨_, rfl⟩
        have hz14 : ((w18)) ql2 = 0 := by rw [hql2, he14]; omega
        refine Ew_of (pcₚ := 18) (fun _ => x_aload_n rfl l4_0) ?_
        refine v_g H (o := 0) (v := .ref (D 16)) rfl rfl rfl rfl rfl (vrf ((mF_4 0 4 rfl).trans (pf16))) ?_
        refine Ew_of (pcₚ := 22) (fun _ => x_iload_n rfl l4_2) ?_
        refine Ew_of (pcₚ := 23) (fun _ => x_iconst rfl) ?_
        refine v_sI H (o := 16) (z := 0) rfl rfl rfl rfl (n := n16) (en16) (show 0 ≤ x4_2 ∧ x4_2 < n16 from q_3825 h5 j4_1 j4_3) (show inr (0) from q_2) (fun σ H Oₚ => ?_)
        have O := OUT_trans O Oₚ
        have cAu117 : SA oz_F5clsl_10 A (updA A_4 16 (x4_2) (0)) := SA_upd (cA_4) rfl
        have mAu117 := SAm_of cAu117 oz_F5cls_47
        refine Ew_of (pcₚ := 27) (fun _ => x_iinc (len := 3) rfl (l4_2)) ?_
        refine Ew_of (pcₚ := 4) (fun _ => x_goto rfl rfl) ?_
        have : ∀ i, ((x4_2 + (-1))) < i → i < 256 → ((w18)) i = 0 := fun i a b => by by_cases q : i = ql2; (rw [q]; exact hz14); exact j4_z i (by omega) b
        exact ih4 _ (msE hm4 q_556 (q_557 b114)) _ _ _ _ ((x4_2 + (-1))) (rk_o (l4_0) rfl rfl) (rk_o (l4_1) rfl rfl) (rk_s) H O (hS_4) (SA_upd (hA_4) rfl)     (show inr ((x4_2 + (-1))) from q_3829 b114 j4_1) (show ((x4_2 + (-1))) ≤ (255) from q_3828 j4_1) (show (255) ≤ ((x4_2 + (-1))) ∨ (0) ≤ ((x4_2 + (-1))) from q_3827 b114) (show 0 ≤ ((x4_2 + (-1))) from q_3826 b114) (show ∀ i, ((x4_2 + (-1))) < i → i < 256 → ((w18)) i = 0 by assumption) rfl

